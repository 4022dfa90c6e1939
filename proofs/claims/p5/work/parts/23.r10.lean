/-! methods of the reference (own work, written by wip/gen2/sx.py) -/
/-! StrikeAwakeModel.lie(I)I -/
theorem e272 : wq_en 272 = some (9, 3, false, some FieldType.int) := rfl
theorem c272_0 : mc_cd 272 0 = some (.aload_n 0, 1) := by decide +kernel
theorem c272_1 : mc_cd 272 1 = some (.iconst 0, 1) := by decide +kernel
theorem c272_2 : mc_cd 272 2 = some (.putfield 48, 3) := by decide +kernel
theorem c272_5 : mc_cd 272 5 = some (.aload_n 0, 1) := by decide +kernel
theorem c272_6 : mc_cd 272 6 = some (.aload_n 0, 1) := by decide +kernel
theorem c272_7 : mc_cd 272 7 = some (.iload_n 1, 1) := by decide +kernel
theorem c272_8 : mc_cd 272 8 = some (.invokevirtual 473, 3) := by decide +kernel
theorem c272_11 : mc_cd 272 11 = some (.invokevirtual 433, 3) := by decide +kernel
theorem c272_14 : mc_cd 272 14 = some (.istore_n 2, 1) := by decide +kernel
theorem c272_15 : mc_cd 272 15 = some (.iload_n 2, 1) := by decide +kernel
theorem c272_16 : mc_cd 272 16 = some (.ifCond .le 11, 3) := by decide +kernel
theorem c272_19 : mc_cd 272 19 = some (.aload_n 0, 1) := by decide +kernel
theorem c272_20 : mc_cd 272 20 = some (.iload_n 2, 1) := by decide +kernel
theorem c272_21 : mc_cd 272 21 = some (.invokevirtual 54, 3) := by decide +kernel
theorem c272_24 : mc_cd 272 24 = some (.goto 22, 3) := by decide +kernel
theorem c272_27 : mc_cd 272 27 = some (.aload_n 0, 1) := by decide +kernel
theorem c272_28 : mc_cd 272 28 = some (.aload_n 0, 1) := by decide +kernel
theorem c272_29 : mc_cd 272 29 = some (.iload_n 1, 1) := by decide +kernel
theorem c272_30 : mc_cd 272 30 = some (.invokevirtual 476, 3) := by decide +kernel
theorem c272_33 : mc_cd 272 33 = some (.bipush 24, 2) := by decide +kernel
theorem c272_35 : mc_cd 272 35 = some (.if_icmp .ne 7, 3) := by decide +kernel
theorem c272_38 : mc_cd 272 38 = some (.iconst 0, 1) := by decide +kernel
theorem c272_39 : mc_cd 272 39 = some (.goto 4, 3) := by decide +kernel
theorem c272_42 : mc_cd 272 42 = some (.iconst 1, 1) := by decide +kernel
theorem c272_43 : mc_cd 272 43 = some (.invokevirtual 58, 3) := by decide +kernel
theorem c272_46 : mc_cd 272 46 = some (.ireturn, 1) := by decide +kernel
abbrev q_272 (r0 : Nat) (a1 : Int) (T : wq_T) (H : wq_H) : Option Value → wq_T → wq_H → Prop := fun r T' H' => T = T' ∧ WT T H' ∧ wfr [(42, 0), (42, 1), (42, 2), (42, 28), (42, 29), (51, 999), (52, 999)] T H H' ∧ ∃ z : Int, some (vI z) = r ∧ ((-2147483648) ≤ z ∧ z ≤ 2147483647) ∧ (wKI H' r0 = 1) ∧ (H' r0 2 = -1)
set_option maxHeartbeats 4000000 in
theorem s_272 {kt : Nat → Option mc_E} {T : wq_T} {H : wq_H} {r0 : Nat} {a1 : Int} (hW : WT T H) (g0 : T.2.2.2 r0 = some 42) (i1 : (-2147483648) ≤ a1 ∧ a1 ≤ 2147483647) (p0 : wKI H r0 = 1) : wpc kt 8 272 [.ref r0, vI a1] T H (q_272 r0 a1 T H) := by
  refine wp_enter e272 (Nat.le_of_ble_eq_true rfl) rfl ?_
  have f0 : wfr [(42, 0), (42, 1), (42, 2), (42, 28), (42, 29), (51, 999), (52, 999)] T H H := wfr.rf
  show wp _ _ 272 0 [(0, .ref r0), (1, vI a1)] [] _ H _
  refine wp_of e272 c272_0 (rw_aload_n (pc' := 1) (v := .ref r0) rfl rfl rfl ?_)
  refine wp_of e272 c272_1 (rw_iconst (pc' := 2) rfl ?_)
  refine wp_of e272 c272_2 (xp_I (pc' := 5) lf_9_48 hW g0 sh_42 (by decide) (by decide) ty_42_0 rfl rfl (by omega) (by omega) ⟨by omega, by omega⟩ rfl (fun H181692 e181693 w181694 => ?_))
  have f181695 := f0.put' e181693 g0 rfl
  have k181696 : H181692 r0 0 = 0 := wq_u_s e181693
  refine wp_of e272 c272_5 (rw_aload_n (pc' := 6) (v := .ref r0) rfl rfl rfl ?_)
  refine wp_of e272 c272_6 (rw_aload_n (pc' := 7) (v := .ref r0) rfl rfl rfl ?_)
  refine wp_of e272 c272_7 (rw_iload_n (pc' := 8) (z := a1) rfl rfl ?_)
  refine wp_of e272 c272_8 (xc_V (pc' := 11) (r := r0) (as := [vI a1]) (st := [.ref r0]) (lm_9_473) rfl rfl (Nat.le_of_ble_eq_true rfl) w181694 g0 sh_42 (by decide) rfl (by decide) (s_273 w181694 g0 ⟨by omega, by omega⟩) (fun R181697 T181698 H181699 p181700 => ?_))
  obtain ⟨e181701, e181703, z181705, e181702, b181706, p181704⟩ := p181700
  subst e181701
  subst e181702
  subst e181703
  show wp _ _ 272 11 [(0, .ref r0), (1, vI a1)] [vI z181705, .ref r0] _ H181692 _
  have k181707 : wKI H181692 r0 = wKI H r0 := (wKI_fr hW g0 ((wfr.rf (l := [(42, 0)])).put' e181693 g0 rfl) rfl)
  refine wp_of e272 c272_11 (xc_V (pc' := 14) (r := r0) (as := [vI z181705]) (st := []) (lm_9_433) rfl rfl (Nat.le_of_ble_eq_true rfl) w181694 g0 sh_42 (by decide) rfl (by decide) (s_241 w181694 g0 ⟨by omega, by omega⟩ (by omega) (by omega)) (fun R181708 T181709 H181710 p181711 => ?_))
  obtain ⟨e181712, w181714, f181715, z181720, e181713, b181721, p181716, p181717, p181718, p181719⟩ := p181711
  subst e181712
  subst e181713
  have f181722 := f181695.tr f181715 rfl
  show wp _ _ 272 14 [(0, .ref r0), (1, vI a1)] [vI z181720] _ H181710 _
  refine wp_of e272 c272_14 (rw_istore_n (pc' := 15) (z := z181720) (L' := [(2, vI z181720), (0, .ref r0), (1, vI a1)]) rfl rfl rfl ?_)
  refine wp_of e272 c272_15 (rw_iload_n (pc' := 16) (z := z181720) rfl rfl ?_)
  refine wp_of e272 c272_16 (rw_if_le (p1 := 27) (p2 := 19) (by decide) rfl ⟨by omega, by omega⟩ (fun c181723 => ?_) (fun c181723 => ?_))
  · refine wp_of e272 c272_27 (rw_aload_n (pc' := 28) (v := .ref r0) rfl rfl rfl ?_)
    refine wp_of e272 c272_28 (rw_aload_n (pc' := 29) (v := .ref r0) rfl rfl rfl ?_)
    refine wp_of e272 c272_29 (rw_iload_n (pc' := 30) (z := a1) rfl rfl ?_)
    have k181724 : H181710 r0 3 = H181692 r0 3 := (f181715 r0 3 _ g0 rfl)
    obtain ⟨r181725, q181726, g181727⟩ := (w181714.opt g0 (t' := 54) (n := 33) (j := 3) (p := 0) (q := 0) rfl (by decide) rfl).resolve_left (by omega)
    refine wp_of e272 c272_30 (xc_V (pc' := 33) (r := r0) (as := [vI a1]) (st := [.ref r0]) (lm_9_476) rfl rfl (Nat.le_of_ble_eq_true rfl) w181714 g0 sh_42 (by decide) rfl (by decide) (s_274 w181714 g0 ⟨by omega, by omega⟩ q181726 g181727 (by omega)) (fun R181728 T181729 H181730 p181731 => ?_))
    obtain ⟨e181732, w181734, f181735, z181736, e181733, b181737⟩ := p181731
    subst e181732
    subst e181733
    have f181738 := f181722.tr f181735 rfl
    show wp _ _ 272 33 [(2, vI z181720), (0, .ref r0), (1, vI a1)] [vI z181736, .ref r0] _ H181730 _
    refine wp_of e272 c272_33 (rw_bipush (pc' := 35) (z := 24) rfl (by decide) ?_)
    refine wp_of e272 c272_35 (rw_icmp_ne (p1 := 42) (p2 := 38) (by decide) rfl ⟨by omega, by omega⟩ ⟨by omega, by omega⟩ (fun c181739 => ?_) (fun c181739 => ?_))
    · refine wp_of e272 c272_42 (rw_iconst (pc' := 43) rfl ?_)
      refine wp_of e272 c272_43 (xc_V (pc' := 46) (r := r0) (as := [vI 1]) (st := []) (lm_9_58) rfl rfl (Nat.le_of_ble_eq_true rfl) w181734 g0 sh_42 (by decide) rfl (by decide) (s_209 w181734 g0 ⟨by omega, by omega⟩) (fun R181740 T181741 H181742 p181743 => ?_))
      obtain ⟨e181744, w181746, f181747, z181749, e181745, b181750, p181748⟩ := p181743
      subst e181744
      subst e181745
      have f181751 := f181738.tr f181747 rfl
      show wp _ _ 272 46 [(2, vI z181720), (0, .ref r0), (1, vI a1)] [vI z181749] _ H181742 _
      have k181752 : wKI H181742 r0 = wKI H181710 r0 := ((wKI_fr w181734 g0 f181747 rfl).trans (wKI_fr w181714 g0 f181735 rfl))
      exact wp_ireturn e272 c272_46 rfl ⟨rfl, w181746, f181751, z181749, rfl, ⟨by omega, by omega⟩, by omega, by omega⟩
    · refine wp_of e272 c272_38 (rw_iconst (pc' := 39) rfl ?_)
      refine wp_of e272 c272_39 (rw_goto (p1 := 43) (by decide) ?_)
      refine wp_of e272 c272_43 (xc_V (pc' := 46) (r := r0) (as := [vI 0]) (st := []) (lm_9_58) rfl rfl (Nat.le_of_ble_eq_true rfl) w181734 g0 sh_42 (by decide) rfl (by decide) (s_209 w181734 g0 ⟨by omega, by omega⟩) (fun R181753 T181754 H181755 p181756 => ?_))
      obtain ⟨e181757, w181759, f181760, z181762, e181758, b181763, p181761⟩ := p181756
      subst e181757
      subst e181758
      have f181764 := f181738.tr f181760 rfl
      show wp _ _ 272 46 [(2, vI z181720), (0, .ref r0), (1, vI a1)] [vI z181762] _ H181755 _
      have k181765 : wKI H181755 r0 = wKI H181710 r0 := ((wKI_fr w181734 g0 f181760 rfl).trans (wKI_fr w181714 g0 f181735 rfl))
      exact wp_ireturn e272 c272_46 rfl ⟨rfl, w181759, f181764, z181762, rfl, ⟨by omega, by omega⟩, by omega, by omega⟩
  · refine wp_of e272 c272_19 (rw_aload_n (pc' := 20) (v := .ref r0) rfl rfl rfl ?_)
    refine wp_of e272 c272_20 (rw_iload_n (pc' := 21) (z := z181720) rfl rfl ?_)
    refine wp_of e272 c272_21 (xc_V (pc' := 24) (r := r0) (as := [vI z181720]) (st := []) (lm_9_54) rfl rfl (Nat.le_of_ble_eq_true rfl) w181714 g0 sh_42 (by decide) rfl (by decide) (s_170 w181714 g0 ⟨by omega, by omega⟩) (fun R181766 T181767 H181768 p181769 => ?_))
    obtain ⟨e181770, w181772, f181773, z181775, e181771, b181776, p181774⟩ := p181769
    subst e181770
    subst e181771
    have f181777 := f181722.tr f181773 rfl
    show wp _ _ 272 24 [(2, vI z181720), (0, .ref r0), (1, vI a1)] [vI z181775] _ H181768 _
    refine wp_of e272 c272_24 (rw_goto (p1 := 46) (by decide) ?_)
    have k181778 : wKI H181768 r0 = wKI H181710 r0 := (wKI_fr w181714 g0 f181773 rfl)
    exact wp_ireturn e272 c272_46 rfl ⟨rfl, w181772, f181777, z181775, rfl, ⟨by omega, by omega⟩, by omega, by omega⟩
/-! StrikeAwakeModel.bars(I)I -/
theorem e275 : wq_en 275 = some (9, 4, false, some FieldType.int) := rfl
theorem c275_0 : mc_cd 275 0 = some (.aload_n 0, 1) := by decide +kernel
theorem c275_1 : mc_cd 275 1 = some (.iconst 0, 1) := by decide +kernel
theorem c275_2 : mc_cd 275 2 = some (.putfield 48, 3) := by decide +kernel
theorem c275_5 : mc_cd 275 5 = some (.aload_n 0, 1) := by decide +kernel
theorem c275_6 : mc_cd 275 6 = some (.aload_n 0, 1) := by decide +kernel
theorem c275_7 : mc_cd 275 7 = some (.iload_n 1, 1) := by decide +kernel
theorem c275_8 : mc_cd 275 8 = some (.invokevirtual 473, 3) := by decide +kernel
theorem c275_11 : mc_cd 275 11 = some (.invokevirtual 433, 3) := by decide +kernel
theorem c275_14 : mc_cd 275 14 = some (.istore_n 2, 1) := by decide +kernel
theorem c275_15 : mc_cd 275 15 = some (.iload_n 2, 1) := by decide +kernel
theorem c275_16 : mc_cd 275 16 = some (.ifCond .le 9, 3) := by decide +kernel
theorem c275_19 : mc_cd 275 19 = some (.aload_n 0, 1) := by decide +kernel
theorem c275_20 : mc_cd 275 20 = some (.iload_n 2, 1) := by decide +kernel
theorem c275_21 : mc_cd 275 21 = some (.invokevirtual 54, 3) := by decide +kernel
theorem c275_24 : mc_cd 275 24 = some (.ireturn, 1) := by decide +kernel
theorem c275_25 : mc_cd 275 25 = some (.aload_n 0, 1) := by decide +kernel
theorem c275_26 : mc_cd 275 26 = some (.iload_n 1, 1) := by decide +kernel
theorem c275_27 : mc_cd 275 27 = some (.invokevirtual 476, 3) := by decide +kernel
theorem c275_30 : mc_cd 275 30 = some (.istore_n 3, 1) := by decide +kernel
theorem c275_31 : mc_cd 275 31 = some (.aload_n 0, 1) := by decide +kernel
theorem c275_32 : mc_cd 275 32 = some (.iload_n 3, 1) := by decide +kernel
theorem c275_33 : mc_cd 275 33 = some (.bipush 24, 2) := by decide +kernel
theorem c275_35 : mc_cd 275 35 = some (.if_icmp .ne 8, 3) := by decide +kernel
theorem c275_38 : mc_cd 275 38 = some (.bipush (-2), 2) := by decide +kernel
theorem c275_40 : mc_cd 275 40 = some (.goto 4, 3) := by decide +kernel
theorem c275_43 : mc_cd 275 43 = some (.iload_n 3, 1) := by decide +kernel
theorem c275_44 : mc_cd 275 44 = some (.invokevirtual 58, 3) := by decide +kernel
theorem c275_47 : mc_cd 275 47 = some (.ireturn, 1) := by decide +kernel
abbrev q_275 (r0 : Nat) (a1 : Int) (T : wq_T) (H : wq_H) : Option Value → wq_T → wq_H → Prop := fun r T' H' => T = T' ∧ WT T H' ∧ wfr [(42, 0), (42, 1), (42, 2), (42, 28), (42, 29), (51, 999), (52, 999)] T H H' ∧ ∃ z : Int, some (vI z) = r ∧ ((-2147483648) ≤ z ∧ z ≤ 2147483647) ∧ (wKI H' r0 = 1) ∧ (H' r0 2 = -1)
set_option maxHeartbeats 4000000 in
theorem s_275 {kt : Nat → Option mc_E} {T : wq_T} {H : wq_H} {r0 : Nat} {a1 : Int} (hW : WT T H) (g0 : T.2.2.2 r0 = some 42) (i1 : (-2147483648) ≤ a1 ∧ a1 ≤ 2147483647) (p0 : wKI H r0 = 1) : wpc kt 8 275 [.ref r0, vI a1] T H (q_275 r0 a1 T H) := by
  refine wp_enter e275 (Nat.le_of_ble_eq_true rfl) rfl ?_
  have f0 : wfr [(42, 0), (42, 1), (42, 2), (42, 28), (42, 29), (51, 999), (52, 999)] T H H := wfr.rf
  show wp _ _ 275 0 [(0, .ref r0), (1, vI a1)] [] _ H _
  refine wp_of e275 c275_0 (rw_aload_n (pc' := 1) (v := .ref r0) rfl rfl rfl ?_)
  refine wp_of e275 c275_1 (rw_iconst (pc' := 2) rfl ?_)
  refine wp_of e275 c275_2 (xp_I (pc' := 5) lf_9_48 hW g0 sh_42 (by decide) (by decide) ty_42_0 rfl rfl (by omega) (by omega) ⟨by omega, by omega⟩ rfl (fun H181866 e181867 w181868 => ?_))
  have f181869 := f0.put' e181867 g0 rfl
  have k181870 : H181866 r0 0 = 0 := wq_u_s e181867
  refine wp_of e275 c275_5 (rw_aload_n (pc' := 6) (v := .ref r0) rfl rfl rfl ?_)
  refine wp_of e275 c275_6 (rw_aload_n (pc' := 7) (v := .ref r0) rfl rfl rfl ?_)
  refine wp_of e275 c275_7 (rw_iload_n (pc' := 8) (z := a1) rfl rfl ?_)
  refine wp_of e275 c275_8 (xc_V (pc' := 11) (r := r0) (as := [vI a1]) (st := [.ref r0]) (lm_9_473) rfl rfl (Nat.le_of_ble_eq_true rfl) w181868 g0 sh_42 (by decide) rfl (by decide) (s_273 w181868 g0 ⟨by omega, by omega⟩) (fun R181871 T181872 H181873 p181874 => ?_))
  obtain ⟨e181875, e181877, z181879, e181876, b181880, p181878⟩ := p181874
  subst e181875
  subst e181876
  subst e181877
  show wp _ _ 275 11 [(0, .ref r0), (1, vI a1)] [vI z181879, .ref r0] _ H181866 _
  have k181881 : wKI H181866 r0 = wKI H r0 := (wKI_fr hW g0 ((wfr.rf (l := [(42, 0)])).put' e181867 g0 rfl) rfl)
  refine wp_of e275 c275_11 (xc_V (pc' := 14) (r := r0) (as := [vI z181879]) (st := []) (lm_9_433) rfl rfl (Nat.le_of_ble_eq_true rfl) w181868 g0 sh_42 (by decide) rfl (by decide) (s_241 w181868 g0 ⟨by omega, by omega⟩ (by omega) (by omega)) (fun R181882 T181883 H181884 p181885 => ?_))
  obtain ⟨e181886, w181888, f181889, z181894, e181887, b181895, p181890, p181891, p181892, p181893⟩ := p181885
  subst e181886
  subst e181887
  have f181896 := f181869.tr f181889 rfl
  show wp _ _ 275 14 [(0, .ref r0), (1, vI a1)] [vI z181894] _ H181884 _
  refine wp_of e275 c275_14 (rw_istore_n (pc' := 15) (z := z181894) (L' := [(2, vI z181894), (0, .ref r0), (1, vI a1)]) rfl rfl rfl ?_)
  refine wp_of e275 c275_15 (rw_iload_n (pc' := 16) (z := z181894) rfl rfl ?_)
  refine wp_of e275 c275_16 (rw_if_le (p1 := 25) (p2 := 19) (by decide) rfl ⟨by omega, by omega⟩ (fun c181897 => ?_) (fun c181897 => ?_))
  · refine wp_of e275 c275_25 (rw_aload_n (pc' := 26) (v := .ref r0) rfl rfl rfl ?_)
    refine wp_of e275 c275_26 (rw_iload_n (pc' := 27) (z := a1) rfl rfl ?_)
    have k181898 : H181884 r0 3 = H181866 r0 3 := (f181889 r0 3 _ g0 rfl)
    obtain ⟨r181899, q181900, g181901⟩ := (w181888.opt g0 (t' := 54) (n := 33) (j := 3) (p := 0) (q := 0) rfl (by decide) rfl).resolve_left (by omega)
    refine wp_of e275 c275_27 (xc_V (pc' := 30) (r := r0) (as := [vI a1]) (st := []) (lm_9_476) rfl rfl (Nat.le_of_ble_eq_true rfl) w181888 g0 sh_42 (by decide) rfl (by decide) (s_274 w181888 g0 ⟨by omega, by omega⟩ q181900 g181901 (by omega)) (fun R181902 T181903 H181904 p181905 => ?_))
    obtain ⟨e181906, w181908, f181909, z181910, e181907, b181911⟩ := p181905
    subst e181906
    subst e181907
    have f181912 := f181896.tr f181909 rfl
    show wp _ _ 275 30 [(2, vI z181894), (0, .ref r0), (1, vI a1)] [vI z181910] _ H181904 _
    refine wp_of e275 c275_30 (rw_istore_n (pc' := 31) (z := z181910) (L' := [(3, vI z181910), (2, vI z181894), (0, .ref r0), (1, vI a1)]) rfl rfl rfl ?_)
    refine wp_of e275 c275_31 (rw_aload_n (pc' := 32) (v := .ref r0) rfl rfl rfl ?_)
    refine wp_of e275 c275_32 (rw_iload_n (pc' := 33) (z := z181910) rfl rfl ?_)
    refine wp_of e275 c275_33 (rw_bipush (pc' := 35) (z := 24) rfl (by decide) ?_)
    refine wp_of e275 c275_35 (rw_icmp_ne (p1 := 43) (p2 := 38) (by decide) rfl ⟨by omega, by omega⟩ ⟨by omega, by omega⟩ (fun c181913 => ?_) (fun c181913 => ?_))
    · refine wp_of e275 c275_43 (rw_iload_n (pc' := 44) (z := z181910) rfl rfl ?_)
      refine wp_of e275 c275_44 (xc_V (pc' := 47) (r := r0) (as := [vI z181910]) (st := []) (lm_9_58) rfl rfl (Nat.le_of_ble_eq_true rfl) w181908 g0 sh_42 (by decide) rfl (by decide) (s_209 w181908 g0 ⟨by omega, by omega⟩) (fun R181914 T181915 H181916 p181917 => ?_))
      obtain ⟨e181918, w181920, f181921, z181923, e181919, b181924, p181922⟩ := p181917
      subst e181918
      subst e181919
      have f181925 := f181912.tr f181921 rfl
      show wp _ _ 275 47 [(3, vI z181910), (2, vI z181894), (0, .ref r0), (1, vI a1)] [vI z181923] _ H181916 _
      have k181926 : wKI H181916 r0 = wKI H181884 r0 := ((wKI_fr w181908 g0 f181921 rfl).trans (wKI_fr w181888 g0 f181909 rfl))
      exact wp_ireturn e275 c275_47 rfl ⟨rfl, w181920, f181925, z181923, rfl, ⟨by omega, by omega⟩, by omega, by omega⟩
    · refine wp_of e275 c275_38 (rw_bipush (pc' := 40) (z := -2) rfl (by decide) ?_)
      refine wp_of e275 c275_40 (rw_goto (p1 := 44) (by decide) ?_)
      refine wp_of e275 c275_44 (xc_V (pc' := 47) (r := r0) (as := [vI (-2)]) (st := []) (lm_9_58) rfl rfl (Nat.le_of_ble_eq_true rfl) w181908 g0 sh_42 (by decide) rfl (by decide) (s_209 w181908 g0 ⟨by omega, by omega⟩) (fun R181927 T181928 H181929 p181930 => ?_))
      obtain ⟨e181931, w181933, f181934, z181936, e181932, b181937, p181935⟩ := p181930
      subst e181931
      subst e181932
      have f181938 := f181912.tr f181934 rfl
      show wp _ _ 275 47 [(3, vI z181910), (2, vI z181894), (0, .ref r0), (1, vI a1)] [vI z181936] _ H181929 _
      have k181939 : wKI H181929 r0 = wKI H181884 r0 := ((wKI_fr w181908 g0 f181934 rfl).trans (wKI_fr w181888 g0 f181909 rfl))
      exact wp_ireturn e275 c275_47 rfl ⟨rfl, w181933, f181938, z181936, rfl, ⟨by omega, by omega⟩, by omega, by omega⟩
  · refine wp_of e275 c275_19 (rw_aload_n (pc' := 20) (v := .ref r0) rfl rfl rfl ?_)
    refine wp_of e275 c275_20 (rw_iload_n (pc' := 21) (z := z181894) rfl rfl ?_)
    refine wp_of e275 c275_21 (xc_V (pc' := 24) (r := r0) (as := [vI z181894]) (st := []) (lm_9_54) rfl rfl (Nat.le_of_ble_eq_true rfl) w181888 g0 sh_42 (by decide) rfl (by decide) (s_170 w181888 g0 ⟨by omega, by omega⟩) (fun R181940 T181941 H181942 p181943 => ?_))
    obtain ⟨e181944, w181946, f181947, z181949, e181945, b181950, p181948⟩ := p181943
    subst e181944
    subst e181945
    have f181951 := f181896.tr f181947 rfl
    show wp _ _ 275 24 [(2, vI z181894), (0, .ref r0), (1, vI a1)] [vI z181949] _ H181942 _
    have k181952 : wKI H181942 r0 = wKI H181884 r0 := (wKI_fr w181888 g0 f181947 rfl)
    exact wp_ireturn e275 c275_24 rfl ⟨rfl, w181946, f181951, z181949, rfl, ⟨by omega, by omega⟩, by omega, by omega⟩
/-! StrikeAwakeModel.proves(I)Z -/
theorem e278 : wq_en 278 = some (9, 3, false, some FieldType.boolean) := rfl
theorem c278_0 : mc_cd 278 0 = some (.iconst 0, 1) := by decide +kernel
theorem c278_1 : mc_cd 278 1 = some (.istore_n 2, 1) := by decide +kernel
theorem c278_2 : mc_cd 278 2 = some (.iload_n 2, 1) := by decide +kernel
theorem c278_3 : mc_cd 278 3 = some (.i2l, 1) := by decide +kernel
theorem c278_4 : mc_cd 278 4 = some (.aload_n 0, 1) := by decide +kernel
theorem c278_5 : mc_cd 278 5 = some (.invokevirtual 376, 3) := by decide +kernel
theorem c278_8 : mc_cd 278 8 = some (.lcmp, 1) := by decide +kernel
theorem c278_9 : mc_cd 278 9 = some (.ifCond .ge 41, 3) := by decide +kernel
theorem c278_12 : mc_cd 278 12 = some (.aload_n 0, 1) := by decide +kernel
theorem c278_13 : mc_cd 278 13 = some (.iload_n 2, 1) := by decide +kernel
theorem c278_14 : mc_cd 278 14 = some (.invokevirtual 425, 3) := by decide +kernel
theorem c278_17 : mc_cd 278 17 = some (.aload_n 0, 1) := by decide +kernel
theorem c278_18 : mc_cd 278 18 = some (.aload_n 0, 1) := by decide +kernel
theorem c278_19 : mc_cd 278 19 = some (.getfield 39, 3) := by decide +kernel
theorem c278_22 : mc_cd 278 22 = some (.invokevirtual 393, 3) := by decide +kernel
theorem c278_25 : mc_cd 278 25 = some (.ifCond .ne 19, 3) := by decide +kernel
theorem c278_28 : mc_cd 278 28 = some (.aload_n 0, 1) := by decide +kernel
theorem c278_29 : mc_cd 278 29 = some (.aload_n 0, 1) := by decide +kernel
theorem c278_30 : mc_cd 278 30 = some (.getfield 39, 3) := by decide +kernel
theorem c278_33 : mc_cd 278 33 = some (.iload_n 1, 1) := by decide +kernel
theorem c278_34 : mc_cd 278 34 = some (.invokevirtual 397, 3) := by decide +kernel
theorem c278_37 : mc_cd 278 37 = some (.bipush 24, 2) := by decide +kernel
theorem c278_39 : mc_cd 278 39 = some (.if_icmp .ne 5, 3) := by decide +kernel
theorem c278_42 : mc_cd 278 42 = some (.iconst 0, 1) := by decide +kernel
theorem c278_43 : mc_cd 278 43 = some (.ireturn, 1) := by decide +kernel
theorem c278_44 : mc_cd 278 44 = some (.iinc 2 1, 3) := by decide +kernel
theorem c278_47 : mc_cd 278 47 = some (.goto (-45), 3) := by decide +kernel
theorem c278_50 : mc_cd 278 50 = some (.iconst 1, 1) := by decide +kernel
theorem c278_51 : mc_cd 278 51 = some (.ireturn, 1) := by decide +kernel
abbrev q_278 (r0 : Nat) (a1 : Int) (pp : Nat) (T : wq_T) (H : wq_H) : Option Value → wq_T → wq_H → Prop := fun r T' H' => T = T' ∧ WT T H' ∧ wfr [(51, 999)] T H H' ∧ ∃ z : Int, some (vI z) = r ∧ (0 ≤ z ∧ z ≤ 1)
set_option maxHeartbeats 4000000 in
theorem s_278 {kt : Nat → Option mc_E} {T : wq_T} {H : wq_H} {r0 : Nat} {a1 : Int} {pp : Nat} (hW : WT T H) (g0 : T.2.2.2 r0 = some 42) (i1 : (-2147483648) ≤ a1 ∧ a1 ≤ 2147483647) (qpp : H r0 3 = (pp : Int)) (gpp : T.2.2.2 pp = some 54) (p0 : wLM H r0 ≤ 20000) : wpc kt 5 278 [.ref r0, vI a1] T H (q_278 r0 a1 pp T H) := by
  refine wp_enter e278 (Nat.le_of_ble_eq_true rfl) rfl ?_
  have f0 : wfr [(51, 999)] T H H := wfr.rf
  show wp _ _ 278 0 [(0, .ref r0), (1, vI a1)] [] _ H _
  refine wp_of e278 c278_0 (rw_iconst (pc' := 1) rfl ?_)
  refine wp_of e278 c278_1 (rw_istore_n (pc' := 2) (z := 0) (L' := [(2, vI 0), (0, .ref r0), (1, vI a1)]) rfl rfl rfl ?_)
  have lp182787 : ∀ (n182788 : Nat) (v182790 : Int) (H182791 : wq_H), WT T H182791 → wfr [(51, 999)] T H H182791 → (0 ≤ v182790 ∧ v182790 ≤ 20000) → (20000 - v182790).toNat = n182788 → wp kt 4 278 2 [(2, vI v182790), (0, .ref r0), (1, vI a1)] [] T H182791 (q_278 r0 a1 pp T H) := by
    intro n182788
    induction n182788 using Nat.strongRecOn with
    | _ n182788 ih182789 =>
      intro v182790 H182791 w182792 f182793 b182794 m182795
      have f182796 := f0.tr f182793 rfl
      refine wp_of e278 c278_2 (rw_iload_n (pc' := 3) (z := v182790) rfl rfl ?_)
      refine wp_of e278 c278_3 (rw_i2l (pc' := 4) rfl ⟨by omega, by omega⟩ ?_)
      refine wp_of e278 c278_4 (rw_aload_n (pc' := 5) (v := .ref r0) rfl rfl rfl ?_)
      have k182797 : wLM H182791 r0 = wLM H r0 := (wLM_fr hW g0 f182793 rfl)
      have k182798 : H182791 r0 3 = H r0 3 := (f182793 r0 3 _ g0 rfl)
      have q182799 : H182791 r0 3 = (pp : Int) := k182798.trans qpp
      refine wp_of e278 c278_5 (xc_V (pc' := 8) (r := r0) (as := []) (st := [vL v182790]) (lm_9_376) rfl rfl (Nat.le_of_ble_eq_true rfl) w182792 g0 sh_42 (by decide) rfl (by decide) (s_220 w182792 g0 q182799 gpp) (fun R182800 T182801 H182802 p182803 => ?_))
      obtain ⟨e182804, e182806, z182808, e182805, b182809, p182807⟩ := p182803
      subst e182804
      subst e182805
      subst e182806
      show wp _ _ 278 8 [(2, vI v182790), (0, .ref r0), (1, vI a1)] [vL z182808, vL v182790] _ H182791 _
      refine wp_of e278 c278_8 (rw_lcmp (pc' := 9) rfl ⟨by omega, by omega⟩ ⟨by omega, by omega⟩ ?_)
      have b182810 := wq_cmp_b v182790 z182808
      refine wp_of e278 c278_9 (rw_if_ge (p1 := 50) (p2 := 12) (by decide) rfl ⟨by omega, by omega⟩ (fun c182811 => ?_) (fun c182811 => ?_))
      · refine wp_of e278 c278_50 (rw_iconst (pc' := 51) rfl ?_)
        exact wp_zreturn e278 c278_51 rfl (by omega) ⟨rfl, w182792, f182796, 1, rfl, ⟨by omega, by omega⟩⟩
      · refine wp_of e278 c278_12 (rw_aload_n (pc' := 13) (v := .ref r0) rfl rfl rfl ?_)
        refine wp_of e278 c278_13 (rw_iload_n (pc' := 14) (z := v182790) rfl rfl ?_)
        refine wp_of e278 c278_14 (xc_V (pc' := 17) (r := r0) (as := [vI v182790]) (st := []) (lm_9_425) rfl rfl (Nat.le_of_ble_eq_true rfl) w182792 g0 sh_42 (by decide) rfl (by decide) (s_243 w182792 g0 ⟨by omega, by omega⟩ q182799 gpp (by omega)) (fun R182812 T182813 H182814 p182815 => ?_))
        obtain ⟨e182816, w182818, f182819, e182817⟩ := p182815
        subst e182816
        subst e182817
        have f182820 := f182796.tr f182819 rfl
        have f182821 := f182793.tr f182819 rfl
        show wp _ _ 278 17 [(2, vI v182790), (0, .ref r0), (1, vI a1)] [] _ H182814 _
        refine wp_of e278 c278_17 (rw_aload_n (pc' := 18) (v := .ref r0) rfl rfl rfl ?_)
        refine wp_of e278 c278_18 (rw_aload_n (pc' := 19) (v := .ref r0) rfl rfl rfl ?_)
        refine wp_of e278 c278_19 (xg_R (pc' := 22) lf_9_39 w182818 g0 sh_42 (by decide) (by decide) ty_42_27 rfl rfl (fun r182822 q182823 g182824 => ?_))
        have k182825 : H182814 r0 3 = H182791 r0 3 := (f182819 r0 3 _ g0 rfl)
        have q182826 : H182814 r0 3 = (pp : Int) := k182825.trans q182799
        refine wp_of e278 c278_22 (xc_V (pc' := 25) (r := r0) (as := [.ref r182822]) (st := []) (lm_9_393) rfl rfl (Nat.le_of_ble_eq_true rfl) w182818 g0 sh_42 (by decide) rfl (by decide) (s_235_m_lot w182818 g0 g182824 q182826 gpp) (fun R182827 T182828 H182829 p182830 => ?_))
        obtain ⟨e182831, e182833, z182834, e182832, b182835⟩ := p182830
        subst e182831
        subst e182832
        subst e182833
        show wp _ _ 278 25 [(2, vI v182790), (0, .ref r0), (1, vI a1)] [vI z182834] _ H182814 _
        refine wp_of e278 c278_25 (rw_if_ne (p1 := 44) (p2 := 28) (by decide) rfl ⟨by omega, by omega⟩ (fun c182836 => ?_) (fun c182836 => ?_))
        · refine wp_of e278 c278_44 (rw_iinc (pc' := 47) (z := v182790) (L' := [(2, vI (v182790 + 1)), (0, .ref r0), (1, vI a1)]) rfl rfl rfl rfl ?_)
          refine wp_of e278 c278_47 (rw_goto (p1 := 2) (by decide) ?_)
          exact wp_lc (ks := [2, 0, 1]) (wl_c rfl (wl_c rfl (wl_c rfl wl_n))) rfl (by decide) (ih182789 _ (by omega) (v182790 + 1) H182814 w182818 f182821 ⟨by omega, by omega⟩ rfl)
        · refine wp_of e278 c278_28 (rw_aload_n (pc' := 29) (v := .ref r0) rfl rfl rfl ?_)
          refine wp_of e278 c278_29 (rw_aload_n (pc' := 30) (v := .ref r0) rfl rfl rfl ?_)
          refine wp_of e278 c278_30 (xg_K (pc' := 33) lf_9_39 w182818 g0 sh_42 (by decide) (by decide) rfl q182823 rfl ?_)
          refine wp_of e278 c278_33 (rw_iload_n (pc' := 34) (z := a1) rfl rfl ?_)
          refine wp_of e278 c278_34 (xc_V (pc' := 37) (r := r0) (as := [.ref r182822, vI a1]) (st := []) (lm_9_397) rfl rfl (Nat.le_of_ble_eq_true rfl) w182818 g0 sh_42 (by decide) rfl (by decide) (s_239_m_lot w182818 g0 g182824 ⟨by omega, by omega⟩ q182826 gpp) (fun R182837 T182838 H182839 p182840 => ?_))
          obtain ⟨e182841, e182843, z182844, e182842, b182845⟩ := p182840
          subst e182841
          subst e182842
          subst e182843
          show wp _ _ 278 37 [(2, vI v182790), (0, .ref r0), (1, vI a1)] [vI z182844] _ H182814 _
          refine wp_of e278 c278_37 (rw_bipush (pc' := 39) (z := 24) rfl (by decide) ?_)
          refine wp_of e278 c278_39 (rw_icmp_ne (p1 := 44) (p2 := 42) (by decide) rfl ⟨by omega, by omega⟩ ⟨by omega, by omega⟩ (fun c182846 => ?_) (fun c182846 => ?_))
          · refine wp_of e278 c278_44 (rw_iinc (pc' := 47) (z := v182790) (L' := [(2, vI (v182790 + 1)), (0, .ref r0), (1, vI a1)]) rfl rfl rfl rfl ?_)
            refine wp_of e278 c278_47 (rw_goto (p1 := 2) (by decide) ?_)
            exact wp_lc (ks := [2, 0, 1]) (wl_c rfl (wl_c rfl (wl_c rfl wl_n))) rfl (by decide) (ih182789 _ (by omega) (v182790 + 1) H182814 w182818 f182821 ⟨by omega, by omega⟩ rfl)
          · refine wp_of e278 c278_42 (rw_iconst (pc' := 43) rfl ?_)
            exact wp_zreturn e278 c278_43 rfl (by omega) ⟨rfl, w182818, f182820, 0, rfl, ⟨by omega, by omega⟩⟩
  exact wp_lc (ks := [2, 0, 1]) (wl_c rfl (wl_c rfl (wl_c rfl wl_n))) rfl (by decide) (lp182787 _ 0 H hW wfr.rf ⟨by omega, by omega⟩ rfl)
/-! StrikeAwakeModel.leastProof(II)I -/
theorem e277 : wq_en 277 = some (9, 6, false, some FieldType.int) := rfl
theorem c277_0 : mc_cd 277 0 = some (.iload_n 2, 1) := by decide +kernel
theorem c277_1 : mc_cd 277 1 = some (.ifCond .ne 17, 3) := by decide +kernel
theorem c277_4 : mc_cd 277 4 = some (.aload_n 0, 1) := by decide +kernel
theorem c277_5 : mc_cd 277 5 = some (.iconst 0, 1) := by decide +kernel
theorem c277_6 : mc_cd 277 6 = some (.invokevirtual 484, 3) := by decide +kernel
theorem c277_9 : mc_cd 277 9 = some (.ifCond .eq 7, 3) := by decide +kernel
theorem c277_12 : mc_cd 277 12 = some (.iconst 0, 1) := by decide +kernel
theorem c277_13 : mc_cd 277 13 = some (.goto 4, 3) := by decide +kernel
theorem c277_16 : mc_cd 277 16 = some (.iconst (-1), 1) := by decide +kernel
theorem c277_17 : mc_cd 277 17 = some (.ireturn, 1) := by decide +kernel
theorem c277_18 : mc_cd 277 18 = some (.iload_n 2, 1) := by decide +kernel
theorem c277_19 : mc_cd 277 19 = some (.iconst 1, 1) := by decide +kernel
theorem c277_20 : mc_cd 277 20 = some (.isub, 1) := by decide +kernel
theorem c277_21 : mc_cd 277 21 = some (.istore_n 3, 1) := by decide +kernel
theorem c277_22 : mc_cd 277 22 = some (.iload_n 3, 1) := by decide +kernel
theorem c277_23 : mc_cd 277 23 = some (.bipush 24, 2) := by decide +kernel
theorem c277_25 : mc_cd 277 25 = some (.if_icmp .ge 166, 3) := by decide +kernel
theorem c277_28 : mc_cd 277 28 = some (.iload_n 1, 1) := by decide +kernel
theorem c277_29 : mc_cd 277 29 = some (.iload_n 3, 1) := by decide +kernel
theorem c277_30 : mc_cd 277 30 = some (.invokestatic 346, 3) := by decide +kernel
theorem c277_33 : mc_cd 277 33 = some (.ifCond .ne 6, 3) := by decide +kernel
theorem c277_36 : mc_cd 277 36 = some (.goto 149, 3) := by decide +kernel
theorem c277_39 : mc_cd 277 39 = some (.iload_n 2, 1) := by decide +kernel
theorem c277_40 : mc_cd 277 40 = some (.iconst 1, 1) := by decide +kernel
theorem c277_41 : mc_cd 277 41 = some (.if_icmp .ne 17, 3) := by decide +kernel
theorem c277_44 : mc_cd 277 44 = some (.aload_n 0, 1) := by decide +kernel
theorem c277_45 : mc_cd 277 45 = some (.iconst 1, 1) := by decide +kernel
theorem c277_46 : mc_cd 277 46 = some (.iload_n 3, 1) := by decide +kernel
theorem c277_47 : mc_cd 277 47 = some (.ishl, 1) := by decide +kernel
theorem c277_48 : mc_cd 277 48 = some (.invokevirtual 484, 3) := by decide +kernel
theorem c277_51 : mc_cd 277 51 = some (.ifCond .eq 7, 3) := by decide +kernel
theorem c277_54 : mc_cd 277 54 = some (.iconst 1, 1) := by decide +kernel
theorem c277_55 : mc_cd 277 55 = some (.iload_n 3, 1) := by decide +kernel
theorem c277_56 : mc_cd 277 56 = some (.ishl, 1) := by decide +kernel
theorem c277_57 : mc_cd 277 57 = some (.ireturn, 1) := by decide +kernel
theorem c277_58 : mc_cd 277 58 = some (.iload_n 2, 1) := by decide +kernel
theorem c277_59 : mc_cd 277 59 = some (.iconst 2, 1) := by decide +kernel
theorem c277_60 : mc_cd 277 60 = some (.isub, 1) := by decide +kernel
theorem c277_61 : mc_cd 277 61 = some (.istore 4, 2) := by decide +kernel
theorem c277_63 : mc_cd 277 63 = some (.iload 4, 2) := by decide +kernel
theorem c277_65 : mc_cd 277 65 = some (.iload_n 3, 1) := by decide +kernel
theorem c277_66 : mc_cd 277 66 = some (.if_icmp .ge 119, 3) := by decide +kernel
theorem c277_69 : mc_cd 277 69 = some (.iload_n 2, 1) := by decide +kernel
theorem c277_70 : mc_cd 277 70 = some (.iconst 1, 1) := by decide +kernel
theorem c277_71 : mc_cd 277 71 = some (.if_icmp .le 114, 3) := by decide +kernel
theorem c277_74 : mc_cd 277 74 = some (.iload_n 1, 1) := by decide +kernel
theorem c277_75 : mc_cd 277 75 = some (.iload 4, 2) := by decide +kernel
theorem c277_77 : mc_cd 277 77 = some (.invokestatic 346, 3) := by decide +kernel
theorem c277_80 : mc_cd 277 80 = some (.ifCond .ne 6, 3) := by decide +kernel
theorem c277_83 : mc_cd 277 83 = some (.goto 96, 3) := by decide +kernel
theorem c277_86 : mc_cd 277 86 = some (.iload_n 2, 1) := by decide +kernel
theorem c277_87 : mc_cd 277 87 = some (.iconst 2, 1) := by decide +kernel
theorem c277_88 : mc_cd 277 88 = some (.if_icmp .ne 27, 3) := by decide +kernel
theorem c277_91 : mc_cd 277 91 = some (.aload_n 0, 1) := by decide +kernel
theorem c277_92 : mc_cd 277 92 = some (.iconst 1, 1) := by decide +kernel
theorem c277_93 : mc_cd 277 93 = some (.iload_n 3, 1) := by decide +kernel
theorem c277_94 : mc_cd 277 94 = some (.ishl, 1) := by decide +kernel
theorem c277_95 : mc_cd 277 95 = some (.iconst 1, 1) := by decide +kernel
theorem c277_96 : mc_cd 277 96 = some (.iload 4, 2) := by decide +kernel
theorem c277_98 : mc_cd 277 98 = some (.ishl, 1) := by decide +kernel
theorem c277_99 : mc_cd 277 99 = some (.ior, 1) := by decide +kernel
theorem c277_100 : mc_cd 277 100 = some (.invokevirtual 484, 3) := by decide +kernel
theorem c277_103 : mc_cd 277 103 = some (.ifCond .eq 12, 3) := by decide +kernel
theorem c277_106 : mc_cd 277 106 = some (.iconst 1, 1) := by decide +kernel
theorem c277_107 : mc_cd 277 107 = some (.iload_n 3, 1) := by decide +kernel
theorem c277_108 : mc_cd 277 108 = some (.ishl, 1) := by decide +kernel
theorem c277_109 : mc_cd 277 109 = some (.iconst 1, 1) := by decide +kernel
theorem c277_110 : mc_cd 277 110 = some (.iload 4, 2) := by decide +kernel
theorem c277_112 : mc_cd 277 112 = some (.ishl, 1) := by decide +kernel
theorem c277_113 : mc_cd 277 113 = some (.ior, 1) := by decide +kernel
theorem c277_114 : mc_cd 277 114 = some (.ireturn, 1) := by decide +kernel
theorem c277_115 : mc_cd 277 115 = some (.iconst 0, 1) := by decide +kernel
theorem c277_116 : mc_cd 277 116 = some (.istore 5, 2) := by decide +kernel
theorem c277_118 : mc_cd 277 118 = some (.iload 5, 2) := by decide +kernel
theorem c277_120 : mc_cd 277 120 = some (.iload 4, 2) := by decide +kernel
theorem c277_122 : mc_cd 277 122 = some (.if_icmp .ge 57, 3) := by decide +kernel
theorem c277_125 : mc_cd 277 125 = some (.iload_n 2, 1) := by decide +kernel
theorem c277_126 : mc_cd 277 126 = some (.iconst 2, 1) := by decide +kernel
theorem c277_127 : mc_cd 277 127 = some (.if_icmp .le 52, 3) := by decide +kernel
theorem c277_130 : mc_cd 277 130 = some (.iload_n 1, 1) := by decide +kernel
theorem c277_131 : mc_cd 277 131 = some (.iload 5, 2) := by decide +kernel
theorem c277_133 : mc_cd 277 133 = some (.invokestatic 346, 3) := by decide +kernel
theorem c277_136 : mc_cd 277 136 = some (.ifCond .eq 37, 3) := by decide +kernel
theorem c277_139 : mc_cd 277 139 = some (.aload_n 0, 1) := by decide +kernel
theorem c277_140 : mc_cd 277 140 = some (.iconst 1, 1) := by decide +kernel
theorem c277_141 : mc_cd 277 141 = some (.iload_n 3, 1) := by decide +kernel
theorem c277_142 : mc_cd 277 142 = some (.ishl, 1) := by decide +kernel
theorem c277_143 : mc_cd 277 143 = some (.iconst 1, 1) := by decide +kernel
theorem c277_144 : mc_cd 277 144 = some (.iload 4, 2) := by decide +kernel
theorem c277_146 : mc_cd 277 146 = some (.ishl, 1) := by decide +kernel
theorem c277_147 : mc_cd 277 147 = some (.ior, 1) := by decide +kernel
theorem c277_148 : mc_cd 277 148 = some (.iconst 1, 1) := by decide +kernel
theorem c277_149 : mc_cd 277 149 = some (.iload 5, 2) := by decide +kernel
theorem c277_151 : mc_cd 277 151 = some (.ishl, 1) := by decide +kernel
theorem c277_152 : mc_cd 277 152 = some (.ior, 1) := by decide +kernel
theorem c277_153 : mc_cd 277 153 = some (.invokevirtual 484, 3) := by decide +kernel
theorem c277_156 : mc_cd 277 156 = some (.ifCond .eq 17, 3) := by decide +kernel
theorem c277_159 : mc_cd 277 159 = some (.iconst 1, 1) := by decide +kernel
theorem c277_160 : mc_cd 277 160 = some (.iload_n 3, 1) := by decide +kernel
theorem c277_161 : mc_cd 277 161 = some (.ishl, 1) := by decide +kernel
theorem c277_162 : mc_cd 277 162 = some (.iconst 1, 1) := by decide +kernel
theorem c277_163 : mc_cd 277 163 = some (.iload 4, 2) := by decide +kernel
theorem c277_165 : mc_cd 277 165 = some (.ishl, 1) := by decide +kernel
theorem c277_166 : mc_cd 277 166 = some (.ior, 1) := by decide +kernel
theorem c277_167 : mc_cd 277 167 = some (.iconst 1, 1) := by decide +kernel
theorem c277_168 : mc_cd 277 168 = some (.iload 5, 2) := by decide +kernel
theorem c277_170 : mc_cd 277 170 = some (.ishl, 1) := by decide +kernel
theorem c277_171 : mc_cd 277 171 = some (.ior, 1) := by decide +kernel
theorem c277_172 : mc_cd 277 172 = some (.ireturn, 1) := by decide +kernel
theorem c277_173 : mc_cd 277 173 = some (.iinc 5 1, 3) := by decide +kernel
theorem c277_176 : mc_cd 277 176 = some (.goto (-58), 3) := by decide +kernel
theorem c277_179 : mc_cd 277 179 = some (.iinc 4 1, 3) := by decide +kernel
theorem c277_182 : mc_cd 277 182 = some (.goto (-119), 3) := by decide +kernel
theorem c277_185 : mc_cd 277 185 = some (.iinc 3 1, 3) := by decide +kernel
theorem c277_188 : mc_cd 277 188 = some (.goto (-166), 3) := by decide +kernel
theorem c277_191 : mc_cd 277 191 = some (.iconst (-1), 1) := by decide +kernel
theorem c277_192 : mc_cd 277 192 = some (.ireturn, 1) := by decide +kernel
abbrev q_277 (r0 : Nat) (a1 : Int) (a2 : Int) (pp : Nat) (T : wq_T) (H : wq_H) : Option Value → wq_T → wq_H → Prop := fun r T' H' => T = T' ∧ WT T H' ∧ wfr [(51, 999)] T H H' ∧ ∃ z : Int, some (vI z) = r ∧ ((-2147483648) ≤ z ∧ z ≤ 2147483647)
set_option maxHeartbeats 4000000 in
theorem s_277 {kt : Nat → Option mc_E} {T : wq_T} {H : wq_H} {r0 : Nat} {a1 : Int} {a2 : Int} {pp : Nat} (hW : WT T H) (g0 : T.2.2.2 r0 = some 42) (i1 : (-2147483648) ≤ a1 ∧ a1 ≤ 2147483647) (i2 : 0 ≤ a2 ∧ a2 ≤ 3) (qpp : H r0 3 = (pp : Int)) (gpp : T.2.2.2 pp = some 54) (p0 : wLM H r0 ≤ 20000) : wpc kt 6 277 [.ref r0, vI a1, vI a2] T H (q_277 r0 a1 a2 pp T H) := by
  refine wp_enter e277 (Nat.le_of_ble_eq_true rfl) rfl ?_
  have f0 : wfr [(51, 999)] T H H := wfr.rf
  show wp _ _ 277 0 [(0, .ref r0), (1, vI a1), (2, vI a2)] [] _ H _
  refine wp_of e277 c277_0 (rw_iload_n (pc' := 1) (z := a2) rfl rfl ?_)
  refine wp_of e277 c277_1 (rw_if_ne (p1 := 18) (p2 := 4) (by decide) rfl ⟨by omega, by omega⟩ (fun c198322 => ?_) (fun c198322 => ?_))
  · refine wp_of e277 c277_18 (rw_iload_n (pc' := 19) (z := a2) rfl rfl ?_)
    refine wp_of e277 c277_19 (rw_iconst (pc' := 20) rfl ?_)
    refine wp_of e277 c277_20 (rw_isub (pc' := 21) rfl ?_)
    refine wp_of e277 c277_21 (rw_istore_n (pc' := 22) (z := a2 - 1) (L' := [(3, vI (a2 - 1)), (0, .ref r0), (1, vI a1), (2, vI a2)]) rfl rfl rfl ?_)
    have lp211151 : ∀ (n211152 : Nat) (v211154 : Int) (H211155 : wq_H), WT T H211155 → wfr [(51, 999)] T H H211155 → (0 ≤ v211154 ∧ v211154 ≤ 24) → (24 - v211154).toNat = n211152 → wp kt 5 277 22 [(3, vI v211154), (0, .ref r0), (1, vI a1), (2, vI a2)] [] T H211155 (q_277 r0 a1 a2 pp T H) := by
      intro n211152
      induction n211152 using Nat.strongRecOn with
      | _ n211152 ih211153 =>
        intro v211154 H211155 w211156 f211157 b211158 m211159
        have f211160 := f0.tr f211157 rfl
        refine wp_of e277 c277_22 (rw_iload_n (pc' := 23) (z := v211154) rfl rfl ?_)
        refine wp_of e277 c277_23 (rw_bipush (pc' := 25) (z := 24) rfl (by decide) ?_)
        refine wp_of e277 c277_25 (rw_icmp_ge (p1 := 191) (p2 := 28) (by decide) rfl ⟨by omega, by omega⟩ ⟨by omega, by omega⟩ (fun c211161 => ?_) (fun c211161 => ?_))
        · refine wp_of e277 c277_191 (rw_iconst (pc' := 192) rfl ?_)
          exact wp_ireturn e277 c277_192 rfl ⟨rfl, w211156, f211160, -1, rfl, ⟨by omega, by omega⟩⟩
        · refine wp_of e277 c277_28 (rw_iload_n (pc' := 29) (z := a1) rfl rfl ?_)
          refine wp_of e277 c277_29 (rw_iload_n (pc' := 30) (z := v211154) rfl rfl ?_)
          refine wp_of e277 c277_30 (xc_S (pc' := 33) (as := [vI a1, vI v211154]) (st := []) (lm_9_346) rfl rfl (Nat.le_of_ble_eq_true rfl) rfl (by decide) (s_205 w211156 ⟨by omega, by omega⟩ ⟨by omega, by omega⟩) (fun R211162 T211163 H211164 p211165 => ?_))
          obtain ⟨e211166, e211168, z211169, e211167, b211170⟩ := p211165
          subst e211166
          subst e211167
          subst e211168
          show wp _ _ 277 33 [(3, vI v211154), (0, .ref r0), (1, vI a1), (2, vI a2)] [vI z211169] _ H211155 _
          refine wp_of e277 c277_33 (rw_if_ne (p1 := 39) (p2 := 36) (by decide) rfl ⟨by omega, by omega⟩ (fun c211171 => ?_) (fun c211171 => ?_))
          · refine wp_of e277 c277_39 (rw_iload_n (pc' := 40) (z := a2) rfl rfl ?_)
            refine wp_of e277 c277_40 (rw_iconst (pc' := 41) rfl ?_)
            refine wp_of e277 c277_41 (rw_icmp_ne (p1 := 58) (p2 := 44) (by decide) rfl ⟨by omega, by omega⟩ ⟨by omega, by omega⟩ (fun c211172 => ?_) (fun c211172 => ?_))
            · refine wp_of e277 c277_58 (rw_iload_n (pc' := 59) (z := a2) rfl rfl ?_)
              refine wp_of e277 c277_59 (rw_iconst (pc' := 60) rfl ?_)
              refine wp_of e277 c277_60 (rw_isub (pc' := 61) rfl ?_)
              refine wp_of e277 c277_61 (rw_istore (pc' := 63) (z := a2 - 2) (L' := [(4, vI (a2 - 2)), (3, vI v211154), (0, .ref r0), (1, vI a1), (2, vI a2)]) rfl rfl rfl ?_)
              have lp213439 : ∀ (n213440 : Nat) (v213442 : Int) (H213443 : wq_H), WT T H213443 → wfr [(51, 999)] T H211155 H213443 → (0 ≤ v213442 ∧ v213442 ≤ 23) → (23 - v213442).toNat = n213440 → wp kt 5 277 63 [(4, vI v213442), (3, vI v211154), (0, .ref r0), (1, vI a1), (2, vI a2)] [] T H213443 (q_277 r0 a1 a2 pp T H) := by
                intro n213440
                induction n213440 using Nat.strongRecOn with
                | _ n213440 ih213441 =>
                  intro v213442 H213443 w213444 f213445 b213446 m213447
                  have f213448 := f211160.tr f213445 rfl
                  have f213449 := f211157.tr f213445 rfl
                  refine wp_of e277 c277_63 (rw_iload (pc' := 65) (z := v213442) rfl rfl ?_)
                  refine wp_of e277 c277_65 (rw_iload_n (pc' := 66) (z := v211154) rfl rfl ?_)
                  refine wp_of e277 c277_66 (rw_icmp_ge (p1 := 185) (p2 := 69) (by decide) rfl ⟨by omega, by omega⟩ ⟨by omega, by omega⟩ (fun c213450 => ?_) (fun c213450 => ?_))
                  · refine wp_of e277 c277_185 (rw_iinc (pc' := 188) (z := v211154) (L' := [(3, vI (v211154 + 1)), (4, vI v213442), (0, .ref r0), (1, vI a1), (2, vI a2)]) rfl rfl rfl rfl ?_)
                    refine wp_of e277 c277_188 (rw_goto (p1 := 22) (by decide) ?_)
                    exact wp_lc (ks := [3, 4, 0, 1, 2]) (wl_c rfl (wl_c rfl (wl_c rfl (wl_c rfl wl_n)))) rfl (by decide) (ih211153 _ (by omega) (v211154 + 1) H213443 w213444 f213449 ⟨by omega, by omega⟩ rfl)
                  · refine wp_of e277 c277_69 (rw_iload_n (pc' := 70) (z := a2) rfl rfl ?_)
                    refine wp_of e277 c277_70 (rw_iconst (pc' := 71) rfl ?_)
                    refine wp_of e277 c277_71 (rw_icmp_le (p1 := 185) (p2 := 74) (by decide) rfl ⟨by omega, by omega⟩ ⟨by omega, by omega⟩ (fun c213451 => ?_) (fun c213451 => ?_))
                    · exfalso
                      omega
                    · refine wp_of e277 c277_74 (rw_iload_n (pc' := 75) (z := a1) rfl rfl ?_)
                      refine wp_of e277 c277_75 (rw_iload (pc' := 77) (z := v213442) rfl rfl ?_)
                      refine wp_of e277 c277_77 (xc_S (pc' := 80) (as := [vI a1, vI v213442]) (st := []) (lm_9_346) rfl rfl (Nat.le_of_ble_eq_true rfl) rfl (by decide) (s_205 w213444 ⟨by omega, by omega⟩ ⟨by omega, by omega⟩) (fun R213452 T213453 H213454 p213455 => ?_))
                      obtain ⟨e213456, e213458, z213459, e213457, b213460⟩ := p213455
                      subst e213456
                      subst e213457
                      subst e213458
                      show wp _ _ 277 80 [(4, vI v213442), (3, vI v211154), (0, .ref r0), (1, vI a1), (2, vI a2)] [vI z213459] _ H213443 _
                      refine wp_of e277 c277_80 (rw_if_ne (p1 := 86) (p2 := 83) (by decide) rfl ⟨by omega, by omega⟩ (fun c213461 => ?_) (fun c213461 => ?_))
                      · refine wp_of e277 c277_86 (rw_iload_n (pc' := 87) (z := a2) rfl rfl ?_)
                        refine wp_of e277 c277_87 (rw_iconst (pc' := 88) rfl ?_)
                        refine wp_of e277 c277_88 (rw_icmp_ne (p1 := 115) (p2 := 91) (by decide) rfl ⟨by omega, by omega⟩ ⟨by omega, by omega⟩ (fun c213462 => ?_) (fun c213462 => ?_))
                        · refine wp_of e277 c277_115 (rw_iconst (pc' := 116) rfl ?_)
                          refine wp_of e277 c277_116 (rw_istore (pc' := 118) (z := 0) (L' := [(5, vI 0), (4, vI v213442), (3, vI v211154), (0, .ref r0), (1, vI a1), (2, vI a2)]) rfl rfl rfl ?_)
                          have lp213775 : ∀ (n213776 : Nat) (v213778 : Int) (H213779 : wq_H), WT T H213779 → wfr [(51, 999)] T H213443 H213779 → (0 ≤ v213778 ∧ v213778 ≤ 22) → (22 - v213778).toNat = n213776 → wp kt 5 277 118 [(5, vI v213778), (4, vI v213442), (3, vI v211154), (0, .ref r0), (1, vI a1), (2, vI a2)] [] T H213779 (q_277 r0 a1 a2 pp T H) := by
                            intro n213776
                            induction n213776 using Nat.strongRecOn with
                            | _ n213776 ih213777 =>
                              intro v213778 H213779 w213780 f213781 b213782 m213783
                              have f213784 := f213448.tr f213781 rfl
                              have f213785 := f213449.tr f213781 rfl
                              have f213786 := f213445.tr f213781 rfl
                              refine wp_of e277 c277_118 (rw_iload (pc' := 120) (z := v213778) rfl rfl ?_)
                              refine wp_of e277 c277_120 (rw_iload (pc' := 122) (z := v213442) rfl rfl ?_)
                              refine wp_of e277 c277_122 (rw_icmp_ge (p1 := 179) (p2 := 125) (by decide) rfl ⟨by omega, by omega⟩ ⟨by omega, by omega⟩ (fun c213787 => ?_) (fun c213787 => ?_))
                              · refine wp_of e277 c277_179 (rw_iinc (pc' := 182) (z := v213442) (L' := [(4, vI (v213442 + 1)), (5, vI v213778), (3, vI v211154), (0, .ref r0), (1, vI a1), (2, vI a2)]) rfl rfl rfl rfl ?_)
                                refine wp_of e277 c277_182 (rw_goto (p1 := 63) (by decide) ?_)
                                exact wp_lc (ks := [4, 5, 3, 0, 1, 2]) (wl_c rfl (wl_c rfl (wl_c rfl (wl_c rfl (wl_c rfl wl_n))))) rfl (by decide) (ih213441 _ (by omega) (v213442 + 1) H213779 w213780 f213786 ⟨by omega, by omega⟩ rfl)
                              · refine wp_of e277 c277_125 (rw_iload_n (pc' := 126) (z := a2) rfl rfl ?_)
                                refine wp_of e277 c277_126 (rw_iconst (pc' := 127) rfl ?_)
                                refine wp_of e277 c277_127 (rw_icmp_le (p1 := 179) (p2 := 130) (by decide) rfl ⟨by omega, by omega⟩ ⟨by omega, by omega⟩ (fun c213788 => ?_) (fun c213788 => ?_))
                                · exfalso
                                  omega
                                · refine wp_of e277 c277_130 (rw_iload_n (pc' := 131) (z := a1) rfl rfl ?_)
                                  refine wp_of e277 c277_131 (rw_iload (pc' := 133) (z := v213778) rfl rfl ?_)
                                  refine wp_of e277 c277_133 (xc_S (pc' := 136) (as := [vI a1, vI v213778]) (st := []) (lm_9_346) rfl rfl (Nat.le_of_ble_eq_true rfl) rfl (by decide) (s_205 w213780 ⟨by omega, by omega⟩ ⟨by omega, by omega⟩) (fun R213789 T213790 H213791 p213792 => ?_))
                                  obtain ⟨e213793, e213795, z213796, e213794, b213797⟩ := p213792
                                  subst e213793
                                  subst e213794
                                  subst e213795
                                  show wp _ _ 277 136 [(5, vI v213778), (4, vI v213442), (3, vI v211154), (0, .ref r0), (1, vI a1), (2, vI a2)] [vI z213796] _ H213779 _
                                  refine wp_of e277 c277_136 (rw_if_eq (p1 := 173) (p2 := 139) (by decide) rfl ⟨by omega, by omega⟩ (fun c213798 => ?_) (fun c213798 => ?_))
                                  · refine wp_of e277 c277_173 (rw_iinc (pc' := 176) (z := v213778) (L' := [(5, vI (v213778 + 1)), (4, vI v213442), (3, vI v211154), (0, .ref r0), (1, vI a1), (2, vI a2)]) rfl rfl rfl rfl ?_)
                                    refine wp_of e277 c277_176 (rw_goto (p1 := 118) (by decide) ?_)
                                    exact wp_lc (ks := [5, 4, 3, 0, 1, 2]) (wl_c rfl (wl_c rfl (wl_c rfl (wl_c rfl (wl_c rfl (wl_c rfl wl_n)))))) rfl (by decide) (ih213777 _ (by omega) (v213778 + 1) H213779 w213780 f213781 ⟨by omega, by omega⟩ rfl)
                                  · refine wp_of e277 c277_139 (rw_aload_n (pc' := 140) (v := .ref r0) rfl rfl rfl ?_)
                                    refine wp_of e277 c277_140 (rw_iconst (pc' := 141) rfl ?_)
                                    refine wp_of e277 c277_141 (rw_iload_n (pc' := 142) (z := v211154) rfl rfl ?_)
                                    refine wp_of e277 c277_142 (rw_ishl (pc' := 143) rfl ?_)
                                    obtain ⟨v213799, e213800⟩ : ∃ x : Int, x = wq_shl 1 v211154 := ⟨_, rfl⟩
                                    rw [← e213800]
                                    have b213801 : 1 ≤ v213799 ∧ v213799 ≤ 8388608 := by
                                      rw [e213800]
                                      exact wq_shl1_24 ⟨by omega, by omega⟩
                                    refine wp_of e277 c277_143 (rw_iconst (pc' := 144) rfl ?_)
                                    refine wp_of e277 c277_144 (rw_iload (pc' := 146) (z := v213442) rfl rfl ?_)
                                    refine wp_of e277 c277_146 (rw_ishl (pc' := 147) rfl ?_)
                                    obtain ⟨v213802, e213803⟩ : ∃ x : Int, x = wq_shl 1 v213442 := ⟨_, rfl⟩
                                    rw [← e213803]
                                    have b213804 : 1 ≤ v213802 ∧ v213802 ≤ 8388608 := by
                                      rw [e213803]
                                      exact wq_shl1_24 ⟨by omega, by omega⟩
                                    refine wp_of e277 c277_147 (rw_ior (pc' := 148) rfl ?_)
                                    obtain ⟨v213805, e213806⟩ : ∃ x : Int, x = wq_or v213799 v213802 := ⟨_, rfl⟩
                                    rw [← e213806]
                                    have b213807 : 0 ≤ v213805 ∧ v213805 ≤ 16777215 := by
                                      rw [e213806]
                                      exact wq_or_24 ⟨by omega, by omega⟩ ⟨by omega, by omega⟩
                                    refine wp_of e277 c277_148 (rw_iconst (pc' := 149) rfl ?_)
                                    refine wp_of e277 c277_149 (rw_iload (pc' := 151) (z := v213778) rfl rfl ?_)
                                    refine wp_of e277 c277_151 (rw_ishl (pc' := 152) rfl ?_)
                                    obtain ⟨v213808, e213809⟩ : ∃ x : Int, x = wq_shl 1 v213778 := ⟨_, rfl⟩
                                    rw [← e213809]
                                    have b213810 : 1 ≤ v213808 ∧ v213808 ≤ 8388608 := by
                                      rw [e213809]
                                      exact wq_shl1_24 ⟨by omega, by omega⟩
                                    refine wp_of e277 c277_152 (rw_ior (pc' := 153) rfl ?_)
                                    obtain ⟨v213811, e213812⟩ : ∃ x : Int, x = wq_or v213805 v213808 := ⟨_, rfl⟩
                                    rw [← e213812]
                                    have b213813 : 0 ≤ v213811 ∧ v213811 ≤ 16777215 := by
                                      rw [e213812]
                                      exact wq_or_24 ⟨by omega, by omega⟩ ⟨by omega, by omega⟩
                                    have k213814 : wLM H213779 r0 = wLM H r0 := ((wLM_fr w213444 g0 f213781 rfl).trans ((wLM_fr w211156 g0 f213445 rfl).trans (wLM_fr hW g0 f211157 rfl)))
                                    have k213815 : H213779 r0 3 = H r0 3 := ((f213781 r0 3 _ g0 rfl).trans ((f213445 r0 3 _ g0 rfl).trans (f211157 r0 3 _ g0 rfl)))
                                    have q213816 : H213779 r0 3 = (pp : Int) := k213815.trans qpp
                                    refine wp_of e277 c277_153 (xc_V (pc' := 156) (r := r0) (as := [vI v213811]) (st := []) (lm_9_484) rfl rfl (Nat.le_of_ble_eq_true rfl) w213780 g0 sh_42 (by decide) rfl (by decide) (s_278 w213780 g0 ⟨by omega, by omega⟩ q213816 gpp (by omega)) (fun R213817 T213818 H213819 p213820 => ?_))
                                    obtain ⟨e213821, w213823, f213824, z213825, e213822, b213826⟩ := p213820
                                    subst e213821
                                    subst e213822
                                    have f213827 := f213784.tr f213824 rfl
                                    have f213828 := f213785.tr f213824 rfl
                                    have f213829 := f213786.tr f213824 rfl
                                    have f213830 := f213781.tr f213824 rfl
                                    show wp _ _ 277 156 [(5, vI v213778), (4, vI v213442), (3, vI v211154), (0, .ref r0), (1, vI a1), (2, vI a2)] [vI z213825] _ H213819 _
                                    refine wp_of e277 c277_156 (rw_if_eq (p1 := 173) (p2 := 159) (by decide) rfl ⟨by omega, by omega⟩ (fun c213831 => ?_) (fun c213831 => ?_))
                                    · refine wp_of e277 c277_173 (rw_iinc (pc' := 176) (z := v213778) (L' := [(5, vI (v213778 + 1)), (4, vI v213442), (3, vI v211154), (0, .ref r0), (1, vI a1), (2, vI a2)]) rfl rfl rfl rfl ?_)
                                      refine wp_of e277 c277_176 (rw_goto (p1 := 118) (by decide) ?_)
                                      exact wp_lc (ks := [5, 4, 3, 0, 1, 2]) (wl_c rfl (wl_c rfl (wl_c rfl (wl_c rfl (wl_c rfl (wl_c rfl wl_n)))))) rfl (by decide) (ih213777 _ (by omega) (v213778 + 1) H213819 w213823 f213830 ⟨by omega, by omega⟩ rfl)
                                    · refine wp_of e277 c277_159 (rw_iconst (pc' := 160) rfl ?_)
                                      refine wp_of e277 c277_160 (rw_iload_n (pc' := 161) (z := v211154) rfl rfl ?_)
                                      refine wp_of e277 c277_161 (rw_ishl (pc' := 162) rfl ?_)
                                      obtain ⟨v213832, e213833⟩ : ∃ x : Int, x = wq_shl 1 v211154 := ⟨_, rfl⟩
                                      rw [← e213833]
                                      have b213834 : 1 ≤ v213832 ∧ v213832 ≤ 8388608 := by
                                        rw [e213833]
                                        exact wq_shl1_24 ⟨by omega, by omega⟩
                                      refine wp_of e277 c277_162 (rw_iconst (pc' := 163) rfl ?_)
                                      refine wp_of e277 c277_163 (rw_iload (pc' := 165) (z := v213442) rfl rfl ?_)
                                      refine wp_of e277 c277_165 (rw_ishl (pc' := 166) rfl ?_)
                                      obtain ⟨v213835, e213836⟩ : ∃ x : Int, x = wq_shl 1 v213442 := ⟨_, rfl⟩
                                      rw [← e213836]
                                      have b213837 : 1 ≤ v213835 ∧ v213835 ≤ 8388608 := by
                                        rw [e213836]
                                        exact wq_shl1_24 ⟨by omega, by omega⟩
                                      refine wp_of e277 c277_166 (rw_ior (pc' := 167) rfl ?_)
                                      obtain ⟨v213838, e213839⟩ : ∃ x : Int, x = wq_or v213832 v213835 := ⟨_, rfl⟩
                                      rw [← e213839]
                                      have b213840 : 0 ≤ v213838 ∧ v213838 ≤ 16777215 := by
                                        rw [e213839]
                                        exact wq_or_24 ⟨by omega, by omega⟩ ⟨by omega, by omega⟩
                                      refine wp_of e277 c277_167 (rw_iconst (pc' := 168) rfl ?_)
                                      refine wp_of e277 c277_168 (rw_iload (pc' := 170) (z := v213778) rfl rfl ?_)
                                      refine wp_of e277 c277_170 (rw_ishl (pc' := 171) rfl ?_)
                                      obtain ⟨v213841, e213842⟩ : ∃ x : Int, x = wq_shl 1 v213778 := ⟨_, rfl⟩
                                      rw [← e213842]
                                      have b213843 : 1 ≤ v213841 ∧ v213841 ≤ 8388608 := by
                                        rw [e213842]
                                        exact wq_shl1_24 ⟨by omega, by omega⟩
                                      refine wp_of e277 c277_171 (rw_ior (pc' := 172) rfl ?_)
                                      obtain ⟨v213844, e213845⟩ : ∃ x : Int, x = wq_or v213838 v213841 := ⟨_, rfl⟩
                                      rw [← e213845]
                                      have b213846 : 0 ≤ v213844 ∧ v213844 ≤ 16777215 := by
                                        rw [e213845]
                                        exact wq_or_24 ⟨by omega, by omega⟩ ⟨by omega, by omega⟩
                                      exact wp_ireturn e277 c277_172 rfl ⟨rfl, w213823, f213827, v213844, rfl, ⟨by omega, by omega⟩⟩
                          exact wp_lc (ks := [5, 4, 3, 0, 1, 2]) (wl_c rfl (wl_c rfl (wl_c rfl (wl_c rfl (wl_c rfl (wl_c rfl wl_n)))))) rfl (by decide) (lp213775 _ 0 H213443 w213444 wfr.rf ⟨by omega, by omega⟩ rfl)
                        · refine wp_of e277 c277_91 (rw_aload_n (pc' := 92) (v := .ref r0) rfl rfl rfl ?_)
                          refine wp_of e277 c277_92 (rw_iconst (pc' := 93) rfl ?_)
                          refine wp_of e277 c277_93 (rw_iload_n (pc' := 94) (z := v211154) rfl rfl ?_)
                          refine wp_of e277 c277_94 (rw_ishl (pc' := 95) rfl ?_)
                          obtain ⟨v213847, e213848⟩ : ∃ x : Int, x = wq_shl 1 v211154 := ⟨_, rfl⟩
                          rw [← e213848]
                          have b213849 : 1 ≤ v213847 ∧ v213847 ≤ 8388608 := by
                            rw [e213848]
                            exact wq_shl1_24 ⟨by omega, by omega⟩
                          refine wp_of e277 c277_95 (rw_iconst (pc' := 96) rfl ?_)
                          refine wp_of e277 c277_96 (rw_iload (pc' := 98) (z := v213442) rfl rfl ?_)
                          refine wp_of e277 c277_98 (rw_ishl (pc' := 99) rfl ?_)
                          obtain ⟨v213850, e213851⟩ : ∃ x : Int, x = wq_shl 1 v213442 := ⟨_, rfl⟩
                          rw [← e213851]
                          have b213852 : 1 ≤ v213850 ∧ v213850 ≤ 8388608 := by
                            rw [e213851]
                            exact wq_shl1_24 ⟨by omega, by omega⟩
                          refine wp_of e277 c277_99 (rw_ior (pc' := 100) rfl ?_)
                          obtain ⟨v213853, e213854⟩ : ∃ x : Int, x = wq_or v213847 v213850 := ⟨_, rfl⟩
                          rw [← e213854]
                          have b213855 : 0 ≤ v213853 ∧ v213853 ≤ 16777215 := by
                            rw [e213854]
                            exact wq_or_24 ⟨by omega, by omega⟩ ⟨by omega, by omega⟩
                          have k213856 : wLM H213443 r0 = wLM H r0 := ((wLM_fr w211156 g0 f213445 rfl).trans (wLM_fr hW g0 f211157 rfl))
                          have k213857 : H213443 r0 3 = H r0 3 := ((f213445 r0 3 _ g0 rfl).trans (f211157 r0 3 _ g0 rfl))
                          have q213858 : H213443 r0 3 = (pp : Int) := k213857.trans qpp
                          refine wp_of e277 c277_100 (xc_V (pc' := 103) (r := r0) (as := [vI v213853]) (st := []) (lm_9_484) rfl rfl (Nat.le_of_ble_eq_true rfl) w213444 g0 sh_42 (by decide) rfl (by decide) (s_278 w213444 g0 ⟨by omega, by omega⟩ q213858 gpp (by omega)) (fun R213859 T213860 H213861 p213862 => ?_))
                          obtain ⟨e213863, w213865, f213866, z213867, e213864, b213868⟩ := p213862
                          subst e213863
                          subst e213864
                          have f213869 := f213448.tr f213866 rfl
                          have f213870 := f213449.tr f213866 rfl
                          have f213871 := f213445.tr f213866 rfl
                          show wp _ _ 277 103 [(4, vI v213442), (3, vI v211154), (0, .ref r0), (1, vI a1), (2, vI a2)] [vI z213867] _ H213861 _
                          refine wp_of e277 c277_103 (rw_if_eq (p1 := 115) (p2 := 106) (by decide) rfl ⟨by omega, by omega⟩ (fun c213872 => ?_) (fun c213872 => ?_))
                          · refine wp_of e277 c277_115 (rw_iconst (pc' := 116) rfl ?_)
                            refine wp_of e277 c277_116 (rw_istore (pc' := 118) (z := 0) (L' := [(5, vI 0), (4, vI v213442), (3, vI v211154), (0, .ref r0), (1, vI a1), (2, vI a2)]) rfl rfl rfl ?_)
                            have lp213875 : ∀ (n213876 : Nat) (v213878 : Int), (0 ≤ v213878 ∧ v213878 ≤ 0) → 0 = n213876 → wp kt 5 277 118 [(5, vI v213878), (4, vI v213442), (3, vI v211154), (0, .ref r0), (1, vI a1), (2, vI a2)] [] T H213861 (q_277 r0 a1 a2 pp T H) := by
                              intro n213876
                              induction n213876 using Nat.strongRecOn with
                              | _ n213876 ih213877 =>
                                intro v213878 b213881 m213882
                                refine wp_of e277 c277_118 (rw_iload (pc' := 120) (z := v213878) rfl rfl ?_)
                                refine wp_of e277 c277_120 (rw_iload (pc' := 122) (z := v213442) rfl rfl ?_)
                                refine wp_of e277 c277_122 (rw_icmp_ge (p1 := 179) (p2 := 125) (by decide) rfl ⟨by omega, by omega⟩ ⟨by omega, by omega⟩ (fun c213883 => ?_) (fun c213883 => ?_))
                                · refine wp_of e277 c277_179 (rw_iinc (pc' := 182) (z := v213442) (L' := [(4, vI (v213442 + 1)), (5, vI v213878), (3, vI v211154), (0, .ref r0), (1, vI a1), (2, vI a2)]) rfl rfl rfl rfl ?_)
                                  refine wp_of e277 c277_182 (rw_goto (p1 := 63) (by decide) ?_)
                                  exact wp_lc (ks := [4, 5, 3, 0, 1, 2]) (wl_c rfl (wl_c rfl (wl_c rfl (wl_c rfl (wl_c rfl wl_n))))) rfl (by decide) (ih213441 _ (by omega) (v213442 + 1) H213861 w213865 f213871 ⟨by omega, by omega⟩ rfl)
                                · refine wp_of e277 c277_125 (rw_iload_n (pc' := 126) (z := a2) rfl rfl ?_)
                                  refine wp_of e277 c277_126 (rw_iconst (pc' := 127) rfl ?_)
                                  refine wp_of e277 c277_127 (rw_icmp_le (p1 := 179) (p2 := 130) (by decide) rfl ⟨by omega, by omega⟩ ⟨by omega, by omega⟩ (fun c213884 => ?_) (fun c213884 => ?_))
                                  · refine wp_of e277 c277_179 (rw_iinc (pc' := 182) (z := v213442) (L' := [(4, vI (v213442 + 1)), (5, vI v213878), (3, vI v211154), (0, .ref r0), (1, vI a1), (2, vI a2)]) rfl rfl rfl rfl ?_)
                                    refine wp_of e277 c277_182 (rw_goto (p1 := 63) (by decide) ?_)
                                    exact wp_lc (ks := [4, 5, 3, 0, 1, 2]) (wl_c rfl (wl_c rfl (wl_c rfl (wl_c rfl (wl_c rfl wl_n))))) rfl (by decide) (ih213441 _ (by omega) (v213442 + 1) H213861 w213865 f213871 ⟨by omega, by omega⟩ rfl)
                                  · exfalso
                                    omega
                            exact wp_lc (ks := [5, 4, 3, 0, 1, 2]) (wl_c rfl (wl_c rfl (wl_c rfl (wl_c rfl (wl_c rfl (wl_c rfl wl_n)))))) rfl (by decide) (lp213875 _ 0 ⟨by omega, by omega⟩ rfl)
                          · refine wp_of e277 c277_106 (rw_iconst (pc' := 107) rfl ?_)
                            refine wp_of e277 c277_107 (rw_iload_n (pc' := 108) (z := v211154) rfl rfl ?_)
                            refine wp_of e277 c277_108 (rw_ishl (pc' := 109) rfl ?_)
                            obtain ⟨v213885, e213886⟩ : ∃ x : Int, x = wq_shl 1 v211154 := ⟨_, rfl⟩
                            rw [← e213886]
                            have b213887 : 1 ≤ v213885 ∧ v213885 ≤ 8388608 := by
                              rw [e213886]
                              exact wq_shl1_24 ⟨by omega, by omega⟩
                            refine wp_of e277 c277_109 (rw_iconst (pc' := 110) rfl ?_)
                            refine wp_of e277 c277_110 (rw_iload (pc' := 112) (z := v213442) rfl rfl ?_)
                            refine wp_of e277 c277_112 (rw_ishl (pc' := 113) rfl ?_)
                            obtain ⟨v213888, e213889⟩ : ∃ x : Int, x = wq_shl 1 v213442 := ⟨_, rfl⟩
                            rw [← e213889]
                            have b213890 : 1 ≤ v213888 ∧ v213888 ≤ 8388608 := by
                              rw [e213889]
                              exact wq_shl1_24 ⟨by omega, by omega⟩
                            refine wp_of e277 c277_113 (rw_ior (pc' := 114) rfl ?_)
                            obtain ⟨v213891, e213892⟩ : ∃ x : Int, x = wq_or v213885 v213888 := ⟨_, rfl⟩
                            rw [← e213892]
                            have b213893 : 0 ≤ v213891 ∧ v213891 ≤ 16777215 := by
                              rw [e213892]
                              exact wq_or_24 ⟨by omega, by omega⟩ ⟨by omega, by omega⟩
                            exact wp_ireturn e277 c277_114 rfl ⟨rfl, w213865, f213869, v213891, rfl, ⟨by omega, by omega⟩⟩
                      · refine wp_of e277 c277_83 (rw_goto (p1 := 179) (by decide) ?_)
                        refine wp_of e277 c277_179 (rw_iinc (pc' := 182) (z := v213442) (L' := [(4, vI (v213442 + 1)), (3, vI v211154), (0, .ref r0), (1, vI a1), (2, vI a2)]) rfl rfl rfl rfl ?_)
                        refine wp_of e277 c277_182 (rw_goto (p1 := 63) (by decide) ?_)
                        exact wp_lc (ks := [4, 3, 0, 1, 2]) (wl_c rfl (wl_c rfl (wl_c rfl (wl_c rfl (wl_c rfl wl_n))))) rfl (by decide) (ih213441 _ (by omega) (v213442 + 1) H213443 w213444 f213445 ⟨by omega, by omega⟩ rfl)
              exact wp_lc (ks := [4, 3, 0, 1, 2]) (wl_c rfl (wl_c rfl (wl_c rfl (wl_c rfl (wl_c rfl wl_n))))) rfl (by decide) (lp213439 _ (a2 - 2) H211155 w211156 wfr.rf ⟨by omega, by omega⟩ rfl)
            · refine wp_of e277 c277_44 (rw_aload_n (pc' := 45) (v := .ref r0) rfl rfl rfl ?_)
              refine wp_of e277 c277_45 (rw_iconst (pc' := 46) rfl ?_)
              refine wp_of e277 c277_46 (rw_iload_n (pc' := 47) (z := v211154) rfl rfl ?_)
              refine wp_of e277 c277_47 (rw_ishl (pc' := 48) rfl ?_)
              obtain ⟨v213894, e213895⟩ : ∃ x : Int, x = wq_shl 1 v211154 := ⟨_, rfl⟩
              rw [← e213895]
              have b213896 : 1 ≤ v213894 ∧ v213894 ≤ 8388608 := by
                rw [e213895]
                exact wq_shl1_24 ⟨by omega, by omega⟩
              have k213897 : wLM H211155 r0 = wLM H r0 := (wLM_fr hW g0 f211157 rfl)
              have k213898 : H211155 r0 3 = H r0 3 := (f211157 r0 3 _ g0 rfl)
              have q213899 : H211155 r0 3 = (pp : Int) := k213898.trans qpp
              refine wp_of e277 c277_48 (xc_V (pc' := 51) (r := r0) (as := [vI v213894]) (st := []) (lm_9_484) rfl rfl (Nat.le_of_ble_eq_true rfl) w211156 g0 sh_42 (by decide) rfl (by decide) (s_278 w211156 g0 ⟨by omega, by omega⟩ q213899 gpp (by omega)) (fun R213900 T213901 H213902 p213903 => ?_))
              obtain ⟨e213904, w213906, f213907, z213908, e213905, b213909⟩ := p213903
              subst e213904
              subst e213905
              have f213910 := f211160.tr f213907 rfl
              have f213911 := f211157.tr f213907 rfl
              show wp _ _ 277 51 [(3, vI v211154), (0, .ref r0), (1, vI a1), (2, vI a2)] [vI z213908] _ H213902 _
              refine wp_of e277 c277_51 (rw_if_eq (p1 := 58) (p2 := 54) (by decide) rfl ⟨by omega, by omega⟩ (fun c213912 => ?_) (fun c213912 => ?_))
              · refine wp_of e277 c277_58 (rw_iload_n (pc' := 59) (z := a2) rfl rfl ?_)
                refine wp_of e277 c277_59 (rw_iconst (pc' := 60) rfl ?_)
                refine wp_of e277 c277_60 (rw_isub (pc' := 61) rfl ?_)
                refine wp_of e277 c277_61 (rw_istore (pc' := 63) (z := a2 - 2) (L' := [(4, vI (a2 - 2)), (3, vI v211154), (0, .ref r0), (1, vI a1), (2, vI a2)]) rfl rfl rfl ?_)
                have lp213915 : ∀ (n213916 : Nat) (v213918 : Int), ((-1) ≤ v213918 ∧ v213918 ≤ (-1)) → 0 = n213916 → wp kt 5 277 63 [(4, vI v213918), (3, vI v211154), (0, .ref r0), (1, vI a1), (2, vI a2)] [] T H213902 (q_277 r0 a1 a2 pp T H) := by
                  intro n213916
                  induction n213916 using Nat.strongRecOn with
                  | _ n213916 ih213917 =>
                    intro v213918 b213921 m213922
                    refine wp_of e277 c277_63 (rw_iload (pc' := 65) (z := v213918) rfl rfl ?_)
                    refine wp_of e277 c277_65 (rw_iload_n (pc' := 66) (z := v211154) rfl rfl ?_)
                    refine wp_of e277 c277_66 (rw_icmp_ge (p1 := 185) (p2 := 69) (by decide) rfl ⟨by omega, by omega⟩ ⟨by omega, by omega⟩ (fun c213923 => ?_) (fun c213923 => ?_))
                    · exfalso
                      omega
                    · refine wp_of e277 c277_69 (rw_iload_n (pc' := 70) (z := a2) rfl rfl ?_)
                      refine wp_of e277 c277_70 (rw_iconst (pc' := 71) rfl ?_)
                      refine wp_of e277 c277_71 (rw_icmp_le (p1 := 185) (p2 := 74) (by decide) rfl ⟨by omega, by omega⟩ ⟨by omega, by omega⟩ (fun c213924 => ?_) (fun c213924 => ?_))
                      · refine wp_of e277 c277_185 (rw_iinc (pc' := 188) (z := v211154) (L' := [(3, vI (v211154 + 1)), (4, vI v213918), (0, .ref r0), (1, vI a1), (2, vI a2)]) rfl rfl rfl rfl ?_)
                        refine wp_of e277 c277_188 (rw_goto (p1 := 22) (by decide) ?_)
                        exact wp_lc (ks := [3, 4, 0, 1, 2]) (wl_c rfl (wl_c rfl (wl_c rfl (wl_c rfl wl_n)))) rfl (by decide) (ih211153 _ (by omega) (v211154 + 1) H213902 w213906 f213911 ⟨by omega, by omega⟩ rfl)
                      · exfalso
                        omega
                exact wp_lc (ks := [4, 3, 0, 1, 2]) (wl_c rfl (wl_c rfl (wl_c rfl (wl_c rfl (wl_c rfl wl_n))))) rfl (by decide) (lp213915 _ (a2 - 2) ⟨by omega, by omega⟩ rfl)
              · refine wp_of e277 c277_54 (rw_iconst (pc' := 55) rfl ?_)
                refine wp_of e277 c277_55 (rw_iload_n (pc' := 56) (z := v211154) rfl rfl ?_)
                refine wp_of e277 c277_56 (rw_ishl (pc' := 57) rfl ?_)
                obtain ⟨v213925, e213926⟩ : ∃ x : Int, x = wq_shl 1 v211154 := ⟨_, rfl⟩
                rw [← e213926]
                have b213927 : 1 ≤ v213925 ∧ v213925 ≤ 8388608 := by
                  rw [e213926]
                  exact wq_shl1_24 ⟨by omega, by omega⟩
                exact wp_ireturn e277 c277_57 rfl ⟨rfl, w213906, f213910, v213925, rfl, ⟨by omega, by omega⟩⟩
          · refine wp_of e277 c277_36 (rw_goto (p1 := 185) (by decide) ?_)
            refine wp_of e277 c277_185 (rw_iinc (pc' := 188) (z := v211154) (L' := [(3, vI (v211154 + 1)), (0, .ref r0), (1, vI a1), (2, vI a2)]) rfl rfl rfl rfl ?_)
            refine wp_of e277 c277_188 (rw_goto (p1 := 22) (by decide) ?_)
            exact wp_lc (ks := [3, 0, 1, 2]) (wl_c rfl (wl_c rfl (wl_c rfl (wl_c rfl wl_n)))) rfl (by decide) (ih211153 _ (by omega) (v211154 + 1) H211155 w211156 f211157 ⟨by omega, by omega⟩ rfl)
    exact wp_lc (ks := [3, 0, 1, 2]) (wl_c rfl (wl_c rfl (wl_c rfl (wl_c rfl wl_n)))) rfl (by decide) (lp211151 _ (a2 - 1) H hW wfr.rf ⟨by omega, by omega⟩ rfl)
  · refine wp_of e277 c277_4 (rw_aload_n (pc' := 5) (v := .ref r0) rfl rfl rfl ?_)
    refine wp_of e277 c277_5 (rw_iconst (pc' := 6) rfl ?_)
    refine wp_of e277 c277_6 (xc_V (pc' := 9) (r := r0) (as := [vI 0]) (st := []) (lm_9_484) rfl rfl (Nat.le_of_ble_eq_true rfl) hW g0 sh_42 (by decide) rfl (by decide) (s_278 hW g0 ⟨by omega, by omega⟩ qpp gpp (by omega)) (fun R213928 T213929 H213930 p213931 => ?_))
    obtain ⟨e213932, w213934, f213935, z213936, e213933, b213937⟩ := p213931
    subst e213932
    subst e213933
    have f213938 := f0.tr f213935 rfl
    show wp _ _ 277 9 [(0, .ref r0), (1, vI a1), (2, vI a2)] [vI z213936] _ H213930 _
    refine wp_of e277 c277_9 (rw_if_eq (p1 := 16) (p2 := 12) (by decide) rfl ⟨by omega, by omega⟩ (fun c213939 => ?_) (fun c213939 => ?_))
    · refine wp_of e277 c277_16 (rw_iconst (pc' := 17) rfl ?_)
      exact wp_ireturn e277 c277_17 rfl ⟨rfl, w213934, f213938, -1, rfl, ⟨by omega, by omega⟩⟩
    · refine wp_of e277 c277_12 (rw_iconst (pc' := 13) rfl ?_)
      refine wp_of e277 c277_13 (rw_goto (p1 := 17) (by decide) ?_)
      exact wp_ireturn e277 c277_17 rfl ⟨rfl, w213934, f213938, 0, rfl, ⟨by omega, by omega⟩⟩
/-! StrikeAwakeModel.proof()I -/
theorem e276 : wq_en 276 = some (9, 5, false, some FieldType.int) := rfl
theorem c276_0 : mc_cd 276 0 = some (.aload_n 0, 1) := by decide +kernel
theorem c276_1 : mc_cd 276 1 = some (.iconst 0, 1) := by decide +kernel
theorem c276_2 : mc_cd 276 2 = some (.putfield 48, 3) := by decide +kernel
theorem c276_5 : mc_cd 276 5 = some (.aload_n 0, 1) := by decide +kernel
theorem c276_6 : mc_cd 276 6 = some (.aload_n 0, 1) := by decide +kernel
theorem c276_7 : mc_cd 276 7 = some (.getfield 337, 3) := by decide +kernel
theorem c276_10 : mc_cd 276 10 = some (.ifnull 7, 3) := by decide +kernel
theorem c276_13 : mc_cd 276 13 = some (.iconst 1, 1) := by decide +kernel
theorem c276_14 : mc_cd 276 14 = some (.goto 4, 3) := by decide +kernel
theorem c276_17 : mc_cd 276 17 = some (.iconst 0, 1) := by decide +kernel
theorem c276_18 : mc_cd 276 18 = some (.invokevirtual 433, 3) := by decide +kernel
theorem c276_21 : mc_cd 276 21 = some (.istore_n 1, 1) := by decide +kernel
theorem c276_22 : mc_cd 276 22 = some (.iload_n 1, 1) := by decide +kernel
theorem c276_23 : mc_cd 276 23 = some (.ifCond .ne 16, 3) := by decide +kernel
theorem c276_26 : mc_cd 276 26 = some (.aload_n 0, 1) := by decide +kernel
theorem c276_27 : mc_cd 276 27 = some (.invokevirtual 376, 3) := by decide +kernel
theorem c276_30 : mc_cd 276 30 = some (.ldc2_w 479, 3) := by decide +kernel
theorem c276_33 : mc_cd 276 33 = some (.lcmp, 1) := by decide +kernel
theorem c276_34 : mc_cd 276 34 = some (.ifCond .le 5, 3) := by decide +kernel
theorem c276_37 : mc_cd 276 37 = some (.iconst 3, 1) := by decide +kernel
theorem c276_38 : mc_cd 276 38 = some (.istore_n 1, 1) := by decide +kernel
theorem c276_39 : mc_cd 276 39 = some (.iload_n 1, 1) := by decide +kernel
theorem c276_40 : mc_cd 276 40 = some (.ifCond .ne 12, 3) := by decide +kernel
theorem c276_43 : mc_cd 276 43 = some (.aload_n 0, 1) := by decide +kernel
theorem c276_44 : mc_cd 276 44 = some (.getfield 422, 3) := by decide +kernel
theorem c276_47 : mc_cd 276 47 = some (.ifCond .le 5, 3) := by decide +kernel
theorem c276_50 : mc_cd 276 50 = some (.iconst 5, 1) := by decide +kernel
theorem c276_51 : mc_cd 276 51 = some (.istore_n 1, 1) := by decide +kernel
theorem c276_52 : mc_cd 276 52 = some (.iload_n 1, 1) := by decide +kernel
theorem c276_53 : mc_cd 276 53 = some (.ifCond .le 9, 3) := by decide +kernel
theorem c276_56 : mc_cd 276 56 = some (.aload_n 0, 1) := by decide +kernel
theorem c276_57 : mc_cd 276 57 = some (.iload_n 1, 1) := by decide +kernel
theorem c276_58 : mc_cd 276 58 = some (.invokevirtual 54, 3) := by decide +kernel
theorem c276_61 : mc_cd 276 61 = some (.ireturn, 1) := by decide +kernel
theorem c276_62 : mc_cd 276 62 = some (.aload_n 0, 1) := by decide +kernel
theorem c276_63 : mc_cd 276 63 = some (.invokevirtual 357, 3) := by decide +kernel
theorem c276_66 : mc_cd 276 66 = some (.istore_n 2, 1) := by decide +kernel
theorem c276_67 : mc_cd 276 67 = some (.iconst 0, 1) := by decide +kernel
theorem c276_68 : mc_cd 276 68 = some (.istore_n 3, 1) := by decide +kernel
theorem c276_69 : mc_cd 276 69 = some (.iload_n 3, 1) := by decide +kernel
theorem c276_70 : mc_cd 276 70 = some (.iconst 4, 1) := by decide +kernel
theorem c276_71 : mc_cd 276 71 = some (.if_icmp .ge 30, 3) := by decide +kernel
theorem c276_74 : mc_cd 276 74 = some (.aload_n 0, 1) := by decide +kernel
theorem c276_75 : mc_cd 276 75 = some (.iload_n 2, 1) := by decide +kernel
theorem c276_76 : mc_cd 276 76 = some (.iload_n 3, 1) := by decide +kernel
theorem c276_77 : mc_cd 276 77 = some (.invokevirtual 481, 3) := by decide +kernel
theorem c276_80 : mc_cd 276 80 = some (.istore 4, 2) := by decide +kernel
theorem c276_82 : mc_cd 276 82 = some (.iload 4, 2) := by decide +kernel
theorem c276_84 : mc_cd 276 84 = some (.iconst (-1), 1) := by decide +kernel
theorem c276_85 : mc_cd 276 85 = some (.if_icmp .eq 10, 3) := by decide +kernel
theorem c276_88 : mc_cd 276 88 = some (.aload_n 0, 1) := by decide +kernel
theorem c276_89 : mc_cd 276 89 = some (.iload 4, 2) := by decide +kernel
theorem c276_91 : mc_cd 276 91 = some (.invokevirtual 58, 3) := by decide +kernel
theorem c276_94 : mc_cd 276 94 = some (.ireturn, 1) := by decide +kernel
theorem c276_95 : mc_cd 276 95 = some (.iinc 3 1, 3) := by decide +kernel
theorem c276_98 : mc_cd 276 98 = some (.goto (-29), 3) := by decide +kernel
theorem c276_101 : mc_cd 276 101 = some (.aload_n 0, 1) := by decide +kernel
theorem c276_102 : mc_cd 276 102 = some (.bipush (-2), 2) := by decide +kernel
theorem c276_104 : mc_cd 276 104 = some (.invokevirtual 58, 3) := by decide +kernel
theorem c276_107 : mc_cd 276 107 = some (.ireturn, 1) := by decide +kernel
abbrev q_276 (r0 : Nat) (T : wq_T) (H : wq_H) : Option Value → wq_T → wq_H → Prop := fun r T' H' => T = T' ∧ WT T H' ∧ wfr [(42, 0), (42, 1), (42, 2), (42, 28), (42, 29), (51, 999), (52, 999)] T H H' ∧ ∃ z : Int, some (vI z) = r ∧ ((-2147483648) ≤ z ∧ z ≤ 2147483647) ∧ (wKI H' r0 = 1) ∧ (H' r0 2 = -1)
set_option maxHeartbeats 4000000 in
theorem s_276 {kt : Nat → Option mc_E} {T : wq_T} {H : wq_H} {r0 : Nat} (hW : WT T H) (g0 : T.2.2.2 r0 = some 42) (p0 : wKI H r0 = 1) : wpc kt 8 276 [.ref r0] T H (q_276 r0 T H) := by
  refine wp_enter e276 (Nat.le_of_ble_eq_true rfl) rfl ?_
  have f0 : wfr [(42, 0), (42, 1), (42, 2), (42, 28), (42, 29), (51, 999), (52, 999)] T H H := wfr.rf
  show wp _ _ 276 0 [(0, .ref r0)] [] _ H _
  refine wp_of e276 c276_0 (rw_aload_n (pc' := 1) (v := .ref r0) rfl rfl rfl ?_)
  refine wp_of e276 c276_1 (rw_iconst (pc' := 2) rfl ?_)
  refine wp_of e276 c276_2 (xp_I (pc' := 5) lf_9_48 hW g0 sh_42 (by decide) (by decide) ty_42_0 rfl rfl (by omega) (by omega) ⟨by omega, by omega⟩ rfl (fun H214192 e214193 w214194 => ?_))
  have f214195 := f0.put' e214193 g0 rfl
  have k214196 : H214192 r0 0 = 0 := wq_u_s e214193
  refine wp_of e276 c276_5 (rw_aload_n (pc' := 6) (v := .ref r0) rfl rfl rfl ?_)
  refine wp_of e276 c276_6 (rw_aload_n (pc' := 7) (v := .ref r0) rfl rfl rfl ?_)
  refine wp_of e276 c276_7 (xg_O (pc' := 10) lf_9_337 w214194 g0 sh_42 (by decide) (by decide) ty_42_3 rfl rfl (fun q214198 => ?_) (fun r214197 q214198 g214199 => ?_))
  · refine wp_of e276 c276_10 (rw_ifnull_n (p1 := 17) (p2 := 13) (by decide) rfl ?_)
    refine wp_of e276 c276_17 (rw_iconst (pc' := 18) rfl ?_)
    have k214200 : wKI H214192 r0 = wKI H r0 := (wKI_fr hW g0 ((wfr.rf (l := [(42, 0)])).put' e214193 g0 rfl) rfl)
    refine wp_of e276 c276_18 (xc_V (pc' := 21) (r := r0) (as := [vI 0]) (st := []) (lm_9_433) rfl rfl (Nat.le_of_ble_eq_true rfl) w214194 g0 sh_42 (by decide) rfl (by decide) (s_241 w214194 g0 ⟨by omega, by omega⟩ (by omega) (by omega)) (fun R214201 T214202 H214203 p214204 => ?_))
    obtain ⟨e214205, w214207, f214208, z214213, e214206, b214214, p214209, p214210, p214211, p214212⟩ := p214204
    subst e214205
    subst e214206
    have f214215 := f214195.tr f214208 rfl
    show wp _ _ 276 21 [(0, .ref r0)] [vI z214213] _ H214203 _
    refine wp_of e276 c276_21 (rw_istore_n (pc' := 22) (z := z214213) (L' := [(1, vI z214213), (0, .ref r0)]) rfl rfl rfl ?_)
    refine wp_of e276 c276_22 (rw_iload_n (pc' := 23) (z := z214213) rfl rfl ?_)
    refine wp_of e276 c276_23 (rw_if_ne (p1 := 39) (p2 := 26) (by decide) rfl ⟨by omega, by omega⟩ (fun c214216 => ?_) (fun c214216 => ?_))
    · refine wp_of e276 c276_39 (rw_iload_n (pc' := 40) (z := z214213) rfl rfl ?_)
      refine wp_of e276 c276_40 (rw_if_ne (p1 := 52) (p2 := 43) (by decide) rfl ⟨by omega, by omega⟩ (fun c214217 => ?_) (fun c214217 => ?_))
      · refine wp_of e276 c276_52 (rw_iload_n (pc' := 53) (z := z214213) rfl rfl ?_)
        refine wp_of e276 c276_53 (rw_if_le (p1 := 62) (p2 := 56) (by decide) rfl ⟨by omega, by omega⟩ (fun c214218 => ?_) (fun c214218 => ?_))
        · exfalso
          omega
        · refine wp_of e276 c276_56 (rw_aload_n (pc' := 57) (v := .ref r0) rfl rfl rfl ?_)
          refine wp_of e276 c276_57 (rw_iload_n (pc' := 58) (z := z214213) rfl rfl ?_)
          refine wp_of e276 c276_58 (xc_V (pc' := 61) (r := r0) (as := [vI z214213]) (st := []) (lm_9_54) rfl rfl (Nat.le_of_ble_eq_true rfl) w214207 g0 sh_42 (by decide) rfl (by decide) (s_170 w214207 g0 ⟨by omega, by omega⟩) (fun R214219 T214220 H214221 p214222 => ?_))
          obtain ⟨e214223, w214225, f214226, z214228, e214224, b214229, p214227⟩ := p214222
          subst e214223
          subst e214224
          have f214230 := f214215.tr f214226 rfl
          show wp _ _ 276 61 [(1, vI z214213), (0, .ref r0)] [vI z214228] _ H214221 _
          have k214231 : wKI H214221 r0 = wKI H214203 r0 := (wKI_fr w214207 g0 f214226 rfl)
          exact wp_ireturn e276 c276_61 rfl ⟨rfl, w214225, f214230, z214228, rfl, ⟨by omega, by omega⟩, by omega, by omega⟩
      · exfalso
        omega
    · exfalso
      omega
  · refine wp_of e276 c276_10 (rw_ifnull_r (p1 := 17) (p2 := 13) (by decide) rfl ?_)
    refine wp_of e276 c276_13 (rw_iconst (pc' := 14) rfl ?_)
    refine wp_of e276 c276_14 (rw_goto (p1 := 18) (by decide) ?_)
    have k214232 : wKI H214192 r0 = wKI H r0 := (wKI_fr hW g0 ((wfr.rf (l := [(42, 0)])).put' e214193 g0 rfl) rfl)
    refine wp_of e276 c276_18 (xc_V (pc' := 21) (r := r0) (as := [vI 1]) (st := []) (lm_9_433) rfl rfl (Nat.le_of_ble_eq_true rfl) w214194 g0 sh_42 (by decide) rfl (by decide) (s_241 w214194 g0 ⟨by omega, by omega⟩ (by omega) (by omega)) (fun R214233 T214234 H214235 p214236 => ?_))
    obtain ⟨e214237, w214239, f214240, z214245, e214238, b214246, p214241, p214242, p214243, p214244⟩ := p214236
    subst e214237
    subst e214238
    have f214247 := f214195.tr f214240 rfl
    show wp _ _ 276 21 [(0, .ref r0)] [vI z214245] _ H214235 _
    refine wp_of e276 c276_21 (rw_istore_n (pc' := 22) (z := z214245) (L' := [(1, vI z214245), (0, .ref r0)]) rfl rfl rfl ?_)
    refine wp_of e276 c276_22 (rw_iload_n (pc' := 23) (z := z214245) rfl rfl ?_)
    refine wp_of e276 c276_23 (rw_if_ne (p1 := 39) (p2 := 26) (by decide) rfl ⟨by omega, by omega⟩ (fun c214248 => ?_) (fun c214248 => ?_))
    · refine wp_of e276 c276_39 (rw_iload_n (pc' := 40) (z := z214245) rfl rfl ?_)
      refine wp_of e276 c276_40 (rw_if_ne (p1 := 52) (p2 := 43) (by decide) rfl ⟨by omega, by omega⟩ (fun c214249 => ?_) (fun c214249 => ?_))
      · refine wp_of e276 c276_52 (rw_iload_n (pc' := 53) (z := z214245) rfl rfl ?_)
        refine wp_of e276 c276_53 (rw_if_le (p1 := 62) (p2 := 56) (by decide) rfl ⟨by omega, by omega⟩ (fun c214250 => ?_) (fun c214250 => ?_))
        · exfalso
          omega
        · refine wp_of e276 c276_56 (rw_aload_n (pc' := 57) (v := .ref r0) rfl rfl rfl ?_)
          refine wp_of e276 c276_57 (rw_iload_n (pc' := 58) (z := z214245) rfl rfl ?_)
          refine wp_of e276 c276_58 (xc_V (pc' := 61) (r := r0) (as := [vI z214245]) (st := []) (lm_9_54) rfl rfl (Nat.le_of_ble_eq_true rfl) w214239 g0 sh_42 (by decide) rfl (by decide) (s_170 w214239 g0 ⟨by omega, by omega⟩) (fun R214251 T214252 H214253 p214254 => ?_))
          obtain ⟨e214255, w214257, f214258, z214260, e214256, b214261, p214259⟩ := p214254
          subst e214255
          subst e214256
          have f214262 := f214247.tr f214258 rfl
          show wp _ _ 276 61 [(1, vI z214245), (0, .ref r0)] [vI z214260] _ H214253 _
          have k214263 : wKI H214253 r0 = wKI H214235 r0 := (wKI_fr w214239 g0 f214258 rfl)
          exact wp_ireturn e276 c276_61 rfl ⟨rfl, w214257, f214262, z214260, rfl, ⟨by omega, by omega⟩, by omega, by omega⟩
      · exfalso
        omega
    · refine wp_of e276 c276_26 (rw_aload_n (pc' := 27) (v := .ref r0) rfl rfl rfl ?_)
      have k214264 : H214235 r0 3 = H214192 r0 3 := (f214240 r0 3 _ g0 rfl)
      have q214265 : H214235 r0 3 = (r214197 : Int) := k214264.trans q214198
      refine wp_of e276 c276_27 (xc_V (pc' := 30) (r := r0) (as := []) (st := []) (lm_9_376) rfl rfl (Nat.le_of_ble_eq_true rfl) w214239 g0 sh_42 (by decide) rfl (by decide) (s_220 w214239 g0 q214265 g214199) (fun R214266 T214267 H214268 p214269 => ?_))
      obtain ⟨e214270, e214272, z214274, e214271, b214275, p214273⟩ := p214269
      subst e214270
      subst e214271
      subst e214272
      show wp _ _ 276 30 [(1, vI z214245), (0, .ref r0)] [vL z214274] _ H214235 _
      refine wp_of e276 c276_30 (rw_ldc2 (pc' := 33) (z := 5000) rfl rfl rfl ?_)
      refine wp_of e276 c276_33 (rw_lcmp (pc' := 34) rfl ⟨by omega, by omega⟩ ⟨by omega, by omega⟩ ?_)
      have b214276 := wq_cmp_b z214274 5000
      refine wp_of e276 c276_34 (rw_if_le (p1 := 39) (p2 := 37) (by decide) rfl ⟨by omega, by omega⟩ (fun c214277 => ?_) (fun c214277 => ?_))
      · refine wp_of e276 c276_39 (rw_iload_n (pc' := 40) (z := z214245) rfl rfl ?_)
        refine wp_of e276 c276_40 (rw_if_ne (p1 := 52) (p2 := 43) (by decide) rfl ⟨by omega, by omega⟩ (fun c214278 => ?_) (fun c214278 => ?_))
        · exfalso
          omega
        · refine wp_of e276 c276_43 (rw_aload_n (pc' := 44) (v := .ref r0) rfl rfl rfl ?_)
          refine wp_of e276 c276_44 (xg_I (pc' := 47) lf_9_422 w214239 g0 sh_42 (by decide) (by decide) ty_42_29 rfl rfl (fun b214279 b214280 => ?_))
          refine wp_of e276 c276_47 (rw_if_le (p1 := 52) (p2 := 50) (by decide) rfl ⟨by omega, by omega⟩ (fun c214281 => ?_) (fun c214281 => ?_))
          · refine wp_of e276 c276_52 (rw_iload_n (pc' := 53) (z := z214245) rfl rfl ?_)
            refine wp_of e276 c276_53 (rw_if_le (p1 := 62) (p2 := 56) (by decide) rfl ⟨by omega, by omega⟩ (fun c214282 => ?_) (fun c214282 => ?_))
            · refine wp_of e276 c276_62 (rw_aload_n (pc' := 63) (v := .ref r0) rfl rfl rfl ?_)
              refine wp_of e276 c276_63 (xc_V (pc' := 66) (r := r0) (as := []) (st := []) (lm_9_357) rfl rfl (Nat.le_of_ble_eq_true rfl) w214239 g0 sh_42 (by decide) rfl (by decide) (s_207 w214239 g0) (fun R214283 T214284 H214285 p214286 => ?_))
              obtain ⟨e214287, e214289, z214290, e214288, b214291⟩ := p214286
              subst e214287
              subst e214288
              subst e214289
              show wp _ _ 276 66 [(1, vI z214245), (0, .ref r0)] [vI z214290] _ H214235 _
              refine wp_of e276 c276_66 (rw_istore_n (pc' := 67) (z := z214290) (L' := [(2, vI z214290), (1, vI z214245), (0, .ref r0)]) rfl rfl rfl ?_)
              refine wp_of e276 c276_67 (rw_iconst (pc' := 68) rfl ?_)
              refine wp_of e276 c276_68 (rw_istore_n (pc' := 69) (z := 0) (L' := [(3, vI 0), (2, vI z214290), (1, vI z214245), (0, .ref r0)]) rfl rfl rfl ?_)
              have lp214372 : ∀ (n214373 : Nat) (v214375 : Int) (H214376 : wq_H), WT T H214376 → wfr [(51, 999)] T H214235 H214376 → (0 ≤ v214375 ∧ v214375 ≤ 4) → (4 - v214375).toNat = n214373 → wp kt 7 276 69 [(3, vI v214375), (2, vI z214290), (0, .ref r0)] [] T H214376 (q_276 r0 T H) := by
                intro n214373
                induction n214373 using Nat.strongRecOn with
                | _ n214373 ih214374 =>
                  intro v214375 H214376 w214377 f214378 b214379 m214380
                  have f214381 := f214247.tr f214378 rfl
                  refine wp_of e276 c276_69 (rw_iload_n (pc' := 70) (z := v214375) rfl rfl ?_)
                  refine wp_of e276 c276_70 (rw_iconst (pc' := 71) rfl ?_)
                  refine wp_of e276 c276_71 (rw_icmp_ge (p1 := 101) (p2 := 74) (by decide) rfl ⟨by omega, by omega⟩ ⟨by omega, by omega⟩ (fun c214382 => ?_) (fun c214382 => ?_))
                  · refine wp_of e276 c276_101 (rw_aload_n (pc' := 102) (v := .ref r0) rfl rfl rfl ?_)
                    refine wp_of e276 c276_102 (rw_bipush (pc' := 104) (z := -2) rfl (by decide) ?_)
                    refine wp_of e276 c276_104 (xc_V (pc' := 107) (r := r0) (as := [vI (-2)]) (st := []) (lm_9_58) rfl rfl (Nat.le_of_ble_eq_true rfl) w214377 g0 sh_42 (by decide) rfl (by decide) (s_209 w214377 g0 ⟨by omega, by omega⟩) (fun R214383 T214384 H214385 p214386 => ?_))
                    obtain ⟨e214387, w214389, f214390, z214392, e214388, b214393, p214391⟩ := p214386
                    subst e214387
                    subst e214388
                    have f214394 := f214381.tr f214390 rfl
                    show wp _ _ 276 107 [(3, vI v214375), (2, vI z214290), (0, .ref r0)] [vI z214392] _ H214385 _
                    have k214395 : wKI H214385 r0 = wKI H214235 r0 := ((wKI_fr w214377 g0 f214390 rfl).trans (wKI_fr w214239 g0 f214378 rfl))
                    exact wp_ireturn e276 c276_107 rfl ⟨rfl, w214389, f214394, z214392, rfl, ⟨by omega, by omega⟩, by omega, by omega⟩
                  · refine wp_of e276 c276_74 (rw_aload_n (pc' := 75) (v := .ref r0) rfl rfl rfl ?_)
                    refine wp_of e276 c276_75 (rw_iload_n (pc' := 76) (z := z214290) rfl rfl ?_)
                    refine wp_of e276 c276_76 (rw_iload_n (pc' := 77) (z := v214375) rfl rfl ?_)
                    have k214396 : wLM H214376 r0 = wLM H214235 r0 := (wLM_fr w214239 g0 f214378 rfl)
                    have k214397 : H214376 r0 3 = H214235 r0 3 := (f214378 r0 3 _ g0 rfl)
                    have q214398 : H214376 r0 3 = (r214197 : Int) := k214397.trans q214265
                    refine wp_of e276 c276_77 (xc_V (pc' := 80) (r := r0) (as := [vI z214290, vI v214375]) (st := []) (lm_9_481) rfl rfl (Nat.le_of_ble_eq_true rfl) w214377 g0 sh_42 (by decide) rfl (by decide) (s_277 w214377 g0 ⟨by omega, by omega⟩ ⟨by omega, by omega⟩ q214398 g214199 (by omega)) (fun R214399 T214400 H214401 p214402 => ?_))
                    obtain ⟨e214403, w214405, f214406, z214407, e214404, b214408⟩ := p214402
                    subst e214403
                    subst e214404
                    have f214409 := f214381.tr f214406 rfl
                    have f214410 := f214378.tr f214406 rfl
                    show wp _ _ 276 80 [(3, vI v214375), (2, vI z214290), (0, .ref r0)] [vI z214407] _ H214401 _
                    refine wp_of e276 c276_80 (rw_istore (pc' := 82) (z := z214407) (L' := [(4, vI z214407), (3, vI v214375), (2, vI z214290), (0, .ref r0)]) rfl rfl rfl ?_)
                    refine wp_of e276 c276_82 (rw_iload (pc' := 84) (z := z214407) rfl rfl ?_)
                    refine wp_of e276 c276_84 (rw_iconst (pc' := 85) rfl ?_)
                    refine wp_of e276 c276_85 (rw_icmp_eq (p1 := 95) (p2 := 88) (by decide) rfl ⟨by omega, by omega⟩ ⟨by omega, by omega⟩ (fun c214411 => ?_) (fun c214411 => ?_))
                    · refine wp_of e276 c276_95 (rw_iinc (pc' := 98) (z := v214375) (L' := [(3, vI (v214375 + 1)), (4, vI z214407), (2, vI z214290), (0, .ref r0)]) rfl rfl rfl rfl ?_)
                      refine wp_of e276 c276_98 (rw_goto (p1 := 69) (by decide) ?_)
                      exact wp_lc (ks := [3, 4, 2, 0]) (wl_c rfl (wl_c rfl (wl_c rfl wl_n))) rfl (by decide) (ih214374 _ (by omega) (v214375 + 1) H214401 w214405 f214410 ⟨by omega, by omega⟩ rfl)
                    · refine wp_of e276 c276_88 (rw_aload_n (pc' := 89) (v := .ref r0) rfl rfl rfl ?_)
                      refine wp_of e276 c276_89 (rw_iload (pc' := 91) (z := z214407) rfl rfl ?_)
                      refine wp_of e276 c276_91 (xc_V (pc' := 94) (r := r0) (as := [vI z214407]) (st := []) (lm_9_58) rfl rfl (Nat.le_of_ble_eq_true rfl) w214405 g0 sh_42 (by decide) rfl (by decide) (s_209 w214405 g0 ⟨by omega, by omega⟩) (fun R214412 T214413 H214414 p214415 => ?_))
                      obtain ⟨e214416, w214418, f214419, z214421, e214417, b214422, p214420⟩ := p214415
                      subst e214416
                      subst e214417
                      have f214423 := f214409.tr f214419 rfl
                      show wp _ _ 276 94 [(4, vI z214407), (3, vI v214375), (2, vI z214290), (0, .ref r0)] [vI z214421] _ H214414 _
                      have k214424 : wKI H214414 r0 = wKI H214235 r0 := ((wKI_fr w214405 g0 f214419 rfl).trans ((wKI_fr w214377 g0 f214406 rfl).trans (wKI_fr w214239 g0 f214378 rfl)))
                      exact wp_ireturn e276 c276_94 rfl ⟨rfl, w214418, f214423, z214421, rfl, ⟨by omega, by omega⟩, by omega, by omega⟩
              exact wp_lc (ks := [3, 2, 1, 0]) (wl_c rfl (wl_c rfl (wl_c rfl wl_n))) rfl (by decide) (lp214372 _ 0 H214235 w214239 wfr.rf ⟨by omega, by omega⟩ rfl)
            · exfalso
              omega
          · refine wp_of e276 c276_50 (rw_iconst (pc' := 51) rfl ?_)
            refine wp_of e276 c276_51 (rw_istore_n (pc' := 52) (z := 5) (L' := [(1, vI 5), (0, .ref r0)]) rfl rfl rfl ?_)
            refine wp_of e276 c276_52 (rw_iload_n (pc' := 53) (z := 5) rfl rfl ?_)
            refine wp_of e276 c276_53 (rw_if_le (p1 := 62) (p2 := 56) (by decide) rfl ⟨by omega, by omega⟩ (fun c214425 => ?_) (fun c214425 => ?_))
            · exfalso
              omega
            · refine wp_of e276 c276_56 (rw_aload_n (pc' := 57) (v := .ref r0) rfl rfl rfl ?_)
              refine wp_of e276 c276_57 (rw_iload_n (pc' := 58) (z := 5) rfl rfl ?_)
              refine wp_of e276 c276_58 (xc_V (pc' := 61) (r := r0) (as := [vI 5]) (st := []) (lm_9_54) rfl rfl (Nat.le_of_ble_eq_true rfl) w214239 g0 sh_42 (by decide) rfl (by decide) (s_170 w214239 g0 ⟨by omega, by omega⟩) (fun R214426 T214427 H214428 p214429 => ?_))
              obtain ⟨e214430, w214432, f214433, z214435, e214431, b214436, p214434⟩ := p214429
              subst e214430
              subst e214431
              have f214437 := f214247.tr f214433 rfl
              show wp _ _ 276 61 [(1, vI 5), (0, .ref r0)] [vI z214435] _ H214428 _
              have k214438 : wKI H214428 r0 = wKI H214235 r0 := (wKI_fr w214239 g0 f214433 rfl)
              exact wp_ireturn e276 c276_61 rfl ⟨rfl, w214432, f214437, z214435, rfl, ⟨by omega, by omega⟩, by omega, by omega⟩
      · refine wp_of e276 c276_37 (rw_iconst (pc' := 38) rfl ?_)
        refine wp_of e276 c276_38 (rw_istore_n (pc' := 39) (z := 3) (L' := [(1, vI 3), (0, .ref r0)]) rfl rfl rfl ?_)
        refine wp_of e276 c276_39 (rw_iload_n (pc' := 40) (z := 3) rfl rfl ?_)
        refine wp_of e276 c276_40 (rw_if_ne (p1 := 52) (p2 := 43) (by decide) rfl ⟨by omega, by omega⟩ (fun c214439 => ?_) (fun c214439 => ?_))
        · refine wp_of e276 c276_52 (rw_iload_n (pc' := 53) (z := 3) rfl rfl ?_)
          refine wp_of e276 c276_53 (rw_if_le (p1 := 62) (p2 := 56) (by decide) rfl ⟨by omega, by omega⟩ (fun c214440 => ?_) (fun c214440 => ?_))
          · exfalso
            omega
          · refine wp_of e276 c276_56 (rw_aload_n (pc' := 57) (v := .ref r0) rfl rfl rfl ?_)
            refine wp_of e276 c276_57 (rw_iload_n (pc' := 58) (z := 3) rfl rfl ?_)
            refine wp_of e276 c276_58 (xc_V (pc' := 61) (r := r0) (as := [vI 3]) (st := []) (lm_9_54) rfl rfl (Nat.le_of_ble_eq_true rfl) w214239 g0 sh_42 (by decide) rfl (by decide) (s_170 w214239 g0 ⟨by omega, by omega⟩) (fun R214441 T214442 H214443 p214444 => ?_))
            obtain ⟨e214445, w214447, f214448, z214450, e214446, b214451, p214449⟩ := p214444
            subst e214445
            subst e214446
            have f214452 := f214247.tr f214448 rfl
            show wp _ _ 276 61 [(1, vI 3), (0, .ref r0)] [vI z214450] _ H214443 _
            have k214453 : wKI H214443 r0 = wKI H214235 r0 := (wKI_fr w214239 g0 f214448 rfl)
            exact wp_ireturn e276 c276_61 rfl ⟨rfl, w214447, f214452, z214450, rfl, ⟨by omega, by omega⟩, by omega, by omega⟩
        · exfalso
          omega
/-! StrikeAwakeModel.isStruck(I)Z -/
theorem e280 : wq_en 280 = some (9, 2, false, some FieldType.boolean) := rfl
theorem c280_0 : mc_cd 280 0 = some (.aload_n 0, 1) := by decide +kernel
theorem c280_1 : mc_cd 280 1 = some (.iload_n 1, 1) := by decide +kernel
theorem c280_2 : mc_cd 280 2 = some (.invokevirtual 373, 3) := by decide +kernel
theorem c280_5 : mc_cd 280 5 = some (.ifCond .eq 16, 3) := by decide +kernel
theorem c280_8 : mc_cd 280 8 = some (.aload_n 0, 1) := by decide +kernel
theorem c280_9 : mc_cd 280 9 = some (.getfield 17, 3) := by decide +kernel
theorem c280_12 : mc_cd 280 12 = some (.iload_n 1, 1) := by decide +kernel
theorem c280_13 : mc_cd 280 13 = some (.iaload, 1) := by decide +kernel
theorem c280_14 : mc_cd 280 14 = some (.ifCond .le 7, 3) := by decide +kernel
theorem c280_17 : mc_cd 280 17 = some (.iconst 1, 1) := by decide +kernel
theorem c280_18 : mc_cd 280 18 = some (.goto 4, 3) := by decide +kernel
theorem c280_21 : mc_cd 280 21 = some (.iconst 0, 1) := by decide +kernel
theorem c280_22 : mc_cd 280 22 = some (.ireturn, 1) := by decide +kernel
abbrev q_280 (r0 : Nat) (a1 : Int) (T : wq_T) (H : wq_H) : Option Value → wq_T → wq_H → Prop := fun r T' H' => T = T' ∧ H = H' ∧ ∃ z : Int, some (vI z) = r ∧ (0 ≤ z ∧ z ≤ 1) ∧ (z = 0 ∨ (H r0 3 ≠ -1 ∧ 0 ≤ a1 ∧ a1 ≤ 23))
set_option maxHeartbeats 4000000 in
theorem s_280 {kt : Nat → Option mc_E} {T : wq_T} {H : wq_H} {r0 : Nat} {a1 : Int} (hW : WT T H) (g0 : T.2.2.2 r0 = some 42) (i1 : (-2147483648) ≤ a1 ∧ a1 ≤ 2147483647) : wpc kt 2 280 [.ref r0, vI a1] T H (q_280 r0 a1 T H) := by
  refine wp_enter e280 (Nat.le_of_ble_eq_true rfl) rfl ?_
  show wp _ _ 280 0 [(0, .ref r0), (1, vI a1)] [] _ H _
  refine wp_of e280 c280_0 (rw_aload_n (pc' := 1) (v := .ref r0) rfl rfl rfl ?_)
  refine wp_of e280 c280_1 (rw_iload_n (pc' := 2) (z := a1) rfl rfl ?_)
  refine wp_of e280 c280_2 (xc_V (pc' := 5) (r := r0) (as := [vI a1]) (st := []) (lm_9_373) rfl rfl (Nat.le_of_ble_eq_true rfl) hW g0 sh_42 (by decide) rfl (by decide) (s_218 hW g0 ⟨by omega, by omega⟩) (fun R214471 T214472 H214473 p214474 => ?_))
  obtain ⟨e214475, e214477, z214479, e214476, b214480, p214478⟩ := p214474
  subst e214475
  subst e214476
  subst e214477
  show wp _ _ 280 5 [(0, .ref r0), (1, vI a1)] [vI z214479] _ H _
  refine wp_of e280 c280_5 (rw_if_eq (p1 := 21) (p2 := 8) (by decide) rfl ⟨by omega, by omega⟩ (fun c214481 => ?_) (fun c214481 => ?_))
  · refine wp_of e280 c280_21 (rw_iconst (pc' := 22) rfl ?_)
    exact wp_zreturn e280 c280_22 rfl (by omega) ⟨rfl, rfl, 0, rfl, ⟨by omega, by omega⟩, by omega⟩
  · refine wp_of e280 c280_8 (rw_aload_n (pc' := 9) (v := .ref r0) rfl rfl rfl ?_)
    refine wp_of e280 c280_9 (xg_R (pc' := 12) lf_9_17 hW g0 sh_42 (by decide) (by decide) ty_42_20 rfl rfl (fun r214482 q214483 g214484 => ?_))
    refine wp_of e280 c280_12 (rw_iload_n (pc' := 13) (z := a1) rfl rfl ?_)
    refine wp_of e280 c280_13 (xa_I (so := 0) (pc' := 14) hW g214484 sh_44 (by decide) (ty_44 _) (by omega) (by omega) rfl (fun b214485 b214486 => ?_))
    refine wp_of e280 c280_14 (rw_if_le (p1 := 21) (p2 := 17) (by decide) rfl ⟨by omega, by omega⟩ (fun c214487 => ?_) (fun c214487 => ?_))
    · refine wp_of e280 c280_21 (rw_iconst (pc' := 22) rfl ?_)
      exact wp_zreturn e280 c280_22 rfl (by omega) ⟨rfl, rfl, 0, rfl, ⟨by omega, by omega⟩, by omega⟩
    · refine wp_of e280 c280_17 (rw_iconst (pc' := 18) rfl ?_)
      refine wp_of e280 c280_18 (rw_goto (p1 := 22) (by decide) ?_)
      exact wp_zreturn e280 c280_22 rfl (by omega) ⟨rfl, rfl, 1, rfl, ⟨by omega, by omega⟩, by omega⟩
/-! StrikeAwakeModel.lost(I)I -/
theorem e281 : wq_en 281 = some (9, 2, false, some FieldType.int) := rfl
theorem c281_0 : mc_cd 281 0 = some (.aload_n 0, 1) := by decide +kernel
theorem c281_1 : mc_cd 281 1 = some (.iload_n 1, 1) := by decide +kernel
theorem c281_2 : mc_cd 281 2 = some (.invokevirtual 54, 3) := by decide +kernel
theorem c281_5 : mc_cd 281 5 = some (.pop, 1) := by decide +kernel
theorem c281_6 : mc_cd 281 6 = some (.sipush (-1000), 3) := by decide +kernel
theorem c281_9 : mc_cd 281 9 = some (.ireturn, 1) := by decide +kernel
abbrev q_281 (r0 : Nat) (a1 : Int) (T : wq_T) (H : wq_H) : Option Value → wq_T → wq_H → Prop := fun r T' H' => T = T' ∧ WT T H' ∧ wfr [(42, 1), (42, 2)] T H H' ∧ ∃ z : Int, some (vI z) = r ∧ ((-2147483648) ≤ z ∧ z ≤ 2147483647) ∧ (H' r0 2 = -1)
set_option maxHeartbeats 4000000 in
theorem s_281 {kt : Nat → Option mc_E} {T : wq_T} {H : wq_H} {r0 : Nat} {a1 : Int} (hW : WT T H) (g0 : T.2.2.2 r0 = some 42) (i1 : (-2147483648) ≤ a1 ∧ a1 ≤ 2147483647) : wpc kt 2 281 [.ref r0, vI a1] T H (q_281 r0 a1 T H) := by
  refine wp_enter e281 (Nat.le_of_ble_eq_true rfl) rfl ?_
  have f0 : wfr [(42, 1), (42, 2)] T H H := wfr.rf
  show wp _ _ 281 0 [(0, .ref r0), (1, vI a1)] [] _ H _
  refine wp_of e281 c281_0 (rw_aload_n (pc' := 1) (v := .ref r0) rfl rfl rfl ?_)
  refine wp_of e281 c281_1 (rw_iload_n (pc' := 2) (z := a1) rfl rfl ?_)
  refine wp_of e281 c281_2 (xc_V (pc' := 5) (r := r0) (as := [vI a1]) (st := []) (lm_9_54) rfl rfl (Nat.le_of_ble_eq_true rfl) hW g0 sh_42 (by decide) rfl (by decide) (s_170 hW g0 ⟨by omega, by omega⟩) (fun R214500 T214501 H214502 p214503 => ?_))
  obtain ⟨e214504, w214506, f214507, z214509, e214505, b214510, p214508⟩ := p214503
  subst e214504
  subst e214505
  have f214511 := f0.tr f214507 rfl
  show wp _ _ 281 5 [(0, .ref r0), (1, vI a1)] [vI z214509] _ H214502 _
  refine wp_of e281 c281_5 (rw_pop (pc' := 6) rfl rfl ?_)
  refine wp_of e281 c281_6 (rw_sipush (pc' := 9) (z := -1000) rfl (by decide) ?_)
  exact wp_ireturn e281 c281_9 rfl ⟨rfl, w214506, f214511, -1000, rfl, ⟨by omega, by omega⟩, by omega⟩
