/-! methods of the reference (own work, written by wip/gen2/sx.py) -/
/-! StrikeAwakeModel.likeliest(I)I -/
theorem e256 : wq_en 256 = some (9, 3, false, some FieldType.int) := rfl
theorem c256_0 : mc_cd 256 0 = some (.aload_n 0, 1) := by decide +kernel
theorem c256_1 : mc_cd 256 1 = some (.iconst 0, 1) := by decide +kernel
theorem c256_2 : mc_cd 256 2 = some (.putfield 48, 3) := by decide +kernel
theorem c256_5 : mc_cd 256 5 = some (.aload_n 0, 1) := by decide +kernel
theorem c256_6 : mc_cd 256 6 = some (.aload_n 0, 1) := by decide +kernel
theorem c256_7 : mc_cd 256 7 = some (.iload_n 1, 1) := by decide +kernel
theorem c256_8 : mc_cd 256 8 = some (.invokevirtual 364, 3) := by decide +kernel
theorem c256_11 : mc_cd 256 11 = some (.invokevirtual 447, 3) := by decide +kernel
theorem c256_14 : mc_cd 256 14 = some (.istore_n 2, 1) := by decide +kernel
theorem c256_15 : mc_cd 256 15 = some (.iload_n 2, 1) := by decide +kernel
theorem c256_16 : mc_cd 256 16 = some (.ifCond .le 9, 3) := by decide +kernel
theorem c256_19 : mc_cd 256 19 = some (.aload_n 0, 1) := by decide +kernel
theorem c256_20 : mc_cd 256 20 = some (.iload_n 2, 1) := by decide +kernel
theorem c256_21 : mc_cd 256 21 = some (.invokevirtual 54, 3) := by decide +kernel
theorem c256_24 : mc_cd 256 24 = some (.ireturn, 1) := by decide +kernel
theorem c256_25 : mc_cd 256 25 = some (.aload_n 0, 1) := by decide +kernel
theorem c256_26 : mc_cd 256 26 = some (.invokevirtual 452, 3) := by decide +kernel
theorem c256_29 : mc_cd 256 29 = some (.pop2, 1) := by decide +kernel
theorem c256_30 : mc_cd 256 30 = some (.aload_n 0, 1) := by decide +kernel
theorem c256_31 : mc_cd 256 31 = some (.aload_n 0, 1) := by decide +kernel
theorem c256_32 : mc_cd 256 32 = some (.getfield 39, 3) := by decide +kernel
theorem c256_35 : mc_cd 256 35 = some (.iload_n 1, 1) := by decide +kernel
theorem c256_36 : mc_cd 256 36 = some (.iaload, 1) := by decide +kernel
theorem c256_37 : mc_cd 256 37 = some (.invokevirtual 58, 3) := by decide +kernel
theorem c256_40 : mc_cd 256 40 = some (.ireturn, 1) := by decide +kernel
abbrev q_256 (r0 : Nat) (a1 : Int) (T : wq_T) (H : wq_H) : Option Value → wq_T → wq_H → Prop := fun r T' H' => T = T' ∧ WT T H' ∧ wfr [(42, 0), (42, 1), (42, 2), (42, 28), (42, 29), (51, 999), (52, 999)] T H H' ∧ ∃ z : Int, some (vI z) = r ∧ ((-2147483648) ≤ z ∧ z ≤ 2147483647) ∧ (wKI H' r0 = 1)
set_option maxHeartbeats 4000000 in
theorem s_256 {kt : Nat → Option mc_E} {T : wq_T} {H : wq_H} {r0 : Nat} {a1 : Int} (hW : WT T H) (g0 : T.2.2.2 r0 = some 42) (i1 : (-2147483648) ≤ a1 ∧ a1 ≤ 2147483647) (p0 : wKI H r0 = 1) : wpc kt 9 256 [.ref r0, vI a1] T H (q_256 r0 a1 T H) := by
  refine wp_enter e256 (Nat.le_of_ble_eq_true rfl) rfl ?_
  have f0 : wfr [(42, 0), (42, 1), (42, 2), (42, 28), (42, 29), (51, 999), (52, 999)] T H H := wfr.rf
  show wp _ _ 256 0 [(0, .ref r0), (1, vI a1)] [] _ H _
  refine wp_of e256 c256_0 (rw_aload_n (pc' := 1) (v := .ref r0) rfl rfl rfl ?_)
  refine wp_of e256 c256_1 (rw_iconst (pc' := 2) rfl ?_)
  refine wp_of e256 c256_2 (xp_I (pc' := 5) lf_9_48 hW g0 sh_42 (by decide) (by decide) ty_42_0 rfl rfl (by omega) (by omega) ⟨by omega, by omega⟩ rfl (fun H138761 e138762 w138763 => ?_))
  have f138764 := f0.put' e138762 g0 rfl
  have k138765 : H138761 r0 0 = 0 := wq_u_s e138762
  refine wp_of e256 c256_5 (rw_aload_n (pc' := 6) (v := .ref r0) rfl rfl rfl ?_)
  refine wp_of e256 c256_6 (rw_aload_n (pc' := 7) (v := .ref r0) rfl rfl rfl ?_)
  refine wp_of e256 c256_7 (rw_iload_n (pc' := 8) (z := a1) rfl rfl ?_)
  refine wp_of e256 c256_8 (xc_V (pc' := 11) (r := r0) (as := [vI a1]) (st := [.ref r0]) (lm_9_364) rfl rfl (Nat.le_of_ble_eq_true rfl) w138763 g0 sh_42 (by decide) rfl (by decide) (s_213 w138763 g0 ⟨by omega, by omega⟩) (fun R138766 T138767 H138768 p138769 => ?_))
  obtain ⟨e138770, e138772, z138774, e138771, b138775, p138773⟩ := p138769
  subst e138770
  subst e138771
  subst e138772
  show wp _ _ 256 11 [(0, .ref r0), (1, vI a1)] [vI z138774, .ref r0] _ H138761 _
  have k138776 : wKI H138761 r0 = wKI H r0 := (wKI_fr hW g0 ((wfr.rf (l := [(42, 0)])).put' e138762 g0 rfl) rfl)
  refine wp_of e256 c256_11 (xc_V (pc' := 14) (r := r0) (as := [vI z138774]) (st := []) (lm_9_447) rfl rfl (Nat.le_of_ble_eq_true rfl) w138763 g0 sh_42 (by decide) rfl (by decide) (s_253 w138763 g0 ⟨by omega, by omega⟩ (by omega) (by omega)) (fun R138777 T138778 H138779 p138780 => ?_))
  obtain ⟨e138781, w138783, f138784, z138789, e138782, b138790, p138785, p138786, p138787, p138788⟩ := p138780
  subst e138781
  subst e138782
  have f138791 := f138764.tr f138784 rfl
  show wp _ _ 256 14 [(0, .ref r0), (1, vI a1)] [vI z138789] _ H138779 _
  refine wp_of e256 c256_14 (rw_istore_n (pc' := 15) (z := z138789) (L' := [(2, vI z138789), (0, .ref r0), (1, vI a1)]) rfl rfl rfl ?_)
  refine wp_of e256 c256_15 (rw_iload_n (pc' := 16) (z := z138789) rfl rfl ?_)
  refine wp_of e256 c256_16 (rw_if_le (p1 := 25) (p2 := 19) (by decide) rfl ⟨by omega, by omega⟩ (fun c138792 => ?_) (fun c138792 => ?_))
  · refine wp_of e256 c256_25 (rw_aload_n (pc' := 26) (v := .ref r0) rfl rfl rfl ?_)
    have k138793 : H138779 r0 3 = H138761 r0 3 := (f138784 r0 3 _ g0 rfl)
    obtain ⟨r138794, q138795, g138796⟩ := (w138783.opt g0 (t' := 54) (n := 33) (j := 3) (p := 0) (q := 0) rfl (by decide) rfl).resolve_left (by omega)
    refine wp_of e256 c256_26 (xc_V (pc' := 29) (r := r0) (as := []) (st := []) (lm_9_452) rfl rfl (Nat.le_of_ble_eq_true rfl) w138783 g0 sh_42 (by decide) rfl (by decide) (s_257 w138783 g0 q138795 g138796 (by omega) (by omega)) (fun R138797 T138798 H138799 p138800 => ?_))
    obtain ⟨e138801, w138803, f138804, z138805, e138802, b138806⟩ := p138800
    subst e138801
    subst e138802
    have f138807 := f138791.tr f138804 rfl
    show wp _ _ 256 29 [(2, vI z138789), (0, .ref r0), (1, vI a1)] [vL z138805] _ H138799 _
    refine wp_of e256 c256_29 (rw_pop2 (pc' := 30) rfl rfl ?_)
    refine wp_of e256 c256_30 (rw_aload_n (pc' := 31) (v := .ref r0) rfl rfl rfl ?_)
    refine wp_of e256 c256_31 (rw_aload_n (pc' := 32) (v := .ref r0) rfl rfl rfl ?_)
    refine wp_of e256 c256_32 (xg_R (pc' := 35) lf_9_39 w138803 g0 sh_42 (by decide) (by decide) ty_42_27 rfl rfl (fun r138808 q138809 g138810 => ?_))
    refine wp_of e256 c256_35 (rw_iload_n (pc' := 36) (z := a1) rfl rfl ?_)
    refine wp_of e256 c256_36 (xa_I (so := 0) (pc' := 37) w138803 g138810 sh_51 (by decide) (ty_51 _) (by omega) (by omega) rfl (fun b138811 b138812 => ?_))
    refine wp_of e256 c256_37 (xc_V (pc' := 40) (r := r0) (as := [vI (H138799 r138808 (a1.toNat))]) (st := []) (lm_9_58) rfl rfl (Nat.le_of_ble_eq_true rfl) w138803 g0 sh_42 (by decide) rfl (by decide) (s_209 w138803 g0 ⟨by omega, by omega⟩) (fun R138813 T138814 H138815 p138816 => ?_))
    obtain ⟨e138817, w138819, f138820, z138821, e138818, b138822⟩ := p138816
    subst e138817
    subst e138818
    have f138823 := f138807.tr f138820 rfl
    show wp _ _ 256 40 [(2, vI z138789), (0, .ref r0), (1, vI a1)] [vI z138821] _ H138815 _
    have k138824 : wKI H138815 r0 = wKI H138779 r0 := ((wKI_fr w138803 g0 f138820 rfl).trans (wKI_fr w138783 g0 f138804 rfl))
    exact wp_ireturn e256 c256_40 rfl ⟨rfl, w138819, f138823, z138821, rfl, ⟨by omega, by omega⟩, by omega⟩
  · refine wp_of e256 c256_19 (rw_aload_n (pc' := 20) (v := .ref r0) rfl rfl rfl ?_)
    refine wp_of e256 c256_20 (rw_iload_n (pc' := 21) (z := z138789) rfl rfl ?_)
    refine wp_of e256 c256_21 (xc_V (pc' := 24) (r := r0) (as := [vI z138789]) (st := []) (lm_9_54) rfl rfl (Nat.le_of_ble_eq_true rfl) w138783 g0 sh_42 (by decide) rfl (by decide) (s_170 w138783 g0 ⟨by omega, by omega⟩) (fun R138825 T138826 H138827 p138828 => ?_))
    obtain ⟨e138829, w138831, f138832, z138833, e138830, b138834⟩ := p138828
    subst e138829
    subst e138830
    have f138835 := f138791.tr f138832 rfl
    show wp _ _ 256 24 [(2, vI z138789), (0, .ref r0), (1, vI a1)] [vI z138833] _ H138827 _
    have k138836 : wKI H138827 r0 = wKI H138779 r0 := (wKI_fr w138783 g0 f138832 rfl)
    exact wp_ireturn e256 c256_24 rfl ⟨rfl, w138831, f138835, z138833, rfl, ⟨by omega, by omega⟩, by omega⟩
/-! StrikeAwakeModel.greatest()J -/
theorem e258 : wq_en 258 = some (9, 2, false, some FieldType.long) := rfl
theorem c258_0 : mc_cd 258 0 = some (.aload_n 0, 1) := by decide +kernel
theorem c258_1 : mc_cd 258 1 = some (.iconst 0, 1) := by decide +kernel
theorem c258_2 : mc_cd 258 2 = some (.putfield 48, 3) := by decide +kernel
theorem c258_5 : mc_cd 258 5 = some (.aload_n 0, 1) := by decide +kernel
theorem c258_6 : mc_cd 258 6 = some (.aload_n 0, 1) := by decide +kernel
theorem c258_7 : mc_cd 258 7 = some (.getfield 337, 3) := by decide +kernel
theorem c258_10 : mc_cd 258 10 = some (.ifnull 7, 3) := by decide +kernel
theorem c258_13 : mc_cd 258 13 = some (.iconst 1, 1) := by decide +kernel
theorem c258_14 : mc_cd 258 14 = some (.goto 4, 3) := by decide +kernel
theorem c258_17 : mc_cd 258 17 = some (.iconst 0, 1) := by decide +kernel
theorem c258_18 : mc_cd 258 18 = some (.invokevirtual 447, 3) := by decide +kernel
theorem c258_21 : mc_cd 258 21 = some (.istore_n 1, 1) := by decide +kernel
theorem c258_22 : mc_cd 258 22 = some (.iload_n 1, 1) := by decide +kernel
theorem c258_23 : mc_cd 258 23 = some (.ifCond .le 12, 3) := by decide +kernel
theorem c258_26 : mc_cd 258 26 = some (.aload_n 0, 1) := by decide +kernel
theorem c258_27 : mc_cd 258 27 = some (.iload_n 1, 1) := by decide +kernel
theorem c258_28 : mc_cd 258 28 = some (.invokevirtual 54, 3) := by decide +kernel
theorem c258_31 : mc_cd 258 31 = some (.i2l, 1) := by decide +kernel
theorem c258_32 : mc_cd 258 32 = some (.goto 11, 3) := by decide +kernel
theorem c258_35 : mc_cd 258 35 = some (.aload_n 0, 1) := by decide +kernel
theorem c258_36 : mc_cd 258 36 = some (.aload_n 0, 1) := by decide +kernel
theorem c258_37 : mc_cd 258 37 = some (.invokevirtual 452, 3) := by decide +kernel
theorem c258_40 : mc_cd 258 40 = some (.invokevirtual 380, 3) := by decide +kernel
theorem c258_43 : mc_cd 258 43 = some (.lreturn, 1) := by decide +kernel
abbrev q_258 (r0 : Nat) (T : wq_T) (H : wq_H) : Option Value → wq_T → wq_H → Prop := fun r T' H' => T = T' ∧ WT T H' ∧ wfr [(42, 0), (42, 1), (42, 2), (42, 28), (42, 29), (51, 999), (52, 999)] T H H' ∧ ∃ z : Int, some (vL z) = r ∧ ((-9223372036854775808) ≤ z ∧ z ≤ 9223372036854775807) ∧ (wKI H' r0 = 1)
set_option maxHeartbeats 4000000 in
theorem s_258 {kt : Nat → Option mc_E} {T : wq_T} {H : wq_H} {r0 : Nat} (hW : WT T H) (g0 : T.2.2.2 r0 = some 42) (p0 : wKI H r0 = 1) : wpc kt 9 258 [.ref r0] T H (q_258 r0 T H) := by
  refine wp_enter e258 (Nat.le_of_ble_eq_true rfl) rfl ?_
  have f0 : wfr [(42, 0), (42, 1), (42, 2), (42, 28), (42, 29), (51, 999), (52, 999)] T H H := wfr.rf
  show wp _ _ 258 0 [(0, .ref r0)] [] _ H _
  refine wp_of e258 c258_0 (rw_aload_n (pc' := 1) (v := .ref r0) rfl rfl rfl ?_)
  refine wp_of e258 c258_1 (rw_iconst (pc' := 2) rfl ?_)
  refine wp_of e258 c258_2 (xp_I (pc' := 5) lf_9_48 hW g0 sh_42 (by decide) (by decide) ty_42_0 rfl rfl (by omega) (by omega) ⟨by omega, by omega⟩ rfl (fun H138928 e138929 w138930 => ?_))
  have f138931 := f0.put' e138929 g0 rfl
  have k138932 : H138928 r0 0 = 0 := wq_u_s e138929
  refine wp_of e258 c258_5 (rw_aload_n (pc' := 6) (v := .ref r0) rfl rfl rfl ?_)
  refine wp_of e258 c258_6 (rw_aload_n (pc' := 7) (v := .ref r0) rfl rfl rfl ?_)
  refine wp_of e258 c258_7 (xg_O (pc' := 10) lf_9_337 w138930 g0 sh_42 (by decide) (by decide) ty_42_3 rfl rfl (fun q138934 => ?_) (fun r138933 q138934 g138935 => ?_))
  · refine wp_of e258 c258_10 (rw_ifnull_n (p1 := 17) (p2 := 13) (by decide) rfl ?_)
    refine wp_of e258 c258_17 (rw_iconst (pc' := 18) rfl ?_)
    have k138936 : wKI H138928 r0 = wKI H r0 := (wKI_fr hW g0 ((wfr.rf (l := [(42, 0)])).put' e138929 g0 rfl) rfl)
    refine wp_of e258 c258_18 (xc_V (pc' := 21) (r := r0) (as := [vI 0]) (st := []) (lm_9_447) rfl rfl (Nat.le_of_ble_eq_true rfl) w138930 g0 sh_42 (by decide) rfl (by decide) (s_253 w138930 g0 ⟨by omega, by omega⟩ (by omega) (by omega)) (fun R138937 T138938 H138939 p138940 => ?_))
    obtain ⟨e138941, w138943, f138944, z138949, e138942, b138950, p138945, p138946, p138947, p138948⟩ := p138940
    subst e138941
    subst e138942
    have f138951 := f138931.tr f138944 rfl
    show wp _ _ 258 21 [(0, .ref r0)] [vI z138949] _ H138939 _
    refine wp_of e258 c258_21 (rw_istore_n (pc' := 22) (z := z138949) (L' := [(1, vI z138949), (0, .ref r0)]) rfl rfl rfl ?_)
    refine wp_of e258 c258_22 (rw_iload_n (pc' := 23) (z := z138949) rfl rfl ?_)
    refine wp_of e258 c258_23 (rw_if_le (p1 := 35) (p2 := 26) (by decide) rfl ⟨by omega, by omega⟩ (fun c138952 => ?_) (fun c138952 => ?_))
    · exfalso
      omega
    · refine wp_of e258 c258_26 (rw_aload_n (pc' := 27) (v := .ref r0) rfl rfl rfl ?_)
      refine wp_of e258 c258_27 (rw_iload_n (pc' := 28) (z := z138949) rfl rfl ?_)
      refine wp_of e258 c258_28 (xc_V (pc' := 31) (r := r0) (as := [vI z138949]) (st := []) (lm_9_54) rfl rfl (Nat.le_of_ble_eq_true rfl) w138943 g0 sh_42 (by decide) rfl (by decide) (s_170 w138943 g0 ⟨by omega, by omega⟩) (fun R138953 T138954 H138955 p138956 => ?_))
      obtain ⟨e138957, w138959, f138960, z138961, e138958, b138962⟩ := p138956
      subst e138957
      subst e138958
      have f138963 := f138951.tr f138960 rfl
      show wp _ _ 258 31 [(1, vI z138949), (0, .ref r0)] [vI z138961] _ H138955 _
      refine wp_of e258 c258_31 (rw_i2l (pc' := 32) rfl ⟨by omega, by omega⟩ ?_)
      refine wp_of e258 c258_32 (rw_goto (p1 := 43) (by decide) ?_)
      have k138964 : wKI H138955 r0 = wKI H138939 r0 := (wKI_fr w138943 g0 f138960 rfl)
      exact wp_lreturn e258 c258_43 rfl ⟨rfl, w138959, f138963, z138961, rfl, ⟨by omega, by omega⟩, by omega⟩
  · refine wp_of e258 c258_10 (rw_ifnull_r (p1 := 17) (p2 := 13) (by decide) rfl ?_)
    refine wp_of e258 c258_13 (rw_iconst (pc' := 14) rfl ?_)
    refine wp_of e258 c258_14 (rw_goto (p1 := 18) (by decide) ?_)
    have k138965 : wKI H138928 r0 = wKI H r0 := (wKI_fr hW g0 ((wfr.rf (l := [(42, 0)])).put' e138929 g0 rfl) rfl)
    refine wp_of e258 c258_18 (xc_V (pc' := 21) (r := r0) (as := [vI 1]) (st := []) (lm_9_447) rfl rfl (Nat.le_of_ble_eq_true rfl) w138930 g0 sh_42 (by decide) rfl (by decide) (s_253 w138930 g0 ⟨by omega, by omega⟩ (by omega) (by omega)) (fun R138966 T138967 H138968 p138969 => ?_))
    obtain ⟨e138970, w138972, f138973, z138978, e138971, b138979, p138974, p138975, p138976, p138977⟩ := p138969
    subst e138970
    subst e138971
    have f138980 := f138931.tr f138973 rfl
    show wp _ _ 258 21 [(0, .ref r0)] [vI z138978] _ H138968 _
    refine wp_of e258 c258_21 (rw_istore_n (pc' := 22) (z := z138978) (L' := [(1, vI z138978), (0, .ref r0)]) rfl rfl rfl ?_)
    refine wp_of e258 c258_22 (rw_iload_n (pc' := 23) (z := z138978) rfl rfl ?_)
    refine wp_of e258 c258_23 (rw_if_le (p1 := 35) (p2 := 26) (by decide) rfl ⟨by omega, by omega⟩ (fun c138981 => ?_) (fun c138981 => ?_))
    · refine wp_of e258 c258_35 (rw_aload_n (pc' := 36) (v := .ref r0) rfl rfl rfl ?_)
      refine wp_of e258 c258_36 (rw_aload_n (pc' := 37) (v := .ref r0) rfl rfl rfl ?_)
      have k138982 : H138968 r0 3 = H138928 r0 3 := (f138973 r0 3 _ g0 rfl)
      have q138983 : H138968 r0 3 = (r138933 : Int) := k138982.trans q138934
      refine wp_of e258 c258_37 (xc_V (pc' := 40) (r := r0) (as := []) (st := [.ref r0]) (lm_9_452) rfl rfl (Nat.le_of_ble_eq_true rfl) w138972 g0 sh_42 (by decide) rfl (by decide) (s_257 w138972 g0 q138983 g138935 (by omega) (by omega)) (fun R138984 T138985 H138986 p138987 => ?_))
      obtain ⟨e138988, w138990, f138991, z138992, e138989, b138993⟩ := p138987
      subst e138988
      subst e138989
      have f138994 := f138980.tr f138991 rfl
      show wp _ _ 258 40 [(1, vI z138978), (0, .ref r0)] [vL z138992, .ref r0] _ H138986 _
      refine wp_of e258 c258_40 (xc_V (pc' := 43) (r := r0) (as := [vL z138992]) (st := []) (lm_9_380) rfl rfl (Nat.le_of_ble_eq_true rfl) w138990 g0 sh_42 (by decide) rfl (by decide) (s_221 w138990 g0 ⟨by omega, by omega⟩) (fun R138995 T138996 H138997 p138998 => ?_))
      obtain ⟨e138999, w139001, f139002, z139003, e139000, b139004⟩ := p138998
      subst e138999
      subst e139000
      have f139005 := f138994.tr f139002 rfl
      show wp _ _ 258 43 [(1, vI z138978), (0, .ref r0)] [vL z139003] _ H138997 _
      have k139006 : wKI H138997 r0 = wKI H138968 r0 := ((wKI_fr w138990 g0 f139002 rfl).trans (wKI_fr w138972 g0 f138991 rfl))
      exact wp_lreturn e258 c258_43 rfl ⟨rfl, w139001, f139005, z139003, rfl, ⟨by omega, by omega⟩, by omega⟩
    · refine wp_of e258 c258_26 (rw_aload_n (pc' := 27) (v := .ref r0) rfl rfl rfl ?_)
      refine wp_of e258 c258_27 (rw_iload_n (pc' := 28) (z := z138978) rfl rfl ?_)
      refine wp_of e258 c258_28 (xc_V (pc' := 31) (r := r0) (as := [vI z138978]) (st := []) (lm_9_54) rfl rfl (Nat.le_of_ble_eq_true rfl) w138972 g0 sh_42 (by decide) rfl (by decide) (s_170 w138972 g0 ⟨by omega, by omega⟩) (fun R139007 T139008 H139009 p139010 => ?_))
      obtain ⟨e139011, w139013, f139014, z139015, e139012, b139016⟩ := p139010
      subst e139011
      subst e139012
      have f139017 := f138980.tr f139014 rfl
      show wp _ _ 258 31 [(1, vI z138978), (0, .ref r0)] [vI z139015] _ H139009 _
      refine wp_of e258 c258_31 (rw_i2l (pc' := 32) rfl ⟨by omega, by omega⟩ ?_)
      refine wp_of e258 c258_32 (rw_goto (p1 := 43) (by decide) ?_)
      have k139018 : wKI H139009 r0 = wKI H138968 r0 := (wKI_fr w138972 g0 f139014 rfl)
      exact wp_lreturn e258 c258_43 rfl ⟨rfl, w139013, f139017, z139015, rfl, ⟨by omega, by omega⟩, by omega⟩
/-! StrikeAwakeModel.together(II)I -/
theorem e259 : wq_en 259 = some (9, 6, false, some FieldType.int) := rfl
theorem c259_0 : mc_cd 259 0 = some (.aload_n 0, 1) := by decide +kernel
theorem c259_1 : mc_cd 259 1 = some (.iconst 0, 1) := by decide +kernel
theorem c259_2 : mc_cd 259 2 = some (.putfield 48, 3) := by decide +kernel
theorem c259_5 : mc_cd 259 5 = some (.aload_n 0, 1) := by decide +kernel
theorem c259_6 : mc_cd 259 6 = some (.aload_n 0, 1) := by decide +kernel
theorem c259_7 : mc_cd 259 7 = some (.iload_n 1, 1) := by decide +kernel
theorem c259_8 : mc_cd 259 8 = some (.invokevirtual 364, 3) := by decide +kernel
theorem c259_11 : mc_cd 259 11 = some (.ifCond .eq 20, 3) := by decide +kernel
theorem c259_14 : mc_cd 259 14 = some (.aload_n 0, 1) := by decide +kernel
theorem c259_15 : mc_cd 259 15 = some (.iload_n 2, 1) := by decide +kernel
theorem c259_16 : mc_cd 259 16 = some (.invokevirtual 364, 3) := by decide +kernel
theorem c259_19 : mc_cd 259 19 = some (.ifCond .eq 12, 3) := by decide +kernel
theorem c259_22 : mc_cd 259 22 = some (.iload_n 1, 1) := by decide +kernel
theorem c259_23 : mc_cd 259 23 = some (.iload_n 2, 1) := by decide +kernel
theorem c259_24 : mc_cd 259 24 = some (.if_icmp .eq 7, 3) := by decide +kernel
theorem c259_27 : mc_cd 259 27 = some (.iconst 1, 1) := by decide +kernel
theorem c259_28 : mc_cd 259 28 = some (.goto 4, 3) := by decide +kernel
theorem c259_31 : mc_cd 259 31 = some (.iconst 0, 1) := by decide +kernel
theorem c259_32 : mc_cd 259 32 = some (.invokevirtual 433, 3) := by decide +kernel
theorem c259_35 : mc_cd 259 35 = some (.istore_n 3, 1) := by decide +kernel
theorem c259_36 : mc_cd 259 36 = some (.iload_n 3, 1) := by decide +kernel
theorem c259_37 : mc_cd 259 37 = some (.ifCond .le 9, 3) := by decide +kernel
theorem c259_40 : mc_cd 259 40 = some (.aload_n 0, 1) := by decide +kernel
theorem c259_41 : mc_cd 259 41 = some (.iload_n 3, 1) := by decide +kernel
theorem c259_42 : mc_cd 259 42 = some (.invokevirtual 54, 3) := by decide +kernel
theorem c259_45 : mc_cd 259 45 = some (.ireturn, 1) := by decide +kernel
theorem c259_46 : mc_cd 259 46 = some (.iconst 0, 1) := by decide +kernel
theorem c259_47 : mc_cd 259 47 = some (.istore 4, 2) := by decide +kernel
theorem c259_49 : mc_cd 259 49 = some (.iconst 0, 1) := by decide +kernel
theorem c259_50 : mc_cd 259 50 = some (.istore 5, 2) := by decide +kernel
theorem c259_52 : mc_cd 259 52 = some (.iload 5, 2) := by decide +kernel
theorem c259_54 : mc_cd 259 54 = some (.aload_n 0, 1) := by decide +kernel
theorem c259_55 : mc_cd 259 55 = some (.getfield 422, 3) := by decide +kernel
theorem c259_58 : mc_cd 259 58 = some (.if_icmp .ge 58, 3) := by decide +kernel
theorem c259_61 : mc_cd 259 61 = some (.aload_n 0, 1) := by decide +kernel
theorem c259_62 : mc_cd 259 62 = some (.aload_n 0, 1) := by decide +kernel
theorem c259_63 : mc_cd 259 63 = some (.getfield 42, 3) := by decide +kernel
theorem c259_66 : mc_cd 259 66 = some (.iload 5, 2) := by decide +kernel
theorem c259_68 : mc_cd 259 68 = some (.iaload, 1) := by decide +kernel
theorem c259_69 : mc_cd 259 69 = some (.invokevirtual 425, 3) := by decide +kernel
theorem c259_72 : mc_cd 259 72 = some (.iload 4, 2) := by decide +kernel
theorem c259_74 : mc_cd 259 74 = some (.aload_n 0, 1) := by decide +kernel
theorem c259_75 : mc_cd 259 75 = some (.getfield 33, 3) := by decide +kernel
theorem c259_78 : mc_cd 259 78 = some (.bipush 40, 2) := by decide +kernel
theorem c259_80 : mc_cd 259 80 = some (.iload_n 1, 1) := by decide +kernel
theorem c259_81 : mc_cd 259 81 = some (.imul, 1) := by decide +kernel
theorem c259_82 : mc_cd 259 82 = some (.aload_n 0, 1) := by decide +kernel
theorem c259_83 : mc_cd 259 83 = some (.getfield 39, 3) := by decide +kernel
theorem c259_86 : mc_cd 259 86 = some (.iload_n 1, 1) := by decide +kernel
theorem c259_87 : mc_cd 259 87 = some (.iaload, 1) := by decide +kernel
theorem c259_88 : mc_cd 259 88 = some (.iadd, 1) := by decide +kernel
theorem c259_89 : mc_cd 259 89 = some (.iaload, 1) := by decide +kernel
theorem c259_90 : mc_cd 259 90 = some (.aload_n 0, 1) := by decide +kernel
theorem c259_91 : mc_cd 259 91 = some (.getfield 33, 3) := by decide +kernel
theorem c259_94 : mc_cd 259 94 = some (.bipush 40, 2) := by decide +kernel
theorem c259_96 : mc_cd 259 96 = some (.iload_n 2, 1) := by decide +kernel
theorem c259_97 : mc_cd 259 97 = some (.imul, 1) := by decide +kernel
theorem c259_98 : mc_cd 259 98 = some (.aload_n 0, 1) := by decide +kernel
theorem c259_99 : mc_cd 259 99 = some (.getfield 39, 3) := by decide +kernel
theorem c259_102 : mc_cd 259 102 = some (.iload_n 2, 1) := by decide +kernel
theorem c259_103 : mc_cd 259 103 = some (.iaload, 1) := by decide +kernel
theorem c259_104 : mc_cd 259 104 = some (.iadd, 1) := by decide +kernel
theorem c259_105 : mc_cd 259 105 = some (.iaload, 1) := by decide +kernel
theorem c259_106 : mc_cd 259 106 = some (.iand, 1) := by decide +kernel
theorem c259_107 : mc_cd 259 107 = some (.ior, 1) := by decide +kernel
theorem c259_108 : mc_cd 259 108 = some (.istore 4, 2) := by decide +kernel
theorem c259_110 : mc_cd 259 110 = some (.iinc 5 1, 3) := by decide +kernel
theorem c259_113 : mc_cd 259 113 = some (.goto (-61), 3) := by decide +kernel
theorem c259_116 : mc_cd 259 116 = some (.aload_n 0, 1) := by decide +kernel
theorem c259_117 : mc_cd 259 117 = some (.iload 4, 2) := by decide +kernel
theorem c259_119 : mc_cd 259 119 = some (.invokevirtual 58, 3) := by decide +kernel
theorem c259_122 : mc_cd 259 122 = some (.ireturn, 1) := by decide +kernel
abbrev q_259 (r0 : Nat) (a1 : Int) (a2 : Int) (T : wq_T) (H : wq_H) : Option Value → wq_T → wq_H → Prop := fun r T' H' => T = T' ∧ WT T H' ∧ wfr [(42, 0), (42, 1), (42, 2), (42, 28), (42, 29), (51, 999), (52, 999)] T H H' ∧ ∃ z : Int, some (vI z) = r ∧ ((-2147483648) ≤ z ∧ z ≤ 2147483647) ∧ (wKI H' r0 = 1)
set_option maxHeartbeats 4000000 in
theorem s_259 {kt : Nat → Option mc_E} {T : wq_T} {H : wq_H} {r0 : Nat} {a1 : Int} {a2 : Int} (hW : WT T H) (g0 : T.2.2.2 r0 = some 42) (i1 : (-2147483648) ≤ a1 ∧ a1 ≤ 2147483647) (i2 : (-2147483648) ≤ a2 ∧ a2 ≤ 2147483647) (p0 : wKI H r0 = 1) : wpc kt 8 259 [.ref r0, vI a1, vI a2] T H (q_259 r0 a1 a2 T H) := by
  refine wp_enter e259 (Nat.le_of_ble_eq_true rfl) rfl ?_
  have f0 : wfr [(42, 0), (42, 1), (42, 2), (42, 28), (42, 29), (51, 999), (52, 999)] T H H := wfr.rf
  show wp _ _ 259 0 [(0, .ref r0), (1, vI a1), (2, vI a2)] [] _ H _
  refine wp_of e259 c259_0 (rw_aload_n (pc' := 1) (v := .ref r0) rfl rfl rfl ?_)
  refine wp_of e259 c259_1 (rw_iconst (pc' := 2) rfl ?_)
  refine wp_of e259 c259_2 (xp_I (pc' := 5) lf_9_48 hW g0 sh_42 (by decide) (by decide) ty_42_0 rfl rfl (by omega) (by omega) ⟨by omega, by omega⟩ rfl (fun H139545 e139546 w139547 => ?_))
  have f139548 := f0.put' e139546 g0 rfl
  have k139549 : H139545 r0 0 = 0 := wq_u_s e139546
  refine wp_of e259 c259_5 (rw_aload_n (pc' := 6) (v := .ref r0) rfl rfl rfl ?_)
  refine wp_of e259 c259_6 (rw_aload_n (pc' := 7) (v := .ref r0) rfl rfl rfl ?_)
  refine wp_of e259 c259_7 (rw_iload_n (pc' := 8) (z := a1) rfl rfl ?_)
  refine wp_of e259 c259_8 (xc_V (pc' := 11) (r := r0) (as := [vI a1]) (st := [.ref r0]) (lm_9_364) rfl rfl (Nat.le_of_ble_eq_true rfl) w139547 g0 sh_42 (by decide) rfl (by decide) (s_213 w139547 g0 ⟨by omega, by omega⟩) (fun R139550 T139551 H139552 p139553 => ?_))
  obtain ⟨e139554, e139556, z139558, e139555, b139559, p139557⟩ := p139553
  subst e139554
  subst e139555
  subst e139556
  show wp _ _ 259 11 [(0, .ref r0), (1, vI a1), (2, vI a2)] [vI z139558, .ref r0] _ H139545 _
  refine wp_of e259 c259_11 (rw_if_eq (p1 := 31) (p2 := 14) (by decide) rfl ⟨by omega, by omega⟩ (fun c139560 => ?_) (fun c139560 => ?_))
  · refine wp_of e259 c259_31 (rw_iconst (pc' := 32) rfl ?_)
    have k139561 : wKI H139545 r0 = wKI H r0 := (wKI_fr hW g0 ((wfr.rf (l := [(42, 0)])).put' e139546 g0 rfl) rfl)
    refine wp_of e259 c259_32 (xc_V (pc' := 35) (r := r0) (as := [vI 0]) (st := []) (lm_9_433) rfl rfl (Nat.le_of_ble_eq_true rfl) w139547 g0 sh_42 (by decide) rfl (by decide) (s_241 w139547 g0 ⟨by omega, by omega⟩ (by omega) (by omega)) (fun R139562 T139563 H139564 p139565 => ?_))
    obtain ⟨e139566, w139568, f139569, z139574, e139567, b139575, p139570, p139571, p139572, p139573⟩ := p139565
    subst e139566
    subst e139567
    have f139576 := f139548.tr f139569 rfl
    show wp _ _ 259 35 [(0, .ref r0), (1, vI a1), (2, vI a2)] [vI z139574] _ H139564 _
    refine wp_of e259 c259_35 (rw_istore_n (pc' := 36) (z := z139574) (L' := [(3, vI z139574), (0, .ref r0), (1, vI a1), (2, vI a2)]) rfl rfl rfl ?_)
    refine wp_of e259 c259_36 (rw_iload_n (pc' := 37) (z := z139574) rfl rfl ?_)
    refine wp_of e259 c259_37 (rw_if_le (p1 := 46) (p2 := 40) (by decide) rfl ⟨by omega, by omega⟩ (fun c139577 => ?_) (fun c139577 => ?_))
    · exfalso
      omega
    · refine wp_of e259 c259_40 (rw_aload_n (pc' := 41) (v := .ref r0) rfl rfl rfl ?_)
      refine wp_of e259 c259_41 (rw_iload_n (pc' := 42) (z := z139574) rfl rfl ?_)
      refine wp_of e259 c259_42 (xc_V (pc' := 45) (r := r0) (as := [vI z139574]) (st := []) (lm_9_54) rfl rfl (Nat.le_of_ble_eq_true rfl) w139568 g0 sh_42 (by decide) rfl (by decide) (s_170 w139568 g0 ⟨by omega, by omega⟩) (fun R139578 T139579 H139580 p139581 => ?_))
      obtain ⟨e139582, w139584, f139585, z139586, e139583, b139587⟩ := p139581
      subst e139582
      subst e139583
      have f139588 := f139576.tr f139585 rfl
      show wp _ _ 259 45 [(3, vI z139574), (0, .ref r0), (1, vI a1), (2, vI a2)] [vI z139586] _ H139580 _
      have k139589 : wKI H139580 r0 = wKI H139564 r0 := (wKI_fr w139568 g0 f139585 rfl)
      exact wp_ireturn e259 c259_45 rfl ⟨rfl, w139584, f139588, z139586, rfl, ⟨by omega, by omega⟩, by omega⟩
  · refine wp_of e259 c259_14 (rw_aload_n (pc' := 15) (v := .ref r0) rfl rfl rfl ?_)
    refine wp_of e259 c259_15 (rw_iload_n (pc' := 16) (z := a2) rfl rfl ?_)
    refine wp_of e259 c259_16 (xc_V (pc' := 19) (r := r0) (as := [vI a2]) (st := [.ref r0]) (lm_9_364) rfl rfl (Nat.le_of_ble_eq_true rfl) w139547 g0 sh_42 (by decide) rfl (by decide) (s_213 w139547 g0 ⟨by omega, by omega⟩) (fun R139590 T139591 H139592 p139593 => ?_))
    obtain ⟨e139594, e139596, z139598, e139595, b139599, p139597⟩ := p139593
    subst e139594
    subst e139595
    subst e139596
    show wp _ _ 259 19 [(0, .ref r0), (1, vI a1), (2, vI a2)] [vI z139598, .ref r0] _ H139545 _
    refine wp_of e259 c259_19 (rw_if_eq (p1 := 31) (p2 := 22) (by decide) rfl ⟨by omega, by omega⟩ (fun c139600 => ?_) (fun c139600 => ?_))
    · refine wp_of e259 c259_31 (rw_iconst (pc' := 32) rfl ?_)
      have k139601 : wKI H139545 r0 = wKI H r0 := (wKI_fr hW g0 ((wfr.rf (l := [(42, 0)])).put' e139546 g0 rfl) rfl)
      refine wp_of e259 c259_32 (xc_V (pc' := 35) (r := r0) (as := [vI 0]) (st := []) (lm_9_433) rfl rfl (Nat.le_of_ble_eq_true rfl) w139547 g0 sh_42 (by decide) rfl (by decide) (s_241 w139547 g0 ⟨by omega, by omega⟩ (by omega) (by omega)) (fun R139602 T139603 H139604 p139605 => ?_))
      obtain ⟨e139606, w139608, f139609, z139614, e139607, b139615, p139610, p139611, p139612, p139613⟩ := p139605
      subst e139606
      subst e139607
      have f139616 := f139548.tr f139609 rfl
      show wp _ _ 259 35 [(0, .ref r0), (1, vI a1), (2, vI a2)] [vI z139614] _ H139604 _
      refine wp_of e259 c259_35 (rw_istore_n (pc' := 36) (z := z139614) (L' := [(3, vI z139614), (0, .ref r0), (1, vI a1), (2, vI a2)]) rfl rfl rfl ?_)
      refine wp_of e259 c259_36 (rw_iload_n (pc' := 37) (z := z139614) rfl rfl ?_)
      refine wp_of e259 c259_37 (rw_if_le (p1 := 46) (p2 := 40) (by decide) rfl ⟨by omega, by omega⟩ (fun c139617 => ?_) (fun c139617 => ?_))
      · exfalso
        omega
      · refine wp_of e259 c259_40 (rw_aload_n (pc' := 41) (v := .ref r0) rfl rfl rfl ?_)
        refine wp_of e259 c259_41 (rw_iload_n (pc' := 42) (z := z139614) rfl rfl ?_)
        refine wp_of e259 c259_42 (xc_V (pc' := 45) (r := r0) (as := [vI z139614]) (st := []) (lm_9_54) rfl rfl (Nat.le_of_ble_eq_true rfl) w139608 g0 sh_42 (by decide) rfl (by decide) (s_170 w139608 g0 ⟨by omega, by omega⟩) (fun R139618 T139619 H139620 p139621 => ?_))
        obtain ⟨e139622, w139624, f139625, z139626, e139623, b139627⟩ := p139621
        subst e139622
        subst e139623
        have f139628 := f139616.tr f139625 rfl
        show wp _ _ 259 45 [(3, vI z139614), (0, .ref r0), (1, vI a1), (2, vI a2)] [vI z139626] _ H139620 _
        have k139629 : wKI H139620 r0 = wKI H139604 r0 := (wKI_fr w139608 g0 f139625 rfl)
        exact wp_ireturn e259 c259_45 rfl ⟨rfl, w139624, f139628, z139626, rfl, ⟨by omega, by omega⟩, by omega⟩
    · refine wp_of e259 c259_22 (rw_iload_n (pc' := 23) (z := a1) rfl rfl ?_)
      refine wp_of e259 c259_23 (rw_iload_n (pc' := 24) (z := a2) rfl rfl ?_)
      refine wp_of e259 c259_24 (rw_icmp_eq (p1 := 31) (p2 := 27) (by decide) rfl ⟨by omega, by omega⟩ ⟨by omega, by omega⟩ (fun c139630 => ?_) (fun c139630 => ?_))
      · refine wp_of e259 c259_31 (rw_iconst (pc' := 32) rfl ?_)
        have k139631 : wKI H139545 r0 = wKI H r0 := (wKI_fr hW g0 ((wfr.rf (l := [(42, 0)])).put' e139546 g0 rfl) rfl)
        refine wp_of e259 c259_32 (xc_V (pc' := 35) (r := r0) (as := [vI 0]) (st := []) (lm_9_433) rfl rfl (Nat.le_of_ble_eq_true rfl) w139547 g0 sh_42 (by decide) rfl (by decide) (s_241 w139547 g0 ⟨by omega, by omega⟩ (by omega) (by omega)) (fun R139632 T139633 H139634 p139635 => ?_))
        obtain ⟨e139636, w139638, f139639, z139644, e139637, b139645, p139640, p139641, p139642, p139643⟩ := p139635
        subst e139636
        subst e139637
        have f139646 := f139548.tr f139639 rfl
        show wp _ _ 259 35 [(0, .ref r0), (1, vI a1), (2, vI a2)] [vI z139644] _ H139634 _
        refine wp_of e259 c259_35 (rw_istore_n (pc' := 36) (z := z139644) (L' := [(3, vI z139644), (0, .ref r0), (1, vI a1), (2, vI a2)]) rfl rfl rfl ?_)
        refine wp_of e259 c259_36 (rw_iload_n (pc' := 37) (z := z139644) rfl rfl ?_)
        refine wp_of e259 c259_37 (rw_if_le (p1 := 46) (p2 := 40) (by decide) rfl ⟨by omega, by omega⟩ (fun c139647 => ?_) (fun c139647 => ?_))
        · exfalso
          omega
        · refine wp_of e259 c259_40 (rw_aload_n (pc' := 41) (v := .ref r0) rfl rfl rfl ?_)
          refine wp_of e259 c259_41 (rw_iload_n (pc' := 42) (z := z139644) rfl rfl ?_)
          refine wp_of e259 c259_42 (xc_V (pc' := 45) (r := r0) (as := [vI z139644]) (st := []) (lm_9_54) rfl rfl (Nat.le_of_ble_eq_true rfl) w139638 g0 sh_42 (by decide) rfl (by decide) (s_170 w139638 g0 ⟨by omega, by omega⟩) (fun R139648 T139649 H139650 p139651 => ?_))
          obtain ⟨e139652, w139654, f139655, z139656, e139653, b139657⟩ := p139651
          subst e139652
          subst e139653
          have f139658 := f139646.tr f139655 rfl
          show wp _ _ 259 45 [(3, vI z139644), (0, .ref r0), (1, vI a1), (2, vI a2)] [vI z139656] _ H139650 _
          have k139659 : wKI H139650 r0 = wKI H139634 r0 := (wKI_fr w139638 g0 f139655 rfl)
          exact wp_ireturn e259 c259_45 rfl ⟨rfl, w139654, f139658, z139656, rfl, ⟨by omega, by omega⟩, by omega⟩
      · refine wp_of e259 c259_27 (rw_iconst (pc' := 28) rfl ?_)
        refine wp_of e259 c259_28 (rw_goto (p1 := 32) (by decide) ?_)
        have k139660 : wKI H139545 r0 = wKI H r0 := (wKI_fr hW g0 ((wfr.rf (l := [(42, 0)])).put' e139546 g0 rfl) rfl)
        refine wp_of e259 c259_32 (xc_V (pc' := 35) (r := r0) (as := [vI 1]) (st := []) (lm_9_433) rfl rfl (Nat.le_of_ble_eq_true rfl) w139547 g0 sh_42 (by decide) rfl (by decide) (s_241 w139547 g0 ⟨by omega, by omega⟩ (by omega) (by omega)) (fun R139661 T139662 H139663 p139664 => ?_))
        obtain ⟨e139665, w139667, f139668, z139673, e139666, b139674, p139669, p139670, p139671, p139672⟩ := p139664
        subst e139665
        subst e139666
        have f139675 := f139548.tr f139668 rfl
        show wp _ _ 259 35 [(0, .ref r0), (1, vI a1), (2, vI a2)] [vI z139673] _ H139663 _
        refine wp_of e259 c259_35 (rw_istore_n (pc' := 36) (z := z139673) (L' := [(3, vI z139673), (0, .ref r0), (1, vI a1), (2, vI a2)]) rfl rfl rfl ?_)
        refine wp_of e259 c259_36 (rw_iload_n (pc' := 37) (z := z139673) rfl rfl ?_)
        refine wp_of e259 c259_37 (rw_if_le (p1 := 46) (p2 := 40) (by decide) rfl ⟨by omega, by omega⟩ (fun c139676 => ?_) (fun c139676 => ?_))
        · refine wp_of e259 c259_46 (rw_iconst (pc' := 47) rfl ?_)
          refine wp_of e259 c259_47 (rw_istore (pc' := 49) (z := 0) (L' := [(4, vI 0), (3, vI z139673), (0, .ref r0), (1, vI a1), (2, vI a2)]) rfl rfl rfl ?_)
          refine wp_of e259 c259_49 (rw_iconst (pc' := 50) rfl ?_)
          refine wp_of e259 c259_50 (rw_istore (pc' := 52) (z := 0) (L' := [(5, vI 0), (4, vI 0), (3, vI z139673), (0, .ref r0), (1, vI a1), (2, vI a2)]) rfl rfl rfl ?_)
          have lp140005 : ∀ (n140006 : Nat) (v140008 : Int) (v140009 : Int) (H140010 : wq_H), WT T H140010 → wfr [(51, 999)] T H139663 H140010 → (0 ≤ v140008 ∧ v140008 ≤ 20000) → ((-2147483648) ≤ v140009 ∧ v140009 ≤ 2147483647) → (20000 - v140008).toNat = n140006 → wp kt 7 259 52 [(5, vI v140008), (4, vI v140009), (0, .ref r0), (1, vI a1), (2, vI a2)] [] T H140010 (q_259 r0 a1 a2 T H) := by
            intro n140006
            induction n140006 using Nat.strongRecOn with
            | _ n140006 ih140007 =>
              intro v140008 v140009 H140010 w140011 f140012 b140013 b140014 m140015
              have f140016 := f139675.tr f140012 rfl
              refine wp_of e259 c259_52 (rw_iload (pc' := 54) (z := v140008) rfl rfl ?_)
              refine wp_of e259 c259_54 (rw_aload_n (pc' := 55) (v := .ref r0) rfl rfl rfl ?_)
              have k140017 : H140010 r0 29 = H139663 r0 29 := (f140012 r0 29 _ g0 rfl)
              refine wp_of e259 c259_55 (xg_I (pc' := 58) lf_9_422 w140011 g0 sh_42 (by decide) (by decide) ty_42_29 rfl rfl (fun b140018 b140019 => ?_))
              refine wp_of e259 c259_58 (rw_icmp_ge (p1 := 116) (p2 := 61) (by decide) rfl ⟨by omega, by omega⟩ ⟨by omega, by omega⟩ (fun c140020 => ?_) (fun c140020 => ?_))
              · refine wp_of e259 c259_116 (rw_aload_n (pc' := 117) (v := .ref r0) rfl rfl rfl ?_)
                refine wp_of e259 c259_117 (rw_iload (pc' := 119) (z := v140009) rfl rfl ?_)
                refine wp_of e259 c259_119 (xc_V (pc' := 122) (r := r0) (as := [vI v140009]) (st := []) (lm_9_58) rfl rfl (Nat.le_of_ble_eq_true rfl) w140011 g0 sh_42 (by decide) rfl (by decide) (s_209 w140011 g0 ⟨by omega, by omega⟩) (fun R140021 T140022 H140023 p140024 => ?_))
                obtain ⟨e140025, w140027, f140028, z140029, e140026, b140030⟩ := p140024
                subst e140025
                subst e140026
                have f140031 := f140016.tr f140028 rfl
                show wp _ _ 259 122 [(5, vI v140008), (4, vI v140009), (0, .ref r0), (1, vI a1), (2, vI a2)] [vI z140029] _ H140023 _
                have k140032 : wKI H140023 r0 = wKI H139663 r0 := ((wKI_fr w140011 g0 f140028 rfl).trans (wKI_fr w139667 g0 f140012 rfl))
                exact wp_ireturn e259 c259_122 rfl ⟨rfl, w140027, f140031, z140029, rfl, ⟨by omega, by omega⟩, by omega⟩
              · refine wp_of e259 c259_61 (rw_aload_n (pc' := 62) (v := .ref r0) rfl rfl rfl ?_)
                refine wp_of e259 c259_62 (rw_aload_n (pc' := 63) (v := .ref r0) rfl rfl rfl ?_)
                refine wp_of e259 c259_63 (xg_R (pc' := 66) lf_9_42 w140011 g0 sh_42 (by decide) (by decide) ty_42_30 rfl rfl (fun r140033 q140034 g140035 => ?_))
                refine wp_of e259 c259_66 (rw_iload (pc' := 68) (z := v140008) rfl rfl ?_)
                refine wp_of e259 c259_68 (xa_I (so := 0) (pc' := 69) w140011 g140035 sh_52 (by decide) (ty_52 _) (by omega) (by omega) rfl (fun b140036 b140037 => ?_))
                have k140038 : wLM H140010 r0 = wLM H139663 r0 := (wLM_fr w139667 g0 f140012 rfl)
                have k140039 : H140010 r0 3 = H139545 r0 3 := ((f140012 r0 3 _ g0 rfl).trans (f139668 r0 3 _ g0 rfl))
                obtain ⟨r140040, q140041, g140042⟩ := (w140011.opt g0 (t' := 54) (n := 33) (j := 3) (p := 0) (q := 0) rfl (by decide) rfl).resolve_left (by omega)
                refine wp_of e259 c259_69 (xc_V (pc' := 72) (r := r0) (as := [vI (H140010 r140033 (v140008.toNat))]) (st := []) (lm_9_425) rfl rfl (Nat.le_of_ble_eq_true rfl) w140011 g0 sh_42 (by decide) rfl (by decide) (s_243 w140011 g0 ⟨by omega, by omega⟩ q140041 g140042 (by omega)) (fun R140043 T140044 H140045 p140046 => ?_))
                obtain ⟨e140047, w140049, f140050, e140048⟩ := p140046
                subst e140047
                subst e140048
                have f140051 := f140016.tr f140050 rfl
                have f140052 := f140012.tr f140050 rfl
                show wp _ _ 259 72 [(5, vI v140008), (4, vI v140009), (0, .ref r0), (1, vI a1), (2, vI a2)] [] _ H140045 _
                refine wp_of e259 c259_72 (rw_iload (pc' := 74) (z := v140009) rfl rfl ?_)
                refine wp_of e259 c259_74 (rw_aload_n (pc' := 75) (v := .ref r0) rfl rfl rfl ?_)
                refine wp_of e259 c259_75 (xg_R (pc' := 78) lf_9_33 w140049 g0 sh_42 (by decide) (by decide) ty_42_25 rfl rfl (fun r140053 q140054 g140055 => ?_))
                refine wp_of e259 c259_78 (rw_bipush (pc' := 80) (z := 40) rfl (by decide) ?_)
                refine wp_of e259 c259_80 (rw_iload_n (pc' := 81) (z := a1) rfl rfl ?_)
                refine wp_of e259 c259_81 (rw_imul (pc' := 82) rfl ?_)
                refine wp_of e259 c259_82 (rw_aload_n (pc' := 83) (v := .ref r0) rfl rfl rfl ?_)
                refine wp_of e259 c259_83 (xg_R (pc' := 86) lf_9_39 w140049 g0 sh_42 (by decide) (by decide) ty_42_27 rfl rfl (fun r140056 q140057 g140058 => ?_))
                refine wp_of e259 c259_86 (rw_iload_n (pc' := 87) (z := a1) rfl rfl ?_)
                refine wp_of e259 c259_87 (xa_I (so := 0) (pc' := 88) w140049 g140058 sh_51 (by decide) (ty_51 _) (by omega) (by omega) rfl (fun b140059 b140060 => ?_))
                refine wp_of e259 c259_88 (rw_iadd (pc' := 89) rfl ?_)
                refine wp_of e259 c259_89 (xa_I (so := 0) (pc' := 90) w140049 g140055 sh_49 (by decide) (ty_49 _) (by omega) (by omega) rfl (fun b140061 b140062 => ?_))
                refine wp_of e259 c259_90 (rw_aload_n (pc' := 91) (v := .ref r0) rfl rfl rfl ?_)
                refine wp_of e259 c259_91 (xg_K (pc' := 94) lf_9_33 w140049 g0 sh_42 (by decide) (by decide) rfl q140054 rfl ?_)
                refine wp_of e259 c259_94 (rw_bipush (pc' := 96) (z := 40) rfl (by decide) ?_)
                refine wp_of e259 c259_96 (rw_iload_n (pc' := 97) (z := a2) rfl rfl ?_)
                refine wp_of e259 c259_97 (rw_imul (pc' := 98) rfl ?_)
                refine wp_of e259 c259_98 (rw_aload_n (pc' := 99) (v := .ref r0) rfl rfl rfl ?_)
                refine wp_of e259 c259_99 (xg_K (pc' := 102) lf_9_39 w140049 g0 sh_42 (by decide) (by decide) rfl q140057 rfl ?_)
                refine wp_of e259 c259_102 (rw_iload_n (pc' := 103) (z := a2) rfl rfl ?_)
                refine wp_of e259 c259_103 (xa_I (so := 0) (pc' := 104) w140049 g140058 sh_51 (by decide) (ty_51 _) (by omega) (by omega) rfl (fun b140063 b140064 => ?_))
                refine wp_of e259 c259_104 (rw_iadd (pc' := 105) rfl ?_)
                refine wp_of e259 c259_105 (xa_I (so := 0) (pc' := 106) w140049 g140055 sh_49 (by decide) (ty_49 _) (by omega) (by omega) rfl (fun b140065 b140066 => ?_))
                refine wp_of e259 c259_106 (rw_iand (pc' := 107) rfl ?_)
                obtain ⟨v140067, e140068⟩ : ∃ x : Int, x = wq_and (H140045 r140053 (((40 * a1) + (H140045 r140056 (a1.toNat))).toNat)) (H140045 r140053 (((40 * a2) + (H140045 r140056 (a2.toNat))).toNat)) := ⟨_, rfl⟩
                rw [← e140068]
                have b140069 : -2147483648 ≤ v140067 ∧ v140067 ≤ 2147483647 := by
                  rw [e140068]
                  exact wI_and _ _
                refine wp_of e259 c259_107 (rw_ior (pc' := 108) rfl ?_)
                obtain ⟨v140070, e140071⟩ : ∃ x : Int, x = wq_or v140009 v140067 := ⟨_, rfl⟩
                rw [← e140071]
                have b140072 : -2147483648 ≤ v140070 ∧ v140070 ≤ 2147483647 := by
                  rw [e140071]
                  exact wI_or _ _
                refine wp_of e259 c259_108 (rw_istore (pc' := 110) (z := v140070) (L' := [(4, vI v140070), (5, vI v140008), (0, .ref r0), (1, vI a1), (2, vI a2)]) rfl rfl rfl ?_)
                refine wp_of e259 c259_110 (rw_iinc (pc' := 113) (z := v140008) (L' := [(5, vI (v140008 + 1)), (4, vI v140070), (0, .ref r0), (1, vI a1), (2, vI a2)]) rfl rfl rfl rfl ?_)
                refine wp_of e259 c259_113 (rw_goto (p1 := 52) (by decide) ?_)
                exact wp_lc (ks := [5, 4, 0, 1, 2]) (wl_c rfl (wl_c rfl (wl_c rfl (wl_c rfl (wl_c rfl wl_n))))) rfl (by decide) (ih140007 _ (by omega) (v140008 + 1) v140070 H140045 w140049 f140052 ⟨by omega, by omega⟩ ⟨by omega, by omega⟩ rfl)
          exact wp_lc (ks := [5, 4, 3, 0, 1, 2]) (wl_c rfl (wl_c rfl (wl_c rfl (wl_c rfl (wl_c rfl wl_n))))) rfl (by decide) (lp140005 _ 0 0 H139663 w139667 wfr.rf ⟨by omega, by omega⟩ ⟨by omega, by omega⟩ rfl)
        · refine wp_of e259 c259_40 (rw_aload_n (pc' := 41) (v := .ref r0) rfl rfl rfl ?_)
          refine wp_of e259 c259_41 (rw_iload_n (pc' := 42) (z := z139673) rfl rfl ?_)
          refine wp_of e259 c259_42 (xc_V (pc' := 45) (r := r0) (as := [vI z139673]) (st := []) (lm_9_54) rfl rfl (Nat.le_of_ble_eq_true rfl) w139667 g0 sh_42 (by decide) rfl (by decide) (s_170 w139667 g0 ⟨by omega, by omega⟩) (fun R140073 T140074 H140075 p140076 => ?_))
          obtain ⟨e140077, w140079, f140080, z140081, e140078, b140082⟩ := p140076
          subst e140077
          subst e140078
          have f140083 := f139675.tr f140080 rfl
          show wp _ _ 259 45 [(3, vI z139673), (0, .ref r0), (1, vI a1), (2, vI a2)] [vI z140081] _ H140075 _
          have k140084 : wKI H140075 r0 = wKI H139663 r0 := (wKI_fr w139667 g0 f140080 rfl)
          exact wp_ireturn e259 c259_45 rfl ⟨rfl, w140079, f140083, z140081, rfl, ⟨by omega, by omega⟩, by omega⟩
/-! StrikeAwakeModel.possible(I)J -/
theorem e260 : wq_en 260 = some (9, 6, false, some FieldType.long) := rfl
theorem c260_0 : mc_cd 260 0 = some (.aload_n 0, 1) := by decide +kernel
theorem c260_1 : mc_cd 260 1 = some (.iconst 0, 1) := by decide +kernel
theorem c260_2 : mc_cd 260 2 = some (.putfield 48, 3) := by decide +kernel
theorem c260_5 : mc_cd 260 5 = some (.aload_n 0, 1) := by decide +kernel
theorem c260_6 : mc_cd 260 6 = some (.aload_n 0, 1) := by decide +kernel
theorem c260_7 : mc_cd 260 7 = some (.iload_n 1, 1) := by decide +kernel
theorem c260_8 : mc_cd 260 8 = some (.invokevirtual 364, 3) := by decide +kernel
theorem c260_11 : mc_cd 260 11 = some (.invokevirtual 433, 3) := by decide +kernel
theorem c260_14 : mc_cd 260 14 = some (.istore_n 2, 1) := by decide +kernel
theorem c260_15 : mc_cd 260 15 = some (.iload_n 2, 1) := by decide +kernel
theorem c260_16 : mc_cd 260 16 = some (.ifCond .le 10, 3) := by decide +kernel
theorem c260_19 : mc_cd 260 19 = some (.aload_n 0, 1) := by decide +kernel
theorem c260_20 : mc_cd 260 20 = some (.iload_n 2, 1) := by decide +kernel
theorem c260_21 : mc_cd 260 21 = some (.invokevirtual 54, 3) := by decide +kernel
theorem c260_24 : mc_cd 260 24 = some (.i2l, 1) := by decide +kernel
theorem c260_25 : mc_cd 260 25 = some (.lreturn, 1) := by decide +kernel
theorem c260_26 : mc_cd 260 26 = some (.lconst 0, 1) := by decide +kernel
theorem c260_27 : mc_cd 260 27 = some (.lstore_n 3, 1) := by decide +kernel
theorem c260_28 : mc_cd 260 28 = some (.iconst 0, 1) := by decide +kernel
theorem c260_29 : mc_cd 260 29 = some (.istore 5, 2) := by decide +kernel
theorem c260_31 : mc_cd 260 31 = some (.iload 5, 2) := by decide +kernel
theorem c260_33 : mc_cd 260 33 = some (.aload_n 0, 1) := by decide +kernel
theorem c260_34 : mc_cd 260 34 = some (.getfield 422, 3) := by decide +kernel
theorem c260_37 : mc_cd 260 37 = some (.if_icmp .ge 31, 3) := by decide +kernel
theorem c260_40 : mc_cd 260 40 = some (.aload_n 0, 1) := by decide +kernel
theorem c260_41 : mc_cd 260 41 = some (.aload_n 0, 1) := by decide +kernel
theorem c260_42 : mc_cd 260 42 = some (.getfield 42, 3) := by decide +kernel
theorem c260_45 : mc_cd 260 45 = some (.iload 5, 2) := by decide +kernel
theorem c260_47 : mc_cd 260 47 = some (.iaload, 1) := by decide +kernel
theorem c260_48 : mc_cd 260 48 = some (.invokevirtual 425, 3) := by decide +kernel
theorem c260_51 : mc_cd 260 51 = some (.lload_n 3, 1) := by decide +kernel
theorem c260_52 : mc_cd 260 52 = some (.lconst 1, 1) := by decide +kernel
theorem c260_53 : mc_cd 260 53 = some (.aload_n 0, 1) := by decide +kernel
theorem c260_54 : mc_cd 260 54 = some (.getfield 39, 3) := by decide +kernel
theorem c260_57 : mc_cd 260 57 = some (.iload_n 1, 1) := by decide +kernel
theorem c260_58 : mc_cd 260 58 = some (.iaload, 1) := by decide +kernel
theorem c260_59 : mc_cd 260 59 = some (.lshl, 1) := by decide +kernel
theorem c260_60 : mc_cd 260 60 = some (.lor, 1) := by decide +kernel
theorem c260_61 : mc_cd 260 61 = some (.lstore_n 3, 1) := by decide +kernel
theorem c260_62 : mc_cd 260 62 = some (.iinc 5 1, 3) := by decide +kernel
theorem c260_65 : mc_cd 260 65 = some (.goto (-34), 3) := by decide +kernel
theorem c260_68 : mc_cd 260 68 = some (.aload_n 0, 1) := by decide +kernel
theorem c260_69 : mc_cd 260 69 = some (.lload_n 3, 1) := by decide +kernel
theorem c260_70 : mc_cd 260 70 = some (.invokevirtual 380, 3) := by decide +kernel
theorem c260_73 : mc_cd 260 73 = some (.lreturn, 1) := by decide +kernel
abbrev q_260 (r0 : Nat) (a1 : Int) (T : wq_T) (H : wq_H) : Option Value → wq_T → wq_H → Prop := fun r T' H' => T = T' ∧ WT T H' ∧ wfr [(42, 0), (42, 1), (42, 2), (42, 28), (42, 29), (51, 999), (52, 999)] T H H' ∧ ∃ z : Int, some (vL z) = r ∧ ((-9223372036854775808) ≤ z ∧ z ≤ 9223372036854775807) ∧ (wKI H' r0 = 1)
set_option maxHeartbeats 4000000 in
theorem s_260 {kt : Nat → Option mc_E} {T : wq_T} {H : wq_H} {r0 : Nat} {a1 : Int} (hW : WT T H) (g0 : T.2.2.2 r0 = some 42) (i1 : (-2147483648) ≤ a1 ∧ a1 ≤ 2147483647) (p0 : wKI H r0 = 1) : wpc kt 8 260 [.ref r0, vI a1] T H (q_260 r0 a1 T H) := by
  refine wp_enter e260 (Nat.le_of_ble_eq_true rfl) rfl ?_
  have f0 : wfr [(42, 0), (42, 1), (42, 2), (42, 28), (42, 29), (51, 999), (52, 999)] T H H := wfr.rf
  show wp _ _ 260 0 [(0, .ref r0), (1, vI a1)] [] _ H _
  refine wp_of e260 c260_0 (rw_aload_n (pc' := 1) (v := .ref r0) rfl rfl rfl ?_)
  refine wp_of e260 c260_1 (rw_iconst (pc' := 2) rfl ?_)
  refine wp_of e260 c260_2 (xp_I (pc' := 5) lf_9_48 hW g0 sh_42 (by decide) (by decide) ty_42_0 rfl rfl (by omega) (by omega) ⟨by omega, by omega⟩ rfl (fun H140430 e140431 w140432 => ?_))
  have f140433 := f0.put' e140431 g0 rfl
  have k140434 : H140430 r0 0 = 0 := wq_u_s e140431
  refine wp_of e260 c260_5 (rw_aload_n (pc' := 6) (v := .ref r0) rfl rfl rfl ?_)
  refine wp_of e260 c260_6 (rw_aload_n (pc' := 7) (v := .ref r0) rfl rfl rfl ?_)
  refine wp_of e260 c260_7 (rw_iload_n (pc' := 8) (z := a1) rfl rfl ?_)
  refine wp_of e260 c260_8 (xc_V (pc' := 11) (r := r0) (as := [vI a1]) (st := [.ref r0]) (lm_9_364) rfl rfl (Nat.le_of_ble_eq_true rfl) w140432 g0 sh_42 (by decide) rfl (by decide) (s_213 w140432 g0 ⟨by omega, by omega⟩) (fun R140435 T140436 H140437 p140438 => ?_))
  obtain ⟨e140439, e140441, z140443, e140440, b140444, p140442⟩ := p140438
  subst e140439
  subst e140440
  subst e140441
  show wp _ _ 260 11 [(0, .ref r0), (1, vI a1)] [vI z140443, .ref r0] _ H140430 _
  have k140445 : wKI H140430 r0 = wKI H r0 := (wKI_fr hW g0 ((wfr.rf (l := [(42, 0)])).put' e140431 g0 rfl) rfl)
  refine wp_of e260 c260_11 (xc_V (pc' := 14) (r := r0) (as := [vI z140443]) (st := []) (lm_9_433) rfl rfl (Nat.le_of_ble_eq_true rfl) w140432 g0 sh_42 (by decide) rfl (by decide) (s_241 w140432 g0 ⟨by omega, by omega⟩ (by omega) (by omega)) (fun R140446 T140447 H140448 p140449 => ?_))
  obtain ⟨e140450, w140452, f140453, z140458, e140451, b140459, p140454, p140455, p140456, p140457⟩ := p140449
  subst e140450
  subst e140451
  have f140460 := f140433.tr f140453 rfl
  show wp _ _ 260 14 [(0, .ref r0), (1, vI a1)] [vI z140458] _ H140448 _
  refine wp_of e260 c260_14 (rw_istore_n (pc' := 15) (z := z140458) (L' := [(2, vI z140458), (0, .ref r0), (1, vI a1)]) rfl rfl rfl ?_)
  refine wp_of e260 c260_15 (rw_iload_n (pc' := 16) (z := z140458) rfl rfl ?_)
  refine wp_of e260 c260_16 (rw_if_le (p1 := 26) (p2 := 19) (by decide) rfl ⟨by omega, by omega⟩ (fun c140461 => ?_) (fun c140461 => ?_))
  · refine wp_of e260 c260_26 (rw_lconst (pc' := 27) (z := 0) rfl rfl ?_)
    refine wp_of e260 c260_27 (rw_lstore_n (pc' := 28) (z := 0) (L' := [(3, vL 0), (2, vI z140458), (0, .ref r0), (1, vI a1)]) rfl rfl rfl ?_)
    refine wp_of e260 c260_28 (rw_iconst (pc' := 29) rfl ?_)
    refine wp_of e260 c260_29 (rw_istore (pc' := 31) (z := 0) (L' := [(5, vI 0), (3, vL 0), (2, vI z140458), (0, .ref r0), (1, vI a1)]) rfl rfl rfl ?_)
    have lp140718 : ∀ (n140719 : Nat) (v140721 : Int) (v140722 : Int) (H140723 : wq_H), WT T H140723 → wfr [(51, 999)] T H140448 H140723 → (0 ≤ v140721 ∧ v140721 ≤ 20000) → ((-9223372036854775808) ≤ v140722 ∧ v140722 ≤ 9223372036854775807) → (20000 - v140721).toNat = n140719 → wp kt 7 260 31 [(5, vI v140721), (3, vL v140722), (0, .ref r0), (1, vI a1)] [] T H140723 (q_260 r0 a1 T H) := by
      intro n140719
      induction n140719 using Nat.strongRecOn with
      | _ n140719 ih140720 =>
        intro v140721 v140722 H140723 w140724 f140725 b140726 b140727 m140728
        have f140729 := f140460.tr f140725 rfl
        refine wp_of e260 c260_31 (rw_iload (pc' := 33) (z := v140721) rfl rfl ?_)
        refine wp_of e260 c260_33 (rw_aload_n (pc' := 34) (v := .ref r0) rfl rfl rfl ?_)
        have k140730 : H140723 r0 29 = H140448 r0 29 := (f140725 r0 29 _ g0 rfl)
        refine wp_of e260 c260_34 (xg_I (pc' := 37) lf_9_422 w140724 g0 sh_42 (by decide) (by decide) ty_42_29 rfl rfl (fun b140731 b140732 => ?_))
        refine wp_of e260 c260_37 (rw_icmp_ge (p1 := 68) (p2 := 40) (by decide) rfl ⟨by omega, by omega⟩ ⟨by omega, by omega⟩ (fun c140733 => ?_) (fun c140733 => ?_))
        · refine wp_of e260 c260_68 (rw_aload_n (pc' := 69) (v := .ref r0) rfl rfl rfl ?_)
          refine wp_of e260 c260_69 (rw_lload_n (pc' := 70) (z := v140722) rfl rfl ?_)
          refine wp_of e260 c260_70 (xc_V (pc' := 73) (r := r0) (as := [vL v140722]) (st := []) (lm_9_380) rfl rfl (Nat.le_of_ble_eq_true rfl) w140724 g0 sh_42 (by decide) rfl (by decide) (s_221 w140724 g0 ⟨by omega, by omega⟩) (fun R140734 T140735 H140736 p140737 => ?_))
          obtain ⟨e140738, w140740, f140741, z140742, e140739, b140743⟩ := p140737
          subst e140738
          subst e140739
          have f140744 := f140729.tr f140741 rfl
          show wp _ _ 260 73 [(5, vI v140721), (3, vL v140722), (0, .ref r0), (1, vI a1)] [vL z140742] _ H140736 _
          have k140745 : wKI H140736 r0 = wKI H140448 r0 := ((wKI_fr w140724 g0 f140741 rfl).trans (wKI_fr w140452 g0 f140725 rfl))
          exact wp_lreturn e260 c260_73 rfl ⟨rfl, w140740, f140744, z140742, rfl, ⟨by omega, by omega⟩, by omega⟩
        · refine wp_of e260 c260_40 (rw_aload_n (pc' := 41) (v := .ref r0) rfl rfl rfl ?_)
          refine wp_of e260 c260_41 (rw_aload_n (pc' := 42) (v := .ref r0) rfl rfl rfl ?_)
          refine wp_of e260 c260_42 (xg_R (pc' := 45) lf_9_42 w140724 g0 sh_42 (by decide) (by decide) ty_42_30 rfl rfl (fun r140746 q140747 g140748 => ?_))
          refine wp_of e260 c260_45 (rw_iload (pc' := 47) (z := v140721) rfl rfl ?_)
          refine wp_of e260 c260_47 (xa_I (so := 0) (pc' := 48) w140724 g140748 sh_52 (by decide) (ty_52 _) (by omega) (by omega) rfl (fun b140749 b140750 => ?_))
          have k140751 : wLM H140723 r0 = wLM H140448 r0 := (wLM_fr w140452 g0 f140725 rfl)
          have k140752 : H140723 r0 3 = H140430 r0 3 := ((f140725 r0 3 _ g0 rfl).trans (f140453 r0 3 _ g0 rfl))
          obtain ⟨r140753, q140754, g140755⟩ := (w140724.opt g0 (t' := 54) (n := 33) (j := 3) (p := 0) (q := 0) rfl (by decide) rfl).resolve_left (by omega)
          refine wp_of e260 c260_48 (xc_V (pc' := 51) (r := r0) (as := [vI (H140723 r140746 (v140721.toNat))]) (st := []) (lm_9_425) rfl rfl (Nat.le_of_ble_eq_true rfl) w140724 g0 sh_42 (by decide) rfl (by decide) (s_243 w140724 g0 ⟨by omega, by omega⟩ q140754 g140755 (by omega)) (fun R140756 T140757 H140758 p140759 => ?_))
          obtain ⟨e140760, w140762, f140763, e140761⟩ := p140759
          subst e140760
          subst e140761
          have f140764 := f140729.tr f140763 rfl
          have f140765 := f140725.tr f140763 rfl
          show wp _ _ 260 51 [(5, vI v140721), (3, vL v140722), (0, .ref r0), (1, vI a1)] [] _ H140758 _
          refine wp_of e260 c260_51 (rw_lload_n (pc' := 52) (z := v140722) rfl rfl ?_)
          refine wp_of e260 c260_52 (rw_lconst (pc' := 53) (z := 1) rfl rfl ?_)
          refine wp_of e260 c260_53 (rw_aload_n (pc' := 54) (v := .ref r0) rfl rfl rfl ?_)
          refine wp_of e260 c260_54 (xg_R (pc' := 57) lf_9_39 w140762 g0 sh_42 (by decide) (by decide) ty_42_27 rfl rfl (fun r140766 q140767 g140768 => ?_))
          refine wp_of e260 c260_57 (rw_iload_n (pc' := 58) (z := a1) rfl rfl ?_)
          refine wp_of e260 c260_58 (xa_I (so := 0) (pc' := 59) w140762 g140768 sh_51 (by decide) (ty_51 _) (by omega) (by omega) rfl (fun b140769 b140770 => ?_))
          refine wp_of e260 c260_59 (rw_lshl (pc' := 60) rfl ?_)
          obtain ⟨v140771, e140772⟩ : ∃ x : Int, x = wl_shl 1 (H140758 r140766 (a1.toNat)) := ⟨_, rfl⟩
          rw [← e140772]
          have b140773 : -9223372036854775808 ≤ v140771 ∧ v140771 ≤ 9223372036854775807 := by
            rw [e140772]
            exact wL_shl _ _
          refine wp_of e260 c260_60 (rw_lor (pc' := 61) rfl ?_)
          obtain ⟨v140774, e140775⟩ : ∃ x : Int, x = wl_or v140722 v140771 := ⟨_, rfl⟩
          rw [← e140775]
          have b140776 : -9223372036854775808 ≤ v140774 ∧ v140774 ≤ 9223372036854775807 := by
            rw [e140775]
            exact wL_or _ _
          refine wp_of e260 c260_61 (rw_lstore_n (pc' := 62) (z := v140774) (L' := [(3, vL v140774), (5, vI v140721), (0, .ref r0), (1, vI a1)]) rfl rfl rfl ?_)
          refine wp_of e260 c260_62 (rw_iinc (pc' := 65) (z := v140721) (L' := [(5, vI (v140721 + 1)), (3, vL v140774), (0, .ref r0), (1, vI a1)]) rfl rfl rfl rfl ?_)
          refine wp_of e260 c260_65 (rw_goto (p1 := 31) (by decide) ?_)
          exact wp_lc (ks := [5, 3, 0, 1]) (wl_c rfl (wl_c rfl (wl_c rfl (wl_c rfl wl_n)))) rfl (by decide) (ih140720 _ (by omega) (v140721 + 1) v140774 H140758 w140762 f140765 ⟨by omega, by omega⟩ ⟨by omega, by omega⟩ rfl)
    exact wp_lc (ks := [5, 3, 2, 0, 1]) (wl_c rfl (wl_c rfl (wl_c rfl (wl_c rfl wl_n)))) rfl (by decide) (lp140718 _ 0 0 H140448 w140452 wfr.rf ⟨by omega, by omega⟩ ⟨by omega, by omega⟩ rfl)
  · refine wp_of e260 c260_19 (rw_aload_n (pc' := 20) (v := .ref r0) rfl rfl rfl ?_)
    refine wp_of e260 c260_20 (rw_iload_n (pc' := 21) (z := z140458) rfl rfl ?_)
    refine wp_of e260 c260_21 (xc_V (pc' := 24) (r := r0) (as := [vI z140458]) (st := []) (lm_9_54) rfl rfl (Nat.le_of_ble_eq_true rfl) w140452 g0 sh_42 (by decide) rfl (by decide) (s_170 w140452 g0 ⟨by omega, by omega⟩) (fun R140777 T140778 H140779 p140780 => ?_))
    obtain ⟨e140781, w140783, f140784, z140785, e140782, b140786⟩ := p140780
    subst e140781
    subst e140782
    have f140787 := f140460.tr f140784 rfl
    show wp _ _ 260 24 [(2, vI z140458), (0, .ref r0), (1, vI a1)] [vI z140785] _ H140779 _
    refine wp_of e260 c260_24 (rw_i2l (pc' := 25) rfl ⟨by omega, by omega⟩ ?_)
    have k140788 : wKI H140779 r0 = wKI H140448 r0 := (wKI_fr w140452 g0 f140784 rfl)
    exact wp_lreturn e260 c260_25 rfl ⟨rfl, w140783, f140787, z140785, rfl, ⟨by omega, by omega⟩, by omega⟩
/-! StrikeAwakeModel.awakeSet([II)I -/
theorem e262 : wq_en 262 = some (9, 5, false, some FieldType.int) := rfl
theorem c262_0 : mc_cd 262 0 = some (.iconst 0, 1) := by decide +kernel
theorem c262_1 : mc_cd 262 1 = some (.istore_n 3, 1) := by decide +kernel
theorem c262_2 : mc_cd 262 2 = some (.iconst 0, 1) := by decide +kernel
theorem c262_3 : mc_cd 262 3 = some (.istore 4, 2) := by decide +kernel
theorem c262_5 : mc_cd 262 5 = some (.iload 4, 2) := by decide +kernel
theorem c262_7 : mc_cd 262 7 = some (.aload_n 0, 1) := by decide +kernel
theorem c262_8 : mc_cd 262 8 = some (.getfield 337, 3) := by decide +kernel
theorem c262_11 : mc_cd 262 11 = some (.getfield 188, 3) := by decide +kernel
theorem c262_14 : mc_cd 262 14 = some (.if_icmp .ge 42, 3) := by decide +kernel
theorem c262_17 : mc_cd 262 17 = some (.iload_n 3, 1) := by decide +kernel
theorem c262_18 : mc_cd 262 18 = some (.aload_n 0, 1) := by decide +kernel
theorem c262_19 : mc_cd 262 19 = some (.getfield 33, 3) := by decide +kernel
theorem c262_22 : mc_cd 262 22 = some (.bipush 40, 2) := by decide +kernel
theorem c262_24 : mc_cd 262 24 = some (.iload 4, 2) := by decide +kernel
theorem c262_26 : mc_cd 262 26 = some (.imul, 1) := by decide +kernel
theorem c262_27 : mc_cd 262 27 = some (.aload_n 1, 1) := by decide +kernel
theorem c262_28 : mc_cd 262 28 = some (.iload 4, 2) := by decide +kernel
theorem c262_30 : mc_cd 262 30 = some (.iaload, 1) := by decide +kernel
theorem c262_31 : mc_cd 262 31 = some (.iadd, 1) := by decide +kernel
theorem c262_32 : mc_cd 262 32 = some (.iaload, 1) := by decide +kernel
theorem c262_33 : mc_cd 262 33 = some (.iload_n 2, 1) := by decide +kernel
theorem c262_34 : mc_cd 262 34 = some (.invokestatic 346, 3) := by decide +kernel
theorem c262_37 : mc_cd 262 37 = some (.ifCond .eq 10, 3) := by decide +kernel
theorem c262_40 : mc_cd 262 40 = some (.iconst 1, 1) := by decide +kernel
theorem c262_41 : mc_cd 262 41 = some (.iload 4, 2) := by decide +kernel
theorem c262_43 : mc_cd 262 43 = some (.ishl, 1) := by decide +kernel
theorem c262_44 : mc_cd 262 44 = some (.goto 4, 3) := by decide +kernel
theorem c262_47 : mc_cd 262 47 = some (.iconst 0, 1) := by decide +kernel
theorem c262_48 : mc_cd 262 48 = some (.ior, 1) := by decide +kernel
theorem c262_49 : mc_cd 262 49 = some (.istore_n 3, 1) := by decide +kernel
theorem c262_50 : mc_cd 262 50 = some (.iinc 4 1, 3) := by decide +kernel
theorem c262_53 : mc_cd 262 53 = some (.goto (-48), 3) := by decide +kernel
theorem c262_56 : mc_cd 262 56 = some (.iload_n 3, 1) := by decide +kernel
theorem c262_57 : mc_cd 262 57 = some (.ireturn, 1) := by decide +kernel
abbrev q_262_m_lot (r0 : Nat) (r1 : Nat) (a2 : Int) (pp : Nat) (T : wq_T) (H : wq_H) : Option Value → wq_T → wq_H → Prop := fun r T' H' => T = T' ∧ H = H' ∧ ∃ z : Int, some (vI z) = r ∧ ((-2147483648) ≤ z ∧ z ≤ 2147483647)
set_option maxHeartbeats 4000000 in
theorem s_262_m_lot {kt : Nat → Option mc_E} {T : wq_T} {H : wq_H} {r0 : Nat} {r1 : Nat} {a2 : Int} {pp : Nat} (hW : WT T H) (g0 : T.2.2.2 r0 = some 42) (g1 : T.2.2.2 r1 = some 51) (i2 : (-2147483648) ≤ a2 ∧ a2 ≤ 2147483647) (qpp : H r0 3 = (pp : Int)) (gpp : T.2.2.2 pp = some 54) : wpc kt 2 262 [.ref r0, .ref r1, vI a2] T H (q_262_m_lot r0 r1 a2 pp T H) := by
  refine wp_enter e262 (Nat.le_of_ble_eq_true rfl) rfl ?_
  show wp _ _ 262 0 [(0, .ref r0), (1, .ref r1), (2, vI a2)] [] _ H _
  refine wp_of e262 c262_0 (rw_iconst (pc' := 1) rfl ?_)
  refine wp_of e262 c262_1 (rw_istore_n (pc' := 2) (z := 0) (L' := [(3, vI 0), (0, .ref r0), (1, .ref r1), (2, vI a2)]) rfl rfl rfl ?_)
  refine wp_of e262 c262_2 (rw_iconst (pc' := 3) rfl ?_)
  refine wp_of e262 c262_3 (rw_istore (pc' := 5) (z := 0) (L' := [(4, vI 0), (3, vI 0), (0, .ref r0), (1, .ref r1), (2, vI a2)]) rfl rfl rfl ?_)
  have lp141208 : ∀ (n141209 : Nat) (v141211 : Int) (v141212 : Int), (0 ≤ v141211 ∧ v141211 ≤ 6) → (0 ≤ v141212 ∧ v141212 ≤ 16777215) → (6 - v141211).toNat = n141209 → wp kt 1 262 5 [(4, vI v141211), (3, vI v141212), (0, .ref r0), (1, .ref r1), (2, vI a2)] [] T H (q_262_m_lot r0 r1 a2 pp T H) := by
    intro n141209
    induction n141209 using Nat.strongRecOn with
    | _ n141209 ih141210 =>
      intro v141211 v141212 b141215 b141216 m141217
      refine wp_of e262 c262_5 (rw_iload (pc' := 7) (z := v141211) rfl rfl ?_)
      refine wp_of e262 c262_7 (rw_aload_n (pc' := 8) (v := .ref r0) rfl rfl rfl ?_)
      refine wp_of e262 c262_8 (xg_K (pc' := 11) lf_9_337 hW g0 sh_42 (by decide) (by decide) rfl qpp rfl ?_)
      refine wp_of e262 c262_11 (xg_I (pc' := 14) lf_9_188 hW gpp sh_54 (by decide) (by decide) ty_54_3 rfl rfl (fun b141218 b141219 => ?_))
      refine wp_of e262 c262_14 (rw_icmp_ge (p1 := 56) (p2 := 17) (by decide) rfl ⟨by omega, by omega⟩ ⟨by omega, by omega⟩ (fun c141220 => ?_) (fun c141220 => ?_))
      · refine wp_of e262 c262_56 (rw_iload_n (pc' := 57) (z := v141212) rfl rfl ?_)
        exact wp_ireturn e262 c262_57 rfl ⟨rfl, rfl, v141212, rfl, ⟨by omega, by omega⟩⟩
      · refine wp_of e262 c262_17 (rw_iload_n (pc' := 18) (z := v141212) rfl rfl ?_)
        refine wp_of e262 c262_18 (rw_aload_n (pc' := 19) (v := .ref r0) rfl rfl rfl ?_)
        refine wp_of e262 c262_19 (xg_R (pc' := 22) lf_9_33 hW g0 sh_42 (by decide) (by decide) ty_42_25 rfl rfl (fun r141221 q141222 g141223 => ?_))
        refine wp_of e262 c262_22 (rw_bipush (pc' := 24) (z := 40) rfl (by decide) ?_)
        refine wp_of e262 c262_24 (rw_iload (pc' := 26) (z := v141211) rfl rfl ?_)
        refine wp_of e262 c262_26 (rw_imul (pc' := 27) rfl ?_)
        refine wp_of e262 c262_27 (rw_aload_n (pc' := 28) (v := .ref r1) rfl rfl rfl ?_)
        refine wp_of e262 c262_28 (rw_iload (pc' := 30) (z := v141211) rfl rfl ?_)
        refine wp_of e262 c262_30 (xa_I (so := 0) (pc' := 31) hW g1 sh_51 (by decide) (ty_51 _) (by omega) (by omega) rfl (fun b141224 b141225 => ?_))
        refine wp_of e262 c262_31 (rw_iadd (pc' := 32) rfl ?_)
        refine wp_of e262 c262_32 (xa_I (so := 0) (pc' := 33) hW g141223 sh_49 (by decide) (ty_49 _) (by omega) (by omega) rfl (fun b141226 b141227 => ?_))
        refine wp_of e262 c262_33 (rw_iload_n (pc' := 34) (z := a2) rfl rfl ?_)
        refine wp_of e262 c262_34 (xc_S (pc' := 37) (as := [vI (H r141221 (((40 * v141211) + (H r1 (v141211.toNat))).toNat)), vI a2]) (st := [vI v141212]) (lm_9_346) rfl rfl (Nat.le_of_ble_eq_true rfl) rfl (by decide) (s_205 hW ⟨by omega, by omega⟩ ⟨by omega, by omega⟩) (fun R141228 T141229 H141230 p141231 => ?_))
        obtain ⟨e141232, e141234, z141235, e141233, b141236⟩ := p141231
        subst e141232
        subst e141233
        subst e141234
        show wp _ _ 262 37 [(4, vI v141211), (3, vI v141212), (0, .ref r0), (1, .ref r1), (2, vI a2)] [vI z141235, vI v141212] _ H _
        refine wp_of e262 c262_37 (rw_if_eq (p1 := 47) (p2 := 40) (by decide) rfl ⟨by omega, by omega⟩ (fun c141237 => ?_) (fun c141237 => ?_))
        · refine wp_of e262 c262_47 (rw_iconst (pc' := 48) rfl ?_)
          refine wp_of e262 c262_48 (rw_ior (pc' := 49) rfl ?_)
          obtain ⟨v141238, e141239⟩ : ∃ x : Int, x = wq_or v141212 0 := ⟨_, rfl⟩
          rw [← e141239]
          have b141240 : 0 ≤ v141238 ∧ v141238 ≤ 16777215 := by
            rw [e141239]
            exact wq_or_24 ⟨by omega, by omega⟩ ⟨by omega, by omega⟩
          refine wp_of e262 c262_49 (rw_istore_n (pc' := 50) (z := v141238) (L' := [(3, vI v141238), (4, vI v141211), (0, .ref r0), (1, .ref r1), (2, vI a2)]) rfl rfl rfl ?_)
          refine wp_of e262 c262_50 (rw_iinc (pc' := 53) (z := v141211) (L' := [(4, vI (v141211 + 1)), (3, vI v141238), (0, .ref r0), (1, .ref r1), (2, vI a2)]) rfl rfl rfl rfl ?_)
          refine wp_of e262 c262_53 (rw_goto (p1 := 5) (by decide) ?_)
          exact wp_lc (ks := [4, 3, 0, 1, 2]) (wl_c rfl (wl_c rfl (wl_c rfl (wl_c rfl (wl_c rfl wl_n))))) rfl (by decide) (ih141210 _ (by omega) (v141211 + 1) v141238 ⟨by omega, by omega⟩ ⟨by omega, by omega⟩ rfl)
        · refine wp_of e262 c262_40 (rw_iconst (pc' := 41) rfl ?_)
          refine wp_of e262 c262_41 (rw_iload (pc' := 43) (z := v141211) rfl rfl ?_)
          refine wp_of e262 c262_43 (rw_ishl (pc' := 44) rfl ?_)
          obtain ⟨v141241, e141242⟩ : ∃ x : Int, x = wq_shl 1 v141211 := ⟨_, rfl⟩
          rw [← e141242]
          have b141243 : 1 ≤ v141241 ∧ v141241 ≤ 64 := by
            rw [e141242]
            exact wq_shl1_6 ⟨by omega, by omega⟩
          refine wp_of e262 c262_44 (rw_goto (p1 := 48) (by decide) ?_)
          refine wp_of e262 c262_48 (rw_ior (pc' := 49) rfl ?_)
          obtain ⟨v141244, e141245⟩ : ∃ x : Int, x = wq_or v141212 v141241 := ⟨_, rfl⟩
          rw [← e141245]
          have b141246 : 0 ≤ v141244 ∧ v141244 ≤ 16777215 := by
            rw [e141245]
            exact wq_or_24 ⟨by omega, by omega⟩ ⟨by omega, by omega⟩
          refine wp_of e262 c262_49 (rw_istore_n (pc' := 50) (z := v141244) (L' := [(3, vI v141244), (4, vI v141211), (0, .ref r0), (1, .ref r1), (2, vI a2)]) rfl rfl rfl ?_)
          refine wp_of e262 c262_50 (rw_iinc (pc' := 53) (z := v141211) (L' := [(4, vI (v141211 + 1)), (3, vI v141244), (0, .ref r0), (1, .ref r1), (2, vI a2)]) rfl rfl rfl rfl ?_)
          refine wp_of e262 c262_53 (rw_goto (p1 := 5) (by decide) ?_)
          exact wp_lc (ks := [4, 3, 0, 1, 2]) (wl_c rfl (wl_c rfl (wl_c rfl (wl_c rfl (wl_c rfl wl_n))))) rfl (by decide) (ih141210 _ (by omega) (v141211 + 1) v141244 ⟨by omega, by omega⟩ ⟨by omega, by omega⟩ rfl)
  exact wp_lc (ks := [4, 3, 0, 1, 2]) (wl_c rfl (wl_c rfl (wl_c rfl (wl_c rfl (wl_c rfl wl_n))))) rfl (by decide) (lp141208 _ 0 0 ⟨by omega, by omega⟩ ⟨by omega, by omega⟩ rfl)

/-! StrikeAwakeModel.awakeSet([II)I -/
abbrev q_262_m_one (r0 : Nat) (r1 : Nat) (a2 : Int) (pp : Nat) (T : wq_T) (H : wq_H) : Option Value → wq_T → wq_H → Prop := fun r T' H' => T = T' ∧ H = H' ∧ ∃ z : Int, some (vI z) = r ∧ ((-2147483648) ≤ z ∧ z ≤ 2147483647)
set_option maxHeartbeats 4000000 in
theorem s_262_m_one {kt : Nat → Option mc_E} {T : wq_T} {H : wq_H} {r0 : Nat} {r1 : Nat} {a2 : Int} {pp : Nat} (hW : WT T H) (g0 : T.2.2.2 r0 = some 42) (g1 : T.2.2.2 r1 = some 53) (i2 : (-2147483648) ≤ a2 ∧ a2 ≤ 2147483647) (qpp : H r0 3 = (pp : Int)) (gpp : T.2.2.2 pp = some 54) : wpc kt 2 262 [.ref r0, .ref r1, vI a2] T H (q_262_m_one r0 r1 a2 pp T H) := by
  refine wp_enter e262 (Nat.le_of_ble_eq_true rfl) rfl ?_
  show wp _ _ 262 0 [(0, .ref r0), (1, .ref r1), (2, vI a2)] [] _ H _
  refine wp_of e262 c262_0 (rw_iconst (pc' := 1) rfl ?_)
  refine wp_of e262 c262_1 (rw_istore_n (pc' := 2) (z := 0) (L' := [(3, vI 0), (0, .ref r0), (1, .ref r1), (2, vI a2)]) rfl rfl rfl ?_)
  refine wp_of e262 c262_2 (rw_iconst (pc' := 3) rfl ?_)
  refine wp_of e262 c262_3 (rw_istore (pc' := 5) (z := 0) (L' := [(4, vI 0), (3, vI 0), (0, .ref r0), (1, .ref r1), (2, vI a2)]) rfl rfl rfl ?_)
  have lp141666 : ∀ (n141667 : Nat) (v141669 : Int) (v141670 : Int), (0 ≤ v141669 ∧ v141669 ≤ 6) → (0 ≤ v141670 ∧ v141670 ≤ 16777215) → (6 - v141669).toNat = n141667 → wp kt 1 262 5 [(4, vI v141669), (3, vI v141670), (0, .ref r0), (1, .ref r1), (2, vI a2)] [] T H (q_262_m_one r0 r1 a2 pp T H) := by
    intro n141667
    induction n141667 using Nat.strongRecOn with
    | _ n141667 ih141668 =>
      intro v141669 v141670 b141673 b141674 m141675
      refine wp_of e262 c262_5 (rw_iload (pc' := 7) (z := v141669) rfl rfl ?_)
      refine wp_of e262 c262_7 (rw_aload_n (pc' := 8) (v := .ref r0) rfl rfl rfl ?_)
      refine wp_of e262 c262_8 (xg_K (pc' := 11) lf_9_337 hW g0 sh_42 (by decide) (by decide) rfl qpp rfl ?_)
      refine wp_of e262 c262_11 (xg_I (pc' := 14) lf_9_188 hW gpp sh_54 (by decide) (by decide) ty_54_3 rfl rfl (fun b141676 b141677 => ?_))
      refine wp_of e262 c262_14 (rw_icmp_ge (p1 := 56) (p2 := 17) (by decide) rfl ⟨by omega, by omega⟩ ⟨by omega, by omega⟩ (fun c141678 => ?_) (fun c141678 => ?_))
      · refine wp_of e262 c262_56 (rw_iload_n (pc' := 57) (z := v141670) rfl rfl ?_)
        exact wp_ireturn e262 c262_57 rfl ⟨rfl, rfl, v141670, rfl, ⟨by omega, by omega⟩⟩
      · refine wp_of e262 c262_17 (rw_iload_n (pc' := 18) (z := v141670) rfl rfl ?_)
        refine wp_of e262 c262_18 (rw_aload_n (pc' := 19) (v := .ref r0) rfl rfl rfl ?_)
        refine wp_of e262 c262_19 (xg_R (pc' := 22) lf_9_33 hW g0 sh_42 (by decide) (by decide) ty_42_25 rfl rfl (fun r141679 q141680 g141681 => ?_))
        refine wp_of e262 c262_22 (rw_bipush (pc' := 24) (z := 40) rfl (by decide) ?_)
        refine wp_of e262 c262_24 (rw_iload (pc' := 26) (z := v141669) rfl rfl ?_)
        refine wp_of e262 c262_26 (rw_imul (pc' := 27) rfl ?_)
        refine wp_of e262 c262_27 (rw_aload_n (pc' := 28) (v := .ref r1) rfl rfl rfl ?_)
        refine wp_of e262 c262_28 (rw_iload (pc' := 30) (z := v141669) rfl rfl ?_)
        refine wp_of e262 c262_30 (xa_I (so := 0) (pc' := 31) hW g1 sh_53 (by decide) (ty_53 _) (by omega) (by omega) rfl (fun b141682 b141683 => ?_))
        refine wp_of e262 c262_31 (rw_iadd (pc' := 32) rfl ?_)
        refine wp_of e262 c262_32 (xa_I (so := 0) (pc' := 33) hW g141681 sh_49 (by decide) (ty_49 _) (by omega) (by omega) rfl (fun b141684 b141685 => ?_))
        refine wp_of e262 c262_33 (rw_iload_n (pc' := 34) (z := a2) rfl rfl ?_)
        refine wp_of e262 c262_34 (xc_S (pc' := 37) (as := [vI (H r141679 (((40 * v141669) + (H r1 (v141669.toNat))).toNat)), vI a2]) (st := [vI v141670]) (lm_9_346) rfl rfl (Nat.le_of_ble_eq_true rfl) rfl (by decide) (s_205 hW ⟨by omega, by omega⟩ ⟨by omega, by omega⟩) (fun R141686 T141687 H141688 p141689 => ?_))
        obtain ⟨e141690, e141692, z141693, e141691, b141694⟩ := p141689
        subst e141690
        subst e141691
        subst e141692
        show wp _ _ 262 37 [(4, vI v141669), (3, vI v141670), (0, .ref r0), (1, .ref r1), (2, vI a2)] [vI z141693, vI v141670] _ H _
        refine wp_of e262 c262_37 (rw_if_eq (p1 := 47) (p2 := 40) (by decide) rfl ⟨by omega, by omega⟩ (fun c141695 => ?_) (fun c141695 => ?_))
        · refine wp_of e262 c262_47 (rw_iconst (pc' := 48) rfl ?_)
          refine wp_of e262 c262_48 (rw_ior (pc' := 49) rfl ?_)
          obtain ⟨v141696, e141697⟩ : ∃ x : Int, x = wq_or v141670 0 := ⟨_, rfl⟩
          rw [← e141697]
          have b141698 : 0 ≤ v141696 ∧ v141696 ≤ 16777215 := by
            rw [e141697]
            exact wq_or_24 ⟨by omega, by omega⟩ ⟨by omega, by omega⟩
          refine wp_of e262 c262_49 (rw_istore_n (pc' := 50) (z := v141696) (L' := [(3, vI v141696), (4, vI v141669), (0, .ref r0), (1, .ref r1), (2, vI a2)]) rfl rfl rfl ?_)
          refine wp_of e262 c262_50 (rw_iinc (pc' := 53) (z := v141669) (L' := [(4, vI (v141669 + 1)), (3, vI v141696), (0, .ref r0), (1, .ref r1), (2, vI a2)]) rfl rfl rfl rfl ?_)
          refine wp_of e262 c262_53 (rw_goto (p1 := 5) (by decide) ?_)
          exact wp_lc (ks := [4, 3, 0, 1, 2]) (wl_c rfl (wl_c rfl (wl_c rfl (wl_c rfl (wl_c rfl wl_n))))) rfl (by decide) (ih141668 _ (by omega) (v141669 + 1) v141696 ⟨by omega, by omega⟩ ⟨by omega, by omega⟩ rfl)
        · refine wp_of e262 c262_40 (rw_iconst (pc' := 41) rfl ?_)
          refine wp_of e262 c262_41 (rw_iload (pc' := 43) (z := v141669) rfl rfl ?_)
          refine wp_of e262 c262_43 (rw_ishl (pc' := 44) rfl ?_)
          obtain ⟨v141699, e141700⟩ : ∃ x : Int, x = wq_shl 1 v141669 := ⟨_, rfl⟩
          rw [← e141700]
          have b141701 : 1 ≤ v141699 ∧ v141699 ≤ 64 := by
            rw [e141700]
            exact wq_shl1_6 ⟨by omega, by omega⟩
          refine wp_of e262 c262_44 (rw_goto (p1 := 48) (by decide) ?_)
          refine wp_of e262 c262_48 (rw_ior (pc' := 49) rfl ?_)
          obtain ⟨v141702, e141703⟩ : ∃ x : Int, x = wq_or v141670 v141699 := ⟨_, rfl⟩
          rw [← e141703]
          have b141704 : 0 ≤ v141702 ∧ v141702 ≤ 16777215 := by
            rw [e141703]
            exact wq_or_24 ⟨by omega, by omega⟩ ⟨by omega, by omega⟩
          refine wp_of e262 c262_49 (rw_istore_n (pc' := 50) (z := v141702) (L' := [(3, vI v141702), (4, vI v141669), (0, .ref r0), (1, .ref r1), (2, vI a2)]) rfl rfl rfl ?_)
          refine wp_of e262 c262_50 (rw_iinc (pc' := 53) (z := v141669) (L' := [(4, vI (v141669 + 1)), (3, vI v141702), (0, .ref r0), (1, .ref r1), (2, vI a2)]) rfl rfl rfl rfl ?_)
          refine wp_of e262 c262_53 (rw_goto (p1 := 5) (by decide) ?_)
          exact wp_lc (ks := [4, 3, 0, 1, 2]) (wl_c rfl (wl_c rfl (wl_c rfl (wl_c rfl (wl_c rfl wl_n))))) rfl (by decide) (ih141668 _ (by omega) (v141669 + 1) v141702 ⟨by omega, by omega⟩ ⟨by omega, by omega⟩ rfl)
  exact wp_lc (ks := [4, 3, 0, 1, 2]) (wl_c rfl (wl_c rfl (wl_c rfl (wl_c rfl (wl_c rfl wl_n))))) rfl (by decide) (lp141666 _ 0 0 ⟨by omega, by omega⟩ ⟨by omega, by omega⟩ rfl)
/-! StrikeAwakeModel.hiding(II)I -/
theorem e261 : wq_en 261 = some (9, 6, false, some FieldType.int) := rfl
theorem c261_0 : mc_cd 261 0 = some (.aload_n 0, 1) := by decide +kernel
theorem c261_1 : mc_cd 261 1 = some (.iconst 0, 1) := by decide +kernel
theorem c261_2 : mc_cd 261 2 = some (.putfield 48, 3) := by decide +kernel
theorem c261_5 : mc_cd 261 5 = some (.aload_n 0, 1) := by decide +kernel
theorem c261_6 : mc_cd 261 6 = some (.aload_n 0, 1) := by decide +kernel
theorem c261_7 : mc_cd 261 7 = some (.iload_n 1, 1) := by decide +kernel
theorem c261_8 : mc_cd 261 8 = some (.invokevirtual 364, 3) := by decide +kernel
theorem c261_11 : mc_cd 261 11 = some (.ifCond .eq 15, 3) := by decide +kernel
theorem c261_14 : mc_cd 261 14 = some (.aload_n 0, 1) := by decide +kernel
theorem c261_15 : mc_cd 261 15 = some (.iload_n 2, 1) := by decide +kernel
theorem c261_16 : mc_cd 261 16 = some (.invokevirtual 373, 3) := by decide +kernel
theorem c261_19 : mc_cd 261 19 = some (.ifCond .eq 7, 3) := by decide +kernel
theorem c261_22 : mc_cd 261 22 = some (.iconst 1, 1) := by decide +kernel
theorem c261_23 : mc_cd 261 23 = some (.goto 4, 3) := by decide +kernel
theorem c261_26 : mc_cd 261 26 = some (.iconst 0, 1) := by decide +kernel
theorem c261_27 : mc_cd 261 27 = some (.invokevirtual 433, 3) := by decide +kernel
theorem c261_30 : mc_cd 261 30 = some (.istore_n 3, 1) := by decide +kernel
theorem c261_31 : mc_cd 261 31 = some (.iload_n 3, 1) := by decide +kernel
theorem c261_32 : mc_cd 261 32 = some (.ifCond .le 9, 3) := by decide +kernel
theorem c261_35 : mc_cd 261 35 = some (.aload_n 0, 1) := by decide +kernel
theorem c261_36 : mc_cd 261 36 = some (.iload_n 3, 1) := by decide +kernel
theorem c261_37 : mc_cd 261 37 = some (.invokevirtual 54, 3) := by decide +kernel
theorem c261_40 : mc_cd 261 40 = some (.ireturn, 1) := by decide +kernel
theorem c261_41 : mc_cd 261 41 = some (.iconst 0, 1) := by decide +kernel
theorem c261_42 : mc_cd 261 42 = some (.istore 4, 2) := by decide +kernel
theorem c261_44 : mc_cd 261 44 = some (.iconst 0, 1) := by decide +kernel
theorem c261_45 : mc_cd 261 45 = some (.istore 5, 2) := by decide +kernel
theorem c261_47 : mc_cd 261 47 = some (.iload 5, 2) := by decide +kernel
theorem c261_49 : mc_cd 261 49 = some (.aload_n 0, 1) := by decide +kernel
theorem c261_50 : mc_cd 261 50 = some (.getfield 422, 3) := by decide +kernel
theorem c261_53 : mc_cd 261 53 = some (.if_icmp .ge 57, 3) := by decide +kernel
theorem c261_56 : mc_cd 261 56 = some (.aload_n 0, 1) := by decide +kernel
theorem c261_57 : mc_cd 261 57 = some (.aload_n 0, 1) := by decide +kernel
theorem c261_58 : mc_cd 261 58 = some (.getfield 42, 3) := by decide +kernel
theorem c261_61 : mc_cd 261 61 = some (.iload 5, 2) := by decide +kernel
theorem c261_63 : mc_cd 261 63 = some (.iaload, 1) := by decide +kernel
theorem c261_64 : mc_cd 261 64 = some (.invokevirtual 425, 3) := by decide +kernel
theorem c261_67 : mc_cd 261 67 = some (.aload_n 0, 1) := by decide +kernel
theorem c261_68 : mc_cd 261 68 = some (.getfield 30, 3) := by decide +kernel
theorem c261_71 : mc_cd 261 71 = some (.bipush 40, 2) := by decide +kernel
theorem c261_73 : mc_cd 261 73 = some (.iload_n 1, 1) := by decide +kernel
theorem c261_74 : mc_cd 261 74 = some (.imul, 1) := by decide +kernel
theorem c261_75 : mc_cd 261 75 = some (.aload_n 0, 1) := by decide +kernel
theorem c261_76 : mc_cd 261 76 = some (.getfield 39, 3) := by decide +kernel
theorem c261_79 : mc_cd 261 79 = some (.iload_n 1, 1) := by decide +kernel
theorem c261_80 : mc_cd 261 80 = some (.iaload, 1) := by decide +kernel
theorem c261_81 : mc_cd 261 81 = some (.iadd, 1) := by decide +kernel
theorem c261_82 : mc_cd 261 82 = some (.iaload, 1) := by decide +kernel
theorem c261_83 : mc_cd 261 83 = some (.iload_n 2, 1) := by decide +kernel
theorem c261_84 : mc_cd 261 84 = some (.invokestatic 346, 3) := by decide +kernel
theorem c261_87 : mc_cd 261 87 = some (.ifCond .eq 17, 3) := by decide +kernel
theorem c261_90 : mc_cd 261 90 = some (.iload 4, 2) := by decide +kernel
theorem c261_92 : mc_cd 261 92 = some (.aload_n 0, 1) := by decide +kernel
theorem c261_93 : mc_cd 261 93 = some (.aload_n 0, 1) := by decide +kernel
theorem c261_94 : mc_cd 261 94 = some (.getfield 39, 3) := by decide +kernel
theorem c261_97 : mc_cd 261 97 = some (.iload_n 2, 1) := by decide +kernel
theorem c261_98 : mc_cd 261 98 = some (.invokevirtual 455, 3) := by decide +kernel
theorem c261_101 : mc_cd 261 101 = some (.ior, 1) := by decide +kernel
theorem c261_102 : mc_cd 261 102 = some (.istore 4, 2) := by decide +kernel
theorem c261_104 : mc_cd 261 104 = some (.iinc 5 1, 3) := by decide +kernel
theorem c261_107 : mc_cd 261 107 = some (.goto (-60), 3) := by decide +kernel
theorem c261_110 : mc_cd 261 110 = some (.aload_n 0, 1) := by decide +kernel
theorem c261_111 : mc_cd 261 111 = some (.iload 4, 2) := by decide +kernel
theorem c261_113 : mc_cd 261 113 = some (.invokevirtual 58, 3) := by decide +kernel
theorem c261_116 : mc_cd 261 116 = some (.ireturn, 1) := by decide +kernel
abbrev q_261 (r0 : Nat) (a1 : Int) (a2 : Int) (T : wq_T) (H : wq_H) : Option Value → wq_T → wq_H → Prop := fun r T' H' => T = T' ∧ WT T H' ∧ wfr [(42, 0), (42, 1), (42, 2), (42, 28), (42, 29), (51, 999), (52, 999)] T H H' ∧ ∃ z : Int, some (vI z) = r ∧ ((-2147483648) ≤ z ∧ z ≤ 2147483647) ∧ (wKI H' r0 = 1)
set_option maxHeartbeats 4000000 in
theorem s_261 {kt : Nat → Option mc_E} {T : wq_T} {H : wq_H} {r0 : Nat} {a1 : Int} {a2 : Int} (hW : WT T H) (g0 : T.2.2.2 r0 = some 42) (i1 : (-2147483648) ≤ a1 ∧ a1 ≤ 2147483647) (i2 : (-2147483648) ≤ a2 ∧ a2 ≤ 2147483647) (p0 : wKI H r0 = 1) : wpc kt 8 261 [.ref r0, vI a1, vI a2] T H (q_261 r0 a1 a2 T H) := by
  refine wp_enter e261 (Nat.le_of_ble_eq_true rfl) rfl ?_
  have f0 : wfr [(42, 0), (42, 1), (42, 2), (42, 28), (42, 29), (51, 999), (52, 999)] T H H := wfr.rf
  show wp _ _ 261 0 [(0, .ref r0), (1, vI a1), (2, vI a2)] [] _ H _
  refine wp_of e261 c261_0 (rw_aload_n (pc' := 1) (v := .ref r0) rfl rfl rfl ?_)
  refine wp_of e261 c261_1 (rw_iconst (pc' := 2) rfl ?_)
  refine wp_of e261 c261_2 (xp_I (pc' := 5) lf_9_48 hW g0 sh_42 (by decide) (by decide) ty_42_0 rfl rfl (by omega) (by omega) ⟨by omega, by omega⟩ rfl (fun H142336 e142337 w142338 => ?_))
  have f142339 := f0.put' e142337 g0 rfl
  have k142340 : H142336 r0 0 = 0 := wq_u_s e142337
  refine wp_of e261 c261_5 (rw_aload_n (pc' := 6) (v := .ref r0) rfl rfl rfl ?_)
  refine wp_of e261 c261_6 (rw_aload_n (pc' := 7) (v := .ref r0) rfl rfl rfl ?_)
  refine wp_of e261 c261_7 (rw_iload_n (pc' := 8) (z := a1) rfl rfl ?_)
  refine wp_of e261 c261_8 (xc_V (pc' := 11) (r := r0) (as := [vI a1]) (st := [.ref r0]) (lm_9_364) rfl rfl (Nat.le_of_ble_eq_true rfl) w142338 g0 sh_42 (by decide) rfl (by decide) (s_213 w142338 g0 ⟨by omega, by omega⟩) (fun R142341 T142342 H142343 p142344 => ?_))
  obtain ⟨e142345, e142347, z142349, e142346, b142350, p142348⟩ := p142344
  subst e142345
  subst e142346
  subst e142347
  show wp _ _ 261 11 [(0, .ref r0), (1, vI a1), (2, vI a2)] [vI z142349, .ref r0] _ H142336 _
  refine wp_of e261 c261_11 (rw_if_eq (p1 := 26) (p2 := 14) (by decide) rfl ⟨by omega, by omega⟩ (fun c142351 => ?_) (fun c142351 => ?_))
  · refine wp_of e261 c261_26 (rw_iconst (pc' := 27) rfl ?_)
    have k142352 : wKI H142336 r0 = wKI H r0 := (wKI_fr hW g0 ((wfr.rf (l := [(42, 0)])).put' e142337 g0 rfl) rfl)
    refine wp_of e261 c261_27 (xc_V (pc' := 30) (r := r0) (as := [vI 0]) (st := []) (lm_9_433) rfl rfl (Nat.le_of_ble_eq_true rfl) w142338 g0 sh_42 (by decide) rfl (by decide) (s_241 w142338 g0 ⟨by omega, by omega⟩ (by omega) (by omega)) (fun R142353 T142354 H142355 p142356 => ?_))
    obtain ⟨e142357, w142359, f142360, z142365, e142358, b142366, p142361, p142362, p142363, p142364⟩ := p142356
    subst e142357
    subst e142358
    have f142367 := f142339.tr f142360 rfl
    show wp _ _ 261 30 [(0, .ref r0), (1, vI a1), (2, vI a2)] [vI z142365] _ H142355 _
    refine wp_of e261 c261_30 (rw_istore_n (pc' := 31) (z := z142365) (L' := [(3, vI z142365), (0, .ref r0), (1, vI a1), (2, vI a2)]) rfl rfl rfl ?_)
    refine wp_of e261 c261_31 (rw_iload_n (pc' := 32) (z := z142365) rfl rfl ?_)
    refine wp_of e261 c261_32 (rw_if_le (p1 := 41) (p2 := 35) (by decide) rfl ⟨by omega, by omega⟩ (fun c142368 => ?_) (fun c142368 => ?_))
    · exfalso
      omega
    · refine wp_of e261 c261_35 (rw_aload_n (pc' := 36) (v := .ref r0) rfl rfl rfl ?_)
      refine wp_of e261 c261_36 (rw_iload_n (pc' := 37) (z := z142365) rfl rfl ?_)
      refine wp_of e261 c261_37 (xc_V (pc' := 40) (r := r0) (as := [vI z142365]) (st := []) (lm_9_54) rfl rfl (Nat.le_of_ble_eq_true rfl) w142359 g0 sh_42 (by decide) rfl (by decide) (s_170 w142359 g0 ⟨by omega, by omega⟩) (fun R142369 T142370 H142371 p142372 => ?_))
      obtain ⟨e142373, w142375, f142376, z142377, e142374, b142378⟩ := p142372
      subst e142373
      subst e142374
      have f142379 := f142367.tr f142376 rfl
      show wp _ _ 261 40 [(3, vI z142365), (0, .ref r0), (1, vI a1), (2, vI a2)] [vI z142377] _ H142371 _
      have k142380 : wKI H142371 r0 = wKI H142355 r0 := (wKI_fr w142359 g0 f142376 rfl)
      exact wp_ireturn e261 c261_40 rfl ⟨rfl, w142375, f142379, z142377, rfl, ⟨by omega, by omega⟩, by omega⟩
  · refine wp_of e261 c261_14 (rw_aload_n (pc' := 15) (v := .ref r0) rfl rfl rfl ?_)
    refine wp_of e261 c261_15 (rw_iload_n (pc' := 16) (z := a2) rfl rfl ?_)
    refine wp_of e261 c261_16 (xc_V (pc' := 19) (r := r0) (as := [vI a2]) (st := [.ref r0]) (lm_9_373) rfl rfl (Nat.le_of_ble_eq_true rfl) w142338 g0 sh_42 (by decide) rfl (by decide) (s_218 w142338 g0 ⟨by omega, by omega⟩) (fun R142381 T142382 H142383 p142384 => ?_))
    obtain ⟨e142385, e142387, z142389, e142386, b142390, p142388⟩ := p142384
    subst e142385
    subst e142386
    subst e142387
    show wp _ _ 261 19 [(0, .ref r0), (1, vI a1), (2, vI a2)] [vI z142389, .ref r0] _ H142336 _
    refine wp_of e261 c261_19 (rw_if_eq (p1 := 26) (p2 := 22) (by decide) rfl ⟨by omega, by omega⟩ (fun c142391 => ?_) (fun c142391 => ?_))
    · refine wp_of e261 c261_26 (rw_iconst (pc' := 27) rfl ?_)
      have k142392 : wKI H142336 r0 = wKI H r0 := (wKI_fr hW g0 ((wfr.rf (l := [(42, 0)])).put' e142337 g0 rfl) rfl)
      refine wp_of e261 c261_27 (xc_V (pc' := 30) (r := r0) (as := [vI 0]) (st := []) (lm_9_433) rfl rfl (Nat.le_of_ble_eq_true rfl) w142338 g0 sh_42 (by decide) rfl (by decide) (s_241 w142338 g0 ⟨by omega, by omega⟩ (by omega) (by omega)) (fun R142393 T142394 H142395 p142396 => ?_))
      obtain ⟨e142397, w142399, f142400, z142405, e142398, b142406, p142401, p142402, p142403, p142404⟩ := p142396
      subst e142397
      subst e142398
      have f142407 := f142339.tr f142400 rfl
      show wp _ _ 261 30 [(0, .ref r0), (1, vI a1), (2, vI a2)] [vI z142405] _ H142395 _
      refine wp_of e261 c261_30 (rw_istore_n (pc' := 31) (z := z142405) (L' := [(3, vI z142405), (0, .ref r0), (1, vI a1), (2, vI a2)]) rfl rfl rfl ?_)
      refine wp_of e261 c261_31 (rw_iload_n (pc' := 32) (z := z142405) rfl rfl ?_)
      refine wp_of e261 c261_32 (rw_if_le (p1 := 41) (p2 := 35) (by decide) rfl ⟨by omega, by omega⟩ (fun c142408 => ?_) (fun c142408 => ?_))
      · exfalso
        omega
      · refine wp_of e261 c261_35 (rw_aload_n (pc' := 36) (v := .ref r0) rfl rfl rfl ?_)
        refine wp_of e261 c261_36 (rw_iload_n (pc' := 37) (z := z142405) rfl rfl ?_)
        refine wp_of e261 c261_37 (xc_V (pc' := 40) (r := r0) (as := [vI z142405]) (st := []) (lm_9_54) rfl rfl (Nat.le_of_ble_eq_true rfl) w142399 g0 sh_42 (by decide) rfl (by decide) (s_170 w142399 g0 ⟨by omega, by omega⟩) (fun R142409 T142410 H142411 p142412 => ?_))
        obtain ⟨e142413, w142415, f142416, z142417, e142414, b142418⟩ := p142412
        subst e142413
        subst e142414
        have f142419 := f142407.tr f142416 rfl
        show wp _ _ 261 40 [(3, vI z142405), (0, .ref r0), (1, vI a1), (2, vI a2)] [vI z142417] _ H142411 _
        have k142420 : wKI H142411 r0 = wKI H142395 r0 := (wKI_fr w142399 g0 f142416 rfl)
        exact wp_ireturn e261 c261_40 rfl ⟨rfl, w142415, f142419, z142417, rfl, ⟨by omega, by omega⟩, by omega⟩
    · refine wp_of e261 c261_22 (rw_iconst (pc' := 23) rfl ?_)
      refine wp_of e261 c261_23 (rw_goto (p1 := 27) (by decide) ?_)
      have k142421 : wKI H142336 r0 = wKI H r0 := (wKI_fr hW g0 ((wfr.rf (l := [(42, 0)])).put' e142337 g0 rfl) rfl)
      refine wp_of e261 c261_27 (xc_V (pc' := 30) (r := r0) (as := [vI 1]) (st := []) (lm_9_433) rfl rfl (Nat.le_of_ble_eq_true rfl) w142338 g0 sh_42 (by decide) rfl (by decide) (s_241 w142338 g0 ⟨by omega, by omega⟩ (by omega) (by omega)) (fun R142422 T142423 H142424 p142425 => ?_))
      obtain ⟨e142426, w142428, f142429, z142434, e142427, b142435, p142430, p142431, p142432, p142433⟩ := p142425
      subst e142426
      subst e142427
      have f142436 := f142339.tr f142429 rfl
      show wp _ _ 261 30 [(0, .ref r0), (1, vI a1), (2, vI a2)] [vI z142434] _ H142424 _
      refine wp_of e261 c261_30 (rw_istore_n (pc' := 31) (z := z142434) (L' := [(3, vI z142434), (0, .ref r0), (1, vI a1), (2, vI a2)]) rfl rfl rfl ?_)
      refine wp_of e261 c261_31 (rw_iload_n (pc' := 32) (z := z142434) rfl rfl ?_)
      refine wp_of e261 c261_32 (rw_if_le (p1 := 41) (p2 := 35) (by decide) rfl ⟨by omega, by omega⟩ (fun c142437 => ?_) (fun c142437 => ?_))
      · refine wp_of e261 c261_41 (rw_iconst (pc' := 42) rfl ?_)
        refine wp_of e261 c261_42 (rw_istore (pc' := 44) (z := 0) (L' := [(4, vI 0), (3, vI z142434), (0, .ref r0), (1, vI a1), (2, vI a2)]) rfl rfl rfl ?_)
        refine wp_of e261 c261_44 (rw_iconst (pc' := 45) rfl ?_)
        refine wp_of e261 c261_45 (rw_istore (pc' := 47) (z := 0) (L' := [(5, vI 0), (4, vI 0), (3, vI z142434), (0, .ref r0), (1, vI a1), (2, vI a2)]) rfl rfl rfl ?_)
        have lp142886 : ∀ (n142887 : Nat) (v142889 : Int) (v142890 : Int) (H142891 : wq_H), WT T H142891 → wfr [(51, 999)] T H142424 H142891 → (0 ≤ v142889 ∧ v142889 ≤ 20000) → ((-2147483648) ≤ v142890 ∧ v142890 ≤ 2147483647) → (20000 - v142889).toNat = n142887 → wp kt 7 261 47 [(5, vI v142889), (4, vI v142890), (0, .ref r0), (1, vI a1), (2, vI a2)] [] T H142891 (q_261 r0 a1 a2 T H) := by
          intro n142887
          induction n142887 using Nat.strongRecOn with
          | _ n142887 ih142888 =>
            intro v142889 v142890 H142891 w142892 f142893 b142894 b142895 m142896
            have f142897 := f142436.tr f142893 rfl
            refine wp_of e261 c261_47 (rw_iload (pc' := 49) (z := v142889) rfl rfl ?_)
            refine wp_of e261 c261_49 (rw_aload_n (pc' := 50) (v := .ref r0) rfl rfl rfl ?_)
            have k142898 : H142891 r0 29 = H142424 r0 29 := (f142893 r0 29 _ g0 rfl)
            refine wp_of e261 c261_50 (xg_I (pc' := 53) lf_9_422 w142892 g0 sh_42 (by decide) (by decide) ty_42_29 rfl rfl (fun b142899 b142900 => ?_))
            refine wp_of e261 c261_53 (rw_icmp_ge (p1 := 110) (p2 := 56) (by decide) rfl ⟨by omega, by omega⟩ ⟨by omega, by omega⟩ (fun c142901 => ?_) (fun c142901 => ?_))
            · refine wp_of e261 c261_110 (rw_aload_n (pc' := 111) (v := .ref r0) rfl rfl rfl ?_)
              refine wp_of e261 c261_111 (rw_iload (pc' := 113) (z := v142890) rfl rfl ?_)
              refine wp_of e261 c261_113 (xc_V (pc' := 116) (r := r0) (as := [vI v142890]) (st := []) (lm_9_58) rfl rfl (Nat.le_of_ble_eq_true rfl) w142892 g0 sh_42 (by decide) rfl (by decide) (s_209 w142892 g0 ⟨by omega, by omega⟩) (fun R142902 T142903 H142904 p142905 => ?_))
              obtain ⟨e142906, w142908, f142909, z142910, e142907, b142911⟩ := p142905
              subst e142906
              subst e142907
              have f142912 := f142897.tr f142909 rfl
              show wp _ _ 261 116 [(5, vI v142889), (4, vI v142890), (0, .ref r0), (1, vI a1), (2, vI a2)] [vI z142910] _ H142904 _
              have k142913 : wKI H142904 r0 = wKI H142424 r0 := ((wKI_fr w142892 g0 f142909 rfl).trans (wKI_fr w142428 g0 f142893 rfl))
              exact wp_ireturn e261 c261_116 rfl ⟨rfl, w142908, f142912, z142910, rfl, ⟨by omega, by omega⟩, by omega⟩
            · refine wp_of e261 c261_56 (rw_aload_n (pc' := 57) (v := .ref r0) rfl rfl rfl ?_)
              refine wp_of e261 c261_57 (rw_aload_n (pc' := 58) (v := .ref r0) rfl rfl rfl ?_)
              refine wp_of e261 c261_58 (xg_R (pc' := 61) lf_9_42 w142892 g0 sh_42 (by decide) (by decide) ty_42_30 rfl rfl (fun r142914 q142915 g142916 => ?_))
              refine wp_of e261 c261_61 (rw_iload (pc' := 63) (z := v142889) rfl rfl ?_)
              refine wp_of e261 c261_63 (xa_I (so := 0) (pc' := 64) w142892 g142916 sh_52 (by decide) (ty_52 _) (by omega) (by omega) rfl (fun b142917 b142918 => ?_))
              have k142919 : wLM H142891 r0 = wLM H142424 r0 := (wLM_fr w142428 g0 f142893 rfl)
              have k142920 : H142891 r0 3 = H142336 r0 3 := ((f142893 r0 3 _ g0 rfl).trans (f142429 r0 3 _ g0 rfl))
              obtain ⟨r142921, q142922, g142923⟩ := (w142892.opt g0 (t' := 54) (n := 33) (j := 3) (p := 0) (q := 0) rfl (by decide) rfl).resolve_left (by omega)
              refine wp_of e261 c261_64 (xc_V (pc' := 67) (r := r0) (as := [vI (H142891 r142914 (v142889.toNat))]) (st := []) (lm_9_425) rfl rfl (Nat.le_of_ble_eq_true rfl) w142892 g0 sh_42 (by decide) rfl (by decide) (s_243 w142892 g0 ⟨by omega, by omega⟩ q142922 g142923 (by omega)) (fun R142924 T142925 H142926 p142927 => ?_))
              obtain ⟨e142928, w142930, f142931, e142929⟩ := p142927
              subst e142928
              subst e142929
              have f142932 := f142897.tr f142931 rfl
              have f142933 := f142893.tr f142931 rfl
              show wp _ _ 261 67 [(5, vI v142889), (4, vI v142890), (0, .ref r0), (1, vI a1), (2, vI a2)] [] _ H142926 _
              refine wp_of e261 c261_67 (rw_aload_n (pc' := 68) (v := .ref r0) rfl rfl rfl ?_)
              refine wp_of e261 c261_68 (xg_R (pc' := 71) lf_9_30 w142930 g0 sh_42 (by decide) (by decide) ty_42_24 rfl rfl (fun r142934 q142935 g142936 => ?_))
              refine wp_of e261 c261_71 (rw_bipush (pc' := 73) (z := 40) rfl (by decide) ?_)
              refine wp_of e261 c261_73 (rw_iload_n (pc' := 74) (z := a1) rfl rfl ?_)
              refine wp_of e261 c261_74 (rw_imul (pc' := 75) rfl ?_)
              refine wp_of e261 c261_75 (rw_aload_n (pc' := 76) (v := .ref r0) rfl rfl rfl ?_)
              refine wp_of e261 c261_76 (xg_R (pc' := 79) lf_9_39 w142930 g0 sh_42 (by decide) (by decide) ty_42_27 rfl rfl (fun r142937 q142938 g142939 => ?_))
              refine wp_of e261 c261_79 (rw_iload_n (pc' := 80) (z := a1) rfl rfl ?_)
              refine wp_of e261 c261_80 (xa_I (so := 0) (pc' := 81) w142930 g142939 sh_51 (by decide) (ty_51 _) (by omega) (by omega) rfl (fun b142940 b142941 => ?_))
              refine wp_of e261 c261_81 (rw_iadd (pc' := 82) rfl ?_)
              refine wp_of e261 c261_82 (xa_I (so := 0) (pc' := 83) w142930 g142936 sh_48 (by decide) (ty_48 _) (by omega) (by omega) rfl (fun b142942 b142943 => ?_))
              refine wp_of e261 c261_83 (rw_iload_n (pc' := 84) (z := a2) rfl rfl ?_)
              refine wp_of e261 c261_84 (xc_S (pc' := 87) (as := [vI (H142926 r142934 (((40 * a1) + (H142926 r142937 (a1.toNat))).toNat)), vI a2]) (st := []) (lm_9_346) rfl rfl (Nat.le_of_ble_eq_true rfl) rfl (by decide) (s_205 w142930 ⟨by omega, by omega⟩ ⟨by omega, by omega⟩) (fun R142944 T142945 H142946 p142947 => ?_))
              obtain ⟨e142948, e142950, z142951, e142949, b142952⟩ := p142947
              subst e142948
              subst e142949
              subst e142950
              show wp _ _ 261 87 [(5, vI v142889), (4, vI v142890), (0, .ref r0), (1, vI a1), (2, vI a2)] [vI z142951] _ H142926 _
              refine wp_of e261 c261_87 (rw_if_eq (p1 := 104) (p2 := 90) (by decide) rfl ⟨by omega, by omega⟩ (fun c142953 => ?_) (fun c142953 => ?_))
              · refine wp_of e261 c261_104 (rw_iinc (pc' := 107) (z := v142889) (L' := [(5, vI (v142889 + 1)), (4, vI v142890), (0, .ref r0), (1, vI a1), (2, vI a2)]) rfl rfl rfl rfl ?_)
                refine wp_of e261 c261_107 (rw_goto (p1 := 47) (by decide) ?_)
                exact wp_lc (ks := [5, 4, 0, 1, 2]) (wl_c rfl (wl_c rfl (wl_c rfl (wl_c rfl (wl_c rfl wl_n))))) rfl (by decide) (ih142888 _ (by omega) (v142889 + 1) v142890 H142926 w142930 f142933 ⟨by omega, by omega⟩ ⟨by omega, by omega⟩ rfl)
              · refine wp_of e261 c261_90 (rw_iload (pc' := 92) (z := v142890) rfl rfl ?_)
                refine wp_of e261 c261_92 (rw_aload_n (pc' := 93) (v := .ref r0) rfl rfl rfl ?_)
                refine wp_of e261 c261_93 (rw_aload_n (pc' := 94) (v := .ref r0) rfl rfl rfl ?_)
                refine wp_of e261 c261_94 (xg_K (pc' := 97) lf_9_39 w142930 g0 sh_42 (by decide) (by decide) rfl q142938 rfl ?_)
                refine wp_of e261 c261_97 (rw_iload_n (pc' := 98) (z := a2) rfl rfl ?_)
                have k142954 : H142926 r0 3 = H142891 r0 3 := (f142931 r0 3 _ g0 rfl)
                have q142955 : H142926 r0 3 = (r142921 : Int) := k142954.trans q142922
                refine wp_of e261 c261_98 (xc_V (pc' := 101) (r := r0) (as := [.ref r142937, vI a2]) (st := [vI v142890]) (lm_9_455) rfl rfl (Nat.le_of_ble_eq_true rfl) w142930 g0 sh_42 (by decide) rfl (by decide) (s_262_m_lot w142930 g0 g142939 ⟨by omega, by omega⟩ q142955 g142923) (fun R142956 T142957 H142958 p142959 => ?_))
                obtain ⟨e142960, e142962, z142963, e142961, b142964⟩ := p142959
                subst e142960
                subst e142961
                subst e142962
                show wp _ _ 261 101 [(5, vI v142889), (4, vI v142890), (0, .ref r0), (1, vI a1), (2, vI a2)] [vI z142963, vI v142890] _ H142926 _
                refine wp_of e261 c261_101 (rw_ior (pc' := 102) rfl ?_)
                obtain ⟨v142965, e142966⟩ : ∃ x : Int, x = wq_or v142890 z142963 := ⟨_, rfl⟩
                rw [← e142966]
                have b142967 : -2147483648 ≤ v142965 ∧ v142965 ≤ 2147483647 := by
                  rw [e142966]
                  exact wI_or _ _
                refine wp_of e261 c261_102 (rw_istore (pc' := 104) (z := v142965) (L' := [(4, vI v142965), (5, vI v142889), (0, .ref r0), (1, vI a1), (2, vI a2)]) rfl rfl rfl ?_)
                refine wp_of e261 c261_104 (rw_iinc (pc' := 107) (z := v142889) (L' := [(5, vI (v142889 + 1)), (4, vI v142965), (0, .ref r0), (1, vI a1), (2, vI a2)]) rfl rfl rfl rfl ?_)
                refine wp_of e261 c261_107 (rw_goto (p1 := 47) (by decide) ?_)
                exact wp_lc (ks := [5, 4, 0, 1, 2]) (wl_c rfl (wl_c rfl (wl_c rfl (wl_c rfl (wl_c rfl wl_n))))) rfl (by decide) (ih142888 _ (by omega) (v142889 + 1) v142965 H142926 w142930 f142933 ⟨by omega, by omega⟩ ⟨by omega, by omega⟩ rfl)
        exact wp_lc (ks := [5, 4, 3, 0, 1, 2]) (wl_c rfl (wl_c rfl (wl_c rfl (wl_c rfl (wl_c rfl wl_n))))) rfl (by decide) (lp142886 _ 0 0 H142424 w142428 wfr.rf ⟨by omega, by omega⟩ ⟨by omega, by omega⟩ rfl)
      · refine wp_of e261 c261_35 (rw_aload_n (pc' := 36) (v := .ref r0) rfl rfl rfl ?_)
        refine wp_of e261 c261_36 (rw_iload_n (pc' := 37) (z := z142434) rfl rfl ?_)
        refine wp_of e261 c261_37 (xc_V (pc' := 40) (r := r0) (as := [vI z142434]) (st := []) (lm_9_54) rfl rfl (Nat.le_of_ble_eq_true rfl) w142428 g0 sh_42 (by decide) rfl (by decide) (s_170 w142428 g0 ⟨by omega, by omega⟩) (fun R142968 T142969 H142970 p142971 => ?_))
        obtain ⟨e142972, w142974, f142975, z142976, e142973, b142977⟩ := p142971
        subst e142972
        subst e142973
        have f142978 := f142436.tr f142975 rfl
        show wp _ _ 261 40 [(3, vI z142434), (0, .ref r0), (1, vI a1), (2, vI a2)] [vI z142976] _ H142970 _
        have k142979 : wKI H142970 r0 = wKI H142424 r0 := (wKI_fr w142428 g0 f142975 rfl)
        exact wp_ireturn e261 c261_40 rfl ⟨rfl, w142974, f142978, z142976, rfl, ⟨by omega, by omega⟩, by omega⟩
/-! StrikeAwakeModel.extreme(I[IZ)I -/
theorem e264 : wq_en 264 = some (9, 7, false, some FieldType.int) := rfl
theorem c264_0 : mc_cd 264 0 = some (.iconst 0, 1) := by decide +kernel
theorem c264_1 : mc_cd 264 1 = some (.istore 4, 2) := by decide +kernel
theorem c264_3 : mc_cd 264 3 = some (.iconst 0, 1) := by decide +kernel
theorem c264_4 : mc_cd 264 4 = some (.istore 5, 2) := by decide +kernel
theorem c264_6 : mc_cd 264 6 = some (.iload 5, 2) := by decide +kernel
theorem c264_8 : mc_cd 264 8 = some (.aload_n 0, 1) := by decide +kernel
theorem c264_9 : mc_cd 264 9 = some (.getfield 422, 3) := by decide +kernel
theorem c264_12 : mc_cd 264 12 = some (.if_icmp .ge 70, 3) := by decide +kernel
theorem c264_15 : mc_cd 264 15 = some (.aload_n 0, 1) := by decide +kernel
theorem c264_16 : mc_cd 264 16 = some (.aload_n 0, 1) := by decide +kernel
theorem c264_17 : mc_cd 264 17 = some (.getfield 42, 3) := by decide +kernel
theorem c264_20 : mc_cd 264 20 = some (.iload 5, 2) := by decide +kernel
theorem c264_22 : mc_cd 264 22 = some (.iaload, 1) := by decide +kernel
theorem c264_23 : mc_cd 264 23 = some (.invokevirtual 425, 3) := by decide +kernel
theorem c264_26 : mc_cd 264 26 = some (.aload_n 2, 1) := by decide +kernel
theorem c264_27 : mc_cd 264 27 = some (.bipush 40, 2) := by decide +kernel
theorem c264_29 : mc_cd 264 29 = some (.iload_n 1, 1) := by decide +kernel
theorem c264_30 : mc_cd 264 30 = some (.imul, 1) := by decide +kernel
theorem c264_31 : mc_cd 264 31 = some (.aload_n 0, 1) := by decide +kernel
theorem c264_32 : mc_cd 264 32 = some (.getfield 39, 3) := by decide +kernel
theorem c264_35 : mc_cd 264 35 = some (.iload_n 1, 1) := by decide +kernel
theorem c264_36 : mc_cd 264 36 = some (.iaload, 1) := by decide +kernel
theorem c264_37 : mc_cd 264 37 = some (.iadd, 1) := by decide +kernel
theorem c264_38 : mc_cd 264 38 = some (.iaload, 1) := by decide +kernel
theorem c264_39 : mc_cd 264 39 = some (.istore 6, 2) := by decide +kernel
theorem c264_41 : mc_cd 264 41 = some (.iload 5, 2) := by decide +kernel
theorem c264_43 : mc_cd 264 43 = some (.ifCond .eq 24, 3) := by decide +kernel
theorem c264_46 : mc_cd 264 46 = some (.iload_n 3, 1) := by decide +kernel
theorem c264_47 : mc_cd 264 47 = some (.ifCond .eq 13, 3) := by decide +kernel
theorem c264_50 : mc_cd 264 50 = some (.iload 6, 2) := by decide +kernel
theorem c264_52 : mc_cd 264 52 = some (.iload 4, 2) := by decide +kernel
theorem c264_54 : mc_cd 264 54 = some (.if_icmp .le 18, 3) := by decide +kernel
theorem c264_57 : mc_cd 264 57 = some (.goto 10, 3) := by decide +kernel
theorem c264_60 : mc_cd 264 60 = some (.iload 6, 2) := by decide +kernel
theorem c264_62 : mc_cd 264 62 = some (.iload 4, 2) := by decide +kernel
theorem c264_64 : mc_cd 264 64 = some (.if_icmp .ge 8, 3) := by decide +kernel
theorem c264_67 : mc_cd 264 67 = some (.iload 6, 2) := by decide +kernel
theorem c264_69 : mc_cd 264 69 = some (.goto 5, 3) := by decide +kernel
theorem c264_72 : mc_cd 264 72 = some (.iload 4, 2) := by decide +kernel
theorem c264_74 : mc_cd 264 74 = some (.istore 4, 2) := by decide +kernel
theorem c264_76 : mc_cd 264 76 = some (.iinc 5 1, 3) := by decide +kernel
theorem c264_79 : mc_cd 264 79 = some (.goto (-73), 3) := by decide +kernel
theorem c264_82 : mc_cd 264 82 = some (.iload 4, 2) := by decide +kernel
theorem c264_84 : mc_cd 264 84 = some (.ireturn, 1) := by decide +kernel
abbrev q_264_m_bed (r0 : Nat) (a1 : Int) (r2 : Nat) (a3 : Int) (pp : Nat) (T : wq_T) (H : wq_H) : Option Value → wq_T → wq_H → Prop := fun r T' H' => T = T' ∧ WT T H' ∧ wfr [(51, 999)] T H H' ∧ ∃ z : Int, some (vI z) = r ∧ ((-2147483648) ≤ z ∧ z ≤ 2147483647)
set_option maxHeartbeats 4000000 in
theorem s_264_m_bed {kt : Nat → Option mc_E} {T : wq_T} {H : wq_H} {r0 : Nat} {a1 : Int} {r2 : Nat} {a3 : Int} {pp : Nat} (hW : WT T H) (g0 : T.2.2.2 r0 = some 42) (i1 : 0 ≤ a1 ∧ a1 ≤ 5) (g2 : T.2.2.2 r2 = some 46) (i3 : 0 ≤ a3 ∧ a3 ≤ 1) (qpp : H r0 3 = (pp : Int)) (gpp : T.2.2.2 pp = some 54) (p0 : H r0 29 = 0 ∨ 0 < wLM H r0) : wpc kt 2 264 [.ref r0, vI a1, .ref r2, vI a3] T H (q_264_m_bed r0 a1 r2 a3 pp T H) := by
  refine wp_enter e264 (Nat.le_of_ble_eq_true rfl) rfl ?_
  have f0 : wfr [(51, 999)] T H H := wfr.rf
  show wp _ _ 264 0 [(0, .ref r0), (1, vI a1), (2, .ref r2), (3, vI a3)] [] _ H _
  have b143266 : 0 ≤ H r0 29 ∧ H r0 29 ≤ 20000 := hW.box g0 (n := 33) rfl (by decide) rfl
  refine wp_of e264 c264_0 (rw_iconst (pc' := 1) rfl ?_)
  refine wp_of e264 c264_1 (rw_istore (pc' := 3) (z := 0) (L' := [(4, vI 0), (0, .ref r0), (1, vI a1), (2, .ref r2), (3, vI a3)]) rfl rfl rfl ?_)
  refine wp_of e264 c264_3 (rw_iconst (pc' := 4) rfl ?_)
  refine wp_of e264 c264_4 (rw_istore (pc' := 6) (z := 0) (L' := [(5, vI 0), (4, vI 0), (0, .ref r0), (1, vI a1), (2, .ref r2), (3, vI a3)]) rfl rfl rfl ?_)
  have lp143520 : ∀ (n143521 : Nat) (v143523 : Int) (v143524 : Int) (H143525 : wq_H), WT T H143525 → wfr [(51, 999)] T H H143525 → (0 ≤ v143523 ∧ v143523 ≤ 20000) → (0 ≤ v143524 ∧ v143524 ≤ 30) → (20000 - v143523).toNat = n143521 → wp kt 1 264 6 [(5, vI v143523), (4, vI v143524), (0, .ref r0), (1, vI a1), (2, .ref r2), (3, vI a3)] [] T H143525 (q_264_m_bed r0 a1 r2 a3 pp T H) := by
    intro n143521
    induction n143521 using Nat.strongRecOn with
    | _ n143521 ih143522 =>
      intro v143523 v143524 H143525 w143526 f143527 b143528 b143529 m143530
      have f143531 := f0.tr f143527 rfl
      refine wp_of e264 c264_6 (rw_iload (pc' := 8) (z := v143523) rfl rfl ?_)
      refine wp_of e264 c264_8 (rw_aload_n (pc' := 9) (v := .ref r0) rfl rfl rfl ?_)
      have k143532 : H143525 r0 29 = H r0 29 := (f143527 r0 29 _ g0 rfl)
      refine wp_of e264 c264_9 (xg_I (pc' := 12) lf_9_422 w143526 g0 sh_42 (by decide) (by decide) ty_42_29 rfl rfl (fun b143533 b143534 => ?_))
      refine wp_of e264 c264_12 (rw_icmp_ge (p1 := 82) (p2 := 15) (by decide) rfl ⟨by omega, by omega⟩ ⟨by omega, by omega⟩ (fun c143535 => ?_) (fun c143535 => ?_))
      · refine wp_of e264 c264_82 (rw_iload (pc' := 84) (z := v143524) rfl rfl ?_)
        exact wp_ireturn e264 c264_84 rfl ⟨rfl, w143526, f143531, v143524, rfl, ⟨by omega, by omega⟩⟩
      · refine wp_of e264 c264_15 (rw_aload_n (pc' := 16) (v := .ref r0) rfl rfl rfl ?_)
        refine wp_of e264 c264_16 (rw_aload_n (pc' := 17) (v := .ref r0) rfl rfl rfl ?_)
        refine wp_of e264 c264_17 (xg_R (pc' := 20) lf_9_42 w143526 g0 sh_42 (by decide) (by decide) ty_42_30 rfl rfl (fun r143536 q143537 g143538 => ?_))
        refine wp_of e264 c264_20 (rw_iload (pc' := 22) (z := v143523) rfl rfl ?_)
        refine wp_of e264 c264_22 (xa_I (so := 0) (pc' := 23) w143526 g143538 sh_52 (by decide) (ty_52 _) (by omega) (by omega) rfl (fun b143539 b143540 => ?_))
        have k143541 : wLM H143525 r0 = wLM H r0 := (wLM_fr hW g0 f143527 rfl)
        have k143542 : H143525 r0 3 = H r0 3 := (f143527 r0 3 _ g0 rfl)
        have q143543 : H143525 r0 3 = (pp : Int) := k143542.trans qpp
        refine wp_of e264 c264_23 (xc_V (pc' := 26) (r := r0) (as := [vI (H143525 r143536 (v143523.toNat))]) (st := []) (lm_9_425) rfl rfl (Nat.le_of_ble_eq_true rfl) w143526 g0 sh_42 (by decide) rfl (by decide) (s_243 w143526 g0 ⟨by omega, by omega⟩ q143543 gpp (by omega)) (fun R143544 T143545 H143546 p143547 => ?_))
        obtain ⟨e143548, w143550, f143551, e143549⟩ := p143547
        subst e143548
        subst e143549
        have f143552 := f143531.tr f143551 rfl
        have f143553 := f143527.tr f143551 rfl
        show wp _ _ 264 26 [(5, vI v143523), (4, vI v143524), (0, .ref r0), (1, vI a1), (2, .ref r2), (3, vI a3)] [] _ H143546 _
        refine wp_of e264 c264_26 (rw_aload_n (pc' := 27) (v := .ref r2) rfl rfl rfl ?_)
        refine wp_of e264 c264_27 (rw_bipush (pc' := 29) (z := 40) rfl (by decide) ?_)
        refine wp_of e264 c264_29 (rw_iload_n (pc' := 30) (z := a1) rfl rfl ?_)
        refine wp_of e264 c264_30 (rw_imul (pc' := 31) rfl ?_)
        refine wp_of e264 c264_31 (rw_aload_n (pc' := 32) (v := .ref r0) rfl rfl rfl ?_)
        refine wp_of e264 c264_32 (xg_R (pc' := 35) lf_9_39 w143550 g0 sh_42 (by decide) (by decide) ty_42_27 rfl rfl (fun r143554 q143555 g143556 => ?_))
        refine wp_of e264 c264_35 (rw_iload_n (pc' := 36) (z := a1) rfl rfl ?_)
        refine wp_of e264 c264_36 (xa_I (so := 0) (pc' := 37) w143550 g143556 sh_51 (by decide) (ty_51 _) (by omega) (by omega) rfl (fun b143557 b143558 => ?_))
        refine wp_of e264 c264_37 (rw_iadd (pc' := 38) rfl ?_)
        refine wp_of e264 c264_38 (xa_I (so := 0) (pc' := 39) w143550 g2 sh_46 (by decide) (ty_46 _) (by omega) (by omega) rfl (fun b143559 b143560 => ?_))
        refine wp_of e264 c264_39 (rw_istore (pc' := 41) (z := H143546 r2 (((40 * a1) + (H143546 r143554 (a1.toNat))).toNat)) (L' := [(6, vI (H143546 r2 (((40 * a1) + (H143546 r143554 (a1.toNat))).toNat))), (5, vI v143523), (4, vI v143524), (0, .ref r0), (1, vI a1), (2, .ref r2), (3, vI a3)]) rfl rfl rfl ?_)
        refine wp_of e264 c264_41 (rw_iload (pc' := 43) (z := v143523) rfl rfl ?_)
        refine wp_of e264 c264_43 (rw_if_eq (p1 := 67) (p2 := 46) (by decide) rfl ⟨by omega, by omega⟩ (fun c143561 => ?_) (fun c143561 => ?_))
        · refine wp_of e264 c264_67 (rw_iload (pc' := 69) (z := H143546 r2 (((40 * a1) + (H143546 r143554 (a1.toNat))).toNat)) rfl rfl ?_)
          refine wp_of e264 c264_69 (rw_goto (p1 := 74) (by decide) ?_)
          refine wp_of e264 c264_74 (rw_istore (pc' := 76) (z := H143546 r2 (((40 * a1) + (H143546 r143554 (a1.toNat))).toNat)) (L' := [(4, vI (H143546 r2 (((40 * a1) + (H143546 r143554 (a1.toNat))).toNat))), (6, vI (H143546 r2 (((40 * a1) + (H143546 r143554 (a1.toNat))).toNat))), (5, vI v143523), (0, .ref r0), (1, vI a1), (2, .ref r2), (3, vI a3)]) rfl rfl rfl ?_)
          refine wp_of e264 c264_76 (rw_iinc (pc' := 79) (z := v143523) (L' := [(5, vI (v143523 + 1)), (4, vI (H143546 r2 (((40 * a1) + (H143546 r143554 (a1.toNat))).toNat))), (6, vI (H143546 r2 (((40 * a1) + (H143546 r143554 (a1.toNat))).toNat))), (0, .ref r0), (1, vI a1), (2, .ref r2), (3, vI a3)]) rfl rfl rfl rfl ?_)
          refine wp_of e264 c264_79 (rw_goto (p1 := 6) (by decide) ?_)
          exact wp_lc (ks := [5, 4, 6, 0, 1, 2, 3]) (wl_c rfl (wl_c rfl (wl_c rfl (wl_c rfl (wl_c rfl (wl_c rfl wl_n)))))) rfl (by decide) (ih143522 _ (by omega) (v143523 + 1) (H143546 r2 (((40 * a1) + (H143546 r143554 (a1.toNat))).toNat)) H143546 w143550 f143553 ⟨by omega, by omega⟩ ⟨by omega, by omega⟩ rfl)
        · refine wp_of e264 c264_46 (rw_iload_n (pc' := 47) (z := a3) rfl rfl ?_)
          refine wp_of e264 c264_47 (rw_if_eq (p1 := 60) (p2 := 50) (by decide) rfl ⟨by omega, by omega⟩ (fun c143562 => ?_) (fun c143562 => ?_))
          · refine wp_of e264 c264_60 (rw_iload (pc' := 62) (z := H143546 r2 (((40 * a1) + (H143546 r143554 (a1.toNat))).toNat)) rfl rfl ?_)
            refine wp_of e264 c264_62 (rw_iload (pc' := 64) (z := v143524) rfl rfl ?_)
            refine wp_of e264 c264_64 (rw_icmp_ge (p1 := 72) (p2 := 67) (by decide) rfl ⟨by omega, by omega⟩ ⟨by omega, by omega⟩ (fun c143563 => ?_) (fun c143563 => ?_))
            · refine wp_of e264 c264_72 (rw_iload (pc' := 74) (z := v143524) rfl rfl ?_)
              refine wp_of e264 c264_74 (rw_istore (pc' := 76) (z := v143524) (L' := [(4, vI v143524), (6, vI (H143546 r2 (((40 * a1) + (H143546 r143554 (a1.toNat))).toNat))), (5, vI v143523), (0, .ref r0), (1, vI a1), (2, .ref r2), (3, vI a3)]) rfl rfl rfl ?_)
              refine wp_of e264 c264_76 (rw_iinc (pc' := 79) (z := v143523) (L' := [(5, vI (v143523 + 1)), (4, vI v143524), (6, vI (H143546 r2 (((40 * a1) + (H143546 r143554 (a1.toNat))).toNat))), (0, .ref r0), (1, vI a1), (2, .ref r2), (3, vI a3)]) rfl rfl rfl rfl ?_)
              refine wp_of e264 c264_79 (rw_goto (p1 := 6) (by decide) ?_)
              exact wp_lc (ks := [5, 4, 6, 0, 1, 2, 3]) (wl_c rfl (wl_c rfl (wl_c rfl (wl_c rfl (wl_c rfl (wl_c rfl wl_n)))))) rfl (by decide) (ih143522 _ (by omega) (v143523 + 1) v143524 H143546 w143550 f143553 ⟨by omega, by omega⟩ ⟨by omega, by omega⟩ rfl)
            · refine wp_of e264 c264_67 (rw_iload (pc' := 69) (z := H143546 r2 (((40 * a1) + (H143546 r143554 (a1.toNat))).toNat)) rfl rfl ?_)
              refine wp_of e264 c264_69 (rw_goto (p1 := 74) (by decide) ?_)
              refine wp_of e264 c264_74 (rw_istore (pc' := 76) (z := H143546 r2 (((40 * a1) + (H143546 r143554 (a1.toNat))).toNat)) (L' := [(4, vI (H143546 r2 (((40 * a1) + (H143546 r143554 (a1.toNat))).toNat))), (6, vI (H143546 r2 (((40 * a1) + (H143546 r143554 (a1.toNat))).toNat))), (5, vI v143523), (0, .ref r0), (1, vI a1), (2, .ref r2), (3, vI a3)]) rfl rfl rfl ?_)
              refine wp_of e264 c264_76 (rw_iinc (pc' := 79) (z := v143523) (L' := [(5, vI (v143523 + 1)), (4, vI (H143546 r2 (((40 * a1) + (H143546 r143554 (a1.toNat))).toNat))), (6, vI (H143546 r2 (((40 * a1) + (H143546 r143554 (a1.toNat))).toNat))), (0, .ref r0), (1, vI a1), (2, .ref r2), (3, vI a3)]) rfl rfl rfl rfl ?_)
              refine wp_of e264 c264_79 (rw_goto (p1 := 6) (by decide) ?_)
              exact wp_lc (ks := [5, 4, 6, 0, 1, 2, 3]) (wl_c rfl (wl_c rfl (wl_c rfl (wl_c rfl (wl_c rfl (wl_c rfl wl_n)))))) rfl (by decide) (ih143522 _ (by omega) (v143523 + 1) (H143546 r2 (((40 * a1) + (H143546 r143554 (a1.toNat))).toNat)) H143546 w143550 f143553 ⟨by omega, by omega⟩ ⟨by omega, by omega⟩ rfl)
          · refine wp_of e264 c264_50 (rw_iload (pc' := 52) (z := H143546 r2 (((40 * a1) + (H143546 r143554 (a1.toNat))).toNat)) rfl rfl ?_)
            refine wp_of e264 c264_52 (rw_iload (pc' := 54) (z := v143524) rfl rfl ?_)
            refine wp_of e264 c264_54 (rw_icmp_le (p1 := 72) (p2 := 57) (by decide) rfl ⟨by omega, by omega⟩ ⟨by omega, by omega⟩ (fun c143564 => ?_) (fun c143564 => ?_))
            · refine wp_of e264 c264_72 (rw_iload (pc' := 74) (z := v143524) rfl rfl ?_)
              refine wp_of e264 c264_74 (rw_istore (pc' := 76) (z := v143524) (L' := [(4, vI v143524), (6, vI (H143546 r2 (((40 * a1) + (H143546 r143554 (a1.toNat))).toNat))), (5, vI v143523), (0, .ref r0), (1, vI a1), (2, .ref r2), (3, vI a3)]) rfl rfl rfl ?_)
              refine wp_of e264 c264_76 (rw_iinc (pc' := 79) (z := v143523) (L' := [(5, vI (v143523 + 1)), (4, vI v143524), (6, vI (H143546 r2 (((40 * a1) + (H143546 r143554 (a1.toNat))).toNat))), (0, .ref r0), (1, vI a1), (2, .ref r2), (3, vI a3)]) rfl rfl rfl rfl ?_)
              refine wp_of e264 c264_79 (rw_goto (p1 := 6) (by decide) ?_)
              exact wp_lc (ks := [5, 4, 6, 0, 1, 2, 3]) (wl_c rfl (wl_c rfl (wl_c rfl (wl_c rfl (wl_c rfl (wl_c rfl wl_n)))))) rfl (by decide) (ih143522 _ (by omega) (v143523 + 1) v143524 H143546 w143550 f143553 ⟨by omega, by omega⟩ ⟨by omega, by omega⟩ rfl)
            · refine wp_of e264 c264_57 (rw_goto (p1 := 67) (by decide) ?_)
              refine wp_of e264 c264_67 (rw_iload (pc' := 69) (z := H143546 r2 (((40 * a1) + (H143546 r143554 (a1.toNat))).toNat)) rfl rfl ?_)
              refine wp_of e264 c264_69 (rw_goto (p1 := 74) (by decide) ?_)
              refine wp_of e264 c264_74 (rw_istore (pc' := 76) (z := H143546 r2 (((40 * a1) + (H143546 r143554 (a1.toNat))).toNat)) (L' := [(4, vI (H143546 r2 (((40 * a1) + (H143546 r143554 (a1.toNat))).toNat))), (6, vI (H143546 r2 (((40 * a1) + (H143546 r143554 (a1.toNat))).toNat))), (5, vI v143523), (0, .ref r0), (1, vI a1), (2, .ref r2), (3, vI a3)]) rfl rfl rfl ?_)
              refine wp_of e264 c264_76 (rw_iinc (pc' := 79) (z := v143523) (L' := [(5, vI (v143523 + 1)), (4, vI (H143546 r2 (((40 * a1) + (H143546 r143554 (a1.toNat))).toNat))), (6, vI (H143546 r2 (((40 * a1) + (H143546 r143554 (a1.toNat))).toNat))), (0, .ref r0), (1, vI a1), (2, .ref r2), (3, vI a3)]) rfl rfl rfl rfl ?_)
              refine wp_of e264 c264_79 (rw_goto (p1 := 6) (by decide) ?_)
              exact wp_lc (ks := [5, 4, 6, 0, 1, 2, 3]) (wl_c rfl (wl_c rfl (wl_c rfl (wl_c rfl (wl_c rfl (wl_c rfl wl_n)))))) rfl (by decide) (ih143522 _ (by omega) (v143523 + 1) (H143546 r2 (((40 * a1) + (H143546 r143554 (a1.toNat))).toNat)) H143546 w143550 f143553 ⟨by omega, by omega⟩ ⟨by omega, by omega⟩ rfl)
  exact wp_lc (ks := [5, 4, 0, 1, 2, 3]) (wl_c rfl (wl_c rfl (wl_c rfl (wl_c rfl (wl_c rfl (wl_c rfl wl_n)))))) rfl (by decide) (lp143520 _ 0 0 H hW wfr.rf ⟨by omega, by omega⟩ ⟨by omega, by omega⟩ rfl)

/-! StrikeAwakeModel.extreme(I[IZ)I -/
abbrev q_264_m_length (r0 : Nat) (a1 : Int) (r2 : Nat) (a3 : Int) (pp : Nat) (T : wq_T) (H : wq_H) : Option Value → wq_T → wq_H → Prop := fun r T' H' => T = T' ∧ WT T H' ∧ wfr [(51, 999)] T H H' ∧ ∃ z : Int, some (vI z) = r ∧ ((-2147483648) ≤ z ∧ z ≤ 2147483647)
set_option maxHeartbeats 4000000 in
theorem s_264_m_length {kt : Nat → Option mc_E} {T : wq_T} {H : wq_H} {r0 : Nat} {a1 : Int} {r2 : Nat} {a3 : Int} {pp : Nat} (hW : WT T H) (g0 : T.2.2.2 r0 = some 42) (i1 : 0 ≤ a1 ∧ a1 ≤ 5) (g2 : T.2.2.2 r2 = some 47) (i3 : 0 ≤ a3 ∧ a3 ≤ 1) (qpp : H r0 3 = (pp : Int)) (gpp : T.2.2.2 pp = some 54) (p0 : H r0 29 = 0 ∨ 0 < wLM H r0) : wpc kt 2 264 [.ref r0, vI a1, .ref r2, vI a3] T H (q_264_m_length r0 a1 r2 a3 pp T H) := by
  refine wp_enter e264 (Nat.le_of_ble_eq_true rfl) rfl ?_
  have f0 : wfr [(51, 999)] T H H := wfr.rf
  show wp _ _ 264 0 [(0, .ref r0), (1, vI a1), (2, .ref r2), (3, vI a3)] [] _ H _
  have b143851 : 0 ≤ H r0 29 ∧ H r0 29 ≤ 20000 := hW.box g0 (n := 33) rfl (by decide) rfl
  refine wp_of e264 c264_0 (rw_iconst (pc' := 1) rfl ?_)
  refine wp_of e264 c264_1 (rw_istore (pc' := 3) (z := 0) (L' := [(4, vI 0), (0, .ref r0), (1, vI a1), (2, .ref r2), (3, vI a3)]) rfl rfl rfl ?_)
  refine wp_of e264 c264_3 (rw_iconst (pc' := 4) rfl ?_)
  refine wp_of e264 c264_4 (rw_istore (pc' := 6) (z := 0) (L' := [(5, vI 0), (4, vI 0), (0, .ref r0), (1, vI a1), (2, .ref r2), (3, vI a3)]) rfl rfl rfl ?_)
  have lp144105 : ∀ (n144106 : Nat) (v144108 : Int) (v144109 : Int) (H144110 : wq_H), WT T H144110 → wfr [(51, 999)] T H H144110 → (0 ≤ v144108 ∧ v144108 ≤ 20000) → (0 ≤ v144109 ∧ v144109 ≤ 16) → (20000 - v144108).toNat = n144106 → wp kt 1 264 6 [(5, vI v144108), (4, vI v144109), (0, .ref r0), (1, vI a1), (2, .ref r2), (3, vI a3)] [] T H144110 (q_264_m_length r0 a1 r2 a3 pp T H) := by
    intro n144106
    induction n144106 using Nat.strongRecOn with
    | _ n144106 ih144107 =>
      intro v144108 v144109 H144110 w144111 f144112 b144113 b144114 m144115
      have f144116 := f0.tr f144112 rfl
      refine wp_of e264 c264_6 (rw_iload (pc' := 8) (z := v144108) rfl rfl ?_)
      refine wp_of e264 c264_8 (rw_aload_n (pc' := 9) (v := .ref r0) rfl rfl rfl ?_)
      have k144117 : H144110 r0 29 = H r0 29 := (f144112 r0 29 _ g0 rfl)
      refine wp_of e264 c264_9 (xg_I (pc' := 12) lf_9_422 w144111 g0 sh_42 (by decide) (by decide) ty_42_29 rfl rfl (fun b144118 b144119 => ?_))
      refine wp_of e264 c264_12 (rw_icmp_ge (p1 := 82) (p2 := 15) (by decide) rfl ⟨by omega, by omega⟩ ⟨by omega, by omega⟩ (fun c144120 => ?_) (fun c144120 => ?_))
      · refine wp_of e264 c264_82 (rw_iload (pc' := 84) (z := v144109) rfl rfl ?_)
        exact wp_ireturn e264 c264_84 rfl ⟨rfl, w144111, f144116, v144109, rfl, ⟨by omega, by omega⟩⟩
      · refine wp_of e264 c264_15 (rw_aload_n (pc' := 16) (v := .ref r0) rfl rfl rfl ?_)
        refine wp_of e264 c264_16 (rw_aload_n (pc' := 17) (v := .ref r0) rfl rfl rfl ?_)
        refine wp_of e264 c264_17 (xg_R (pc' := 20) lf_9_42 w144111 g0 sh_42 (by decide) (by decide) ty_42_30 rfl rfl (fun r144121 q144122 g144123 => ?_))
        refine wp_of e264 c264_20 (rw_iload (pc' := 22) (z := v144108) rfl rfl ?_)
        refine wp_of e264 c264_22 (xa_I (so := 0) (pc' := 23) w144111 g144123 sh_52 (by decide) (ty_52 _) (by omega) (by omega) rfl (fun b144124 b144125 => ?_))
        have k144126 : wLM H144110 r0 = wLM H r0 := (wLM_fr hW g0 f144112 rfl)
        have k144127 : H144110 r0 3 = H r0 3 := (f144112 r0 3 _ g0 rfl)
        have q144128 : H144110 r0 3 = (pp : Int) := k144127.trans qpp
        refine wp_of e264 c264_23 (xc_V (pc' := 26) (r := r0) (as := [vI (H144110 r144121 (v144108.toNat))]) (st := []) (lm_9_425) rfl rfl (Nat.le_of_ble_eq_true rfl) w144111 g0 sh_42 (by decide) rfl (by decide) (s_243 w144111 g0 ⟨by omega, by omega⟩ q144128 gpp (by omega)) (fun R144129 T144130 H144131 p144132 => ?_))
        obtain ⟨e144133, w144135, f144136, e144134⟩ := p144132
        subst e144133
        subst e144134
        have f144137 := f144116.tr f144136 rfl
        have f144138 := f144112.tr f144136 rfl
        show wp _ _ 264 26 [(5, vI v144108), (4, vI v144109), (0, .ref r0), (1, vI a1), (2, .ref r2), (3, vI a3)] [] _ H144131 _
        refine wp_of e264 c264_26 (rw_aload_n (pc' := 27) (v := .ref r2) rfl rfl rfl ?_)
        refine wp_of e264 c264_27 (rw_bipush (pc' := 29) (z := 40) rfl (by decide) ?_)
        refine wp_of e264 c264_29 (rw_iload_n (pc' := 30) (z := a1) rfl rfl ?_)
        refine wp_of e264 c264_30 (rw_imul (pc' := 31) rfl ?_)
        refine wp_of e264 c264_31 (rw_aload_n (pc' := 32) (v := .ref r0) rfl rfl rfl ?_)
        refine wp_of e264 c264_32 (xg_R (pc' := 35) lf_9_39 w144135 g0 sh_42 (by decide) (by decide) ty_42_27 rfl rfl (fun r144139 q144140 g144141 => ?_))
        refine wp_of e264 c264_35 (rw_iload_n (pc' := 36) (z := a1) rfl rfl ?_)
        refine wp_of e264 c264_36 (xa_I (so := 0) (pc' := 37) w144135 g144141 sh_51 (by decide) (ty_51 _) (by omega) (by omega) rfl (fun b144142 b144143 => ?_))
        refine wp_of e264 c264_37 (rw_iadd (pc' := 38) rfl ?_)
        refine wp_of e264 c264_38 (xa_I (so := 0) (pc' := 39) w144135 g2 sh_47 (by decide) (ty_47 _) (by omega) (by omega) rfl (fun b144144 b144145 => ?_))
        refine wp_of e264 c264_39 (rw_istore (pc' := 41) (z := H144131 r2 (((40 * a1) + (H144131 r144139 (a1.toNat))).toNat)) (L' := [(6, vI (H144131 r2 (((40 * a1) + (H144131 r144139 (a1.toNat))).toNat))), (5, vI v144108), (4, vI v144109), (0, .ref r0), (1, vI a1), (2, .ref r2), (3, vI a3)]) rfl rfl rfl ?_)
        refine wp_of e264 c264_41 (rw_iload (pc' := 43) (z := v144108) rfl rfl ?_)
        refine wp_of e264 c264_43 (rw_if_eq (p1 := 67) (p2 := 46) (by decide) rfl ⟨by omega, by omega⟩ (fun c144146 => ?_) (fun c144146 => ?_))
        · refine wp_of e264 c264_67 (rw_iload (pc' := 69) (z := H144131 r2 (((40 * a1) + (H144131 r144139 (a1.toNat))).toNat)) rfl rfl ?_)
          refine wp_of e264 c264_69 (rw_goto (p1 := 74) (by decide) ?_)
          refine wp_of e264 c264_74 (rw_istore (pc' := 76) (z := H144131 r2 (((40 * a1) + (H144131 r144139 (a1.toNat))).toNat)) (L' := [(4, vI (H144131 r2 (((40 * a1) + (H144131 r144139 (a1.toNat))).toNat))), (6, vI (H144131 r2 (((40 * a1) + (H144131 r144139 (a1.toNat))).toNat))), (5, vI v144108), (0, .ref r0), (1, vI a1), (2, .ref r2), (3, vI a3)]) rfl rfl rfl ?_)
          refine wp_of e264 c264_76 (rw_iinc (pc' := 79) (z := v144108) (L' := [(5, vI (v144108 + 1)), (4, vI (H144131 r2 (((40 * a1) + (H144131 r144139 (a1.toNat))).toNat))), (6, vI (H144131 r2 (((40 * a1) + (H144131 r144139 (a1.toNat))).toNat))), (0, .ref r0), (1, vI a1), (2, .ref r2), (3, vI a3)]) rfl rfl rfl rfl ?_)
          refine wp_of e264 c264_79 (rw_goto (p1 := 6) (by decide) ?_)
          exact wp_lc (ks := [5, 4, 6, 0, 1, 2, 3]) (wl_c rfl (wl_c rfl (wl_c rfl (wl_c rfl (wl_c rfl (wl_c rfl wl_n)))))) rfl (by decide) (ih144107 _ (by omega) (v144108 + 1) (H144131 r2 (((40 * a1) + (H144131 r144139 (a1.toNat))).toNat)) H144131 w144135 f144138 ⟨by omega, by omega⟩ ⟨by omega, by omega⟩ rfl)
        · refine wp_of e264 c264_46 (rw_iload_n (pc' := 47) (z := a3) rfl rfl ?_)
          refine wp_of e264 c264_47 (rw_if_eq (p1 := 60) (p2 := 50) (by decide) rfl ⟨by omega, by omega⟩ (fun c144147 => ?_) (fun c144147 => ?_))
          · refine wp_of e264 c264_60 (rw_iload (pc' := 62) (z := H144131 r2 (((40 * a1) + (H144131 r144139 (a1.toNat))).toNat)) rfl rfl ?_)
            refine wp_of e264 c264_62 (rw_iload (pc' := 64) (z := v144109) rfl rfl ?_)
            refine wp_of e264 c264_64 (rw_icmp_ge (p1 := 72) (p2 := 67) (by decide) rfl ⟨by omega, by omega⟩ ⟨by omega, by omega⟩ (fun c144148 => ?_) (fun c144148 => ?_))
            · refine wp_of e264 c264_72 (rw_iload (pc' := 74) (z := v144109) rfl rfl ?_)
              refine wp_of e264 c264_74 (rw_istore (pc' := 76) (z := v144109) (L' := [(4, vI v144109), (6, vI (H144131 r2 (((40 * a1) + (H144131 r144139 (a1.toNat))).toNat))), (5, vI v144108), (0, .ref r0), (1, vI a1), (2, .ref r2), (3, vI a3)]) rfl rfl rfl ?_)
              refine wp_of e264 c264_76 (rw_iinc (pc' := 79) (z := v144108) (L' := [(5, vI (v144108 + 1)), (4, vI v144109), (6, vI (H144131 r2 (((40 * a1) + (H144131 r144139 (a1.toNat))).toNat))), (0, .ref r0), (1, vI a1), (2, .ref r2), (3, vI a3)]) rfl rfl rfl rfl ?_)
              refine wp_of e264 c264_79 (rw_goto (p1 := 6) (by decide) ?_)
              exact wp_lc (ks := [5, 4, 6, 0, 1, 2, 3]) (wl_c rfl (wl_c rfl (wl_c rfl (wl_c rfl (wl_c rfl (wl_c rfl wl_n)))))) rfl (by decide) (ih144107 _ (by omega) (v144108 + 1) v144109 H144131 w144135 f144138 ⟨by omega, by omega⟩ ⟨by omega, by omega⟩ rfl)
            · refine wp_of e264 c264_67 (rw_iload (pc' := 69) (z := H144131 r2 (((40 * a1) + (H144131 r144139 (a1.toNat))).toNat)) rfl rfl ?_)
              refine wp_of e264 c264_69 (rw_goto (p1 := 74) (by decide) ?_)
              refine wp_of e264 c264_74 (rw_istore (pc' := 76) (z := H144131 r2 (((40 * a1) + (H144131 r144139 (a1.toNat))).toNat)) (L' := [(4, vI (H144131 r2 (((40 * a1) + (H144131 r144139 (a1.toNat))).toNat))), (6, vI (H144131 r2 (((40 * a1) + (H144131 r144139 (a1.toNat))).toNat))), (5, vI v144108), (0, .ref r0), (1, vI a1), (2, .ref r2), (3, vI a3)]) rfl rfl rfl ?_)
              refine wp_of e264 c264_76 (rw_iinc (pc' := 79) (z := v144108) (L' := [(5, vI (v144108 + 1)), (4, vI (H144131 r2 (((40 * a1) + (H144131 r144139 (a1.toNat))).toNat))), (6, vI (H144131 r2 (((40 * a1) + (H144131 r144139 (a1.toNat))).toNat))), (0, .ref r0), (1, vI a1), (2, .ref r2), (3, vI a3)]) rfl rfl rfl rfl ?_)
              refine wp_of e264 c264_79 (rw_goto (p1 := 6) (by decide) ?_)
              exact wp_lc (ks := [5, 4, 6, 0, 1, 2, 3]) (wl_c rfl (wl_c rfl (wl_c rfl (wl_c rfl (wl_c rfl (wl_c rfl wl_n)))))) rfl (by decide) (ih144107 _ (by omega) (v144108 + 1) (H144131 r2 (((40 * a1) + (H144131 r144139 (a1.toNat))).toNat)) H144131 w144135 f144138 ⟨by omega, by omega⟩ ⟨by omega, by omega⟩ rfl)
          · refine wp_of e264 c264_50 (rw_iload (pc' := 52) (z := H144131 r2 (((40 * a1) + (H144131 r144139 (a1.toNat))).toNat)) rfl rfl ?_)
            refine wp_of e264 c264_52 (rw_iload (pc' := 54) (z := v144109) rfl rfl ?_)
            refine wp_of e264 c264_54 (rw_icmp_le (p1 := 72) (p2 := 57) (by decide) rfl ⟨by omega, by omega⟩ ⟨by omega, by omega⟩ (fun c144149 => ?_) (fun c144149 => ?_))
            · refine wp_of e264 c264_72 (rw_iload (pc' := 74) (z := v144109) rfl rfl ?_)
              refine wp_of e264 c264_74 (rw_istore (pc' := 76) (z := v144109) (L' := [(4, vI v144109), (6, vI (H144131 r2 (((40 * a1) + (H144131 r144139 (a1.toNat))).toNat))), (5, vI v144108), (0, .ref r0), (1, vI a1), (2, .ref r2), (3, vI a3)]) rfl rfl rfl ?_)
              refine wp_of e264 c264_76 (rw_iinc (pc' := 79) (z := v144108) (L' := [(5, vI (v144108 + 1)), (4, vI v144109), (6, vI (H144131 r2 (((40 * a1) + (H144131 r144139 (a1.toNat))).toNat))), (0, .ref r0), (1, vI a1), (2, .ref r2), (3, vI a3)]) rfl rfl rfl rfl ?_)
              refine wp_of e264 c264_79 (rw_goto (p1 := 6) (by decide) ?_)
              exact wp_lc (ks := [5, 4, 6, 0, 1, 2, 3]) (wl_c rfl (wl_c rfl (wl_c rfl (wl_c rfl (wl_c rfl (wl_c rfl wl_n)))))) rfl (by decide) (ih144107 _ (by omega) (v144108 + 1) v144109 H144131 w144135 f144138 ⟨by omega, by omega⟩ ⟨by omega, by omega⟩ rfl)
            · refine wp_of e264 c264_57 (rw_goto (p1 := 67) (by decide) ?_)
              refine wp_of e264 c264_67 (rw_iload (pc' := 69) (z := H144131 r2 (((40 * a1) + (H144131 r144139 (a1.toNat))).toNat)) rfl rfl ?_)
              refine wp_of e264 c264_69 (rw_goto (p1 := 74) (by decide) ?_)
              refine wp_of e264 c264_74 (rw_istore (pc' := 76) (z := H144131 r2 (((40 * a1) + (H144131 r144139 (a1.toNat))).toNat)) (L' := [(4, vI (H144131 r2 (((40 * a1) + (H144131 r144139 (a1.toNat))).toNat))), (6, vI (H144131 r2 (((40 * a1) + (H144131 r144139 (a1.toNat))).toNat))), (5, vI v144108), (0, .ref r0), (1, vI a1), (2, .ref r2), (3, vI a3)]) rfl rfl rfl ?_)
              refine wp_of e264 c264_76 (rw_iinc (pc' := 79) (z := v144108) (L' := [(5, vI (v144108 + 1)), (4, vI (H144131 r2 (((40 * a1) + (H144131 r144139 (a1.toNat))).toNat))), (6, vI (H144131 r2 (((40 * a1) + (H144131 r144139 (a1.toNat))).toNat))), (0, .ref r0), (1, vI a1), (2, .ref r2), (3, vI a3)]) rfl rfl rfl rfl ?_)
              refine wp_of e264 c264_79 (rw_goto (p1 := 6) (by decide) ?_)
              exact wp_lc (ks := [5, 4, 6, 0, 1, 2, 3]) (wl_c rfl (wl_c rfl (wl_c rfl (wl_c rfl (wl_c rfl (wl_c rfl wl_n)))))) rfl (by decide) (ih144107 _ (by omega) (v144108 + 1) (H144131 r2 (((40 * a1) + (H144131 r144139 (a1.toNat))).toNat)) H144131 w144135 f144138 ⟨by omega, by omega⟩ ⟨by omega, by omega⟩ rfl)
  exact wp_lc (ks := [5, 4, 0, 1, 2, 3]) (wl_c rfl (wl_c rfl (wl_c rfl (wl_c rfl (wl_c rfl (wl_c rfl wl_n)))))) rfl (by decide) (lp144105 _ 0 0 H hW wfr.rf ⟨by omega, by omega⟩ ⟨by omega, by omega⟩ rfl)
