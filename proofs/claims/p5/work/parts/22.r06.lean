/-! methods of the reference (own work, written by wip/gen2/sx.py) -/
/-! StrikeAwakeModel.isWorld([I)Z -/
theorem e238 : wq_en 238 = some (9, 2, false, some FieldType.boolean) := rfl
theorem c238_0 : mc_cd 238 0 = some (.aload_n 0, 1) := by decide +kernel
theorem c238_1 : mc_cd 238 1 = some (.aload_n 1, 1) := by decide +kernel
theorem c238_2 : mc_cd 238 2 = some (.invokevirtual 393, 3) := by decide +kernel
theorem c238_5 : mc_cd 238 5 = some (.ifCond .ne 21, 3) := by decide +kernel
theorem c238_8 : mc_cd 238 8 = some (.aload_n 0, 1) := by decide +kernel
theorem c238_9 : mc_cd 238 9 = some (.aload_n 1, 1) := by decide +kernel
theorem c238_10 : mc_cd 238 10 = some (.aload_n 0, 1) := by decide +kernel
theorem c238_11 : mc_cd 238 11 = some (.getfield 343, 3) := by decide +kernel
theorem c238_14 : mc_cd 238 14 = some (.invokevirtual 397, 3) := by decide +kernel
theorem c238_17 : mc_cd 238 17 = some (.bipush 24, 2) := by decide +kernel
theorem c238_19 : mc_cd 238 19 = some (.if_icmp .ne 7, 3) := by decide +kernel
theorem c238_22 : mc_cd 238 22 = some (.iconst 1, 1) := by decide +kernel
theorem c238_23 : mc_cd 238 23 = some (.goto 4, 3) := by decide +kernel
theorem c238_26 : mc_cd 238 26 = some (.iconst 0, 1) := by decide +kernel
theorem c238_27 : mc_cd 238 27 = some (.ireturn, 1) := by decide +kernel
abbrev q_238_m_lot (r0 : Nat) (r1 : Nat) (pp : Nat) (T : wq_T) (H : wq_H) : Option Value → wq_T → wq_H → Prop := fun r T' H' => T = T' ∧ H = H' ∧ ∃ z : Int, some (vI z) = r ∧ (0 ≤ z ∧ z ≤ 1)
set_option maxHeartbeats 4000000 in
theorem s_238_m_lot {kt : Nat → Option mc_E} {T : wq_T} {H : wq_H} {r0 : Nat} {r1 : Nat} {pp : Nat} (hW : WT T H) (g0 : T.2.2.2 r0 = some 42) (g1 : T.2.2.2 r1 = some 51) (qpp : H r0 3 = (pp : Int)) (gpp : T.2.2.2 pp = some 54) : wpc kt 5 238 [.ref r0, .ref r1] T H (q_238_m_lot r0 r1 pp T H) := by
  refine wp_enter e238 (Nat.le_of_ble_eq_true rfl) rfl ?_
  show wp _ _ 238 0 [(0, .ref r0), (1, .ref r1)] [] _ H _
  refine wp_of e238 c238_0 (rw_aload_n (pc' := 1) (v := .ref r0) rfl rfl rfl ?_)
  refine wp_of e238 c238_1 (rw_aload_n (pc' := 2) (v := .ref r1) rfl rfl rfl ?_)
  refine wp_of e238 c238_2 (xc_V (pc' := 5) (r := r0) (as := [.ref r1]) (st := []) (lm_9_393) rfl rfl (Nat.le_of_ble_eq_true rfl) hW g0 sh_42 (by decide) rfl (by decide) (s_235_m_lot hW g0 g1 qpp gpp) (fun R134809 T134810 H134811 p134812 => ?_))
  obtain ⟨e134813, e134815, z134816, e134814, b134817⟩ := p134812
  subst e134813
  subst e134814
  subst e134815
  show wp _ _ 238 5 [(0, .ref r0), (1, .ref r1)] [vI z134816] _ H _
  refine wp_of e238 c238_5 (rw_if_ne (p1 := 26) (p2 := 8) (by decide) rfl ⟨by omega, by omega⟩ (fun c134818 => ?_) (fun c134818 => ?_))
  · refine wp_of e238 c238_26 (rw_iconst (pc' := 27) rfl ?_)
    exact wp_zreturn e238 c238_27 rfl (by omega) ⟨rfl, rfl, 0, rfl, ⟨by omega, by omega⟩⟩
  · refine wp_of e238 c238_8 (rw_aload_n (pc' := 9) (v := .ref r0) rfl rfl rfl ?_)
    refine wp_of e238 c238_9 (rw_aload_n (pc' := 10) (v := .ref r1) rfl rfl rfl ?_)
    refine wp_of e238 c238_10 (rw_aload_n (pc' := 11) (v := .ref r0) rfl rfl rfl ?_)
    refine wp_of e238 c238_11 (xg_I (pc' := 14) lf_9_343 hW g0 sh_42 (by decide) (by decide) ty_42_19 rfl rfl (fun b134819 b134820 => ?_))
    refine wp_of e238 c238_14 (xc_V (pc' := 17) (r := r0) (as := [.ref r1, vI (H r0 19)]) (st := []) (lm_9_397) rfl rfl (Nat.le_of_ble_eq_true rfl) hW g0 sh_42 (by decide) rfl (by decide) (s_239_m_lot hW g0 g1 ⟨by omega, by omega⟩ qpp gpp) (fun R134821 T134822 H134823 p134824 => ?_))
    obtain ⟨e134825, e134827, z134828, e134826, b134829⟩ := p134824
    subst e134825
    subst e134826
    subst e134827
    show wp _ _ 238 17 [(0, .ref r0), (1, .ref r1)] [vI z134828] _ H _
    refine wp_of e238 c238_17 (rw_bipush (pc' := 19) (z := 24) rfl (by decide) ?_)
    refine wp_of e238 c238_19 (rw_icmp_ne (p1 := 26) (p2 := 22) (by decide) rfl ⟨by omega, by omega⟩ ⟨by omega, by omega⟩ (fun c134830 => ?_) (fun c134830 => ?_))
    · refine wp_of e238 c238_26 (rw_iconst (pc' := 27) rfl ?_)
      exact wp_zreturn e238 c238_27 rfl (by omega) ⟨rfl, rfl, 0, rfl, ⟨by omega, by omega⟩⟩
    · refine wp_of e238 c238_22 (rw_iconst (pc' := 23) rfl ?_)
      refine wp_of e238 c238_23 (rw_goto (p1 := 27) (by decide) ?_)
      exact wp_zreturn e238 c238_27 rfl (by omega) ⟨rfl, rfl, 1, rfl, ⟨by omega, by omega⟩⟩

/-! StrikeAwakeModel.isWorld([I)Z -/
abbrev q_238_m_said (r0 : Nat) (r1 : Nat) (pp : Nat) (T : wq_T) (H : wq_H) : Option Value → wq_T → wq_H → Prop := fun r T' H' => T = T' ∧ H = H' ∧ ∃ z : Int, some (vI z) = r ∧ (0 ≤ z ∧ z ≤ 1)
set_option maxHeartbeats 4000000 in
theorem s_238_m_said {kt : Nat → Option mc_E} {T : wq_T} {H : wq_H} {r0 : Nat} {r1 : Nat} {pp : Nat} (hW : WT T H) (g0 : T.2.2.2 r0 = some 42) (g1 : T.2.2.2 r1 = some 50) (qpp : H r0 3 = (pp : Int)) (gpp : T.2.2.2 pp = some 54) : wpc kt 5 238 [.ref r0, .ref r1] T H (q_238_m_said r0 r1 pp T H) := by
  refine wp_enter e238 (Nat.le_of_ble_eq_true rfl) rfl ?_
  show wp _ _ 238 0 [(0, .ref r0), (1, .ref r1)] [] _ H _
  refine wp_of e238 c238_0 (rw_aload_n (pc' := 1) (v := .ref r0) rfl rfl rfl ?_)
  refine wp_of e238 c238_1 (rw_aload_n (pc' := 2) (v := .ref r1) rfl rfl rfl ?_)
  refine wp_of e238 c238_2 (xc_V (pc' := 5) (r := r0) (as := [.ref r1]) (st := []) (lm_9_393) rfl rfl (Nat.le_of_ble_eq_true rfl) hW g0 sh_42 (by decide) rfl (by decide) (s_235_m_said hW g0 g1 qpp gpp) (fun R134853 T134854 H134855 p134856 => ?_))
  obtain ⟨e134857, e134859, z134860, e134858, b134861⟩ := p134856
  subst e134857
  subst e134858
  subst e134859
  show wp _ _ 238 5 [(0, .ref r0), (1, .ref r1)] [vI z134860] _ H _
  refine wp_of e238 c238_5 (rw_if_ne (p1 := 26) (p2 := 8) (by decide) rfl ⟨by omega, by omega⟩ (fun c134862 => ?_) (fun c134862 => ?_))
  · refine wp_of e238 c238_26 (rw_iconst (pc' := 27) rfl ?_)
    exact wp_zreturn e238 c238_27 rfl (by omega) ⟨rfl, rfl, 0, rfl, ⟨by omega, by omega⟩⟩
  · refine wp_of e238 c238_8 (rw_aload_n (pc' := 9) (v := .ref r0) rfl rfl rfl ?_)
    refine wp_of e238 c238_9 (rw_aload_n (pc' := 10) (v := .ref r1) rfl rfl rfl ?_)
    refine wp_of e238 c238_10 (rw_aload_n (pc' := 11) (v := .ref r0) rfl rfl rfl ?_)
    refine wp_of e238 c238_11 (xg_I (pc' := 14) lf_9_343 hW g0 sh_42 (by decide) (by decide) ty_42_19 rfl rfl (fun b134863 b134864 => ?_))
    refine wp_of e238 c238_14 (xc_V (pc' := 17) (r := r0) (as := [.ref r1, vI (H r0 19)]) (st := []) (lm_9_397) rfl rfl (Nat.le_of_ble_eq_true rfl) hW g0 sh_42 (by decide) rfl (by decide) (s_239_m_said hW g0 g1 ⟨by omega, by omega⟩ qpp gpp) (fun R134865 T134866 H134867 p134868 => ?_))
    obtain ⟨e134869, e134871, z134872, e134870, b134873⟩ := p134868
    subst e134869
    subst e134870
    subst e134871
    show wp _ _ 238 17 [(0, .ref r0), (1, .ref r1)] [vI z134872] _ H _
    refine wp_of e238 c238_17 (rw_bipush (pc' := 19) (z := 24) rfl (by decide) ?_)
    refine wp_of e238 c238_19 (rw_icmp_ne (p1 := 26) (p2 := 22) (by decide) rfl ⟨by omega, by omega⟩ ⟨by omega, by omega⟩ (fun c134874 => ?_) (fun c134874 => ?_))
    · refine wp_of e238 c238_26 (rw_iconst (pc' := 27) rfl ?_)
      exact wp_zreturn e238 c238_27 rfl (by omega) ⟨rfl, rfl, 0, rfl, ⟨by omega, by omega⟩⟩
    · refine wp_of e238 c238_22 (rw_iconst (pc' := 23) rfl ?_)
      refine wp_of e238 c238_23 (rw_goto (p1 := 27) (by decide) ?_)
      exact wp_zreturn e238 c238_27 rfl (by omega) ⟨rfl, rfl, 1, rfl, ⟨by omega, by omega⟩⟩
/-! StrikeAwakeModel.agrees()I -/
theorem e237 : wq_en 237 = some (9, 2, false, some FieldType.int) := rfl
theorem c237_0 : mc_cd 237 0 = some (.aload_n 0, 1) := by decide +kernel
theorem c237_1 : mc_cd 237 1 = some (.iconst 0, 1) := by decide +kernel
theorem c237_2 : mc_cd 237 2 = some (.putfield 48, 3) := by decide +kernel
theorem c237_5 : mc_cd 237 5 = some (.aload_n 0, 1) := by decide +kernel
theorem c237_6 : mc_cd 237 6 = some (.invokevirtual 412, 3) := by decide +kernel
theorem c237_9 : mc_cd 237 9 = some (.istore_n 1, 1) := by decide +kernel
theorem c237_10 : mc_cd 237 10 = some (.iload_n 1, 1) := by decide +kernel
theorem c237_11 : mc_cd 237 11 = some (.ifCond .le 11, 3) := by decide +kernel
theorem c237_14 : mc_cd 237 14 = some (.aload_n 0, 1) := by decide +kernel
theorem c237_15 : mc_cd 237 15 = some (.iload_n 1, 1) := by decide +kernel
theorem c237_16 : mc_cd 237 16 = some (.invokevirtual 54, 3) := by decide +kernel
theorem c237_19 : mc_cd 237 19 = some (.goto 23, 3) := by decide +kernel
theorem c237_22 : mc_cd 237 22 = some (.aload_n 0, 1) := by decide +kernel
theorem c237_23 : mc_cd 237 23 = some (.aload_n 0, 1) := by decide +kernel
theorem c237_24 : mc_cd 237 24 = some (.aload_n 0, 1) := by decide +kernel
theorem c237_25 : mc_cd 237 25 = some (.getfield 36, 3) := by decide +kernel
theorem c237_28 : mc_cd 237 28 = some (.invokevirtual 418, 3) := by decide +kernel
theorem c237_31 : mc_cd 237 31 = some (.ifCond .eq 7, 3) := by decide +kernel
theorem c237_34 : mc_cd 237 34 = some (.iconst 1, 1) := by decide +kernel
theorem c237_35 : mc_cd 237 35 = some (.goto 4, 3) := by decide +kernel
theorem c237_38 : mc_cd 237 38 = some (.iconst 0, 1) := by decide +kernel
theorem c237_39 : mc_cd 237 39 = some (.invokevirtual 58, 3) := by decide +kernel
theorem c237_42 : mc_cd 237 42 = some (.ireturn, 1) := by decide +kernel
abbrev q_237 (r0 : Nat) (T : wq_T) (H : wq_H) : Option Value → wq_T → wq_H → Prop := fun r T' H' => T = T' ∧ WT T H' ∧ wfr [(42, 0), (42, 1), (42, 2)] T H H' ∧ ∃ z : Int, some (vI z) = r ∧ ((-2147483648) ≤ z ∧ z ≤ 2147483647) ∧ (wKI H' r0 = 1) ∧ (H' r0 2 = -1)
set_option maxHeartbeats 4000000 in
theorem s_237 {kt : Nat → Option mc_E} {T : wq_T} {H : wq_H} {r0 : Nat} (hW : WT T H) (g0 : T.2.2.2 r0 = some 42) (p0 : wKI H r0 = 1) : wpc kt 6 237 [.ref r0] T H (q_237 r0 T H) := by
  refine wp_enter e237 (Nat.le_of_ble_eq_true rfl) rfl ?_
  have f0 : wfr [(42, 0), (42, 1), (42, 2)] T H H := wfr.rf
  show wp _ _ 237 0 [(0, .ref r0)] [] _ H _
  refine wp_of e237 c237_0 (rw_aload_n (pc' := 1) (v := .ref r0) rfl rfl rfl ?_)
  refine wp_of e237 c237_1 (rw_iconst (pc' := 2) rfl ?_)
  refine wp_of e237 c237_2 (xp_I (pc' := 5) lf_9_48 hW g0 sh_42 (by decide) (by decide) ty_42_0 rfl rfl (by omega) (by omega) ⟨by omega, by omega⟩ rfl (fun H134946 e134947 w134948 => ?_))
  have f134949 := f0.put' e134947 g0 rfl
  have k134950 : H134946 r0 0 = 0 := wq_u_s e134947
  refine wp_of e237 c237_5 (rw_aload_n (pc' := 6) (v := .ref r0) rfl rfl rfl ?_)
  refine wp_of e237 c237_6 (xc_V (pc' := 9) (r := r0) (as := []) (st := []) (lm_9_412) rfl rfl (Nat.le_of_ble_eq_true rfl) w134948 g0 sh_42 (by decide) rfl (by decide) (s_231 w134948 g0) (fun R134951 T134952 H134953 p134954 => ?_))
  obtain ⟨e134955, e134957, z134959, e134956, b134960, p134958⟩ := p134954
  subst e134955
  subst e134956
  subst e134957
  show wp _ _ 237 9 [(0, .ref r0)] [vI z134959] _ H134946 _
  refine wp_of e237 c237_9 (rw_istore_n (pc' := 10) (z := z134959) (L' := [(1, vI z134959), (0, .ref r0)]) rfl rfl rfl ?_)
  refine wp_of e237 c237_10 (rw_iload_n (pc' := 11) (z := z134959) rfl rfl ?_)
  refine wp_of e237 c237_11 (rw_if_le (p1 := 22) (p2 := 14) (by decide) rfl ⟨by omega, by omega⟩ (fun c134961 => ?_) (fun c134961 => ?_))
  · refine wp_of e237 c237_22 (rw_aload_n (pc' := 23) (v := .ref r0) rfl rfl rfl ?_)
    refine wp_of e237 c237_23 (rw_aload_n (pc' := 24) (v := .ref r0) rfl rfl rfl ?_)
    refine wp_of e237 c237_24 (rw_aload_n (pc' := 25) (v := .ref r0) rfl rfl rfl ?_)
    refine wp_of e237 c237_25 (xg_R (pc' := 28) lf_9_36 w134948 g0 sh_42 (by decide) (by decide) ty_42_26 rfl rfl (fun r134962 q134963 g134964 => ?_))
    obtain ⟨r134965, q134966, g134967⟩ := (w134948.opt g0 (t' := 54) (n := 33) (j := 3) (p := 0) (q := 0) rfl (by decide) rfl).resolve_left (by omega)
    refine wp_of e237 c237_28 (xc_V (pc' := 31) (r := r0) (as := [.ref r134962]) (st := [.ref r0]) (lm_9_418) rfl rfl (Nat.le_of_ble_eq_true rfl) w134948 g0 sh_42 (by decide) rfl (by decide) (s_238_m_said w134948 g0 g134964 q134966 g134967) (fun R134968 T134969 H134970 p134971 => ?_))
    obtain ⟨e134972, e134974, z134975, e134973, b134976⟩ := p134971
    subst e134972
    subst e134973
    subst e134974
    show wp _ _ 237 31 [(1, vI z134959), (0, .ref r0)] [vI z134975, .ref r0] _ H134946 _
    refine wp_of e237 c237_31 (rw_if_eq (p1 := 38) (p2 := 34) (by decide) rfl ⟨by omega, by omega⟩ (fun c134977 => ?_) (fun c134977 => ?_))
    · refine wp_of e237 c237_38 (rw_iconst (pc' := 39) rfl ?_)
      refine wp_of e237 c237_39 (xc_V (pc' := 42) (r := r0) (as := [vI 0]) (st := []) (lm_9_58) rfl rfl (Nat.le_of_ble_eq_true rfl) w134948 g0 sh_42 (by decide) rfl (by decide) (s_209 w134948 g0 ⟨by omega, by omega⟩) (fun R134978 T134979 H134980 p134981 => ?_))
      obtain ⟨e134982, w134984, f134985, z134987, e134983, b134988, p134986⟩ := p134981
      subst e134982
      subst e134983
      have f134989 := f134949.tr f134985 rfl
      show wp _ _ 237 42 [(1, vI z134959), (0, .ref r0)] [vI z134987] _ H134980 _
      have k134990 : wKI H134980 r0 = wKI H r0 := ((wKI_fr w134948 g0 f134985 rfl).trans (wKI_fr hW g0 ((wfr.rf (l := [(42, 0)])).put' e134947 g0 rfl) rfl))
      exact wp_ireturn e237 c237_42 rfl ⟨rfl, w134984, f134989, z134987, rfl, ⟨by omega, by omega⟩, by omega, by omega⟩
    · refine wp_of e237 c237_34 (rw_iconst (pc' := 35) rfl ?_)
      refine wp_of e237 c237_35 (rw_goto (p1 := 39) (by decide) ?_)
      refine wp_of e237 c237_39 (xc_V (pc' := 42) (r := r0) (as := [vI 1]) (st := []) (lm_9_58) rfl rfl (Nat.le_of_ble_eq_true rfl) w134948 g0 sh_42 (by decide) rfl (by decide) (s_209 w134948 g0 ⟨by omega, by omega⟩) (fun R134991 T134992 H134993 p134994 => ?_))
      obtain ⟨e134995, w134997, f134998, z135000, e134996, b135001, p134999⟩ := p134994
      subst e134995
      subst e134996
      have f135002 := f134949.tr f134998 rfl
      show wp _ _ 237 42 [(1, vI z134959), (0, .ref r0)] [vI z135000] _ H134993 _
      have k135003 : wKI H134993 r0 = wKI H r0 := ((wKI_fr w134948 g0 f134998 rfl).trans (wKI_fr hW g0 ((wfr.rf (l := [(42, 0)])).put' e134947 g0 rfl) rfl))
      exact wp_ireturn e237 c237_42 rfl ⟨rfl, w134997, f135002, z135000, rfl, ⟨by omega, by omega⟩, by omega, by omega⟩
  · refine wp_of e237 c237_14 (rw_aload_n (pc' := 15) (v := .ref r0) rfl rfl rfl ?_)
    refine wp_of e237 c237_15 (rw_iload_n (pc' := 16) (z := z134959) rfl rfl ?_)
    refine wp_of e237 c237_16 (xc_V (pc' := 19) (r := r0) (as := [vI z134959]) (st := []) (lm_9_54) rfl rfl (Nat.le_of_ble_eq_true rfl) w134948 g0 sh_42 (by decide) rfl (by decide) (s_170 w134948 g0 ⟨by omega, by omega⟩) (fun R135004 T135005 H135006 p135007 => ?_))
    obtain ⟨e135008, w135010, f135011, z135013, e135009, b135014, p135012⟩ := p135007
    subst e135008
    subst e135009
    have f135015 := f134949.tr f135011 rfl
    show wp _ _ 237 19 [(1, vI z134959), (0, .ref r0)] [vI z135013] _ H135006 _
    refine wp_of e237 c237_19 (rw_goto (p1 := 42) (by decide) ?_)
    have k135016 : wKI H135006 r0 = wKI H r0 := ((wKI_fr w134948 g0 f135011 rfl).trans (wKI_fr hW g0 ((wfr.rf (l := [(42, 0)])).put' e134947 g0 rfl) rfl))
    exact wp_ireturn e237 c237_42 rfl ⟨rfl, w135010, f135015, z135013, rfl, ⟨by omega, by omega⟩, by omega, by omega⟩
/-! StrikeAwakeModel.takes(I)V -/
theorem e243 : wq_en 243 = some (9, 4, false, none) := rfl
theorem c243_0 : mc_cd 243 0 = some (.iload_n 1, 1) := by decide +kernel
theorem c243_1 : mc_cd 243 1 = some (.istore_n 2, 1) := by decide +kernel
theorem c243_2 : mc_cd 243 2 = some (.aload_n 0, 1) := by decide +kernel
theorem c243_3 : mc_cd 243 3 = some (.getfield 337, 3) := by decide +kernel
theorem c243_6 : mc_cd 243 6 = some (.getfield 188, 3) := by decide +kernel
theorem c243_9 : mc_cd 243 9 = some (.iconst 1, 1) := by decide +kernel
theorem c243_10 : mc_cd 243 10 = some (.isub, 1) := by decide +kernel
theorem c243_11 : mc_cd 243 11 = some (.istore_n 3, 1) := by decide +kernel
theorem c243_12 : mc_cd 243 12 = some (.iload_n 3, 1) := by decide +kernel
theorem c243_13 : mc_cd 243 13 = some (.ifCond .lt 32, 3) := by decide +kernel
theorem c243_16 : mc_cd 243 16 = some (.aload_n 0, 1) := by decide +kernel
theorem c243_17 : mc_cd 243 17 = some (.getfield 39, 3) := by decide +kernel
theorem c243_20 : mc_cd 243 20 = some (.iload_n 3, 1) := by decide +kernel
theorem c243_21 : mc_cd 243 21 = some (.iload_n 2, 1) := by decide +kernel
theorem c243_22 : mc_cd 243 22 = some (.aload_n 0, 1) := by decide +kernel
theorem c243_23 : mc_cd 243 23 = some (.getfield 21, 3) := by decide +kernel
theorem c243_26 : mc_cd 243 26 = some (.iload_n 3, 1) := by decide +kernel
theorem c243_27 : mc_cd 243 27 = some (.iaload, 1) := by decide +kernel
theorem c243_28 : mc_cd 243 28 = some (.irem, 1) := by decide +kernel
theorem c243_29 : mc_cd 243 29 = some (.iastore, 1) := by decide +kernel
theorem c243_30 : mc_cd 243 30 = some (.iload_n 2, 1) := by decide +kernel
theorem c243_31 : mc_cd 243 31 = some (.aload_n 0, 1) := by decide +kernel
theorem c243_32 : mc_cd 243 32 = some (.getfield 21, 3) := by decide +kernel
theorem c243_35 : mc_cd 243 35 = some (.iload_n 3, 1) := by decide +kernel
theorem c243_36 : mc_cd 243 36 = some (.iaload, 1) := by decide +kernel
theorem c243_37 : mc_cd 243 37 = some (.idiv, 1) := by decide +kernel
theorem c243_38 : mc_cd 243 38 = some (.istore_n 2, 1) := by decide +kernel
theorem c243_39 : mc_cd 243 39 = some (.iinc 3 (-1), 3) := by decide +kernel
theorem c243_42 : mc_cd 243 42 = some (.goto (-30), 3) := by decide +kernel
theorem c243_45 : mc_cd 243 45 = some (.return_, 1) := by decide +kernel
abbrev q_243 (r0 : Nat) (a1 : Int) (pp : Nat) (T : wq_T) (H : wq_H) : Option Value → wq_T → wq_H → Prop := fun r T' H' => T = T' ∧ WT T H' ∧ wfr [(51, 999)] T H H' ∧ none = r
set_option maxHeartbeats 4000000 in
theorem s_243 {kt : Nat → Option mc_E} {T : wq_T} {H : wq_H} {r0 : Nat} {a1 : Int} {pp : Nat} (hW : WT T H) (g0 : T.2.2.2 r0 = some 42) (i1 : 0 ≤ a1 ∧ a1 ≤ 2147483647) (qpp : H r0 3 = (pp : Int)) (gpp : T.2.2.2 pp = some 54) (p0 : 0 < wLM H r0) : wpc kt 1 243 [.ref r0, vI a1] T H (q_243 r0 a1 pp T H) := by
  refine wp_enter e243 (Nat.le_of_ble_eq_true rfl) rfl ?_
  have f0 : wfr [(51, 999)] T H H := wfr.rf
  show wp _ _ 243 0 [(0, .ref r0), (1, vI a1)] [] _ H _
  refine wp_of e243 c243_0 (rw_iload_n (pc' := 1) (z := a1) rfl rfl ?_)
  refine wp_of e243 c243_1 (rw_istore_n (pc' := 2) (z := a1) (L' := [(2, vI a1), (0, .ref r0), (1, vI a1)]) rfl rfl rfl ?_)
  refine wp_of e243 c243_2 (rw_aload_n (pc' := 3) (v := .ref r0) rfl rfl rfl ?_)
  refine wp_of e243 c243_3 (xg_K (pc' := 6) lf_9_337 hW g0 sh_42 (by decide) (by decide) rfl qpp rfl ?_)
  refine wp_of e243 c243_6 (xg_I (pc' := 9) lf_9_188 hW gpp sh_54 (by decide) (by decide) ty_54_3 rfl rfl (fun b135086 b135087 => ?_))
  refine wp_of e243 c243_9 (rw_iconst (pc' := 10) rfl ?_)
  refine wp_of e243 c243_10 (rw_isub (pc' := 11) rfl ?_)
  refine wp_of e243 c243_11 (rw_istore_n (pc' := 12) (z := (H pp 3) - 1) (L' := [(3, vI ((H pp 3) - 1)), (2, vI a1), (0, .ref r0), (1, vI a1)]) rfl rfl rfl ?_)
  have lp135132 : ∀ (n135133 : Nat) (v135135 : Int) (v135136 : Int) (H135137 : wq_H), WT T H135137 → wfr [(51, 999)] T H H135137 → ((-1) ≤ v135135 ∧ v135135 ≤ 5) → (0 ≤ v135136 ∧ v135136 ≤ 2147483647) → (v135135 ≤ H135137 pp 3 - 1) → (v135135 - (-1)).toNat = n135133 → wp kt 0 243 12 [(3, vI v135135), (2, vI v135136), (0, .ref r0)] [] T H135137 (q_243 r0 a1 pp T H) := by
    intro n135133
    induction n135133 using Nat.strongRecOn with
    | _ n135133 ih135134 =>
      intro v135135 v135136 H135137 w135138 f135139 b135140 b135141 x135142 m135143
      have f135144 := f0.tr f135139 rfl
      have k135145 : H135137 pp 3 = H pp 3 := (f135139 pp 3 _ gpp rfl)
      have k135146 : wLM H135137 r0 = wLM H r0 := (wLM_fr hW g0 f135139 rfl)
      obtain ⟨r135147, q135148, g135149⟩ := w135138.ref g0 (t' := 45) (n := 33) (j := 21) (p := 0) (q := 0) rfl (by decide) rfl
      have k135150 : H135137 r0 3 = H r0 3 := (f135139 r0 3 _ g0 rfl)
      have q135151 : H135137 r0 3 = (pp : Int) := k135150.trans qpp
      have hx : 0 ≤ v135135 → 0 < H135137 r135147 (v135135).toNat := fun q => wLM_sp w135138 gpp g135149 q135151 q135148 (by omega) (by omega)
      refine wp_of e243 c243_12 (rw_iload_n (pc' := 13) (z := v135135) rfl rfl ?_)
      refine wp_of e243 c243_13 (rw_if_lt (p1 := 45) (p2 := 16) (by decide) rfl ⟨by omega, by omega⟩ (fun c135152 => ?_) (fun c135152 => ?_))
      · exact wp_return e243 c243_45 rfl ⟨rfl, w135138, f135144, rfl⟩
      · refine wp_of e243 c243_16 (rw_aload_n (pc' := 17) (v := .ref r0) rfl rfl rfl ?_)
        refine wp_of e243 c243_17 (xg_R (pc' := 20) lf_9_39 w135138 g0 sh_42 (by decide) (by decide) ty_42_27 rfl rfl (fun r135153 q135154 g135155 => ?_))
        refine wp_of e243 c243_20 (rw_iload_n (pc' := 21) (z := v135135) rfl rfl ?_)
        refine wp_of e243 c243_21 (rw_iload_n (pc' := 22) (z := v135136) rfl rfl ?_)
        refine wp_of e243 c243_22 (rw_aload_n (pc' := 23) (v := .ref r0) rfl rfl rfl ?_)
        refine wp_of e243 c243_23 (xg_K (pc' := 26) lf_9_21 w135138 g0 sh_42 (by decide) (by decide) rfl q135148 rfl ?_)
        refine wp_of e243 c243_26 (rw_iload_n (pc' := 27) (z := v135135) rfl rfl ?_)
        refine wp_of e243 c243_27 (xa_I (so := 0) (pc' := 28) w135138 g135149 sh_45 (by decide) (ty_45 _) (by omega) (by omega) rfl (fun b135156 b135157 => ?_))
        refine wp_of e243 c243_28 (rw_irem (pc' := 29) rfl ⟨by omega, by omega⟩ (by omega) ?_)
        obtain ⟨v135158, e135159⟩ : ∃ x : Int, x = wq_rem v135136 (H135137 r135147 (v135135.toNat)) := ⟨_, rfl⟩
        rw [← e135159]
        have b135160 : 0 ≤ v135158 ∧ v135158 < (H135137 r135147 (v135135.toNat)) := by
          rw [e135159]
          rw [wq_rem_e ⟨by omega, by omega⟩ ⟨by omega, by omega⟩]; exact ⟨Int.emod_nonneg _ (by omega), Int.emod_lt_of_pos _ (by omega)⟩
        refine wp_of e243 c243_29 (xs_I (pc' := 30) w135138 g135155 (by decide) sh_51 (by decide) (ty_51 _) (by omega) (by omega) ⟨by omega, by omega⟩ (by omega) (by omega) rfl (fun H135161 e135162 w135163 => ?_))
        have f135164 := f135144.put' e135162 g135155 rfl
        have f135165 := f135139.put' e135162 g135155 rfl
        refine wp_of e243 c243_30 (rw_iload_n (pc' := 31) (z := v135136) rfl rfl ?_)
        refine wp_of e243 c243_31 (rw_aload_n (pc' := 32) (v := .ref r0) rfl rfl rfl ?_)
        have k135166 : H135161 r0 21 = H135137 r0 21 := (wq_u_t e135162 g135155 g0 rfl 21)
        have q135167 : H135161 r0 21 = (r135147 : Int) := k135166.trans q135148
        refine wp_of e243 c243_32 (xg_K (pc' := 35) lf_9_21 w135163 g0 sh_42 (by decide) (by decide) rfl q135167 rfl ?_)
        refine wp_of e243 c243_35 (rw_iload_n (pc' := 36) (z := v135135) rfl rfl ?_)
        have k135168 : H135161 r135147 (v135135.toNat) = H135137 r135147 (v135135.toNat) := (wq_u_t e135162 g135155 g135149 rfl (v135135.toNat))
        refine wp_of e243 c243_36 (xa_I (so := 0) (pc' := 37) w135163 g135149 sh_45 (by decide) (ty_45 _) (by omega) (by omega) rfl (fun b135169 b135170 => ?_))
        refine wp_of e243 c243_37 (rw_idiv (pc' := 38) rfl ⟨by omega, by omega⟩ (by omega) ?_)
        obtain ⟨v135171, e135172⟩ : ∃ x : Int, x = wq_div v135136 (H135161 r135147 (v135135.toNat)) := ⟨_, rfl⟩
        rw [← e135172]
        have b135173 : 0 ≤ v135171 ∧ v135171 ≤ v135136 := by
          rw [e135172]
          rw [wq_div_e ⟨by omega, by omega⟩ ⟨by omega, by omega⟩]; exact ⟨Int.ediv_nonneg (by omega) (by omega), Int.ediv_le_self _ (by omega)⟩
        refine wp_of e243 c243_38 (rw_istore_n (pc' := 39) (z := v135171) (L' := [(2, vI v135171), (3, vI v135135), (0, .ref r0)]) rfl rfl rfl ?_)
        refine wp_of e243 c243_39 (rw_iinc (pc' := 42) (z := v135135) (L' := [(3, vI (v135135 + (-1))), (2, vI v135171), (0, .ref r0)]) rfl rfl rfl rfl ?_)
        refine wp_of e243 c243_42 (rw_goto (p1 := 12) (by decide) ?_)
        have k135174 : H135161 pp 3 = H135137 pp 3 := (wq_u_t e135162 g135155 gpp rfl 3)
        have k135175 : wLM H135161 r0 = wLM H135137 r0 := (wLM_fr w135138 g0 ((wfr.rf (l := [(51, 999)])).put' e135162 g135155 rfl) rfl)
        exact wp_lc (ks := [3, 2, 0]) (wl_c rfl (wl_c rfl (wl_c rfl wl_n))) rfl (by decide) (ih135134 _ (by omega) (v135135 + (-1)) v135171 H135161 w135163 f135165 ⟨by omega, by omega⟩ ⟨by omega, by omega⟩ (by omega) rfl)
  exact wp_lc (ks := [3, 2, 0, 1]) (wl_c rfl (wl_c rfl (wl_c rfl wl_n))) rfl (by decide) (lp135132 _ ((H pp 3) - 1) a1 H hW wfr.rf ⟨by omega, by omega⟩ ⟨by omega, by omega⟩ (by omega) rfl)
/-! StrikeAwakeModel.knows()V -/
theorem e242 : wq_en 242 = some (9, 2, false, none) := rfl
theorem c242_0 : mc_cd 242 0 = some (.aload_n 0, 1) := by decide +kernel
theorem c242_1 : mc_cd 242 1 = some (.getfield 353, 3) := by decide +kernel
theorem c242_4 : mc_cd 242 4 = some (.ifCond .eq 4, 3) := by decide +kernel
theorem c242_7 : mc_cd 242 7 = some (.return_, 1) := by decide +kernel
theorem c242_8 : mc_cd 242 8 = some (.aload_n 0, 1) := by decide +kernel
theorem c242_9 : mc_cd 242 9 = some (.iconst 0, 1) := by decide +kernel
theorem c242_10 : mc_cd 242 10 = some (.putfield 422, 3) := by decide +kernel
theorem c242_13 : mc_cd 242 13 = some (.iconst 0, 1) := by decide +kernel
theorem c242_14 : mc_cd 242 14 = some (.istore_n 1, 1) := by decide +kernel
theorem c242_15 : mc_cd 242 15 = some (.iload_n 1, 1) := by decide +kernel
theorem c242_16 : mc_cd 242 16 = some (.i2l, 1) := by decide +kernel
theorem c242_17 : mc_cd 242 17 = some (.aload_n 0, 1) := by decide +kernel
theorem c242_18 : mc_cd 242 18 = some (.invokevirtual 376, 3) := by decide +kernel
theorem c242_21 : mc_cd 242 21 = some (.lcmp, 1) := by decide +kernel
theorem c242_22 : mc_cd 242 22 = some (.ifCond .ge 48, 3) := by decide +kernel
theorem c242_25 : mc_cd 242 25 = some (.aload_n 0, 1) := by decide +kernel
theorem c242_26 : mc_cd 242 26 = some (.iload_n 1, 1) := by decide +kernel
theorem c242_27 : mc_cd 242 27 = some (.invokevirtual 425, 3) := by decide +kernel
theorem c242_30 : mc_cd 242 30 = some (.aload_n 0, 1) := by decide +kernel
theorem c242_31 : mc_cd 242 31 = some (.aload_n 0, 1) := by decide +kernel
theorem c242_32 : mc_cd 242 32 = some (.getfield 39, 3) := by decide +kernel
theorem c242_35 : mc_cd 242 35 = some (.invokevirtual 418, 3) := by decide +kernel
theorem c242_38 : mc_cd 242 38 = some (.ifCond .ne 6, 3) := by decide +kernel
theorem c242_41 : mc_cd 242 41 = some (.goto 23, 3) := by decide +kernel
theorem c242_44 : mc_cd 242 44 = some (.aload_n 0, 1) := by decide +kernel
theorem c242_45 : mc_cd 242 45 = some (.getfield 42, 3) := by decide +kernel
theorem c242_48 : mc_cd 242 48 = some (.aload_n 0, 1) := by decide +kernel
theorem c242_49 : mc_cd 242 49 = some (.getfield 422, 3) := by decide +kernel
theorem c242_52 : mc_cd 242 52 = some (.iload_n 1, 1) := by decide +kernel
theorem c242_53 : mc_cd 242 53 = some (.iastore, 1) := by decide +kernel
theorem c242_54 : mc_cd 242 54 = some (.aload_n 0, 1) := by decide +kernel
theorem c242_55 : mc_cd 242 55 = some (.dup, 1) := by decide +kernel
theorem c242_56 : mc_cd 242 56 = some (.getfield 422, 3) := by decide +kernel
theorem c242_59 : mc_cd 242 59 = some (.iconst 1, 1) := by decide +kernel
theorem c242_60 : mc_cd 242 60 = some (.iadd, 1) := by decide +kernel
theorem c242_61 : mc_cd 242 61 = some (.putfield 422, 3) := by decide +kernel
theorem c242_64 : mc_cd 242 64 = some (.iinc 1 1, 3) := by decide +kernel
theorem c242_67 : mc_cd 242 67 = some (.goto (-52), 3) := by decide +kernel
theorem c242_70 : mc_cd 242 70 = some (.aload_n 0, 1) := by decide +kernel
theorem c242_71 : mc_cd 242 71 = some (.iconst 1, 1) := by decide +kernel
theorem c242_72 : mc_cd 242 72 = some (.putfield 353, 3) := by decide +kernel
theorem c242_75 : mc_cd 242 75 = some (.return_, 1) := by decide +kernel
abbrev q_242 (r0 : Nat) (pp : Nat) (T : wq_T) (H : wq_H) : Option Value → wq_T → wq_H → Prop := fun r T' H' => T = T' ∧ WT T H' ∧ wfr [(42, 28), (42, 29), (51, 999), (52, 999)] T H H' ∧ none = r ∧ (wKI H' r0 = 1) ∧ (H' r0 29 = 0 ∨ 0 < wLM H' r0) ∧ (wLM H' r0 = wLM H r0)
set_option maxHeartbeats 4000000 in
theorem s_242 {kt : Nat → Option mc_E} {T : wq_T} {H : wq_H} {r0 : Nat} {pp : Nat} (hW : WT T H) (g0 : T.2.2.2 r0 = some 42) (qpp : H r0 3 = (pp : Int)) (gpp : T.2.2.2 pp = some 54) (p0 : wKI H r0 = 1) (p1 : wLM H r0 ≤ 20000) : wpc kt 6 242 [.ref r0] T H (q_242 r0 pp T H) := by
  refine wp_enter e242 (Nat.le_of_ble_eq_true rfl) rfl ?_
  have f0 : wfr [(42, 28), (42, 29), (51, 999), (52, 999)] T H H := wfr.rf
  show wp _ _ 242 0 [(0, .ref r0)] [] _ H _
  have b135697 : 0 ≤ H r0 29 ∧ H r0 29 ≤ 20000 := hW.box g0 (n := 33) rfl (by decide) rfl
  have hk := wKI_1.mp p0
  refine wp_of e242 c242_0 (rw_aload_n (pc' := 1) (v := .ref r0) rfl rfl rfl ?_)
  refine wp_of e242 c242_1 (xg_I (pc' := 4) lf_9_353 hW g0 sh_42 (by decide) (by decide) ty_42_28 rfl rfl (fun b135698 b135699 => ?_))
  refine wp_of e242 c242_4 (rw_if_eq (p1 := 8) (p2 := 7) (by decide) rfl ⟨by omega, by omega⟩ (fun c135700 => ?_) (fun c135700 => ?_))
  · refine wp_of e242 c242_8 (rw_aload_n (pc' := 9) (v := .ref r0) rfl rfl rfl ?_)
    refine wp_of e242 c242_9 (rw_iconst (pc' := 10) rfl ?_)
    refine wp_of e242 c242_10 (xp_I (pc' := 13) lf_9_422 hW g0 sh_42 (by decide) (by decide) ty_42_29 rfl rfl (by omega) (by omega) ⟨by omega, by omega⟩ rfl (fun H135701 e135702 w135703 => ?_))
    have f135704 := f0.put' e135702 g0 rfl
    have k135705 : H135701 r0 29 = 0 := wq_u_s e135702
    refine wp_of e242 c242_13 (rw_iconst (pc' := 14) rfl ?_)
    refine wp_of e242 c242_14 (rw_istore_n (pc' := 15) (z := 0) (L' := [(1, vI 0), (0, .ref r0)]) rfl rfl rfl ?_)
    have k136160 : wLM H135701 r0 = wLM H r0 := (wLM_fr hW g0 ((wfr.rf (l := [(42, 29)])).put' e135702 g0 rfl) rfl)
    have lp136155 : ∀ (n136156 : Nat) (v136158 : Int) (H136159 : wq_H), WT T H136159 → wfr [(42, 29), (51, 999), (52, 999)] T H135701 H136159 → (0 ≤ v136158 ∧ v136158 ≤ 20000) → (H136159 r0 29 ≤ v136158) → (H136159 r0 29 = 0 ∨ 0 < wLM H136159 r0) → (20000 - v136158).toNat = n136156 → wp kt 5 242 15 [(1, vI v136158), (0, .ref r0)] [] T H136159 (q_242 r0 pp T H) := by
      intro n136156
      induction n136156 using Nat.strongRecOn with
      | _ n136156 ih136157 =>
        intro v136158 H136159 w136161 f136162 b136163 x136164 x136165 m136166
        have f136167 := f135704.tr f136162 rfl
        have k136168 : wLM H136159 r0 = wLM H135701 r0 := (wLM_fr w135703 g0 f136162 rfl)
        refine wp_of e242 c242_15 (rw_iload_n (pc' := 16) (z := v136158) rfl rfl ?_)
        refine wp_of e242 c242_16 (rw_i2l (pc' := 17) rfl ⟨by omega, by omega⟩ ?_)
        refine wp_of e242 c242_17 (rw_aload_n (pc' := 18) (v := .ref r0) rfl rfl rfl ?_)
        have k136169 : H136159 r0 3 = H r0 3 := ((f136162 r0 3 _ g0 rfl).trans (wq_u_j e135702 rfl))
        have q136170 : H136159 r0 3 = (pp : Int) := k136169.trans qpp
        refine wp_of e242 c242_18 (xc_V (pc' := 21) (r := r0) (as := []) (st := [vL v136158]) (lm_9_376) rfl rfl (Nat.le_of_ble_eq_true rfl) w136161 g0 sh_42 (by decide) rfl (by decide) (s_220 w136161 g0 q136170 gpp) (fun R136171 T136172 H136173 p136174 => ?_))
        obtain ⟨e136175, e136177, z136179, e136176, b136180, p136178⟩ := p136174
        subst e136175
        subst e136176
        subst e136177
        show wp _ _ 242 21 [(1, vI v136158), (0, .ref r0)] [vL z136179, vL v136158] _ H136159 _
        refine wp_of e242 c242_21 (rw_lcmp (pc' := 22) rfl ⟨by omega, by omega⟩ ⟨by omega, by omega⟩ ?_)
        have b136181 := wq_cmp_b v136158 z136179
        refine wp_of e242 c242_22 (rw_if_ge (p1 := 70) (p2 := 25) (by decide) rfl ⟨by omega, by omega⟩ (fun c136182 => ?_) (fun c136182 => ?_))
        · refine wp_of e242 c242_70 (rw_aload_n (pc' := 71) (v := .ref r0) rfl rfl rfl ?_)
          refine wp_of e242 c242_71 (rw_iconst (pc' := 72) rfl ?_)
          refine wp_of e242 c242_72 (xp_Z (pc' := 75) lf_9_353 w136161 g0 sh_42 (by decide) (by decide) ty_42_28 rfl rfl (by omega) (by omega) rfl (fun H136183 e136184 w136185 => ?_))
          have f136186 := f136167.put' e136184 g0 rfl
          have k136187 : H136183 r0 28 = 1 := wq_u_s e136184
          have k136188 : H136183 r0 29 = H136159 r0 29 := (wq_u_j e136184 rfl)
          have k136189 : wLM H136183 r0 = wLM H136159 r0 := (wLM_fr w136161 g0 ((wfr.rf (l := [(42, 28)])).put' e136184 g0 rfl) rfl)
          have k136190 : wKI H136183 r0 = 1 := wKI_1.mpr (by omega)
          exact wp_return e242 c242_75 rfl ⟨rfl, w136185, f136186, rfl, by omega, by omega, by omega⟩
        · refine wp_of e242 c242_25 (rw_aload_n (pc' := 26) (v := .ref r0) rfl rfl rfl ?_)
          refine wp_of e242 c242_26 (rw_iload_n (pc' := 27) (z := v136158) rfl rfl ?_)
          refine wp_of e242 c242_27 (xc_V (pc' := 30) (r := r0) (as := [vI v136158]) (st := []) (lm_9_425) rfl rfl (Nat.le_of_ble_eq_true rfl) w136161 g0 sh_42 (by decide) rfl (by decide) (s_243 w136161 g0 ⟨by omega, by omega⟩ q136170 gpp (by omega)) (fun R136191 T136192 H136193 p136194 => ?_))
          obtain ⟨e136195, w136197, f136198, e136196⟩ := p136194
          subst e136195
          subst e136196
          have f136199 := f136167.tr f136198 rfl
          have f136200 := f136162.tr f136198 rfl
          show wp _ _ 242 30 [(1, vI v136158), (0, .ref r0)] [] _ H136193 _
          refine wp_of e242 c242_30 (rw_aload_n (pc' := 31) (v := .ref r0) rfl rfl rfl ?_)
          refine wp_of e242 c242_31 (rw_aload_n (pc' := 32) (v := .ref r0) rfl rfl rfl ?_)
          refine wp_of e242 c242_32 (xg_R (pc' := 35) lf_9_39 w136197 g0 sh_42 (by decide) (by decide) ty_42_27 rfl rfl (fun r136201 q136202 g136203 => ?_))
          have k136204 : H136193 r0 3 = H136159 r0 3 := (f136198 r0 3 _ g0 rfl)
          have q136205 : H136193 r0 3 = (pp : Int) := k136204.trans q136170
          refine wp_of e242 c242_35 (xc_V (pc' := 38) (r := r0) (as := [.ref r136201]) (st := []) (lm_9_418) rfl rfl (Nat.le_of_ble_eq_true rfl) w136197 g0 sh_42 (by decide) rfl (by decide) (s_238_m_lot w136197 g0 g136203 q136205 gpp) (fun R136206 T136207 H136208 p136209 => ?_))
          obtain ⟨e136210, e136212, z136213, e136211, b136214⟩ := p136209
          subst e136210
          subst e136211
          subst e136212
          show wp _ _ 242 38 [(1, vI v136158), (0, .ref r0)] [vI z136213] _ H136193 _
          refine wp_of e242 c242_38 (rw_if_ne (p1 := 44) (p2 := 41) (by decide) rfl ⟨by omega, by omega⟩ (fun c136215 => ?_) (fun c136215 => ?_))
          · refine wp_of e242 c242_44 (rw_aload_n (pc' := 45) (v := .ref r0) rfl rfl rfl ?_)
            refine wp_of e242 c242_45 (xg_R (pc' := 48) lf_9_42 w136197 g0 sh_42 (by decide) (by decide) ty_42_30 rfl rfl (fun r136216 q136217 g136218 => ?_))
            refine wp_of e242 c242_48 (rw_aload_n (pc' := 49) (v := .ref r0) rfl rfl rfl ?_)
            have k136219 : H136193 r0 29 = H136159 r0 29 := (f136198 r0 29 _ g0 rfl)
            refine wp_of e242 c242_49 (xg_I (pc' := 52) lf_9_422 w136197 g0 sh_42 (by decide) (by decide) ty_42_29 rfl rfl (fun b136220 b136221 => ?_))
            refine wp_of e242 c242_52 (rw_iload_n (pc' := 53) (z := v136158) rfl rfl ?_)
            refine wp_of e242 c242_53 (xs_I (pc' := 54) w136197 g136218 (by decide) sh_52 (by decide) (ty_52 _) (by omega) (by omega) ⟨by omega, by omega⟩ (by omega) (by omega) rfl (fun H136222 e136223 w136224 => ?_))
            have f136225 := f136199.put' e136223 g136218 rfl
            have f136226 := f136200.put' e136223 g136218 rfl
            refine wp_of e242 c242_54 (rw_aload_n (pc' := 55) (v := .ref r0) rfl rfl rfl ?_)
            refine wp_of e242 c242_55 (rw_dup (pc' := 56) rfl rfl ?_)
            have k136227 : H136222 r0 29 = H136193 r0 29 := (wq_u_t e136223 g136218 g0 rfl 29)
            refine wp_of e242 c242_56 (xg_I (pc' := 59) lf_9_422 w136224 g0 sh_42 (by decide) (by decide) ty_42_29 rfl rfl (fun b136228 b136229 => ?_))
            refine wp_of e242 c242_59 (rw_iconst (pc' := 60) rfl ?_)
            refine wp_of e242 c242_60 (rw_iadd (pc' := 61) rfl ?_)
            refine wp_of e242 c242_61 (xp_I (pc' := 64) lf_9_422 w136224 g0 sh_42 (by decide) (by decide) ty_42_29 rfl rfl (by omega) (by omega) ⟨by omega, by omega⟩ rfl (fun H136230 e136231 w136232 => ?_))
            have f136233 := f136225.put' e136231 g0 rfl
            have f136234 := f136226.put' e136231 g0 rfl
            have k136235 : H136230 r0 29 = (H136222 r0 29) + 1 := wq_u_s e136231
            refine wp_of e242 c242_64 (rw_iinc (pc' := 67) (z := v136158) (L' := [(1, vI (v136158 + 1)), (0, .ref r0)]) rfl rfl rfl rfl ?_)
            refine wp_of e242 c242_67 (rw_goto (p1 := 15) (by decide) ?_)
            have k136236 : wLM H136230 r0 = wLM H136159 r0 := ((wLM_fr w136224 g0 ((wfr.rf (l := [(42, 29)])).put' e136231 g0 rfl) rfl).trans ((wLM_fr w136197 g0 ((wfr.rf (l := [(52, 999)])).put' e136223 g136218 rfl) rfl).trans (wLM_fr w136161 g0 f136198 rfl)))
            exact wp_lc (ks := [1, 0]) (wl_c rfl (wl_c rfl wl_n)) rfl (by decide) (ih136157 _ (by omega) (v136158 + 1) H136230 w136232 f136234 ⟨by omega, by omega⟩ (by omega) (by omega) rfl)
          · refine wp_of e242 c242_41 (rw_goto (p1 := 64) (by decide) ?_)
            refine wp_of e242 c242_64 (rw_iinc (pc' := 67) (z := v136158) (L' := [(1, vI (v136158 + 1)), (0, .ref r0)]) rfl rfl rfl rfl ?_)
            refine wp_of e242 c242_67 (rw_goto (p1 := 15) (by decide) ?_)
            have k136237 : H136193 r0 29 = H136159 r0 29 := (f136198 r0 29 _ g0 rfl)
            have k136238 : wLM H136193 r0 = wLM H136159 r0 := (wLM_fr w136161 g0 f136198 rfl)
            exact wp_lc (ks := [1, 0]) (wl_c rfl (wl_c rfl wl_n)) rfl (by decide) (ih136157 _ (by omega) (v136158 + 1) H136193 w136197 f136200 ⟨by omega, by omega⟩ (by omega) (by omega) rfl)
    exact wp_lc (ks := [1, 0]) (wl_c rfl (wl_c rfl wl_n)) rfl (by decide) (lp136155 _ 0 H135701 w135703 wfr.rf ⟨by omega, by omega⟩ (by omega) (by omega) rfl)
  · exact wp_return e242 c242_7 rfl ⟨rfl, hW, f0, rfl, by omega, by omega, by omega⟩
/-! StrikeAwakeModel.refusesWorlds(Z)I -/
theorem e241 : wq_en 241 = some (9, 2, false, some FieldType.int) := rfl
theorem c241_0 : mc_cd 241 0 = some (.iload_n 1, 1) := by decide +kernel
theorem c241_1 : mc_cd 241 1 = some (.ifCond .ne 5, 3) := by decide +kernel
theorem c241_4 : mc_cd 241 4 = some (.iconst 1, 1) := by decide +kernel
theorem c241_5 : mc_cd 241 5 = some (.ireturn, 1) := by decide +kernel
theorem c241_6 : mc_cd 241 6 = some (.aload_n 0, 1) := by decide +kernel
theorem c241_7 : mc_cd 241 7 = some (.invokevirtual 376, 3) := by decide +kernel
theorem c241_10 : mc_cd 241 10 = some (.ldc2_w 428, 3) := by decide +kernel
theorem c241_13 : mc_cd 241 13 = some (.lcmp, 1) := by decide +kernel
theorem c241_14 : mc_cd 241 14 = some (.ifCond .le 5, 3) := by decide +kernel
theorem c241_17 : mc_cd 241 17 = some (.iconst 3, 1) := by decide +kernel
theorem c241_18 : mc_cd 241 18 = some (.ireturn, 1) := by decide +kernel
theorem c241_19 : mc_cd 241 19 = some (.aload_n 0, 1) := by decide +kernel
theorem c241_20 : mc_cd 241 20 = some (.invokevirtual 430, 3) := by decide +kernel
theorem c241_23 : mc_cd 241 23 = some (.iconst 0, 1) := by decide +kernel
theorem c241_24 : mc_cd 241 24 = some (.ireturn, 1) := by decide +kernel
abbrev q_241 (r0 : Nat) (a1 : Int) (T : wq_T) (H : wq_H) : Option Value → wq_T → wq_H → Prop := fun r T' H' => T = T' ∧ WT T H' ∧ wfr [(42, 28), (42, 29), (51, 999), (52, 999)] T H H' ∧ ∃ z : Int, some (vI z) = r ∧ (0 ≤ z ∧ z ≤ 6) ∧ (z ≠ 0 ∨ a1 = 1) ∧ (z ≠ 0 ∨ wLM H' r0 ≤ 20000) ∧ (wKI H' r0 = 1) ∧ (z ≠ 0 ∨ H' r0 29 = 0 ∨ 0 < wLM H' r0)
set_option maxHeartbeats 4000000 in
theorem s_241 {kt : Nat → Option mc_E} {T : wq_T} {H : wq_H} {r0 : Nat} {a1 : Int} (hW : WT T H) (g0 : T.2.2.2 r0 = some 42) (i1 : 0 ≤ a1 ∧ a1 ≤ 1) (p0 : a1 = 0 ∨ H r0 3 ≠ -1) (p1 : wKI H r0 = 1) : wpc kt 7 241 [.ref r0, vI a1] T H (q_241 r0 a1 T H) := by
  refine wp_enter e241 (Nat.le_of_ble_eq_true rfl) rfl ?_
  have f0 : wfr [(42, 28), (42, 29), (51, 999), (52, 999)] T H H := wfr.rf
  show wp _ _ 241 0 [(0, .ref r0), (1, vI a1)] [] _ H _
  refine wp_of e241 c241_0 (rw_iload_n (pc' := 1) (z := a1) rfl rfl ?_)
  refine wp_of e241 c241_1 (rw_if_ne (p1 := 6) (p2 := 4) (by decide) rfl ⟨by omega, by omega⟩ (fun c136267 => ?_) (fun c136267 => ?_))
  · refine wp_of e241 c241_6 (rw_aload_n (pc' := 7) (v := .ref r0) rfl rfl rfl ?_)
    obtain ⟨r136268, q136269, g136270⟩ := (hW.opt g0 (t' := 54) (n := 33) (j := 3) (p := 0) (q := 0) rfl (by decide) rfl).resolve_left (by omega)
    refine wp_of e241 c241_7 (xc_V (pc' := 10) (r := r0) (as := []) (st := []) (lm_9_376) rfl rfl (Nat.le_of_ble_eq_true rfl) hW g0 sh_42 (by decide) rfl (by decide) (s_220 hW g0 q136269 g136270) (fun R136271 T136272 H136273 p136274 => ?_))
    obtain ⟨e136275, e136277, z136279, e136276, b136280, p136278⟩ := p136274
    subst e136275
    subst e136276
    subst e136277
    show wp _ _ 241 10 [(0, .ref r0), (1, vI a1)] [vL z136279] _ H _
    refine wp_of e241 c241_10 (rw_ldc2 (pc' := 13) (z := 20000) rfl rfl rfl ?_)
    refine wp_of e241 c241_13 (rw_lcmp (pc' := 14) rfl ⟨by omega, by omega⟩ ⟨by omega, by omega⟩ ?_)
    have b136281 := wq_cmp_b z136279 20000
    refine wp_of e241 c241_14 (rw_if_le (p1 := 19) (p2 := 17) (by decide) rfl ⟨by omega, by omega⟩ (fun c136282 => ?_) (fun c136282 => ?_))
    · refine wp_of e241 c241_19 (rw_aload_n (pc' := 20) (v := .ref r0) rfl rfl rfl ?_)
      refine wp_of e241 c241_20 (xc_V (pc' := 23) (r := r0) (as := []) (st := []) (lm_9_430) rfl rfl (Nat.le_of_ble_eq_true rfl) hW g0 sh_42 (by decide) rfl (by decide) (s_242 hW g0 q136269 g136270 (by omega) (by omega)) (fun R136283 T136284 H136285 p136286 => ?_))
      obtain ⟨e136287, w136289, f136290, e136288, p136291, p136292, p136293⟩ := p136286
      subst e136287
      subst e136288
      have f136294 := f0.tr f136290 rfl
      show wp _ _ 241 23 [(0, .ref r0), (1, vI a1)] [] _ H136285 _
      refine wp_of e241 c241_23 (rw_iconst (pc' := 24) rfl ?_)
      exact wp_ireturn e241 c241_24 rfl ⟨rfl, w136289, f136294, 0, rfl, ⟨by omega, by omega⟩, by omega, by omega, by omega, by omega⟩
    · refine wp_of e241 c241_17 (rw_iconst (pc' := 18) rfl ?_)
      exact wp_ireturn e241 c241_18 rfl ⟨rfl, hW, f0, 3, rfl, ⟨by omega, by omega⟩, by omega, by omega, by omega, by omega⟩
  · refine wp_of e241 c241_4 (rw_iconst (pc' := 5) rfl ?_)
    exact wp_ireturn e241 c241_5 rfl ⟨rfl, hW, f0, 1, rfl, ⟨by omega, by omega⟩, by omega, by omega, by omega, by omega⟩
/-! StrikeAwakeModel.worlds()I -/
theorem e240 : wq_en 240 = some (9, 2, false, some FieldType.int) := rfl
theorem c240_0 : mc_cd 240 0 = some (.aload_n 0, 1) := by decide +kernel
theorem c240_1 : mc_cd 240 1 = some (.iconst 0, 1) := by decide +kernel
theorem c240_2 : mc_cd 240 2 = some (.putfield 48, 3) := by decide +kernel
theorem c240_5 : mc_cd 240 5 = some (.aload_n 0, 1) := by decide +kernel
theorem c240_6 : mc_cd 240 6 = some (.aload_n 0, 1) := by decide +kernel
theorem c240_7 : mc_cd 240 7 = some (.getfield 337, 3) := by decide +kernel
theorem c240_10 : mc_cd 240 10 = some (.ifnull 7, 3) := by decide +kernel
theorem c240_13 : mc_cd 240 13 = some (.iconst 1, 1) := by decide +kernel
theorem c240_14 : mc_cd 240 14 = some (.goto 4, 3) := by decide +kernel
theorem c240_17 : mc_cd 240 17 = some (.iconst 0, 1) := by decide +kernel
theorem c240_18 : mc_cd 240 18 = some (.invokevirtual 433, 3) := by decide +kernel
theorem c240_21 : mc_cd 240 21 = some (.istore_n 1, 1) := by decide +kernel
theorem c240_22 : mc_cd 240 22 = some (.iload_n 1, 1) := by decide +kernel
theorem c240_23 : mc_cd 240 23 = some (.ifCond .le 11, 3) := by decide +kernel
theorem c240_26 : mc_cd 240 26 = some (.aload_n 0, 1) := by decide +kernel
theorem c240_27 : mc_cd 240 27 = some (.iload_n 1, 1) := by decide +kernel
theorem c240_28 : mc_cd 240 28 = some (.invokevirtual 54, 3) := by decide +kernel
theorem c240_31 : mc_cd 240 31 = some (.goto 11, 3) := by decide +kernel
theorem c240_34 : mc_cd 240 34 = some (.aload_n 0, 1) := by decide +kernel
theorem c240_35 : mc_cd 240 35 = some (.aload_n 0, 1) := by decide +kernel
theorem c240_36 : mc_cd 240 36 = some (.getfield 422, 3) := by decide +kernel
theorem c240_39 : mc_cd 240 39 = some (.invokevirtual 58, 3) := by decide +kernel
theorem c240_42 : mc_cd 240 42 = some (.ireturn, 1) := by decide +kernel
abbrev q_240 (r0 : Nat) (T : wq_T) (H : wq_H) : Option Value → wq_T → wq_H → Prop := fun r T' H' => T = T' ∧ WT T H' ∧ wfr [(42, 0), (42, 1), (42, 2), (42, 28), (42, 29), (51, 999), (52, 999)] T H H' ∧ ∃ z : Int, some (vI z) = r ∧ ((-2147483648) ≤ z ∧ z ≤ 2147483647) ∧ (wKI H' r0 = 1) ∧ (H' r0 2 = -1)
set_option maxHeartbeats 4000000 in
theorem s_240 {kt : Nat → Option mc_E} {T : wq_T} {H : wq_H} {r0 : Nat} (hW : WT T H) (g0 : T.2.2.2 r0 = some 42) (p0 : wKI H r0 = 1) : wpc kt 8 240 [.ref r0] T H (q_240 r0 T H) := by
  refine wp_enter e240 (Nat.le_of_ble_eq_true rfl) rfl ?_
  have f0 : wfr [(42, 0), (42, 1), (42, 2), (42, 28), (42, 29), (51, 999), (52, 999)] T H H := wfr.rf
  show wp _ _ 240 0 [(0, .ref r0)] [] _ H _
  refine wp_of e240 c240_0 (rw_aload_n (pc' := 1) (v := .ref r0) rfl rfl rfl ?_)
  refine wp_of e240 c240_1 (rw_iconst (pc' := 2) rfl ?_)
  refine wp_of e240 c240_2 (xp_I (pc' := 5) lf_9_48 hW g0 sh_42 (by decide) (by decide) ty_42_0 rfl rfl (by omega) (by omega) ⟨by omega, by omega⟩ rfl (fun H136378 e136379 w136380 => ?_))
  have f136381 := f0.put' e136379 g0 rfl
  have k136382 : H136378 r0 0 = 0 := wq_u_s e136379
  refine wp_of e240 c240_5 (rw_aload_n (pc' := 6) (v := .ref r0) rfl rfl rfl ?_)
  refine wp_of e240 c240_6 (rw_aload_n (pc' := 7) (v := .ref r0) rfl rfl rfl ?_)
  refine wp_of e240 c240_7 (xg_O (pc' := 10) lf_9_337 w136380 g0 sh_42 (by decide) (by decide) ty_42_3 rfl rfl (fun q136384 => ?_) (fun r136383 q136384 g136385 => ?_))
  · refine wp_of e240 c240_10 (rw_ifnull_n (p1 := 17) (p2 := 13) (by decide) rfl ?_)
    refine wp_of e240 c240_17 (rw_iconst (pc' := 18) rfl ?_)
    have k136386 : wKI H136378 r0 = wKI H r0 := (wKI_fr hW g0 ((wfr.rf (l := [(42, 0)])).put' e136379 g0 rfl) rfl)
    refine wp_of e240 c240_18 (xc_V (pc' := 21) (r := r0) (as := [vI 0]) (st := []) (lm_9_433) rfl rfl (Nat.le_of_ble_eq_true rfl) w136380 g0 sh_42 (by decide) rfl (by decide) (s_241 w136380 g0 ⟨by omega, by omega⟩ (by omega) (by omega)) (fun R136387 T136388 H136389 p136390 => ?_))
    obtain ⟨e136391, w136393, f136394, z136399, e136392, b136400, p136395, p136396, p136397, p136398⟩ := p136390
    subst e136391
    subst e136392
    have f136401 := f136381.tr f136394 rfl
    show wp _ _ 240 21 [(0, .ref r0)] [vI z136399] _ H136389 _
    refine wp_of e240 c240_21 (rw_istore_n (pc' := 22) (z := z136399) (L' := [(1, vI z136399), (0, .ref r0)]) rfl rfl rfl ?_)
    refine wp_of e240 c240_22 (rw_iload_n (pc' := 23) (z := z136399) rfl rfl ?_)
    refine wp_of e240 c240_23 (rw_if_le (p1 := 34) (p2 := 26) (by decide) rfl ⟨by omega, by omega⟩ (fun c136402 => ?_) (fun c136402 => ?_))
    · exfalso
      omega
    · refine wp_of e240 c240_26 (rw_aload_n (pc' := 27) (v := .ref r0) rfl rfl rfl ?_)
      refine wp_of e240 c240_27 (rw_iload_n (pc' := 28) (z := z136399) rfl rfl ?_)
      refine wp_of e240 c240_28 (xc_V (pc' := 31) (r := r0) (as := [vI z136399]) (st := []) (lm_9_54) rfl rfl (Nat.le_of_ble_eq_true rfl) w136393 g0 sh_42 (by decide) rfl (by decide) (s_170 w136393 g0 ⟨by omega, by omega⟩) (fun R136403 T136404 H136405 p136406 => ?_))
      obtain ⟨e136407, w136409, f136410, z136412, e136408, b136413, p136411⟩ := p136406
      subst e136407
      subst e136408
      have f136414 := f136401.tr f136410 rfl
      show wp _ _ 240 31 [(1, vI z136399), (0, .ref r0)] [vI z136412] _ H136405 _
      refine wp_of e240 c240_31 (rw_goto (p1 := 42) (by decide) ?_)
      have k136415 : wKI H136405 r0 = wKI H136389 r0 := (wKI_fr w136393 g0 f136410 rfl)
      exact wp_ireturn e240 c240_42 rfl ⟨rfl, w136409, f136414, z136412, rfl, ⟨by omega, by omega⟩, by omega, by omega⟩
  · refine wp_of e240 c240_10 (rw_ifnull_r (p1 := 17) (p2 := 13) (by decide) rfl ?_)
    refine wp_of e240 c240_13 (rw_iconst (pc' := 14) rfl ?_)
    refine wp_of e240 c240_14 (rw_goto (p1 := 18) (by decide) ?_)
    have k136416 : wKI H136378 r0 = wKI H r0 := (wKI_fr hW g0 ((wfr.rf (l := [(42, 0)])).put' e136379 g0 rfl) rfl)
    refine wp_of e240 c240_18 (xc_V (pc' := 21) (r := r0) (as := [vI 1]) (st := []) (lm_9_433) rfl rfl (Nat.le_of_ble_eq_true rfl) w136380 g0 sh_42 (by decide) rfl (by decide) (s_241 w136380 g0 ⟨by omega, by omega⟩ (by omega) (by omega)) (fun R136417 T136418 H136419 p136420 => ?_))
    obtain ⟨e136421, w136423, f136424, z136429, e136422, b136430, p136425, p136426, p136427, p136428⟩ := p136420
    subst e136421
    subst e136422
    have f136431 := f136381.tr f136424 rfl
    show wp _ _ 240 21 [(0, .ref r0)] [vI z136429] _ H136419 _
    refine wp_of e240 c240_21 (rw_istore_n (pc' := 22) (z := z136429) (L' := [(1, vI z136429), (0, .ref r0)]) rfl rfl rfl ?_)
    refine wp_of e240 c240_22 (rw_iload_n (pc' := 23) (z := z136429) rfl rfl ?_)
    refine wp_of e240 c240_23 (rw_if_le (p1 := 34) (p2 := 26) (by decide) rfl ⟨by omega, by omega⟩ (fun c136432 => ?_) (fun c136432 => ?_))
    · refine wp_of e240 c240_34 (rw_aload_n (pc' := 35) (v := .ref r0) rfl rfl rfl ?_)
      refine wp_of e240 c240_35 (rw_aload_n (pc' := 36) (v := .ref r0) rfl rfl rfl ?_)
      refine wp_of e240 c240_36 (xg_I (pc' := 39) lf_9_422 w136423 g0 sh_42 (by decide) (by decide) ty_42_29 rfl rfl (fun b136433 b136434 => ?_))
      refine wp_of e240 c240_39 (xc_V (pc' := 42) (r := r0) (as := [vI (H136419 r0 29)]) (st := []) (lm_9_58) rfl rfl (Nat.le_of_ble_eq_true rfl) w136423 g0 sh_42 (by decide) rfl (by decide) (s_209 w136423 g0 ⟨by omega, by omega⟩) (fun R136435 T136436 H136437 p136438 => ?_))
      obtain ⟨e136439, w136441, f136442, z136444, e136440, b136445, p136443⟩ := p136438
      subst e136439
      subst e136440
      have f136446 := f136431.tr f136442 rfl
      show wp _ _ 240 42 [(1, vI z136429), (0, .ref r0)] [vI z136444] _ H136437 _
      have k136447 : wKI H136437 r0 = wKI H136419 r0 := (wKI_fr w136423 g0 f136442 rfl)
      exact wp_ireturn e240 c240_42 rfl ⟨rfl, w136441, f136446, z136444, rfl, ⟨by omega, by omega⟩, by omega, by omega⟩
    · refine wp_of e240 c240_26 (rw_aload_n (pc' := 27) (v := .ref r0) rfl rfl rfl ?_)
      refine wp_of e240 c240_27 (rw_iload_n (pc' := 28) (z := z136429) rfl rfl ?_)
      refine wp_of e240 c240_28 (xc_V (pc' := 31) (r := r0) (as := [vI z136429]) (st := []) (lm_9_54) rfl rfl (Nat.le_of_ble_eq_true rfl) w136423 g0 sh_42 (by decide) rfl (by decide) (s_170 w136423 g0 ⟨by omega, by omega⟩) (fun R136448 T136449 H136450 p136451 => ?_))
      obtain ⟨e136452, w136454, f136455, z136457, e136453, b136458, p136456⟩ := p136451
      subst e136452
      subst e136453
      have f136459 := f136431.tr f136455 rfl
      show wp _ _ 240 31 [(1, vI z136429), (0, .ref r0)] [vI z136457] _ H136450 _
      refine wp_of e240 c240_31 (rw_goto (p1 := 42) (by decide) ?_)
      have k136460 : wKI H136450 r0 = wKI H136419 r0 := (wKI_fr w136423 g0 f136455 rfl)
      exact wp_ireturn e240 c240_42 rfl ⟨rfl, w136454, f136459, z136457, rfl, ⟨by omega, by omega⟩, by omega, by omega⟩
/-! StrikeAwakeModel.can()I -/
theorem e244 : wq_en 244 = some (9, 2, false, some FieldType.int) := rfl
theorem c244_0 : mc_cd 244 0 = some (.aload_n 0, 1) := by decide +kernel
theorem c244_1 : mc_cd 244 1 = some (.iconst 0, 1) := by decide +kernel
theorem c244_2 : mc_cd 244 2 = some (.putfield 48, 3) := by decide +kernel
theorem c244_5 : mc_cd 244 5 = some (.aload_n 0, 1) := by decide +kernel
theorem c244_6 : mc_cd 244 6 = some (.aload_n 0, 1) := by decide +kernel
theorem c244_7 : mc_cd 244 7 = some (.getfield 337, 3) := by decide +kernel
theorem c244_10 : mc_cd 244 10 = some (.ifnull 7, 3) := by decide +kernel
theorem c244_13 : mc_cd 244 13 = some (.iconst 1, 1) := by decide +kernel
theorem c244_14 : mc_cd 244 14 = some (.goto 4, 3) := by decide +kernel
theorem c244_17 : mc_cd 244 17 = some (.iconst 0, 1) := by decide +kernel
theorem c244_18 : mc_cd 244 18 = some (.invokevirtual 433, 3) := by decide +kernel
theorem c244_21 : mc_cd 244 21 = some (.istore_n 1, 1) := by decide +kernel
theorem c244_22 : mc_cd 244 22 = some (.iload_n 1, 1) := by decide +kernel
theorem c244_23 : mc_cd 244 23 = some (.ifCond .le 11, 3) := by decide +kernel
theorem c244_26 : mc_cd 244 26 = some (.aload_n 0, 1) := by decide +kernel
theorem c244_27 : mc_cd 244 27 = some (.iload_n 1, 1) := by decide +kernel
theorem c244_28 : mc_cd 244 28 = some (.invokevirtual 54, 3) := by decide +kernel
theorem c244_31 : mc_cd 244 31 = some (.goto 19, 3) := by decide +kernel
theorem c244_34 : mc_cd 244 34 = some (.aload_n 0, 1) := by decide +kernel
theorem c244_35 : mc_cd 244 35 = some (.aload_n 0, 1) := by decide +kernel
theorem c244_36 : mc_cd 244 36 = some (.getfield 422, 3) := by decide +kernel
theorem c244_39 : mc_cd 244 39 = some (.ifCond .le 7, 3) := by decide +kernel
theorem c244_42 : mc_cd 244 42 = some (.iconst 1, 1) := by decide +kernel
theorem c244_43 : mc_cd 244 43 = some (.goto 4, 3) := by decide +kernel
theorem c244_46 : mc_cd 244 46 = some (.iconst 0, 1) := by decide +kernel
theorem c244_47 : mc_cd 244 47 = some (.invokevirtual 58, 3) := by decide +kernel
theorem c244_50 : mc_cd 244 50 = some (.ireturn, 1) := by decide +kernel
abbrev q_244 (r0 : Nat) (T : wq_T) (H : wq_H) : Option Value → wq_T → wq_H → Prop := fun r T' H' => T = T' ∧ WT T H' ∧ wfr [(42, 0), (42, 1), (42, 2), (42, 28), (42, 29), (51, 999), (52, 999)] T H H' ∧ ∃ z : Int, some (vI z) = r ∧ ((-2147483648) ≤ z ∧ z ≤ 2147483647) ∧ (wKI H' r0 = 1) ∧ (H' r0 2 = -1)
set_option maxHeartbeats 4000000 in
theorem s_244 {kt : Nat → Option mc_E} {T : wq_T} {H : wq_H} {r0 : Nat} (hW : WT T H) (g0 : T.2.2.2 r0 = some 42) (p0 : wKI H r0 = 1) : wpc kt 8 244 [.ref r0] T H (q_244 r0 T H) := by
  refine wp_enter e244 (Nat.le_of_ble_eq_true rfl) rfl ?_
  have f0 : wfr [(42, 0), (42, 1), (42, 2), (42, 28), (42, 29), (51, 999), (52, 999)] T H H := wfr.rf
  show wp _ _ 244 0 [(0, .ref r0)] [] _ H _
  refine wp_of e244 c244_0 (rw_aload_n (pc' := 1) (v := .ref r0) rfl rfl rfl ?_)
  refine wp_of e244 c244_1 (rw_iconst (pc' := 2) rfl ?_)
  refine wp_of e244 c244_2 (xp_I (pc' := 5) lf_9_48 hW g0 sh_42 (by decide) (by decide) ty_42_0 rfl rfl (by omega) (by omega) ⟨by omega, by omega⟩ rfl (fun H136558 e136559 w136560 => ?_))
  have f136561 := f0.put' e136559 g0 rfl
  have k136562 : H136558 r0 0 = 0 := wq_u_s e136559
  refine wp_of e244 c244_5 (rw_aload_n (pc' := 6) (v := .ref r0) rfl rfl rfl ?_)
  refine wp_of e244 c244_6 (rw_aload_n (pc' := 7) (v := .ref r0) rfl rfl rfl ?_)
  refine wp_of e244 c244_7 (xg_O (pc' := 10) lf_9_337 w136560 g0 sh_42 (by decide) (by decide) ty_42_3 rfl rfl (fun q136564 => ?_) (fun r136563 q136564 g136565 => ?_))
  · refine wp_of e244 c244_10 (rw_ifnull_n (p1 := 17) (p2 := 13) (by decide) rfl ?_)
    refine wp_of e244 c244_17 (rw_iconst (pc' := 18) rfl ?_)
    have k136566 : wKI H136558 r0 = wKI H r0 := (wKI_fr hW g0 ((wfr.rf (l := [(42, 0)])).put' e136559 g0 rfl) rfl)
    refine wp_of e244 c244_18 (xc_V (pc' := 21) (r := r0) (as := [vI 0]) (st := []) (lm_9_433) rfl rfl (Nat.le_of_ble_eq_true rfl) w136560 g0 sh_42 (by decide) rfl (by decide) (s_241 w136560 g0 ⟨by omega, by omega⟩ (by omega) (by omega)) (fun R136567 T136568 H136569 p136570 => ?_))
    obtain ⟨e136571, w136573, f136574, z136579, e136572, b136580, p136575, p136576, p136577, p136578⟩ := p136570
    subst e136571
    subst e136572
    have f136581 := f136561.tr f136574 rfl
    show wp _ _ 244 21 [(0, .ref r0)] [vI z136579] _ H136569 _
    refine wp_of e244 c244_21 (rw_istore_n (pc' := 22) (z := z136579) (L' := [(1, vI z136579), (0, .ref r0)]) rfl rfl rfl ?_)
    refine wp_of e244 c244_22 (rw_iload_n (pc' := 23) (z := z136579) rfl rfl ?_)
    refine wp_of e244 c244_23 (rw_if_le (p1 := 34) (p2 := 26) (by decide) rfl ⟨by omega, by omega⟩ (fun c136582 => ?_) (fun c136582 => ?_))
    · exfalso
      omega
    · refine wp_of e244 c244_26 (rw_aload_n (pc' := 27) (v := .ref r0) rfl rfl rfl ?_)
      refine wp_of e244 c244_27 (rw_iload_n (pc' := 28) (z := z136579) rfl rfl ?_)
      refine wp_of e244 c244_28 (xc_V (pc' := 31) (r := r0) (as := [vI z136579]) (st := []) (lm_9_54) rfl rfl (Nat.le_of_ble_eq_true rfl) w136573 g0 sh_42 (by decide) rfl (by decide) (s_170 w136573 g0 ⟨by omega, by omega⟩) (fun R136583 T136584 H136585 p136586 => ?_))
      obtain ⟨e136587, w136589, f136590, z136592, e136588, b136593, p136591⟩ := p136586
      subst e136587
      subst e136588
      have f136594 := f136581.tr f136590 rfl
      show wp _ _ 244 31 [(1, vI z136579), (0, .ref r0)] [vI z136592] _ H136585 _
      refine wp_of e244 c244_31 (rw_goto (p1 := 50) (by decide) ?_)
      have k136595 : wKI H136585 r0 = wKI H136569 r0 := (wKI_fr w136573 g0 f136590 rfl)
      exact wp_ireturn e244 c244_50 rfl ⟨rfl, w136589, f136594, z136592, rfl, ⟨by omega, by omega⟩, by omega, by omega⟩
  · refine wp_of e244 c244_10 (rw_ifnull_r (p1 := 17) (p2 := 13) (by decide) rfl ?_)
    refine wp_of e244 c244_13 (rw_iconst (pc' := 14) rfl ?_)
    refine wp_of e244 c244_14 (rw_goto (p1 := 18) (by decide) ?_)
    have k136596 : wKI H136558 r0 = wKI H r0 := (wKI_fr hW g0 ((wfr.rf (l := [(42, 0)])).put' e136559 g0 rfl) rfl)
    refine wp_of e244 c244_18 (xc_V (pc' := 21) (r := r0) (as := [vI 1]) (st := []) (lm_9_433) rfl rfl (Nat.le_of_ble_eq_true rfl) w136560 g0 sh_42 (by decide) rfl (by decide) (s_241 w136560 g0 ⟨by omega, by omega⟩ (by omega) (by omega)) (fun R136597 T136598 H136599 p136600 => ?_))
    obtain ⟨e136601, w136603, f136604, z136609, e136602, b136610, p136605, p136606, p136607, p136608⟩ := p136600
    subst e136601
    subst e136602
    have f136611 := f136561.tr f136604 rfl
    show wp _ _ 244 21 [(0, .ref r0)] [vI z136609] _ H136599 _
    refine wp_of e244 c244_21 (rw_istore_n (pc' := 22) (z := z136609) (L' := [(1, vI z136609), (0, .ref r0)]) rfl rfl rfl ?_)
    refine wp_of e244 c244_22 (rw_iload_n (pc' := 23) (z := z136609) rfl rfl ?_)
    refine wp_of e244 c244_23 (rw_if_le (p1 := 34) (p2 := 26) (by decide) rfl ⟨by omega, by omega⟩ (fun c136612 => ?_) (fun c136612 => ?_))
    · refine wp_of e244 c244_34 (rw_aload_n (pc' := 35) (v := .ref r0) rfl rfl rfl ?_)
      refine wp_of e244 c244_35 (rw_aload_n (pc' := 36) (v := .ref r0) rfl rfl rfl ?_)
      refine wp_of e244 c244_36 (xg_I (pc' := 39) lf_9_422 w136603 g0 sh_42 (by decide) (by decide) ty_42_29 rfl rfl (fun b136613 b136614 => ?_))
      refine wp_of e244 c244_39 (rw_if_le (p1 := 46) (p2 := 42) (by decide) rfl ⟨by omega, by omega⟩ (fun c136615 => ?_) (fun c136615 => ?_))
      · refine wp_of e244 c244_46 (rw_iconst (pc' := 47) rfl ?_)
        refine wp_of e244 c244_47 (xc_V (pc' := 50) (r := r0) (as := [vI 0]) (st := []) (lm_9_58) rfl rfl (Nat.le_of_ble_eq_true rfl) w136603 g0 sh_42 (by decide) rfl (by decide) (s_209 w136603 g0 ⟨by omega, by omega⟩) (fun R136616 T136617 H136618 p136619 => ?_))
        obtain ⟨e136620, w136622, f136623, z136625, e136621, b136626, p136624⟩ := p136619
        subst e136620
        subst e136621
        have f136627 := f136611.tr f136623 rfl
        show wp _ _ 244 50 [(1, vI z136609), (0, .ref r0)] [vI z136625] _ H136618 _
        have k136628 : wKI H136618 r0 = wKI H136599 r0 := (wKI_fr w136603 g0 f136623 rfl)
        exact wp_ireturn e244 c244_50 rfl ⟨rfl, w136622, f136627, z136625, rfl, ⟨by omega, by omega⟩, by omega, by omega⟩
      · refine wp_of e244 c244_42 (rw_iconst (pc' := 43) rfl ?_)
        refine wp_of e244 c244_43 (rw_goto (p1 := 47) (by decide) ?_)
        refine wp_of e244 c244_47 (xc_V (pc' := 50) (r := r0) (as := [vI 1]) (st := []) (lm_9_58) rfl rfl (Nat.le_of_ble_eq_true rfl) w136603 g0 sh_42 (by decide) rfl (by decide) (s_209 w136603 g0 ⟨by omega, by omega⟩) (fun R136629 T136630 H136631 p136632 => ?_))
        obtain ⟨e136633, w136635, f136636, z136638, e136634, b136639, p136637⟩ := p136632
        subst e136633
        subst e136634
        have f136640 := f136611.tr f136636 rfl
        show wp _ _ 244 50 [(1, vI z136609), (0, .ref r0)] [vI z136638] _ H136631 _
        have k136641 : wKI H136631 r0 = wKI H136599 r0 := (wKI_fr w136603 g0 f136636 rfl)
        exact wp_ireturn e244 c244_50 rfl ⟨rfl, w136635, f136640, z136638, rfl, ⟨by omega, by omega⟩, by omega, by omega⟩
    · refine wp_of e244 c244_26 (rw_aload_n (pc' := 27) (v := .ref r0) rfl rfl rfl ?_)
      refine wp_of e244 c244_27 (rw_iload_n (pc' := 28) (z := z136609) rfl rfl ?_)
      refine wp_of e244 c244_28 (xc_V (pc' := 31) (r := r0) (as := [vI z136609]) (st := []) (lm_9_54) rfl rfl (Nat.le_of_ble_eq_true rfl) w136603 g0 sh_42 (by decide) rfl (by decide) (s_170 w136603 g0 ⟨by omega, by omega⟩) (fun R136642 T136643 H136644 p136645 => ?_))
      obtain ⟨e136646, w136648, f136649, z136651, e136647, b136652, p136650⟩ := p136645
      subst e136646
      subst e136647
      have f136653 := f136611.tr f136649 rfl
      show wp _ _ 244 31 [(1, vI z136609), (0, .ref r0)] [vI z136651] _ H136644 _
      refine wp_of e244 c244_31 (rw_goto (p1 := 50) (by decide) ?_)
      have k136654 : wKI H136644 r0 = wKI H136599 r0 := (wKI_fr w136603 g0 f136649 rfl)
      exact wp_ireturn e244 c244_50 rfl ⟨rfl, w136648, f136653, z136651, rfl, ⟨by omega, by omega⟩, by omega, by omega⟩
/-! StrikeAwakeModel.world(II)I -/
theorem e245 : wq_en 245 = some (9, 4, false, some FieldType.int) := rfl
theorem c245_0 : mc_cd 245 0 = some (.aload_n 0, 1) := by decide +kernel
theorem c245_1 : mc_cd 245 1 = some (.iconst 0, 1) := by decide +kernel
theorem c245_2 : mc_cd 245 2 = some (.putfield 48, 3) := by decide +kernel
theorem c245_5 : mc_cd 245 5 = some (.aload_n 0, 1) := by decide +kernel
theorem c245_6 : mc_cd 245 6 = some (.aload_n 0, 1) := by decide +kernel
theorem c245_7 : mc_cd 245 7 = some (.iload_n 2, 1) := by decide +kernel
theorem c245_8 : mc_cd 245 8 = some (.invokevirtual 364, 3) := by decide +kernel
theorem c245_11 : mc_cd 245 11 = some (.ifCond .eq 11, 3) := by decide +kernel
theorem c245_14 : mc_cd 245 14 = some (.iload_n 1, 1) := by decide +kernel
theorem c245_15 : mc_cd 245 15 = some (.ifCond .lt 7, 3) := by decide +kernel
theorem c245_18 : mc_cd 245 18 = some (.iconst 1, 1) := by decide +kernel
theorem c245_19 : mc_cd 245 19 = some (.goto 4, 3) := by decide +kernel
theorem c245_22 : mc_cd 245 22 = some (.iconst 0, 1) := by decide +kernel
theorem c245_23 : mc_cd 245 23 = some (.invokevirtual 433, 3) := by decide +kernel
theorem c245_26 : mc_cd 245 26 = some (.istore_n 3, 1) := by decide +kernel
theorem c245_27 : mc_cd 245 27 = some (.iload_n 3, 1) := by decide +kernel
theorem c245_28 : mc_cd 245 28 = some (.ifCond .ne 13, 3) := by decide +kernel
theorem c245_31 : mc_cd 245 31 = some (.iload_n 1, 1) := by decide +kernel
theorem c245_32 : mc_cd 245 32 = some (.aload_n 0, 1) := by decide +kernel
theorem c245_33 : mc_cd 245 33 = some (.getfield 422, 3) := by decide +kernel
theorem c245_36 : mc_cd 245 36 = some (.if_icmp .lt 5, 3) := by decide +kernel
theorem c245_39 : mc_cd 245 39 = some (.iconst 1, 1) := by decide +kernel
theorem c245_40 : mc_cd 245 40 = some (.istore_n 3, 1) := by decide +kernel
theorem c245_41 : mc_cd 245 41 = some (.iload_n 3, 1) := by decide +kernel
theorem c245_42 : mc_cd 245 42 = some (.ifCond .le 9, 3) := by decide +kernel
theorem c245_45 : mc_cd 245 45 = some (.aload_n 0, 1) := by decide +kernel
theorem c245_46 : mc_cd 245 46 = some (.iload_n 3, 1) := by decide +kernel
theorem c245_47 : mc_cd 245 47 = some (.invokevirtual 54, 3) := by decide +kernel
theorem c245_50 : mc_cd 245 50 = some (.ireturn, 1) := by decide +kernel
theorem c245_51 : mc_cd 245 51 = some (.aload_n 0, 1) := by decide +kernel
theorem c245_52 : mc_cd 245 52 = some (.aload_n 0, 1) := by decide +kernel
theorem c245_53 : mc_cd 245 53 = some (.getfield 42, 3) := by decide +kernel
theorem c245_56 : mc_cd 245 56 = some (.iload_n 1, 1) := by decide +kernel
theorem c245_57 : mc_cd 245 57 = some (.iaload, 1) := by decide +kernel
theorem c245_58 : mc_cd 245 58 = some (.invokevirtual 425, 3) := by decide +kernel
theorem c245_61 : mc_cd 245 61 = some (.aload_n 0, 1) := by decide +kernel
theorem c245_62 : mc_cd 245 62 = some (.aload_n 0, 1) := by decide +kernel
theorem c245_63 : mc_cd 245 63 = some (.getfield 39, 3) := by decide +kernel
theorem c245_66 : mc_cd 245 66 = some (.iload_n 2, 1) := by decide +kernel
theorem c245_67 : mc_cd 245 67 = some (.iaload, 1) := by decide +kernel
theorem c245_68 : mc_cd 245 68 = some (.invokevirtual 58, 3) := by decide +kernel
theorem c245_71 : mc_cd 245 71 = some (.ireturn, 1) := by decide +kernel
abbrev q_245 (r0 : Nat) (a1 : Int) (a2 : Int) (T : wq_T) (H : wq_H) : Option Value → wq_T → wq_H → Prop := fun r T' H' => T = T' ∧ WT T H' ∧ wfr [(42, 0), (42, 1), (42, 2), (42, 28), (42, 29), (51, 999), (52, 999)] T H H' ∧ ∃ z : Int, some (vI z) = r ∧ ((-2147483648) ≤ z ∧ z ≤ 2147483647) ∧ (wKI H' r0 = 1) ∧ (H' r0 2 = -1)
set_option maxHeartbeats 4000000 in
theorem s_245 {kt : Nat → Option mc_E} {T : wq_T} {H : wq_H} {r0 : Nat} {a1 : Int} {a2 : Int} (hW : WT T H) (g0 : T.2.2.2 r0 = some 42) (i1 : (-2147483648) ≤ a1 ∧ a1 ≤ 2147483647) (i2 : (-2147483648) ≤ a2 ∧ a2 ≤ 2147483647) (p0 : wKI H r0 = 1) : wpc kt 8 245 [.ref r0, vI a1, vI a2] T H (q_245 r0 a1 a2 T H) := by
  refine wp_enter e245 (Nat.le_of_ble_eq_true rfl) rfl ?_
  have f0 : wfr [(42, 0), (42, 1), (42, 2), (42, 28), (42, 29), (51, 999), (52, 999)] T H H := wfr.rf
  show wp _ _ 245 0 [(0, .ref r0), (1, vI a1), (2, vI a2)] [] _ H _
  refine wp_of e245 c245_0 (rw_aload_n (pc' := 1) (v := .ref r0) rfl rfl rfl ?_)
  refine wp_of e245 c245_1 (rw_iconst (pc' := 2) rfl ?_)
  refine wp_of e245 c245_2 (xp_I (pc' := 5) lf_9_48 hW g0 sh_42 (by decide) (by decide) ty_42_0 rfl rfl (by omega) (by omega) ⟨by omega, by omega⟩ rfl (fun H136819 e136820 w136821 => ?_))
  have f136822 := f0.put' e136820 g0 rfl
  have k136823 : H136819 r0 0 = 0 := wq_u_s e136820
  refine wp_of e245 c245_5 (rw_aload_n (pc' := 6) (v := .ref r0) rfl rfl rfl ?_)
  refine wp_of e245 c245_6 (rw_aload_n (pc' := 7) (v := .ref r0) rfl rfl rfl ?_)
  refine wp_of e245 c245_7 (rw_iload_n (pc' := 8) (z := a2) rfl rfl ?_)
  refine wp_of e245 c245_8 (xc_V (pc' := 11) (r := r0) (as := [vI a2]) (st := [.ref r0]) (lm_9_364) rfl rfl (Nat.le_of_ble_eq_true rfl) w136821 g0 sh_42 (by decide) rfl (by decide) (s_213 w136821 g0 ⟨by omega, by omega⟩) (fun R136824 T136825 H136826 p136827 => ?_))
  obtain ⟨e136828, e136830, z136832, e136829, b136833, p136831⟩ := p136827
  subst e136828
  subst e136829
  subst e136830
  show wp _ _ 245 11 [(0, .ref r0), (1, vI a1), (2, vI a2)] [vI z136832, .ref r0] _ H136819 _
  refine wp_of e245 c245_11 (rw_if_eq (p1 := 22) (p2 := 14) (by decide) rfl ⟨by omega, by omega⟩ (fun c136834 => ?_) (fun c136834 => ?_))
  · refine wp_of e245 c245_22 (rw_iconst (pc' := 23) rfl ?_)
    have k136835 : wKI H136819 r0 = wKI H r0 := (wKI_fr hW g0 ((wfr.rf (l := [(42, 0)])).put' e136820 g0 rfl) rfl)
    refine wp_of e245 c245_23 (xc_V (pc' := 26) (r := r0) (as := [vI 0]) (st := []) (lm_9_433) rfl rfl (Nat.le_of_ble_eq_true rfl) w136821 g0 sh_42 (by decide) rfl (by decide) (s_241 w136821 g0 ⟨by omega, by omega⟩ (by omega) (by omega)) (fun R136836 T136837 H136838 p136839 => ?_))
    obtain ⟨e136840, w136842, f136843, z136848, e136841, b136849, p136844, p136845, p136846, p136847⟩ := p136839
    subst e136840
    subst e136841
    have f136850 := f136822.tr f136843 rfl
    show wp _ _ 245 26 [(0, .ref r0), (1, vI a1), (2, vI a2)] [vI z136848] _ H136838 _
    refine wp_of e245 c245_26 (rw_istore_n (pc' := 27) (z := z136848) (L' := [(3, vI z136848), (0, .ref r0), (1, vI a1), (2, vI a2)]) rfl rfl rfl ?_)
    refine wp_of e245 c245_27 (rw_iload_n (pc' := 28) (z := z136848) rfl rfl ?_)
    refine wp_of e245 c245_28 (rw_if_ne (p1 := 41) (p2 := 31) (by decide) rfl ⟨by omega, by omega⟩ (fun c136851 => ?_) (fun c136851 => ?_))
    · refine wp_of e245 c245_41 (rw_iload_n (pc' := 42) (z := z136848) rfl rfl ?_)
      refine wp_of e245 c245_42 (rw_if_le (p1 := 51) (p2 := 45) (by decide) rfl ⟨by omega, by omega⟩ (fun c136852 => ?_) (fun c136852 => ?_))
      · exfalso
        omega
      · refine wp_of e245 c245_45 (rw_aload_n (pc' := 46) (v := .ref r0) rfl rfl rfl ?_)
        refine wp_of e245 c245_46 (rw_iload_n (pc' := 47) (z := z136848) rfl rfl ?_)
        refine wp_of e245 c245_47 (xc_V (pc' := 50) (r := r0) (as := [vI z136848]) (st := []) (lm_9_54) rfl rfl (Nat.le_of_ble_eq_true rfl) w136842 g0 sh_42 (by decide) rfl (by decide) (s_170 w136842 g0 ⟨by omega, by omega⟩) (fun R136853 T136854 H136855 p136856 => ?_))
        obtain ⟨e136857, w136859, f136860, z136862, e136858, b136863, p136861⟩ := p136856
        subst e136857
        subst e136858
        have f136864 := f136850.tr f136860 rfl
        show wp _ _ 245 50 [(3, vI z136848), (0, .ref r0), (1, vI a1), (2, vI a2)] [vI z136862] _ H136855 _
        have k136865 : wKI H136855 r0 = wKI H136838 r0 := (wKI_fr w136842 g0 f136860 rfl)
        exact wp_ireturn e245 c245_50 rfl ⟨rfl, w136859, f136864, z136862, rfl, ⟨by omega, by omega⟩, by omega, by omega⟩
    · exfalso
      omega
  · refine wp_of e245 c245_14 (rw_iload_n (pc' := 15) (z := a1) rfl rfl ?_)
    refine wp_of e245 c245_15 (rw_if_lt (p1 := 22) (p2 := 18) (by decide) rfl ⟨by omega, by omega⟩ (fun c136866 => ?_) (fun c136866 => ?_))
    · refine wp_of e245 c245_22 (rw_iconst (pc' := 23) rfl ?_)
      have k136867 : wKI H136819 r0 = wKI H r0 := (wKI_fr hW g0 ((wfr.rf (l := [(42, 0)])).put' e136820 g0 rfl) rfl)
      refine wp_of e245 c245_23 (xc_V (pc' := 26) (r := r0) (as := [vI 0]) (st := []) (lm_9_433) rfl rfl (Nat.le_of_ble_eq_true rfl) w136821 g0 sh_42 (by decide) rfl (by decide) (s_241 w136821 g0 ⟨by omega, by omega⟩ (by omega) (by omega)) (fun R136868 T136869 H136870 p136871 => ?_))
      obtain ⟨e136872, w136874, f136875, z136880, e136873, b136881, p136876, p136877, p136878, p136879⟩ := p136871
      subst e136872
      subst e136873
      have f136882 := f136822.tr f136875 rfl
      show wp _ _ 245 26 [(0, .ref r0), (1, vI a1), (2, vI a2)] [vI z136880] _ H136870 _
      refine wp_of e245 c245_26 (rw_istore_n (pc' := 27) (z := z136880) (L' := [(3, vI z136880), (0, .ref r0), (1, vI a1), (2, vI a2)]) rfl rfl rfl ?_)
      refine wp_of e245 c245_27 (rw_iload_n (pc' := 28) (z := z136880) rfl rfl ?_)
      refine wp_of e245 c245_28 (rw_if_ne (p1 := 41) (p2 := 31) (by decide) rfl ⟨by omega, by omega⟩ (fun c136883 => ?_) (fun c136883 => ?_))
      · refine wp_of e245 c245_41 (rw_iload_n (pc' := 42) (z := z136880) rfl rfl ?_)
        refine wp_of e245 c245_42 (rw_if_le (p1 := 51) (p2 := 45) (by decide) rfl ⟨by omega, by omega⟩ (fun c136884 => ?_) (fun c136884 => ?_))
        · exfalso
          omega
        · refine wp_of e245 c245_45 (rw_aload_n (pc' := 46) (v := .ref r0) rfl rfl rfl ?_)
          refine wp_of e245 c245_46 (rw_iload_n (pc' := 47) (z := z136880) rfl rfl ?_)
          refine wp_of e245 c245_47 (xc_V (pc' := 50) (r := r0) (as := [vI z136880]) (st := []) (lm_9_54) rfl rfl (Nat.le_of_ble_eq_true rfl) w136874 g0 sh_42 (by decide) rfl (by decide) (s_170 w136874 g0 ⟨by omega, by omega⟩) (fun R136885 T136886 H136887 p136888 => ?_))
          obtain ⟨e136889, w136891, f136892, z136894, e136890, b136895, p136893⟩ := p136888
          subst e136889
          subst e136890
          have f136896 := f136882.tr f136892 rfl
          show wp _ _ 245 50 [(3, vI z136880), (0, .ref r0), (1, vI a1), (2, vI a2)] [vI z136894] _ H136887 _
          have k136897 : wKI H136887 r0 = wKI H136870 r0 := (wKI_fr w136874 g0 f136892 rfl)
          exact wp_ireturn e245 c245_50 rfl ⟨rfl, w136891, f136896, z136894, rfl, ⟨by omega, by omega⟩, by omega, by omega⟩
      · exfalso
        omega
    · refine wp_of e245 c245_18 (rw_iconst (pc' := 19) rfl ?_)
      refine wp_of e245 c245_19 (rw_goto (p1 := 23) (by decide) ?_)
      have k136898 : wKI H136819 r0 = wKI H r0 := (wKI_fr hW g0 ((wfr.rf (l := [(42, 0)])).put' e136820 g0 rfl) rfl)
      refine wp_of e245 c245_23 (xc_V (pc' := 26) (r := r0) (as := [vI 1]) (st := []) (lm_9_433) rfl rfl (Nat.le_of_ble_eq_true rfl) w136821 g0 sh_42 (by decide) rfl (by decide) (s_241 w136821 g0 ⟨by omega, by omega⟩ (by omega) (by omega)) (fun R136899 T136900 H136901 p136902 => ?_))
      obtain ⟨e136903, w136905, f136906, z136911, e136904, b136912, p136907, p136908, p136909, p136910⟩ := p136902
      subst e136903
      subst e136904
      have f136913 := f136822.tr f136906 rfl
      show wp _ _ 245 26 [(0, .ref r0), (1, vI a1), (2, vI a2)] [vI z136911] _ H136901 _
      refine wp_of e245 c245_26 (rw_istore_n (pc' := 27) (z := z136911) (L' := [(3, vI z136911), (0, .ref r0), (1, vI a1), (2, vI a2)]) rfl rfl rfl ?_)
      refine wp_of e245 c245_27 (rw_iload_n (pc' := 28) (z := z136911) rfl rfl ?_)
      refine wp_of e245 c245_28 (rw_if_ne (p1 := 41) (p2 := 31) (by decide) rfl ⟨by omega, by omega⟩ (fun c136914 => ?_) (fun c136914 => ?_))
      · refine wp_of e245 c245_41 (rw_iload_n (pc' := 42) (z := z136911) rfl rfl ?_)
        refine wp_of e245 c245_42 (rw_if_le (p1 := 51) (p2 := 45) (by decide) rfl ⟨by omega, by omega⟩ (fun c136915 => ?_) (fun c136915 => ?_))
        · exfalso
          omega
        · refine wp_of e245 c245_45 (rw_aload_n (pc' := 46) (v := .ref r0) rfl rfl rfl ?_)
          refine wp_of e245 c245_46 (rw_iload_n (pc' := 47) (z := z136911) rfl rfl ?_)
          refine wp_of e245 c245_47 (xc_V (pc' := 50) (r := r0) (as := [vI z136911]) (st := []) (lm_9_54) rfl rfl (Nat.le_of_ble_eq_true rfl) w136905 g0 sh_42 (by decide) rfl (by decide) (s_170 w136905 g0 ⟨by omega, by omega⟩) (fun R136916 T136917 H136918 p136919 => ?_))
          obtain ⟨e136920, w136922, f136923, z136925, e136921, b136926, p136924⟩ := p136919
          subst e136920
          subst e136921
          have f136927 := f136913.tr f136923 rfl
          show wp _ _ 245 50 [(3, vI z136911), (0, .ref r0), (1, vI a1), (2, vI a2)] [vI z136925] _ H136918 _
          have k136928 : wKI H136918 r0 = wKI H136901 r0 := (wKI_fr w136905 g0 f136923 rfl)
          exact wp_ireturn e245 c245_50 rfl ⟨rfl, w136922, f136927, z136925, rfl, ⟨by omega, by omega⟩, by omega, by omega⟩
      · refine wp_of e245 c245_31 (rw_iload_n (pc' := 32) (z := a1) rfl rfl ?_)
        refine wp_of e245 c245_32 (rw_aload_n (pc' := 33) (v := .ref r0) rfl rfl rfl ?_)
        refine wp_of e245 c245_33 (xg_I (pc' := 36) lf_9_422 w136905 g0 sh_42 (by decide) (by decide) ty_42_29 rfl rfl (fun b136929 b136930 => ?_))
        refine wp_of e245 c245_36 (rw_icmp_lt (p1 := 41) (p2 := 39) (by decide) rfl ⟨by omega, by omega⟩ ⟨by omega, by omega⟩ (fun c136931 => ?_) (fun c136931 => ?_))
        · refine wp_of e245 c245_41 (rw_iload_n (pc' := 42) (z := z136911) rfl rfl ?_)
          refine wp_of e245 c245_42 (rw_if_le (p1 := 51) (p2 := 45) (by decide) rfl ⟨by omega, by omega⟩ (fun c136932 => ?_) (fun c136932 => ?_))
          · refine wp_of e245 c245_51 (rw_aload_n (pc' := 52) (v := .ref r0) rfl rfl rfl ?_)
            refine wp_of e245 c245_52 (rw_aload_n (pc' := 53) (v := .ref r0) rfl rfl rfl ?_)
            refine wp_of e245 c245_53 (xg_R (pc' := 56) lf_9_42 w136905 g0 sh_42 (by decide) (by decide) ty_42_30 rfl rfl (fun r136933 q136934 g136935 => ?_))
            refine wp_of e245 c245_56 (rw_iload_n (pc' := 57) (z := a1) rfl rfl ?_)
            refine wp_of e245 c245_57 (xa_I (so := 0) (pc' := 58) w136905 g136935 sh_52 (by decide) (ty_52 _) (by omega) (by omega) rfl (fun b136936 b136937 => ?_))
            have k136938 : H136901 r0 3 = H136819 r0 3 := (f136906 r0 3 _ g0 rfl)
            obtain ⟨r136939, q136940, g136941⟩ := (w136905.opt g0 (t' := 54) (n := 33) (j := 3) (p := 0) (q := 0) rfl (by decide) rfl).resolve_left (by omega)
            refine wp_of e245 c245_58 (xc_V (pc' := 61) (r := r0) (as := [vI (H136901 r136933 (a1.toNat))]) (st := []) (lm_9_425) rfl rfl (Nat.le_of_ble_eq_true rfl) w136905 g0 sh_42 (by decide) rfl (by decide) (s_243 w136905 g0 ⟨by omega, by omega⟩ q136940 g136941 (by omega)) (fun R136942 T136943 H136944 p136945 => ?_))
            obtain ⟨e136946, w136948, f136949, e136947⟩ := p136945
            subst e136946
            subst e136947
            have f136950 := f136913.tr f136949 rfl
            show wp _ _ 245 61 [(3, vI z136911), (0, .ref r0), (1, vI a1), (2, vI a2)] [] _ H136944 _
            refine wp_of e245 c245_61 (rw_aload_n (pc' := 62) (v := .ref r0) rfl rfl rfl ?_)
            refine wp_of e245 c245_62 (rw_aload_n (pc' := 63) (v := .ref r0) rfl rfl rfl ?_)
            refine wp_of e245 c245_63 (xg_R (pc' := 66) lf_9_39 w136948 g0 sh_42 (by decide) (by decide) ty_42_27 rfl rfl (fun r136951 q136952 g136953 => ?_))
            refine wp_of e245 c245_66 (rw_iload_n (pc' := 67) (z := a2) rfl rfl ?_)
            refine wp_of e245 c245_67 (xa_I (so := 0) (pc' := 68) w136948 g136953 sh_51 (by decide) (ty_51 _) (by omega) (by omega) rfl (fun b136954 b136955 => ?_))
            refine wp_of e245 c245_68 (xc_V (pc' := 71) (r := r0) (as := [vI (H136944 r136951 (a2.toNat))]) (st := []) (lm_9_58) rfl rfl (Nat.le_of_ble_eq_true rfl) w136948 g0 sh_42 (by decide) rfl (by decide) (s_209 w136948 g0 ⟨by omega, by omega⟩) (fun R136956 T136957 H136958 p136959 => ?_))
            obtain ⟨e136960, w136962, f136963, z136965, e136961, b136966, p136964⟩ := p136959
            subst e136960
            subst e136961
            have f136967 := f136950.tr f136963 rfl
            show wp _ _ 245 71 [(3, vI z136911), (0, .ref r0), (1, vI a1), (2, vI a2)] [vI z136965] _ H136958 _
            have k136968 : wKI H136958 r0 = wKI H136901 r0 := ((wKI_fr w136948 g0 f136963 rfl).trans (wKI_fr w136905 g0 f136949 rfl))
            exact wp_ireturn e245 c245_71 rfl ⟨rfl, w136962, f136967, z136965, rfl, ⟨by omega, by omega⟩, by omega, by omega⟩
          · exfalso
            omega
        · refine wp_of e245 c245_39 (rw_iconst (pc' := 40) rfl ?_)
          refine wp_of e245 c245_40 (rw_istore_n (pc' := 41) (z := 1) (L' := [(3, vI 1), (0, .ref r0), (1, vI a1), (2, vI a2)]) rfl rfl rfl ?_)
          refine wp_of e245 c245_41 (rw_iload_n (pc' := 42) (z := 1) rfl rfl ?_)
          refine wp_of e245 c245_42 (rw_if_le (p1 := 51) (p2 := 45) (by decide) rfl ⟨by omega, by omega⟩ (fun c136969 => ?_) (fun c136969 => ?_))
          · exfalso
            omega
          · refine wp_of e245 c245_45 (rw_aload_n (pc' := 46) (v := .ref r0) rfl rfl rfl ?_)
            refine wp_of e245 c245_46 (rw_iload_n (pc' := 47) (z := 1) rfl rfl ?_)
            refine wp_of e245 c245_47 (xc_V (pc' := 50) (r := r0) (as := [vI 1]) (st := []) (lm_9_54) rfl rfl (Nat.le_of_ble_eq_true rfl) w136905 g0 sh_42 (by decide) rfl (by decide) (s_170 w136905 g0 ⟨by omega, by omega⟩) (fun R136970 T136971 H136972 p136973 => ?_))
            obtain ⟨e136974, w136976, f136977, z136979, e136975, b136980, p136978⟩ := p136973
            subst e136974
            subst e136975
            have f136981 := f136913.tr f136977 rfl
            show wp _ _ 245 50 [(3, vI 1), (0, .ref r0), (1, vI a1), (2, vI a2)] [vI z136979] _ H136972 _
            have k136982 : wKI H136972 r0 = wKI H136901 r0 := (wKI_fr w136905 g0 f136977 rfl)
            exact wp_ireturn e245 c245_50 rfl ⟨rfl, w136976, f136981, z136979, rfl, ⟨by omega, by omega⟩, by omega, by omega⟩
/-! StrikeAwakeModel.lotWeight()J -/
theorem e248 : wq_en 248 = some (9, 4, false, some FieldType.long) := rfl
theorem c248_0 : mc_cd 248 0 = some (.lconst 1, 1) := by decide +kernel
theorem c248_1 : mc_cd 248 1 = some (.lstore_n 1, 1) := by decide +kernel
theorem c248_2 : mc_cd 248 2 = some (.iconst 0, 1) := by decide +kernel
theorem c248_3 : mc_cd 248 3 = some (.istore_n 3, 1) := by decide +kernel
theorem c248_4 : mc_cd 248 4 = some (.iload_n 3, 1) := by decide +kernel
theorem c248_5 : mc_cd 248 5 = some (.aload_n 0, 1) := by decide +kernel
theorem c248_6 : mc_cd 248 6 = some (.getfield 337, 3) := by decide +kernel
theorem c248_9 : mc_cd 248 9 = some (.getfield 188, 3) := by decide +kernel
theorem c248_12 : mc_cd 248 12 = some (.if_icmp .ge 24, 3) := by decide +kernel
theorem c248_15 : mc_cd 248 15 = some (.lload_n 1, 1) := by decide +kernel
theorem c248_16 : mc_cd 248 16 = some (.aload_n 0, 1) := by decide +kernel
theorem c248_17 : mc_cd 248 17 = some (.iload_n 3, 1) := by decide +kernel
theorem c248_18 : mc_cd 248 18 = some (.aload_n 0, 1) := by decide +kernel
theorem c248_19 : mc_cd 248 19 = some (.getfield 39, 3) := by decide +kernel
theorem c248_22 : mc_cd 248 22 = some (.iload_n 3, 1) := by decide +kernel
theorem c248_23 : mc_cd 248 23 = some (.iaload, 1) := by decide +kernel
theorem c248_24 : mc_cd 248 24 = some (.invokevirtual 370, 3) := by decide +kernel
theorem c248_27 : mc_cd 248 27 = some (.i2l, 1) := by decide +kernel
theorem c248_28 : mc_cd 248 28 = some (.lmul, 1) := by decide +kernel
theorem c248_29 : mc_cd 248 29 = some (.lstore_n 1, 1) := by decide +kernel
theorem c248_30 : mc_cd 248 30 = some (.iinc 3 1, 3) := by decide +kernel
theorem c248_33 : mc_cd 248 33 = some (.goto (-29), 3) := by decide +kernel
theorem c248_36 : mc_cd 248 36 = some (.lload_n 1, 1) := by decide +kernel
theorem c248_37 : mc_cd 248 37 = some (.lreturn, 1) := by decide +kernel
abbrev q_248 (r0 : Nat) (pp : Nat) (T : wq_T) (H : wq_H) : Option Value → wq_T → wq_H → Prop := fun r T' H' => T = T' ∧ H = H' ∧ ∃ z : Int, some (vL z) = r ∧ (1 ≤ z ∧ z ≤ 1000000)
set_option maxHeartbeats 4000000 in
theorem s_248 {kt : Nat → Option mc_E} {T : wq_T} {H : wq_H} {r0 : Nat} {pp : Nat} (hW : WT T H) (g0 : T.2.2.2 r0 = some 42) (qpp : H r0 3 = (pp : Int)) (gpp : T.2.2.2 pp = some 54) : wpc kt 2 248 [.ref r0] T H (q_248 r0 pp T H) := by
  refine wp_enter e248 (Nat.le_of_ble_eq_true rfl) rfl ?_
  show wp _ _ 248 0 [(0, .ref r0)] [] _ H _
  refine wp_of e248 c248_0 (rw_lconst (pc' := 1) (z := 1) rfl rfl ?_)
  refine wp_of e248 c248_1 (rw_lstore_n (pc' := 2) (z := 1) (L' := [(1, vL 1), (0, .ref r0)]) rfl rfl rfl ?_)
  refine wp_of e248 c248_2 (rw_iconst (pc' := 3) rfl ?_)
  refine wp_of e248 c248_3 (rw_istore_n (pc' := 4) (z := 0) (L' := [(3, vI 0), (1, vL 1), (0, .ref r0)]) rfl rfl rfl ?_)
  have b137298 : 0 ≤ H pp 3 ∧ H pp 3 ≤ 6 := hW.box gpp (n := 27) rfl (by decide) rfl
  have lp137293 : ∀ (n137294 : Nat) (v137296 : Int) (v137297 : Int), (0 ≤ v137296 ∧ v137296 ≤ 6) → (1 ≤ v137297 ∧ v137297 ≤ 1000000) → (v137296 ≤ H pp 3) → (1 ≤ v137297 ∧ v137297 ≤ w10 (v137296).toNat) → (6 - v137296).toNat = n137294 → wp kt 1 248 4 [(3, vI v137296), (1, vL v137297), (0, .ref r0)] [] T H (q_248 r0 pp T H) := by
    intro n137294
    induction n137294 using Nat.strongRecOn with
    | _ n137294 ih137295 =>
      intro v137296 v137297 b137301 b137302 x137303 x137304 m137305
      have hb := w10_b (n := (v137296).toNat) (by omega)
      refine wp_of e248 c248_4 (rw_iload_n (pc' := 5) (z := v137296) rfl rfl ?_)
      refine wp_of e248 c248_5 (rw_aload_n (pc' := 6) (v := .ref r0) rfl rfl rfl ?_)
      refine wp_of e248 c248_6 (xg_K (pc' := 9) lf_9_337 hW g0 sh_42 (by decide) (by decide) rfl qpp rfl ?_)
      refine wp_of e248 c248_9 (xg_I (pc' := 12) lf_9_188 hW gpp sh_54 (by decide) (by decide) ty_54_3 rfl rfl (fun b137306 b137307 => ?_))
      refine wp_of e248 c248_12 (rw_icmp_ge (p1 := 36) (p2 := 15) (by decide) rfl ⟨by omega, by omega⟩ ⟨by omega, by omega⟩ (fun c137308 => ?_) (fun c137308 => ?_))
      · refine wp_of e248 c248_36 (rw_lload_n (pc' := 37) (z := v137297) rfl rfl ?_)
        exact wp_lreturn e248 c248_37 rfl ⟨rfl, rfl, v137297, rfl, ⟨by omega, by omega⟩⟩
      · refine wp_of e248 c248_15 (rw_lload_n (pc' := 16) (z := v137297) rfl rfl ?_)
        refine wp_of e248 c248_16 (rw_aload_n (pc' := 17) (v := .ref r0) rfl rfl rfl ?_)
        refine wp_of e248 c248_17 (rw_iload_n (pc' := 18) (z := v137296) rfl rfl ?_)
        refine wp_of e248 c248_18 (rw_aload_n (pc' := 19) (v := .ref r0) rfl rfl rfl ?_)
        refine wp_of e248 c248_19 (xg_R (pc' := 22) lf_9_39 hW g0 sh_42 (by decide) (by decide) ty_42_27 rfl rfl (fun r137309 q137310 g137311 => ?_))
        refine wp_of e248 c248_22 (rw_iload_n (pc' := 23) (z := v137296) rfl rfl ?_)
        refine wp_of e248 c248_23 (xa_I (so := 0) (pc' := 24) hW g137311 sh_51 (by decide) (ty_51 _) (by omega) (by omega) rfl (fun b137312 b137313 => ?_))
        refine wp_of e248 c248_24 (xc_V (pc' := 27) (r := r0) (as := [vI v137296, vI (H r137309 (v137296.toNat))]) (st := [vL v137297]) (lm_9_370) rfl rfl (Nat.le_of_ble_eq_true rfl) hW g0 sh_42 (by decide) rfl (by decide) (s_216 hW g0 ⟨by omega, by omega⟩ ⟨by omega, by omega⟩ qpp gpp) (fun R137314 T137315 H137316 p137317 => ?_))
        obtain ⟨e137318, e137320, z137321, e137319, b137322⟩ := p137317
        subst e137318
        subst e137319
        subst e137320
        show wp _ _ 248 27 [(3, vI v137296), (1, vL v137297), (0, .ref r0)] [vI z137321, vL v137297] _ H _
        refine wp_of e248 c248_27 (rw_i2l (pc' := 28) rfl ⟨by omega, by omega⟩ ?_)
        refine wp_of e248 c248_28 (rw_lmul (pc' := 29) rfl ?_)
        obtain ⟨v137323, e137324⟩ : ∃ x : Int, x = v137297 * z137321 := ⟨_, rfl⟩
        rw [← e137324]
        have b137325 : 0 ≤ v137323 ∧ v137323 ≤ 10000000 := by
          rw [e137324]
          exact wl_mul_b (a := 1000000) (b := 10) ⟨by omega, by omega⟩ ⟨by omega, by omega⟩
        refine wp_of e248 c248_29 (rw_lstore_n (pc' := 30) (z := v137323) (L' := [(1, vL v137323), (3, vI v137296), (0, .ref r0)]) rfl rfl rfl ?_)
        refine wp_of e248 c248_30 (rw_iinc (pc' := 33) (z := v137296) (L' := [(3, vI (v137296 + 1)), (1, vL v137323), (0, .ref r0)]) rfl rfl rfl rfl ?_)
        refine wp_of e248 c248_33 (rw_goto (p1 := 4) (by decide) ?_)
        have hy : 1 ≤ v137323 ∧ v137323 ≤ w10 ((v137296 + 1)).toNat := by
          refine w10_s (by assumption) ?_ (by assumption) (by omega)
          exact ⟨by omega, by omega⟩
        have hz := w10_b (n := ((v137296 + 1)).toNat) (by omega)
        exact wp_lc (ks := [3, 1, 0]) (wl_c rfl (wl_c rfl (wl_c rfl wl_n))) rfl (by decide) (ih137295 _ (by omega) (v137296 + 1) v137323 ⟨by omega, by omega⟩ ⟨by omega, by omega⟩ (by omega) (by assumption) rfl)
  exact wp_lc (ks := [3, 1, 0]) (wl_c rfl (wl_c rfl (wl_c rfl wl_n))) rfl (by decide) (lp137293 _ 0 1 ⟨by omega, by omega⟩ ⟨by omega, by omega⟩ (by omega) (by decide) rfl)
/-! StrikeAwakeModel.weighs(II)J -/
theorem e247 : wq_en 247 = some (9, 6, false, some FieldType.long) := rfl
theorem c247_0 : mc_cd 247 0 = some (.lconst 0, 1) := by decide +kernel
theorem c247_1 : mc_cd 247 1 = some (.lstore_n 3, 1) := by decide +kernel
theorem c247_2 : mc_cd 247 2 = some (.iconst 0, 1) := by decide +kernel
theorem c247_3 : mc_cd 247 3 = some (.istore 5, 2) := by decide +kernel
theorem c247_5 : mc_cd 247 5 = some (.iload 5, 2) := by decide +kernel
theorem c247_7 : mc_cd 247 7 = some (.aload_n 0, 1) := by decide +kernel
theorem c247_8 : mc_cd 247 8 = some (.getfield 422, 3) := by decide +kernel
theorem c247_11 : mc_cd 247 11 = some (.if_icmp .ge 55, 3) := by decide +kernel
theorem c247_14 : mc_cd 247 14 = some (.aload_n 0, 1) := by decide +kernel
theorem c247_15 : mc_cd 247 15 = some (.aload_n 0, 1) := by decide +kernel
theorem c247_16 : mc_cd 247 16 = some (.getfield 42, 3) := by decide +kernel
theorem c247_19 : mc_cd 247 19 = some (.iload 5, 2) := by decide +kernel
theorem c247_21 : mc_cd 247 21 = some (.iaload, 1) := by decide +kernel
theorem c247_22 : mc_cd 247 22 = some (.invokevirtual 425, 3) := by decide +kernel
theorem c247_25 : mc_cd 247 25 = some (.iload_n 1, 1) := by decide +kernel
theorem c247_26 : mc_cd 247 26 = some (.iconst (-1), 1) := by decide +kernel
theorem c247_27 : mc_cd 247 27 = some (.if_icmp .eq 26, 3) := by decide +kernel
theorem c247_30 : mc_cd 247 30 = some (.aload_n 0, 1) := by decide +kernel
theorem c247_31 : mc_cd 247 31 = some (.getfield 33, 3) := by decide +kernel
theorem c247_34 : mc_cd 247 34 = some (.bipush 40, 2) := by decide +kernel
theorem c247_36 : mc_cd 247 36 = some (.iload_n 1, 1) := by decide +kernel
theorem c247_37 : mc_cd 247 37 = some (.imul, 1) := by decide +kernel
theorem c247_38 : mc_cd 247 38 = some (.aload_n 0, 1) := by decide +kernel
theorem c247_39 : mc_cd 247 39 = some (.getfield 39, 3) := by decide +kernel
theorem c247_42 : mc_cd 247 42 = some (.iload_n 1, 1) := by decide +kernel
theorem c247_43 : mc_cd 247 43 = some (.iaload, 1) := by decide +kernel
theorem c247_44 : mc_cd 247 44 = some (.iadd, 1) := by decide +kernel
theorem c247_45 : mc_cd 247 45 = some (.iaload, 1) := by decide +kernel
theorem c247_46 : mc_cd 247 46 = some (.iload_n 2, 1) := by decide +kernel
theorem c247_47 : mc_cd 247 47 = some (.invokestatic 346, 3) := by decide +kernel
theorem c247_50 : mc_cd 247 50 = some (.ifCond .eq 10, 3) := by decide +kernel
theorem c247_53 : mc_cd 247 53 = some (.lload_n 3, 1) := by decide +kernel
theorem c247_54 : mc_cd 247 54 = some (.aload_n 0, 1) := by decide +kernel
theorem c247_55 : mc_cd 247 55 = some (.invokevirtual 437, 3) := by decide +kernel
theorem c247_58 : mc_cd 247 58 = some (.ladd, 1) := by decide +kernel
theorem c247_59 : mc_cd 247 59 = some (.lstore_n 3, 1) := by decide +kernel
theorem c247_60 : mc_cd 247 60 = some (.iinc 5 1, 3) := by decide +kernel
theorem c247_63 : mc_cd 247 63 = some (.goto (-58), 3) := by decide +kernel
theorem c247_66 : mc_cd 247 66 = some (.lload_n 3, 1) := by decide +kernel
theorem c247_67 : mc_cd 247 67 = some (.lreturn, 1) := by decide +kernel
abbrev q_247 (r0 : Nat) (a1 : Int) (a2 : Int) (pp : Nat) (T : wq_T) (H : wq_H) : Option Value → wq_T → wq_H → Prop := fun r T' H' => T = T' ∧ WT T H' ∧ wfr [(51, 999)] T H H' ∧ ∃ z : Int, some (vL z) = r ∧ (0 ≤ z ∧ z ≤ 20000000000) ∧ (a1 ≠ -1 ∨ H r0 29 ≤ z)
set_option maxHeartbeats 4000000 in
theorem s_247 {kt : Nat → Option mc_E} {T : wq_T} {H : wq_H} {r0 : Nat} {a1 : Int} {a2 : Int} {pp : Nat} (hW : WT T H) (g0 : T.2.2.2 r0 = some 42) (i1 : (-1) ≤ a1 ∧ a1 ≤ 5) (i2 : (-2147483648) ≤ a2 ∧ a2 ≤ 2147483647) (qpp : H r0 3 = (pp : Int)) (gpp : T.2.2.2 pp = some 54) (p0 : H r0 29 = 0 ∨ 0 < wLM H r0) : wpc kt 3 247 [.ref r0, vI a1, vI a2] T H (q_247 r0 a1 a2 pp T H) := by
  refine wp_enter e247 (Nat.le_of_ble_eq_true rfl) rfl ?_
  have f0 : wfr [(51, 999)] T H H := wfr.rf
  show wp _ _ 247 0 [(0, .ref r0), (1, vI a1), (2, vI a2)] [] _ H _
  have b137903 : 0 ≤ H r0 29 ∧ H r0 29 ≤ 20000 := hW.box g0 (n := 33) rfl (by decide) rfl
  refine wp_of e247 c247_0 (rw_lconst (pc' := 1) (z := 0) rfl rfl ?_)
  refine wp_of e247 c247_1 (rw_lstore_n (pc' := 2) (z := 0) (L' := [(3, vL 0), (0, .ref r0), (1, vI a1), (2, vI a2)]) rfl rfl rfl ?_)
  refine wp_of e247 c247_2 (rw_iconst (pc' := 3) rfl ?_)
  refine wp_of e247 c247_3 (rw_istore (pc' := 5) (z := 0) (L' := [(5, vI 0), (3, vL 0), (0, .ref r0), (1, vI a1), (2, vI a2)]) rfl rfl rfl ?_)
  have lp138416 : ∀ (n138417 : Nat) (v138419 : Int) (v138420 : Int) (H138421 : wq_H), WT T H138421 → wfr [(51, 999)] T H H138421 → (0 ≤ v138419 ∧ v138419 ≤ 20000) → (0 ≤ v138420 ∧ v138420 ≤ 20000000000) → (v138419 ≤ H138421 r0 29) → (v138420 ≤ 1000000 * v138419) → (a1 ≠ -1 ∨ v138419 ≤ v138420) → (20000 - v138419).toNat = n138417 → wp kt 2 247 5 [(5, vI v138419), (3, vL v138420), (0, .ref r0), (1, vI a1), (2, vI a2)] [] T H138421 (q_247 r0 a1 a2 pp T H) := by
    intro n138417
    induction n138417 using Nat.strongRecOn with
    | _ n138417 ih138418 =>
      intro v138419 v138420 H138421 w138422 f138423 b138424 b138425 x138426 x138427 x138428 m138429
      have f138430 := f0.tr f138423 rfl
      have k138431 : H138421 r0 29 = H r0 29 := (f138423 r0 29 _ g0 rfl)
      refine wp_of e247 c247_5 (rw_iload (pc' := 7) (z := v138419) rfl rfl ?_)
      refine wp_of e247 c247_7 (rw_aload_n (pc' := 8) (v := .ref r0) rfl rfl rfl ?_)
      refine wp_of e247 c247_8 (xg_I (pc' := 11) lf_9_422 w138422 g0 sh_42 (by decide) (by decide) ty_42_29 rfl rfl (fun b138432 b138433 => ?_))
      refine wp_of e247 c247_11 (rw_icmp_ge (p1 := 66) (p2 := 14) (by decide) rfl ⟨by omega, by omega⟩ ⟨by omega, by omega⟩ (fun c138434 => ?_) (fun c138434 => ?_))
      · refine wp_of e247 c247_66 (rw_lload_n (pc' := 67) (z := v138420) rfl rfl ?_)
        exact wp_lreturn e247 c247_67 rfl ⟨rfl, w138422, f138430, v138420, rfl, ⟨by omega, by omega⟩, by omega⟩
      · refine wp_of e247 c247_14 (rw_aload_n (pc' := 15) (v := .ref r0) rfl rfl rfl ?_)
        refine wp_of e247 c247_15 (rw_aload_n (pc' := 16) (v := .ref r0) rfl rfl rfl ?_)
        refine wp_of e247 c247_16 (xg_R (pc' := 19) lf_9_42 w138422 g0 sh_42 (by decide) (by decide) ty_42_30 rfl rfl (fun r138435 q138436 g138437 => ?_))
        refine wp_of e247 c247_19 (rw_iload (pc' := 21) (z := v138419) rfl rfl ?_)
        refine wp_of e247 c247_21 (xa_I (so := 0) (pc' := 22) w138422 g138437 sh_52 (by decide) (ty_52 _) (by omega) (by omega) rfl (fun b138438 b138439 => ?_))
        have k138440 : wLM H138421 r0 = wLM H r0 := (wLM_fr hW g0 f138423 rfl)
        have k138441 : H138421 r0 3 = H r0 3 := (f138423 r0 3 _ g0 rfl)
        have q138442 : H138421 r0 3 = (pp : Int) := k138441.trans qpp
        refine wp_of e247 c247_22 (xc_V (pc' := 25) (r := r0) (as := [vI (H138421 r138435 (v138419.toNat))]) (st := []) (lm_9_425) rfl rfl (Nat.le_of_ble_eq_true rfl) w138422 g0 sh_42 (by decide) rfl (by decide) (s_243 w138422 g0 ⟨by omega, by omega⟩ q138442 gpp (by omega)) (fun R138443 T138444 H138445 p138446 => ?_))
        obtain ⟨e138447, w138449, f138450, e138448⟩ := p138446
        subst e138447
        subst e138448
        have f138451 := f138430.tr f138450 rfl
        have f138452 := f138423.tr f138450 rfl
        show wp _ _ 247 25 [(5, vI v138419), (3, vL v138420), (0, .ref r0), (1, vI a1), (2, vI a2)] [] _ H138445 _
        refine wp_of e247 c247_25 (rw_iload_n (pc' := 26) (z := a1) rfl rfl ?_)
        refine wp_of e247 c247_26 (rw_iconst (pc' := 27) rfl ?_)
        refine wp_of e247 c247_27 (rw_icmp_eq (p1 := 53) (p2 := 30) (by decide) rfl ⟨by omega, by omega⟩ ⟨by omega, by omega⟩ (fun c138453 => ?_) (fun c138453 => ?_))
        · refine wp_of e247 c247_53 (rw_lload_n (pc' := 54) (z := v138420) rfl rfl ?_)
          refine wp_of e247 c247_54 (rw_aload_n (pc' := 55) (v := .ref r0) rfl rfl rfl ?_)
          have k138454 : H138445 r0 3 = H138421 r0 3 := (f138450 r0 3 _ g0 rfl)
          have q138455 : H138445 r0 3 = (pp : Int) := k138454.trans q138442
          refine wp_of e247 c247_55 (xc_V (pc' := 58) (r := r0) (as := []) (st := [vL v138420]) (lm_9_437) rfl rfl (Nat.le_of_ble_eq_true rfl) w138449 g0 sh_42 (by decide) rfl (by decide) (s_248 w138449 g0 q138455 gpp) (fun R138456 T138457 H138458 p138459 => ?_))
          obtain ⟨e138460, e138462, z138463, e138461, b138464⟩ := p138459
          subst e138460
          subst e138461
          subst e138462
          show wp _ _ 247 58 [(5, vI v138419), (3, vL v138420), (0, .ref r0), (1, vI a1), (2, vI a2)] [vL z138463, vL v138420] _ H138445 _
          refine wp_of e247 c247_58 (rw_ladd (pc' := 59) rfl ?_)
          refine wp_of e247 c247_59 (rw_lstore_n (pc' := 60) (z := v138420 + z138463) (L' := [(3, vL (v138420 + z138463)), (5, vI v138419), (0, .ref r0), (1, vI a1), (2, vI a2)]) rfl rfl rfl ?_)
          refine wp_of e247 c247_60 (rw_iinc (pc' := 63) (z := v138419) (L' := [(5, vI (v138419 + 1)), (3, vL (v138420 + z138463)), (0, .ref r0), (1, vI a1), (2, vI a2)]) rfl rfl rfl rfl ?_)
          refine wp_of e247 c247_63 (rw_goto (p1 := 5) (by decide) ?_)
          have k138465 : H138445 r0 29 = H138421 r0 29 := (f138450 r0 29 _ g0 rfl)
          exact wp_lc (ks := [5, 3, 0, 1, 2]) (wl_c rfl (wl_c rfl (wl_c rfl (wl_c rfl (wl_c rfl wl_n))))) rfl (by decide) (ih138418 _ (by omega) (v138419 + 1) (v138420 + z138463) H138445 w138449 f138452 ⟨by omega, by omega⟩ ⟨by omega, by omega⟩ (by omega) (by omega) (by omega) rfl)
        · refine wp_of e247 c247_30 (rw_aload_n (pc' := 31) (v := .ref r0) rfl rfl rfl ?_)
          refine wp_of e247 c247_31 (xg_R (pc' := 34) lf_9_33 w138449 g0 sh_42 (by decide) (by decide) ty_42_25 rfl rfl (fun r138466 q138467 g138468 => ?_))
          refine wp_of e247 c247_34 (rw_bipush (pc' := 36) (z := 40) rfl (by decide) ?_)
          refine wp_of e247 c247_36 (rw_iload_n (pc' := 37) (z := a1) rfl rfl ?_)
          refine wp_of e247 c247_37 (rw_imul (pc' := 38) rfl ?_)
          refine wp_of e247 c247_38 (rw_aload_n (pc' := 39) (v := .ref r0) rfl rfl rfl ?_)
          refine wp_of e247 c247_39 (xg_R (pc' := 42) lf_9_39 w138449 g0 sh_42 (by decide) (by decide) ty_42_27 rfl rfl (fun r138469 q138470 g138471 => ?_))
          refine wp_of e247 c247_42 (rw_iload_n (pc' := 43) (z := a1) rfl rfl ?_)
          refine wp_of e247 c247_43 (xa_I (so := 0) (pc' := 44) w138449 g138471 sh_51 (by decide) (ty_51 _) (by omega) (by omega) rfl (fun b138472 b138473 => ?_))
          refine wp_of e247 c247_44 (rw_iadd (pc' := 45) rfl ?_)
          refine wp_of e247 c247_45 (xa_I (so := 0) (pc' := 46) w138449 g138468 sh_49 (by decide) (ty_49 _) (by omega) (by omega) rfl (fun b138474 b138475 => ?_))
          refine wp_of e247 c247_46 (rw_iload_n (pc' := 47) (z := a2) rfl rfl ?_)
          refine wp_of e247 c247_47 (xc_S (pc' := 50) (as := [vI (H138445 r138466 (((40 * a1) + (H138445 r138469 (a1.toNat))).toNat)), vI a2]) (st := []) (lm_9_346) rfl rfl (Nat.le_of_ble_eq_true rfl) rfl (by decide) (s_205 w138449 ⟨by omega, by omega⟩ ⟨by omega, by omega⟩) (fun R138476 T138477 H138478 p138479 => ?_))
          obtain ⟨e138480, e138482, z138483, e138481, b138484⟩ := p138479
          subst e138480
          subst e138481
          subst e138482
          show wp _ _ 247 50 [(5, vI v138419), (3, vL v138420), (0, .ref r0), (1, vI a1), (2, vI a2)] [vI z138483] _ H138445 _
          refine wp_of e247 c247_50 (rw_if_eq (p1 := 60) (p2 := 53) (by decide) rfl ⟨by omega, by omega⟩ (fun c138485 => ?_) (fun c138485 => ?_))
          · refine wp_of e247 c247_60 (rw_iinc (pc' := 63) (z := v138419) (L' := [(5, vI (v138419 + 1)), (3, vL v138420), (0, .ref r0), (1, vI a1), (2, vI a2)]) rfl rfl rfl rfl ?_)
            refine wp_of e247 c247_63 (rw_goto (p1 := 5) (by decide) ?_)
            have k138486 : H138445 r0 29 = H138421 r0 29 := (f138450 r0 29 _ g0 rfl)
            exact wp_lc (ks := [5, 3, 0, 1, 2]) (wl_c rfl (wl_c rfl (wl_c rfl (wl_c rfl (wl_c rfl wl_n))))) rfl (by decide) (ih138418 _ (by omega) (v138419 + 1) v138420 H138445 w138449 f138452 ⟨by omega, by omega⟩ ⟨by omega, by omega⟩ (by omega) (by omega) (by omega) rfl)
          · refine wp_of e247 c247_53 (rw_lload_n (pc' := 54) (z := v138420) rfl rfl ?_)
            refine wp_of e247 c247_54 (rw_aload_n (pc' := 55) (v := .ref r0) rfl rfl rfl ?_)
            have k138487 : H138445 r0 3 = H138421 r0 3 := (f138450 r0 3 _ g0 rfl)
            have q138488 : H138445 r0 3 = (pp : Int) := k138487.trans q138442
            refine wp_of e247 c247_55 (xc_V (pc' := 58) (r := r0) (as := []) (st := [vL v138420]) (lm_9_437) rfl rfl (Nat.le_of_ble_eq_true rfl) w138449 g0 sh_42 (by decide) rfl (by decide) (s_248 w138449 g0 q138488 gpp) (fun R138489 T138490 H138491 p138492 => ?_))
            obtain ⟨e138493, e138495, z138496, e138494, b138497⟩ := p138492
            subst e138493
            subst e138494
            subst e138495
            show wp _ _ 247 58 [(5, vI v138419), (3, vL v138420), (0, .ref r0), (1, vI a1), (2, vI a2)] [vL z138496, vL v138420] _ H138445 _
            refine wp_of e247 c247_58 (rw_ladd (pc' := 59) rfl ?_)
            refine wp_of e247 c247_59 (rw_lstore_n (pc' := 60) (z := v138420 + z138496) (L' := [(3, vL (v138420 + z138496)), (5, vI v138419), (0, .ref r0), (1, vI a1), (2, vI a2)]) rfl rfl rfl ?_)
            refine wp_of e247 c247_60 (rw_iinc (pc' := 63) (z := v138419) (L' := [(5, vI (v138419 + 1)), (3, vL (v138420 + z138496)), (0, .ref r0), (1, vI a1), (2, vI a2)]) rfl rfl rfl rfl ?_)
            refine wp_of e247 c247_63 (rw_goto (p1 := 5) (by decide) ?_)
            have k138498 : H138445 r0 29 = H138421 r0 29 := (f138450 r0 29 _ g0 rfl)
            exact wp_lc (ks := [5, 3, 0, 1, 2]) (wl_c rfl (wl_c rfl (wl_c rfl (wl_c rfl (wl_c rfl wl_n))))) rfl (by decide) (ih138418 _ (by omega) (v138419 + 1) (v138420 + z138496) H138445 w138449 f138452 ⟨by omega, by omega⟩ ⟨by omega, by omega⟩ (by omega) (by omega) (by omega) rfl)
  exact wp_lc (ks := [5, 3, 0, 1, 2]) (wl_c rfl (wl_c rfl (wl_c rfl (wl_c rfl (wl_c rfl wl_n))))) rfl (by decide) (lp138416 _ 0 0 H hW wfr.rf ⟨by omega, by omega⟩ ⟨by omega, by omega⟩ (by omega) (by omega) (by omega) rfl)
/-! StrikeAwakeModel.weights()J -/
theorem e246 : wq_en 246 = some (9, 2, false, some FieldType.long) := rfl
theorem c246_0 : mc_cd 246 0 = some (.aload_n 0, 1) := by decide +kernel
theorem c246_1 : mc_cd 246 1 = some (.iconst 0, 1) := by decide +kernel
theorem c246_2 : mc_cd 246 2 = some (.putfield 48, 3) := by decide +kernel
theorem c246_5 : mc_cd 246 5 = some (.aload_n 0, 1) := by decide +kernel
theorem c246_6 : mc_cd 246 6 = some (.aload_n 0, 1) := by decide +kernel
theorem c246_7 : mc_cd 246 7 = some (.getfield 337, 3) := by decide +kernel
theorem c246_10 : mc_cd 246 10 = some (.ifnull 7, 3) := by decide +kernel
theorem c246_13 : mc_cd 246 13 = some (.iconst 1, 1) := by decide +kernel
theorem c246_14 : mc_cd 246 14 = some (.goto 4, 3) := by decide +kernel
theorem c246_17 : mc_cd 246 17 = some (.iconst 0, 1) := by decide +kernel
theorem c246_18 : mc_cd 246 18 = some (.invokevirtual 433, 3) := by decide +kernel
theorem c246_21 : mc_cd 246 21 = some (.istore_n 1, 1) := by decide +kernel
theorem c246_22 : mc_cd 246 22 = some (.iload_n 1, 1) := by decide +kernel
theorem c246_23 : mc_cd 246 23 = some (.ifCond .le 12, 3) := by decide +kernel
theorem c246_26 : mc_cd 246 26 = some (.aload_n 0, 1) := by decide +kernel
theorem c246_27 : mc_cd 246 27 = some (.iload_n 1, 1) := by decide +kernel
theorem c246_28 : mc_cd 246 28 = some (.invokevirtual 54, 3) := by decide +kernel
theorem c246_31 : mc_cd 246 31 = some (.i2l, 1) := by decide +kernel
theorem c246_32 : mc_cd 246 32 = some (.goto 13, 3) := by decide +kernel
theorem c246_35 : mc_cd 246 35 = some (.aload_n 0, 1) := by decide +kernel
theorem c246_36 : mc_cd 246 36 = some (.aload_n 0, 1) := by decide +kernel
theorem c246_37 : mc_cd 246 37 = some (.iconst (-1), 1) := by decide +kernel
theorem c246_38 : mc_cd 246 38 = some (.iconst 0, 1) := by decide +kernel
theorem c246_39 : mc_cd 246 39 = some (.invokevirtual 440, 3) := by decide +kernel
theorem c246_42 : mc_cd 246 42 = some (.invokevirtual 380, 3) := by decide +kernel
theorem c246_45 : mc_cd 246 45 = some (.lreturn, 1) := by decide +kernel
abbrev q_246 (r0 : Nat) (T : wq_T) (H : wq_H) : Option Value → wq_T → wq_H → Prop := fun r T' H' => T = T' ∧ WT T H' ∧ wfr [(42, 0), (42, 1), (42, 2), (42, 28), (42, 29), (51, 999), (52, 999)] T H H' ∧ ∃ z : Int, some (vL z) = r ∧ ((-9223372036854775808) ≤ z ∧ z ≤ 9223372036854775807) ∧ (wKI H' r0 = 1) ∧ (H' r0 2 = -1)
set_option maxHeartbeats 4000000 in
theorem s_246 {kt : Nat → Option mc_E} {T : wq_T} {H : wq_H} {r0 : Nat} (hW : WT T H) (g0 : T.2.2.2 r0 = some 42) (p0 : wKI H r0 = 1) : wpc kt 8 246 [.ref r0] T H (q_246 r0 T H) := by
  refine wp_enter e246 (Nat.le_of_ble_eq_true rfl) rfl ?_
  have f0 : wfr [(42, 0), (42, 1), (42, 2), (42, 28), (42, 29), (51, 999), (52, 999)] T H H := wfr.rf
  show wp _ _ 246 0 [(0, .ref r0)] [] _ H _
  refine wp_of e246 c246_0 (rw_aload_n (pc' := 1) (v := .ref r0) rfl rfl rfl ?_)
  refine wp_of e246 c246_1 (rw_iconst (pc' := 2) rfl ?_)
  refine wp_of e246 c246_2 (xp_I (pc' := 5) lf_9_48 hW g0 sh_42 (by decide) (by decide) ty_42_0 rfl rfl (by omega) (by omega) ⟨by omega, by omega⟩ rfl (fun H138594 e138595 w138596 => ?_))
  have f138597 := f0.put' e138595 g0 rfl
  have k138598 : H138594 r0 0 = 0 := wq_u_s e138595
  refine wp_of e246 c246_5 (rw_aload_n (pc' := 6) (v := .ref r0) rfl rfl rfl ?_)
  refine wp_of e246 c246_6 (rw_aload_n (pc' := 7) (v := .ref r0) rfl rfl rfl ?_)
  refine wp_of e246 c246_7 (xg_O (pc' := 10) lf_9_337 w138596 g0 sh_42 (by decide) (by decide) ty_42_3 rfl rfl (fun q138600 => ?_) (fun r138599 q138600 g138601 => ?_))
  · refine wp_of e246 c246_10 (rw_ifnull_n (p1 := 17) (p2 := 13) (by decide) rfl ?_)
    refine wp_of e246 c246_17 (rw_iconst (pc' := 18) rfl ?_)
    have k138602 : wKI H138594 r0 = wKI H r0 := (wKI_fr hW g0 ((wfr.rf (l := [(42, 0)])).put' e138595 g0 rfl) rfl)
    refine wp_of e246 c246_18 (xc_V (pc' := 21) (r := r0) (as := [vI 0]) (st := []) (lm_9_433) rfl rfl (Nat.le_of_ble_eq_true rfl) w138596 g0 sh_42 (by decide) rfl (by decide) (s_241 w138596 g0 ⟨by omega, by omega⟩ (by omega) (by omega)) (fun R138603 T138604 H138605 p138606 => ?_))
    obtain ⟨e138607, w138609, f138610, z138615, e138608, b138616, p138611, p138612, p138613, p138614⟩ := p138606
    subst e138607
    subst e138608
    have f138617 := f138597.tr f138610 rfl
    show wp _ _ 246 21 [(0, .ref r0)] [vI z138615] _ H138605 _
    refine wp_of e246 c246_21 (rw_istore_n (pc' := 22) (z := z138615) (L' := [(1, vI z138615), (0, .ref r0)]) rfl rfl rfl ?_)
    refine wp_of e246 c246_22 (rw_iload_n (pc' := 23) (z := z138615) rfl rfl ?_)
    refine wp_of e246 c246_23 (rw_if_le (p1 := 35) (p2 := 26) (by decide) rfl ⟨by omega, by omega⟩ (fun c138618 => ?_) (fun c138618 => ?_))
    · exfalso
      omega
    · refine wp_of e246 c246_26 (rw_aload_n (pc' := 27) (v := .ref r0) rfl rfl rfl ?_)
      refine wp_of e246 c246_27 (rw_iload_n (pc' := 28) (z := z138615) rfl rfl ?_)
      refine wp_of e246 c246_28 (xc_V (pc' := 31) (r := r0) (as := [vI z138615]) (st := []) (lm_9_54) rfl rfl (Nat.le_of_ble_eq_true rfl) w138609 g0 sh_42 (by decide) rfl (by decide) (s_170 w138609 g0 ⟨by omega, by omega⟩) (fun R138619 T138620 H138621 p138622 => ?_))
      obtain ⟨e138623, w138625, f138626, z138628, e138624, b138629, p138627⟩ := p138622
      subst e138623
      subst e138624
      have f138630 := f138617.tr f138626 rfl
      show wp _ _ 246 31 [(1, vI z138615), (0, .ref r0)] [vI z138628] _ H138621 _
      refine wp_of e246 c246_31 (rw_i2l (pc' := 32) rfl ⟨by omega, by omega⟩ ?_)
      refine wp_of e246 c246_32 (rw_goto (p1 := 45) (by decide) ?_)
      have k138631 : wKI H138621 r0 = wKI H138605 r0 := (wKI_fr w138609 g0 f138626 rfl)
      exact wp_lreturn e246 c246_45 rfl ⟨rfl, w138625, f138630, z138628, rfl, ⟨by omega, by omega⟩, by omega, by omega⟩
  · refine wp_of e246 c246_10 (rw_ifnull_r (p1 := 17) (p2 := 13) (by decide) rfl ?_)
    refine wp_of e246 c246_13 (rw_iconst (pc' := 14) rfl ?_)
    refine wp_of e246 c246_14 (rw_goto (p1 := 18) (by decide) ?_)
    have k138632 : wKI H138594 r0 = wKI H r0 := (wKI_fr hW g0 ((wfr.rf (l := [(42, 0)])).put' e138595 g0 rfl) rfl)
    refine wp_of e246 c246_18 (xc_V (pc' := 21) (r := r0) (as := [vI 1]) (st := []) (lm_9_433) rfl rfl (Nat.le_of_ble_eq_true rfl) w138596 g0 sh_42 (by decide) rfl (by decide) (s_241 w138596 g0 ⟨by omega, by omega⟩ (by omega) (by omega)) (fun R138633 T138634 H138635 p138636 => ?_))
    obtain ⟨e138637, w138639, f138640, z138645, e138638, b138646, p138641, p138642, p138643, p138644⟩ := p138636
    subst e138637
    subst e138638
    have f138647 := f138597.tr f138640 rfl
    show wp _ _ 246 21 [(0, .ref r0)] [vI z138645] _ H138635 _
    refine wp_of e246 c246_21 (rw_istore_n (pc' := 22) (z := z138645) (L' := [(1, vI z138645), (0, .ref r0)]) rfl rfl rfl ?_)
    refine wp_of e246 c246_22 (rw_iload_n (pc' := 23) (z := z138645) rfl rfl ?_)
    refine wp_of e246 c246_23 (rw_if_le (p1 := 35) (p2 := 26) (by decide) rfl ⟨by omega, by omega⟩ (fun c138648 => ?_) (fun c138648 => ?_))
    · refine wp_of e246 c246_35 (rw_aload_n (pc' := 36) (v := .ref r0) rfl rfl rfl ?_)
      refine wp_of e246 c246_36 (rw_aload_n (pc' := 37) (v := .ref r0) rfl rfl rfl ?_)
      refine wp_of e246 c246_37 (rw_iconst (pc' := 38) rfl ?_)
      refine wp_of e246 c246_38 (rw_iconst (pc' := 39) rfl ?_)
      have k138649 : H138635 r0 3 = H138594 r0 3 := (f138640 r0 3 _ g0 rfl)
      have q138650 : H138635 r0 3 = (r138599 : Int) := k138649.trans q138600
      refine wp_of e246 c246_39 (xc_V (pc' := 42) (r := r0) (as := [vI (-1), vI 0]) (st := [.ref r0]) (lm_9_440) rfl rfl (Nat.le_of_ble_eq_true rfl) w138639 g0 sh_42 (by decide) rfl (by decide) (s_247 w138639 g0 ⟨by omega, by omega⟩ ⟨by omega, by omega⟩ q138650 g138601 (by omega)) (fun R138651 T138652 H138653 p138654 => ?_))
      obtain ⟨e138655, w138657, f138658, z138660, e138656, b138661, p138659⟩ := p138654
      subst e138655
      subst e138656
      have f138662 := f138647.tr f138658 rfl
      show wp _ _ 246 42 [(1, vI z138645), (0, .ref r0)] [vL z138660, .ref r0] _ H138653 _
      refine wp_of e246 c246_42 (xc_V (pc' := 45) (r := r0) (as := [vL z138660]) (st := []) (lm_9_380) rfl rfl (Nat.le_of_ble_eq_true rfl) w138657 g0 sh_42 (by decide) rfl (by decide) (s_221 w138657 g0 ⟨by omega, by omega⟩) (fun R138663 T138664 H138665 p138666 => ?_))
      obtain ⟨e138667, w138669, f138670, z138672, e138668, b138673, p138671⟩ := p138666
      subst e138667
      subst e138668
      have f138674 := f138662.tr f138670 rfl
      show wp _ _ 246 45 [(1, vI z138645), (0, .ref r0)] [vL z138672] _ H138665 _
      have k138675 : wKI H138665 r0 = wKI H138635 r0 := ((wKI_fr w138657 g0 f138670 rfl).trans (wKI_fr w138639 g0 f138658 rfl))
      exact wp_lreturn e246 c246_45 rfl ⟨rfl, w138669, f138674, z138672, rfl, ⟨by omega, by omega⟩, by omega, by omega⟩
    · refine wp_of e246 c246_26 (rw_aload_n (pc' := 27) (v := .ref r0) rfl rfl rfl ?_)
      refine wp_of e246 c246_27 (rw_iload_n (pc' := 28) (z := z138645) rfl rfl ?_)
      refine wp_of e246 c246_28 (xc_V (pc' := 31) (r := r0) (as := [vI z138645]) (st := []) (lm_9_54) rfl rfl (Nat.le_of_ble_eq_true rfl) w138639 g0 sh_42 (by decide) rfl (by decide) (s_170 w138639 g0 ⟨by omega, by omega⟩) (fun R138676 T138677 H138678 p138679 => ?_))
      obtain ⟨e138680, w138682, f138683, z138685, e138681, b138686, p138684⟩ := p138679
      subst e138680
      subst e138681
      have f138687 := f138647.tr f138683 rfl
      show wp _ _ 246 31 [(1, vI z138645), (0, .ref r0)] [vI z138685] _ H138678 _
      refine wp_of e246 c246_31 (rw_i2l (pc' := 32) rfl ⟨by omega, by omega⟩ ?_)
      refine wp_of e246 c246_32 (rw_goto (p1 := 45) (by decide) ?_)
      have k138688 : wKI H138678 r0 = wKI H138635 r0 := (wKI_fr w138639 g0 f138683 rfl)
      exact wp_lreturn e246 c246_45 rfl ⟨rfl, w138682, f138687, z138685, rfl, ⟨by omega, by omega⟩, by omega, by omega⟩
