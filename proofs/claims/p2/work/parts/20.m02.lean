/-! methods (own work, written by wip/gen2/sx.py) -/
/-! StrikeAwake$Reader.knownPerson(LStrikeAwake$Parish;)I -/
theorem e33 : wq_en 33 = some (1, 3, false, some FieldType.int) := rfl
theorem c33_0 : mc_cd 33 0 = some (.aload_n 0, 1) := by decide +kernel
theorem c33_1 : mc_cd 33 1 = some (.invokevirtual 131, 3) := by decide +kernel
theorem c33_4 : mc_cd 33 4 = some (.ifCond .ne 11, 3) := by decide +kernel
theorem c33_7 : mc_cd 33 7 = some (.aload_n 0, 1) := by decide +kernel
theorem c33_8 : mc_cd 33 8 = some (.iconst 1, 1) := by decide +kernel
theorem c33_9 : mc_cd 33 9 = some (.invokevirtual 47, 3) := by decide +kernel
theorem c33_12 : mc_cd 33 12 = some (.pop, 1) := by decide +kernel
theorem c33_13 : mc_cd 33 13 = some (.iconst (-1), 1) := by decide +kernel
theorem c33_14 : mc_cd 33 14 = some (.ireturn, 1) := by decide +kernel
theorem c33_15 : mc_cd 33 15 = some (.aload_n 1, 1) := by decide +kernel
theorem c33_16 : mc_cd 33 16 = some (.aload_n 0, 1) := by decide +kernel
theorem c33_17 : mc_cd 33 17 = some (.getfield 12, 3) := by decide +kernel
theorem c33_20 : mc_cd 33 20 = some (.getfield 135, 3) := by decide +kernel
theorem c33_23 : mc_cd 33 23 = some (.invokevirtual 139, 3) := by decide +kernel
theorem c33_26 : mc_cd 33 26 = some (.istore_n 2, 1) := by decide +kernel
theorem c33_27 : mc_cd 33 27 = some (.iload_n 2, 1) := by decide +kernel
theorem c33_28 : mc_cd 33 28 = some (.ifCond .ge 9, 3) := by decide +kernel
theorem c33_31 : mc_cd 33 31 = some (.aload_n 0, 1) := by decide +kernel
theorem c33_32 : mc_cd 33 32 = some (.iconst 2, 1) := by decide +kernel
theorem c33_33 : mc_cd 33 33 = some (.invokevirtual 47, 3) := by decide +kernel
theorem c33_36 : mc_cd 33 36 = some (.pop, 1) := by decide +kernel
theorem c33_37 : mc_cd 33 37 = some (.iload_n 2, 1) := by decide +kernel
theorem c33_38 : mc_cd 33 38 = some (.ireturn, 1) := by decide +kernel
abbrev q_33 (r0 : Nat) (r1 : Nat) (tk : Nat) (rb : Nat) (T : wq_T) (H : wq_H) : Option Value → wq_T → wq_H → Prop := fun r T' H' => T = T' ∧ WT T H' ∧ wfr [(3, 3), (3, 4)] T H H' ∧ ∃ z : Int, some (vI z) = r ∧ ((-1) ≤ z ∧ z ≤ 5)
set_option maxHeartbeats 4000000 in
theorem s_33 {kt : Nat → Option mc_E} {T : wq_T} {H : wq_H} {r0 : Nat} {r1 : Nat} {tk : Nat} {rb : Nat} (hW : WT T H) (g0 : T.2.2.2 r0 = some 3) (g1 : T.2.2.2 r1 = some 27) (qtk : H r0 0 = (tk : Int)) (gtk : T.2.2.2 tk = some 4) (qrb : H tk 0 = (rb : Int)) (grb : T.2.2.2 rb = some 2) : wpc kt 4 33 [.ref r0, .ref r1] T H (q_33 r0 r1 tk rb T H) := by
  refine wp_enter e33 (Nat.le_of_ble_eq_true rfl) rfl ?_
  have f0 : wfr [(3, 3), (3, 4)] T H H := wfr.rf
  show wp _ _ 33 0 [(0, .ref r0), (1, .ref r1)] [] _ H _
  refine wp_of e33 c33_0 (rw_aload_n (pc' := 1) (v := .ref r0) rfl rfl rfl ?_)
  refine wp_of e33 c33_1 (xc_V (pc' := 4) (r := r0) (as := []) (st := []) (lm_1_131) rfl rfl (Nat.le_of_ble_eq_true rfl) hW g0 sh_3 (by decide) rfl (by decide) (s_26 hW g0) (fun R9873 T9874 H9875 p9876 => ?_))
  obtain ⟨e9877, e9879, z9880, e9878, b9881⟩ := p9876
  subst e9877
  subst e9878
  subst e9879
  show wp _ _ 33 4 [(0, .ref r0), (1, .ref r1)] [vI z9880] _ H _
  refine wp_of e33 c33_4 (rw_if_ne (p1 := 15) (p2 := 7) (by decide) rfl ⟨by omega, by omega⟩ (fun c9882 => ?_) (fun c9882 => ?_))
  · refine wp_of e33 c33_15 (rw_aload_n (pc' := 16) (v := .ref r1) rfl rfl rfl ?_)
    refine wp_of e33 c33_16 (rw_aload_n (pc' := 17) (v := .ref r0) rfl rfl rfl ?_)
    refine wp_of e33 c33_17 (xg_K (pc' := 20) lf_1_12 hW g0 sh_3 (by decide) (by decide) rfl qtk rfl ?_)
    refine wp_of e33 c33_20 (xg_L (pc' := 23) lf_1_135 hW gtk sh_4 (by decide) (by decide) ty_4_6 rfl rfl (fun b9883 b9884 => ?_))
    refine wp_of e33 c33_23 (xc_V (pc' := 26) (r := r1) (as := [vL (H tk 6)]) (st := []) (lm_1_139) rfl rfl (Nat.le_of_ble_eq_true rfl) hW g1 sh_27 (by decide) rfl (by decide) (s_27 hW g1 ⟨by omega, by omega⟩) (fun R9885 T9886 H9887 p9888 => ?_))
    obtain ⟨e9889, e9891, z9892, e9890, b9893⟩ := p9888
    subst e9889
    subst e9890
    subst e9891
    show wp _ _ 33 26 [(0, .ref r0), (1, .ref r1)] [vI z9892] _ H _
    refine wp_of e33 c33_26 (rw_istore_n (pc' := 27) (z := z9892) (L' := [(2, vI z9892), (0, .ref r0), (1, .ref r1)]) rfl rfl rfl ?_)
    refine wp_of e33 c33_27 (rw_iload_n (pc' := 28) (z := z9892) rfl rfl ?_)
    refine wp_of e33 c33_28 (rw_if_ge (p1 := 37) (p2 := 31) (by decide) rfl ⟨by omega, by omega⟩ (fun c9894 => ?_) (fun c9894 => ?_))
    · refine wp_of e33 c33_37 (rw_iload_n (pc' := 38) (z := z9892) rfl rfl ?_)
      exact wp_ireturn e33 c33_38 rfl ⟨rfl, hW, f0, z9892, rfl, ⟨by omega, by omega⟩⟩
    · refine wp_of e33 c33_31 (rw_aload_n (pc' := 32) (v := .ref r0) rfl rfl rfl ?_)
      refine wp_of e33 c33_32 (rw_iconst (pc' := 33) rfl ?_)
      refine wp_of e33 c33_33 (xc_V (pc' := 36) (r := r0) (as := [vI 2]) (st := []) (lm_1_47) rfl rfl (Nat.le_of_ble_eq_true rfl) hW g0 sh_3 (by decide) rfl (by decide) (s_20 hW g0 ⟨by omega, by omega⟩) (fun R9895 T9896 H9897 p9898 => ?_))
      obtain ⟨e9899, w9901, f9902, z9903, e9900, b9904⟩ := p9898
      subst e9899
      subst e9900
      have f9905 := f0.tr f9902 rfl
      show wp _ _ 33 36 [(2, vI z9892), (0, .ref r0), (1, .ref r1)] [vI z9903] _ H9897 _
      refine wp_of e33 c33_36 (rw_pop (pc' := 37) rfl rfl ?_)
      refine wp_of e33 c33_37 (rw_iload_n (pc' := 38) (z := z9892) rfl rfl ?_)
      exact wp_ireturn e33 c33_38 rfl ⟨rfl, w9901, f9905, z9892, rfl, ⟨by omega, by omega⟩⟩
  · refine wp_of e33 c33_7 (rw_aload_n (pc' := 8) (v := .ref r0) rfl rfl rfl ?_)
    refine wp_of e33 c33_8 (rw_iconst (pc' := 9) rfl ?_)
    refine wp_of e33 c33_9 (xc_V (pc' := 12) (r := r0) (as := [vI 1]) (st := []) (lm_1_47) rfl rfl (Nat.le_of_ble_eq_true rfl) hW g0 sh_3 (by decide) rfl (by decide) (s_20 hW g0 ⟨by omega, by omega⟩) (fun R9906 T9907 H9908 p9909 => ?_))
    obtain ⟨e9910, w9912, f9913, z9914, e9911, b9915⟩ := p9909
    subst e9910
    subst e9911
    have f9916 := f0.tr f9913 rfl
    show wp _ _ 33 12 [(0, .ref r0), (1, .ref r1)] [vI z9914] _ H9908 _
    refine wp_of e33 c33_12 (rw_pop (pc' := 13) rfl rfl ?_)
    refine wp_of e33 c33_13 (rw_iconst (pc' := 14) rfl ?_)
    exact wp_ireturn e33 c33_14 rfl ⟨rfl, w9912, f9916, -1, rfl, ⟨by omega, by omega⟩⟩
/-! StrikeAwake$Reader.readsSexton(LStrikeAwake$Parish;)Z -/
theorem e32 : wq_en 32 = some (1, 3, false, some FieldType.boolean) := rfl
theorem c32_0 : mc_cd 32 0 = some (.aload_n 0, 1) := by decide +kernel
theorem c32_1 : mc_cd 32 1 = some (.aload_n 1, 1) := by decide +kernel
theorem c32_2 : mc_cd 32 2 = some (.invokevirtual 207, 3) := by decide +kernel
theorem c32_5 : mc_cd 32 5 = some (.istore_n 2, 1) := by decide +kernel
theorem c32_6 : mc_cd 32 6 = some (.iload_n 2, 1) := by decide +kernel
theorem c32_7 : mc_cd 32 7 = some (.ifCond .ge 5, 3) := by decide +kernel
theorem c32_10 : mc_cd 32 10 = some (.iconst 0, 1) := by decide +kernel
theorem c32_11 : mc_cd 32 11 = some (.ireturn, 1) := by decide +kernel
theorem c32_12 : mc_cd 32 12 = some (.aload_n 0, 1) := by decide +kernel
theorem c32_13 : mc_cd 32 13 = some (.getfield 12, 3) := by decide +kernel
theorem c32_16 : mc_cd 32 16 = some (.invokevirtual 74, 3) := by decide +kernel
theorem c32_19 : mc_cd 32 19 = some (.aload_n 1, 1) := by decide +kernel
theorem c32_20 : mc_cd 32 20 = some (.iload_n 2, 1) := by decide +kernel
theorem c32_21 : mc_cd 32 21 = some (.putfield 211, 3) := by decide +kernel
theorem c32_24 : mc_cd 32 24 = some (.iconst 1, 1) := by decide +kernel
theorem c32_25 : mc_cd 32 25 = some (.ireturn, 1) := by decide +kernel
abbrev q_32 (r0 : Nat) (r1 : Nat) (tk : Nat) (rb : Nat) (T : wq_T) (H : wq_H) : Option Value → wq_T → wq_H → Prop := fun r T' H' => T = T' ∧ WT T H' ∧ wfr [(27, 15), (3, 3), (3, 4), (4, 2), (4, 3), (4, 4), (4, 5), (4, 6)] T H H' ∧ ∃ z : Int, some (vI z) = r ∧ (0 ≤ z ∧ z ≤ 1)
set_option maxHeartbeats 4000000 in
theorem s_32 {kt : Nat → Option mc_E} {T : wq_T} {H : wq_H} {r0 : Nat} {r1 : Nat} {tk : Nat} {rb : Nat} (hW : WT T H) (g0 : T.2.2.2 r0 = some 3) (g1 : T.2.2.2 r1 = some 27) (qtk : H r0 0 = (tk : Int)) (gtk : T.2.2.2 tk = some 4) (qrb : H tk 0 = (rb : Int)) (grb : T.2.2.2 rb = some 2) : wpc kt 5 32 [.ref r0, .ref r1] T H (q_32 r0 r1 tk rb T H) := by
  refine wp_enter e32 (Nat.le_of_ble_eq_true rfl) rfl ?_
  have f0 : wfr [(27, 15), (3, 3), (3, 4), (4, 2), (4, 3), (4, 4), (4, 5), (4, 6)] T H H := wfr.rf
  show wp _ _ 32 0 [(0, .ref r0), (1, .ref r1)] [] _ H _
  refine wp_of e32 c32_0 (rw_aload_n (pc' := 1) (v := .ref r0) rfl rfl rfl ?_)
  refine wp_of e32 c32_1 (rw_aload_n (pc' := 2) (v := .ref r1) rfl rfl rfl ?_)
  refine wp_of e32 c32_2 (xc_V (pc' := 5) (r := r0) (as := [.ref r1]) (st := []) (lm_1_207) rfl rfl (Nat.le_of_ble_eq_true rfl) hW g0 sh_3 (by decide) rfl (by decide) (s_33 hW g0 g1 qtk gtk qrb grb) (fun R9947 T9948 H9949 p9950 => ?_))
  obtain ⟨e9951, w9953, f9954, z9955, e9952, b9956⟩ := p9950
  subst e9951
  subst e9952
  have f9957 := f0.tr f9954 rfl
  show wp _ _ 32 5 [(0, .ref r0), (1, .ref r1)] [vI z9955] _ H9949 _
  refine wp_of e32 c32_5 (rw_istore_n (pc' := 6) (z := z9955) (L' := [(2, vI z9955), (0, .ref r0), (1, .ref r1)]) rfl rfl rfl ?_)
  refine wp_of e32 c32_6 (rw_iload_n (pc' := 7) (z := z9955) rfl rfl ?_)
  refine wp_of e32 c32_7 (rw_if_ge (p1 := 12) (p2 := 10) (by decide) rfl ⟨by omega, by omega⟩ (fun c9958 => ?_) (fun c9958 => ?_))
  · refine wp_of e32 c32_12 (rw_aload_n (pc' := 13) (v := .ref r0) rfl rfl rfl ?_)
    have k9959 : H9949 r0 0 = H r0 0 := (f9954 r0 0 _ g0 rfl)
    have q9960 : H9949 r0 0 = (tk : Int) := k9959.trans qtk
    refine wp_of e32 c32_13 (xg_K (pc' := 16) lf_1_12 w9953 g0 sh_3 (by decide) (by decide) rfl q9960 rfl ?_)
    have k9961 : H9949 tk 0 = H tk 0 := (f9954 tk 0 _ gtk rfl)
    have q9962 : H9949 tk 0 = (rb : Int) := k9961.trans qrb
    refine wp_of e32 c32_16 (xc_V (pc' := 19) (r := tk) (as := []) (st := []) (lm_1_74) rfl rfl (Nat.le_of_ble_eq_true rfl) w9953 gtk sh_4 (by decide) rfl (by decide) (s_16 w9953 gtk q9962 grb) (fun R9963 T9964 H9965 p9966 => ?_))
    obtain ⟨e9967, w9969, f9970, e9968⟩ := p9966
    subst e9967
    subst e9968
    have f9971 := f9957.tr f9970 rfl
    show wp _ _ 32 19 [(2, vI z9955), (0, .ref r0), (1, .ref r1)] [] _ H9965 _
    refine wp_of e32 c32_19 (rw_aload_n (pc' := 20) (v := .ref r1) rfl rfl rfl ?_)
    refine wp_of e32 c32_20 (rw_iload_n (pc' := 21) (z := z9955) rfl rfl ?_)
    refine wp_of e32 c32_21 (xp_I (pc' := 24) lf_1_211 w9969 g1 sh_27 (by decide) (by decide) ty_27_15 rfl rfl (by omega) (by omega) ⟨by omega, by omega⟩ rfl (fun H9972 e9973 w9974 => ?_))
    have f9975 := f9971.put' e9973 g1 rfl
    have k9976 : H9972 r1 15 = z9955 := wq_u_s e9973
    refine wp_of e32 c32_24 (rw_iconst (pc' := 25) rfl ?_)
    exact wp_zreturn e32 c32_25 rfl (by omega) ⟨rfl, w9974, f9975, 1, rfl, ⟨by omega, by omega⟩⟩
  · refine wp_of e32 c32_10 (rw_iconst (pc' := 11) rfl ?_)
    exact wp_zreturn e32 c32_11 rfl (by omega) ⟨rfl, w9953, f9957, 0, rfl, ⟨by omega, by omega⟩⟩
/-! StrikeAwake$Reader.takes(I)Z -/
theorem e35 : wq_en 35 = some (1, 2, false, some FieldType.boolean) := rfl
theorem c35_0 : mc_cd 35 0 = some (.aload_n 0, 1) := by decide +kernel
theorem c35_1 : mc_cd 35 1 = some (.getfield 12, 3) := by decide +kernel
theorem c35_4 : mc_cd 35 4 = some (.getfield 38, 3) := by decide +kernel
theorem c35_7 : mc_cd 35 7 = some (.iload_n 1, 1) := by decide +kernel
theorem c35_8 : mc_cd 35 8 = some (.if_icmp .eq 9, 3) := by decide +kernel
theorem c35_11 : mc_cd 35 11 = some (.aload_n 0, 1) := by decide +kernel
theorem c35_12 : mc_cd 35 12 = some (.iconst 1, 1) := by decide +kernel
theorem c35_13 : mc_cd 35 13 = some (.invokevirtual 47, 3) := by decide +kernel
theorem c35_16 : mc_cd 35 16 = some (.ireturn, 1) := by decide +kernel
theorem c35_17 : mc_cd 35 17 = some (.aload_n 0, 1) := by decide +kernel
theorem c35_18 : mc_cd 35 18 = some (.getfield 12, 3) := by decide +kernel
theorem c35_21 : mc_cd 35 21 = some (.invokevirtual 74, 3) := by decide +kernel
theorem c35_24 : mc_cd 35 24 = some (.iconst 1, 1) := by decide +kernel
theorem c35_25 : mc_cd 35 25 = some (.ireturn, 1) := by decide +kernel
abbrev q_35 (r0 : Nat) (a1 : Int) (tk : Nat) (rb : Nat) (T : wq_T) (H : wq_H) : Option Value → wq_T → wq_H → Prop := fun r T' H' => T = T' ∧ WT T H' ∧ wfr [(3, 3), (3, 4), (4, 2), (4, 3), (4, 4), (4, 5), (4, 6)] T H H' ∧ ∃ z : Int, some (vI z) = r ∧ (0 ≤ z ∧ z ≤ 1)
set_option maxHeartbeats 4000000 in
theorem s_35 {kt : Nat → Option mc_E} {T : wq_T} {H : wq_H} {r0 : Nat} {a1 : Int} {tk : Nat} {rb : Nat} (hW : WT T H) (g0 : T.2.2.2 r0 = some 3) (i1 : (-2147483648) ≤ a1 ∧ a1 ≤ 2147483647) (qtk : H r0 0 = (tk : Int)) (gtk : T.2.2.2 tk = some 4) (qrb : H tk 0 = (rb : Int)) (grb : T.2.2.2 rb = some 2) : wpc kt 2 35 [.ref r0, vI a1] T H (q_35 r0 a1 tk rb T H) := by
  refine wp_enter e35 (Nat.le_of_ble_eq_true rfl) rfl ?_
  have f0 : wfr [(3, 3), (3, 4), (4, 2), (4, 3), (4, 4), (4, 5), (4, 6)] T H H := wfr.rf
  show wp _ _ 35 0 [(0, .ref r0), (1, vI a1)] [] _ H _
  refine wp_of e35 c35_0 (rw_aload_n (pc' := 1) (v := .ref r0) rfl rfl rfl ?_)
  refine wp_of e35 c35_1 (xg_K (pc' := 4) lf_1_12 hW g0 sh_3 (by decide) (by decide) rfl qtk rfl ?_)
  refine wp_of e35 c35_4 (xg_I (pc' := 7) lf_1_38 hW gtk sh_4 (by decide) (by decide) ty_4_3 rfl rfl (fun b10000 b10001 => ?_))
  refine wp_of e35 c35_7 (rw_iload_n (pc' := 8) (z := a1) rfl rfl ?_)
  refine wp_of e35 c35_8 (rw_icmp_eq (p1 := 17) (p2 := 11) (by decide) rfl ⟨by omega, by omega⟩ ⟨by omega, by omega⟩ (fun c10002 => ?_) (fun c10002 => ?_))
  · refine wp_of e35 c35_17 (rw_aload_n (pc' := 18) (v := .ref r0) rfl rfl rfl ?_)
    refine wp_of e35 c35_18 (xg_K (pc' := 21) lf_1_12 hW g0 sh_3 (by decide) (by decide) rfl qtk rfl ?_)
    refine wp_of e35 c35_21 (xc_V (pc' := 24) (r := tk) (as := []) (st := []) (lm_1_74) rfl rfl (Nat.le_of_ble_eq_true rfl) hW gtk sh_4 (by decide) rfl (by decide) (s_16 hW gtk qrb grb) (fun R10003 T10004 H10005 p10006 => ?_))
    obtain ⟨e10007, w10009, f10010, e10008⟩ := p10006
    subst e10007
    subst e10008
    have f10011 := f0.tr f10010 rfl
    show wp _ _ 35 24 [(0, .ref r0), (1, vI a1)] [] _ H10005 _
    refine wp_of e35 c35_24 (rw_iconst (pc' := 25) rfl ?_)
    exact wp_zreturn e35 c35_25 rfl (by omega) ⟨rfl, w10009, f10011, 1, rfl, ⟨by omega, by omega⟩⟩
  · refine wp_of e35 c35_11 (rw_aload_n (pc' := 12) (v := .ref r0) rfl rfl rfl ?_)
    refine wp_of e35 c35_12 (rw_iconst (pc' := 13) rfl ?_)
    refine wp_of e35 c35_13 (xc_V (pc' := 16) (r := r0) (as := [vI 1]) (st := []) (lm_1_47) rfl rfl (Nat.le_of_ble_eq_true rfl) hW g0 sh_3 (by decide) rfl (by decide) (s_20 hW g0 ⟨by omega, by omega⟩) (fun R10012 T10013 H10014 p10015 => ?_))
    obtain ⟨e10016, w10018, f10019, z10020, e10017, b10021⟩ := p10015
    subst e10016
    subst e10017
    have f10022 := f0.tr f10019 rfl
    show wp _ _ 35 16 [(0, .ref r0), (1, vI a1)] [vI z10020] _ H10014 _
    exact wp_zreturn e35 c35_16 rfl (by omega) ⟨rfl, w10018, f10022, z10020, rfl, ⟨by omega, by omega⟩⟩
/-! StrikeAwake.hasBit(II)Z -/
theorem e36 : wq_en 36 = some (0, 2, false, some FieldType.boolean) := rfl
theorem c36_0 : mc_cd 36 0 = some (.iload_n 0, 1) := by decide +kernel
theorem c36_1 : mc_cd 36 1 = some (.iload_n 1, 1) := by decide +kernel
theorem c36_2 : mc_cd 36 2 = some (.ishr, 1) := by decide +kernel
theorem c36_3 : mc_cd 36 3 = some (.iconst 1, 1) := by decide +kernel
theorem c36_4 : mc_cd 36 4 = some (.iand, 1) := by decide +kernel
theorem c36_5 : mc_cd 36 5 = some (.ifCond .eq 7, 3) := by decide +kernel
theorem c36_8 : mc_cd 36 8 = some (.iconst 1, 1) := by decide +kernel
theorem c36_9 : mc_cd 36 9 = some (.goto 4, 3) := by decide +kernel
theorem c36_12 : mc_cd 36 12 = some (.iconst 0, 1) := by decide +kernel
theorem c36_13 : mc_cd 36 13 = some (.ireturn, 1) := by decide +kernel
abbrev q_36 (a0 : Int) (a1 : Int) (T : wq_T) (H : wq_H) : Option Value → wq_T → wq_H → Prop := fun r T' H' => T = T' ∧ H = H' ∧ ∃ z : Int, some (vI z) = r ∧ (0 ≤ z ∧ z ≤ 1)
set_option maxHeartbeats 4000000 in
theorem s_36 {kt : Nat → Option mc_E} {T : wq_T} {H : wq_H} {a0 : Int} {a1 : Int} (hW : WT T H) (i0 : (-2147483648) ≤ a0 ∧ a0 ≤ 2147483647) (i1 : (-2147483648) ≤ a1 ∧ a1 ≤ 2147483647) : wpc kt 1 36 [vI a0, vI a1] T H (q_36 a0 a1 T H) := by
  refine wp_enter e36 (Nat.le_of_ble_eq_true rfl) rfl ?_
  show wp _ _ 36 0 [(0, vI a0), (1, vI a1)] [] _ H _
  refine wp_of e36 c36_0 (rw_iload_n (pc' := 1) (z := a0) rfl rfl ?_)
  refine wp_of e36 c36_1 (rw_iload_n (pc' := 2) (z := a1) rfl rfl ?_)
  refine wp_of e36 c36_2 (rw_ishr (pc' := 3) rfl ?_)
  obtain ⟨v10028, e10029⟩ : ∃ x : Int, x = wq_shr a0 a1 := ⟨_, rfl⟩
  rw [← e10029]
  have b10030 : -2147483648 ≤ v10028 ∧ v10028 ≤ 2147483647 := by
    rw [e10029]
    exact wI_shr _ _
  refine wp_of e36 c36_3 (rw_iconst (pc' := 4) rfl ?_)
  refine wp_of e36 c36_4 (rw_iand (pc' := 5) rfl ?_)
  obtain ⟨v10031, e10032⟩ : ∃ x : Int, x = wq_and v10028 1 := ⟨_, rfl⟩
  rw [← e10032]
  have b10033 : 0 ≤ v10031 ∧ v10031 ≤ 1 := by
    rw [e10032]
    exact wq_and_b _ (by omega) (by omega)
  refine wp_of e36 c36_5 (rw_if_eq (p1 := 12) (p2 := 8) (by decide) rfl ⟨by omega, by omega⟩ (fun c10034 => ?_) (fun c10034 => ?_))
  · refine wp_of e36 c36_12 (rw_iconst (pc' := 13) rfl ?_)
    exact wp_zreturn e36 c36_13 rfl (by omega) ⟨rfl, rfl, 0, rfl, ⟨by omega, by omega⟩⟩
  · refine wp_of e36 c36_8 (rw_iconst (pc' := 9) rfl ?_)
    refine wp_of e36 c36_9 (rw_goto (p1 := 13) (by decide) ?_)
    exact wp_zreturn e36 c36_13 rfl (by omega) ⟨rfl, rfl, 1, rfl, ⟨by omega, by omega⟩⟩
/-! StrikeAwake$Reader.readsApart(LStrikeAwake$Parish;)Z -/
theorem e34 : wq_en 34 = some (1, 4, false, some FieldType.boolean) := rfl
theorem c34_0 : mc_cd 34 0 = some (.aload_n 0, 1) := by decide +kernel
theorem c34_1 : mc_cd 34 1 = some (.aload_n 1, 1) := by decide +kernel
theorem c34_2 : mc_cd 34 2 = some (.invokevirtual 207, 3) := by decide +kernel
theorem c34_5 : mc_cd 34 5 = some (.istore_n 2, 1) := by decide +kernel
theorem c34_6 : mc_cd 34 6 = some (.iload_n 2, 1) := by decide +kernel
theorem c34_7 : mc_cd 34 7 = some (.ifCond .ge 5, 3) := by decide +kernel
theorem c34_10 : mc_cd 34 10 = some (.iconst 0, 1) := by decide +kernel
theorem c34_11 : mc_cd 34 11 = some (.ireturn, 1) := by decide +kernel
theorem c34_12 : mc_cd 34 12 = some (.aload_n 0, 1) := by decide +kernel
theorem c34_13 : mc_cd 34 13 = some (.getfield 12, 3) := by decide +kernel
theorem c34_16 : mc_cd 34 16 = some (.invokevirtual 74, 3) := by decide +kernel
theorem c34_19 : mc_cd 34 19 = some (.aload_n 0, 1) := by decide +kernel
theorem c34_20 : mc_cd 34 20 = some (.iconst 4, 1) := by decide +kernel
theorem c34_21 : mc_cd 34 21 = some (.invokevirtual 51, 3) := by decide +kernel
theorem c34_24 : mc_cd 34 24 = some (.ifCond .ne 5, 3) := by decide +kernel
theorem c34_27 : mc_cd 34 27 = some (.iconst 0, 1) := by decide +kernel
theorem c34_28 : mc_cd 34 28 = some (.ireturn, 1) := by decide +kernel
theorem c34_29 : mc_cd 34 29 = some (.aload_n 0, 1) := by decide +kernel
theorem c34_30 : mc_cd 34 30 = some (.aload_n 1, 1) := by decide +kernel
theorem c34_31 : mc_cd 34 31 = some (.invokevirtual 207, 3) := by decide +kernel
theorem c34_34 : mc_cd 34 34 = some (.istore_n 3, 1) := by decide +kernel
theorem c34_35 : mc_cd 34 35 = some (.iload_n 3, 1) := by decide +kernel
theorem c34_36 : mc_cd 34 36 = some (.ifCond .ge 5, 3) := by decide +kernel
theorem c34_39 : mc_cd 34 39 = some (.iconst 0, 1) := by decide +kernel
theorem c34_40 : mc_cd 34 40 = some (.ireturn, 1) := by decide +kernel
theorem c34_41 : mc_cd 34 41 = some (.iload_n 3, 1) := by decide +kernel
theorem c34_42 : mc_cd 34 42 = some (.iload_n 2, 1) := by decide +kernel
theorem c34_43 : mc_cd 34 43 = some (.if_icmp .eq 19, 3) := by decide +kernel
theorem c34_46 : mc_cd 34 46 = some (.aload_n 1, 1) := by decide +kernel
theorem c34_47 : mc_cd 34 47 = some (.getfield 143, 3) := by decide +kernel
theorem c34_50 : mc_cd 34 50 = some (.iload_n 2, 1) := by decide +kernel
theorem c34_51 : mc_cd 34 51 = some (.aaload, 1) := by decide +kernel
theorem c34_52 : mc_cd 34 52 = some (.getfield 214, 3) := by decide +kernel
theorem c34_55 : mc_cd 34 55 = some (.iload_n 3, 1) := by decide +kernel
theorem c34_56 : mc_cd 34 56 = some (.invokestatic 217, 3) := by decide +kernel
theorem c34_59 : mc_cd 34 59 = some (.ifCond .eq 9, 3) := by decide +kernel
theorem c34_62 : mc_cd 34 62 = some (.aload_n 0, 1) := by decide +kernel
theorem c34_63 : mc_cd 34 63 = some (.iconst 3, 1) := by decide +kernel
theorem c34_64 : mc_cd 34 64 = some (.invokevirtual 47, 3) := by decide +kernel
theorem c34_67 : mc_cd 34 67 = some (.ireturn, 1) := by decide +kernel
theorem c34_68 : mc_cd 34 68 = some (.aload_n 0, 1) := by decide +kernel
theorem c34_69 : mc_cd 34 69 = some (.getfield 12, 3) := by decide +kernel
theorem c34_72 : mc_cd 34 72 = some (.invokevirtual 74, 3) := by decide +kernel
theorem c34_75 : mc_cd 34 75 = some (.aload_n 1, 1) := by decide +kernel
theorem c34_76 : mc_cd 34 76 = some (.getfield 143, 3) := by decide +kernel
theorem c34_79 : mc_cd 34 79 = some (.iload_n 2, 1) := by decide +kernel
theorem c34_80 : mc_cd 34 80 = some (.aaload, 1) := by decide +kernel
theorem c34_81 : mc_cd 34 81 = some (.dup, 1) := by decide +kernel
theorem c34_82 : mc_cd 34 82 = some (.getfield 214, 3) := by decide +kernel
theorem c34_85 : mc_cd 34 85 = some (.iconst 1, 1) := by decide +kernel
theorem c34_86 : mc_cd 34 86 = some (.iload_n 3, 1) := by decide +kernel
theorem c34_87 : mc_cd 34 87 = some (.ishl, 1) := by decide +kernel
theorem c34_88 : mc_cd 34 88 = some (.ior, 1) := by decide +kernel
theorem c34_89 : mc_cd 34 89 = some (.putfield 214, 3) := by decide +kernel
theorem c34_92 : mc_cd 34 92 = some (.aload_n 1, 1) := by decide +kernel
theorem c34_93 : mc_cd 34 93 = some (.getfield 143, 3) := by decide +kernel
theorem c34_96 : mc_cd 34 96 = some (.iload_n 3, 1) := by decide +kernel
theorem c34_97 : mc_cd 34 97 = some (.aaload, 1) := by decide +kernel
theorem c34_98 : mc_cd 34 98 = some (.dup, 1) := by decide +kernel
theorem c34_99 : mc_cd 34 99 = some (.getfield 214, 3) := by decide +kernel
theorem c34_102 : mc_cd 34 102 = some (.iconst 1, 1) := by decide +kernel
theorem c34_103 : mc_cd 34 103 = some (.iload_n 2, 1) := by decide +kernel
theorem c34_104 : mc_cd 34 104 = some (.ishl, 1) := by decide +kernel
theorem c34_105 : mc_cd 34 105 = some (.ior, 1) := by decide +kernel
theorem c34_106 : mc_cd 34 106 = some (.putfield 214, 3) := by decide +kernel
theorem c34_109 : mc_cd 34 109 = some (.aload_n 1, 1) := by decide +kernel
theorem c34_110 : mc_cd 34 110 = some (.dup, 1) := by decide +kernel
theorem c34_111 : mc_cd 34 111 = some (.getfield 221, 3) := by decide +kernel
theorem c34_114 : mc_cd 34 114 = some (.iconst 1, 1) := by decide +kernel
theorem c34_115 : mc_cd 34 115 = some (.iadd, 1) := by decide +kernel
theorem c34_116 : mc_cd 34 116 = some (.putfield 221, 3) := by decide +kernel
theorem c34_119 : mc_cd 34 119 = some (.iconst 1, 1) := by decide +kernel
theorem c34_120 : mc_cd 34 120 = some (.ireturn, 1) := by decide +kernel
abbrev q_34 (r0 : Nat) (r1 : Nat) (tk : Nat) (rb : Nat) (T : wq_T) (H : wq_H) : Option Value → wq_T → wq_H → Prop := fun r T' H' => T = T' ∧ WT T H' ∧ wfr [(27, 11), (35, 14), (3, 3), (3, 4), (4, 2), (4, 3), (4, 4), (4, 5), (4, 6)] T H H' ∧ ∃ z : Int, some (vI z) = r ∧ (0 ≤ z ∧ z ≤ 1)
set_option maxHeartbeats 4000000 in
theorem s_34 {kt : Nat → Option mc_E} {T : wq_T} {H : wq_H} {r0 : Nat} {r1 : Nat} {tk : Nat} {rb : Nat} (hW : WT T H) (g0 : T.2.2.2 r0 = some 3) (g1 : T.2.2.2 r1 = some 27) (qtk : H r0 0 = (tk : Int)) (gtk : T.2.2.2 tk = some 4) (qrb : H tk 0 = (rb : Int)) (grb : T.2.2.2 rb = some 2) : wpc kt 5 34 [.ref r0, .ref r1] T H (q_34 r0 r1 tk rb T H) := by
  refine wp_enter e34 (Nat.le_of_ble_eq_true rfl) rfl ?_
  have f0 : wfr [(27, 11), (35, 14), (3, 3), (3, 4), (4, 2), (4, 3), (4, 4), (4, 5), (4, 6)] T H H := wfr.rf
  show wp _ _ 34 0 [(0, .ref r0), (1, .ref r1)] [] _ H _
  refine wp_of e34 c34_0 (rw_aload_n (pc' := 1) (v := .ref r0) rfl rfl rfl ?_)
  refine wp_of e34 c34_1 (rw_aload_n (pc' := 2) (v := .ref r1) rfl rfl rfl ?_)
  refine wp_of e34 c34_2 (xc_V (pc' := 5) (r := r0) (as := [.ref r1]) (st := []) (lm_1_207) rfl rfl (Nat.le_of_ble_eq_true rfl) hW g0 sh_3 (by decide) rfl (by decide) (s_33 hW g0 g1 qtk gtk qrb grb) (fun R10187 T10188 H10189 p10190 => ?_))
  obtain ⟨e10191, w10193, f10194, z10195, e10192, b10196⟩ := p10190
  subst e10191
  subst e10192
  have f10197 := f0.tr f10194 rfl
  show wp _ _ 34 5 [(0, .ref r0), (1, .ref r1)] [vI z10195] _ H10189 _
  refine wp_of e34 c34_5 (rw_istore_n (pc' := 6) (z := z10195) (L' := [(2, vI z10195), (0, .ref r0), (1, .ref r1)]) rfl rfl rfl ?_)
  refine wp_of e34 c34_6 (rw_iload_n (pc' := 7) (z := z10195) rfl rfl ?_)
  refine wp_of e34 c34_7 (rw_if_ge (p1 := 12) (p2 := 10) (by decide) rfl ⟨by omega, by omega⟩ (fun c10198 => ?_) (fun c10198 => ?_))
  · refine wp_of e34 c34_12 (rw_aload_n (pc' := 13) (v := .ref r0) rfl rfl rfl ?_)
    have k10199 : H10189 r0 0 = H r0 0 := (f10194 r0 0 _ g0 rfl)
    have q10200 : H10189 r0 0 = (tk : Int) := k10199.trans qtk
    refine wp_of e34 c34_13 (xg_K (pc' := 16) lf_1_12 w10193 g0 sh_3 (by decide) (by decide) rfl q10200 rfl ?_)
    have k10201 : H10189 tk 0 = H tk 0 := (f10194 tk 0 _ gtk rfl)
    have q10202 : H10189 tk 0 = (rb : Int) := k10201.trans qrb
    refine wp_of e34 c34_16 (xc_V (pc' := 19) (r := tk) (as := []) (st := []) (lm_1_74) rfl rfl (Nat.le_of_ble_eq_true rfl) w10193 gtk sh_4 (by decide) rfl (by decide) (s_16 w10193 gtk q10202 grb) (fun R10203 T10204 H10205 p10206 => ?_))
    obtain ⟨e10207, w10209, f10210, e10208⟩ := p10206
    subst e10207
    subst e10208
    have f10211 := f10197.tr f10210 rfl
    show wp _ _ 34 19 [(2, vI z10195), (0, .ref r0), (1, .ref r1)] [] _ H10205 _
    refine wp_of e34 c34_19 (rw_aload_n (pc' := 20) (v := .ref r0) rfl rfl rfl ?_)
    refine wp_of e34 c34_20 (rw_iconst (pc' := 21) rfl ?_)
    have k10212 : H10205 r0 0 = H10189 r0 0 := (f10210 r0 0 _ g0 rfl)
    have q10213 : H10205 r0 0 = (tk : Int) := k10212.trans q10200
    have k10214 : H10205 tk 0 = H10189 tk 0 := (f10210 tk 0 _ gtk rfl)
    have q10215 : H10205 tk 0 = (rb : Int) := k10214.trans q10202
    refine wp_of e34 c34_21 (xc_V (pc' := 24) (r := r0) (as := [vI 4]) (st := []) (lm_1_51) rfl rfl (Nat.le_of_ble_eq_true rfl) w10209 g0 sh_3 (by decide) rfl (by decide) (s_35 w10209 g0 ⟨by omega, by omega⟩ q10213 gtk q10215 grb) (fun R10216 T10217 H10218 p10219 => ?_))
    obtain ⟨e10220, w10222, f10223, z10224, e10221, b10225⟩ := p10219
    subst e10220
    subst e10221
    have f10226 := f10211.tr f10223 rfl
    show wp _ _ 34 24 [(2, vI z10195), (0, .ref r0), (1, .ref r1)] [vI z10224] _ H10218 _
    refine wp_of e34 c34_24 (rw_if_ne (p1 := 29) (p2 := 27) (by decide) rfl ⟨by omega, by omega⟩ (fun c10227 => ?_) (fun c10227 => ?_))
    · refine wp_of e34 c34_29 (rw_aload_n (pc' := 30) (v := .ref r0) rfl rfl rfl ?_)
      refine wp_of e34 c34_30 (rw_aload_n (pc' := 31) (v := .ref r1) rfl rfl rfl ?_)
      have k10228 : H10218 r0 0 = H10205 r0 0 := (f10223 r0 0 _ g0 rfl)
      have q10229 : H10218 r0 0 = (tk : Int) := k10228.trans q10213
      have k10230 : H10218 tk 0 = H10205 tk 0 := (f10223 tk 0 _ gtk rfl)
      have q10231 : H10218 tk 0 = (rb : Int) := k10230.trans q10215
      refine wp_of e34 c34_31 (xc_V (pc' := 34) (r := r0) (as := [.ref r1]) (st := []) (lm_1_207) rfl rfl (Nat.le_of_ble_eq_true rfl) w10222 g0 sh_3 (by decide) rfl (by decide) (s_33 w10222 g0 g1 q10229 gtk q10231 grb) (fun R10232 T10233 H10234 p10235 => ?_))
      obtain ⟨e10236, w10238, f10239, z10240, e10237, b10241⟩ := p10235
      subst e10236
      subst e10237
      have f10242 := f10226.tr f10239 rfl
      show wp _ _ 34 34 [(2, vI z10195), (0, .ref r0), (1, .ref r1)] [vI z10240] _ H10234 _
      refine wp_of e34 c34_34 (rw_istore_n (pc' := 35) (z := z10240) (L' := [(3, vI z10240), (2, vI z10195), (0, .ref r0), (1, .ref r1)]) rfl rfl rfl ?_)
      refine wp_of e34 c34_35 (rw_iload_n (pc' := 36) (z := z10240) rfl rfl ?_)
      refine wp_of e34 c34_36 (rw_if_ge (p1 := 41) (p2 := 39) (by decide) rfl ⟨by omega, by omega⟩ (fun c10243 => ?_) (fun c10243 => ?_))
      · refine wp_of e34 c34_41 (rw_iload_n (pc' := 42) (z := z10240) rfl rfl ?_)
        refine wp_of e34 c34_42 (rw_iload_n (pc' := 43) (z := z10195) rfl rfl ?_)
        refine wp_of e34 c34_43 (rw_icmp_eq (p1 := 62) (p2 := 46) (by decide) rfl ⟨by omega, by omega⟩ ⟨by omega, by omega⟩ (fun c10244 => ?_) (fun c10244 => ?_))
        · refine wp_of e34 c34_62 (rw_aload_n (pc' := 63) (v := .ref r0) rfl rfl rfl ?_)
          refine wp_of e34 c34_63 (rw_iconst (pc' := 64) rfl ?_)
          refine wp_of e34 c34_64 (xc_V (pc' := 67) (r := r0) (as := [vI 3]) (st := []) (lm_1_47) rfl rfl (Nat.le_of_ble_eq_true rfl) w10238 g0 sh_3 (by decide) rfl (by decide) (s_20 w10238 g0 ⟨by omega, by omega⟩) (fun R10245 T10246 H10247 p10248 => ?_))
          obtain ⟨e10249, w10251, f10252, z10253, e10250, b10254⟩ := p10248
          subst e10249
          subst e10250
          have f10255 := f10242.tr f10252 rfl
          show wp _ _ 34 67 [(3, vI z10240), (2, vI z10195), (0, .ref r0), (1, .ref r1)] [vI z10253] _ H10247 _
          exact wp_zreturn e34 c34_67 rfl (by omega) ⟨rfl, w10251, f10255, z10253, rfl, ⟨by omega, by omega⟩⟩
        · refine wp_of e34 c34_46 (rw_aload_n (pc' := 47) (v := .ref r1) rfl rfl rfl ?_)
          refine wp_of e34 c34_47 (xg_R (pc' := 50) lf_1_143 w10238 g1 sh_27 (by decide) (by decide) ty_27_0 rfl rfl (fun r10256 q10257 g10258 => ?_))
          refine wp_of e34 c34_50 (rw_iload_n (pc' := 51) (z := z10195) rfl rfl ?_)
          refine wp_of e34 c34_51 (xa_R (pc' := 52) (by decide) w10238 g10258 sh_28 (by decide) (ty_28 _) (by omega) (by omega) rfl (fun r10259 q10260 g10261 => ?_))
          refine wp_of e34 c34_52 (xg_I (pc' := 55) lf_1_214 w10238 g10261 sh_35 (by decide) (by decide) ty_35_14 rfl rfl (fun b10262 b10263 => ?_))
          refine wp_of e34 c34_55 (rw_iload_n (pc' := 56) (z := z10240) rfl rfl ?_)
          refine wp_of e34 c34_56 (xc_S (pc' := 59) (as := [vI (H10234 r10259 14), vI z10240]) (st := []) (lm_1_217) rfl rfl (Nat.le_of_ble_eq_true rfl) rfl (by decide) (s_36 w10238 ⟨by omega, by omega⟩ ⟨by omega, by omega⟩) (fun R10264 T10265 H10266 p10267 => ?_))
          obtain ⟨e10268, e10270, z10271, e10269, b10272⟩ := p10267
          subst e10268
          subst e10269
          subst e10270
          show wp _ _ 34 59 [(3, vI z10240), (2, vI z10195), (0, .ref r0), (1, .ref r1)] [vI z10271] _ H10234 _
          refine wp_of e34 c34_59 (rw_if_eq (p1 := 68) (p2 := 62) (by decide) rfl ⟨by omega, by omega⟩ (fun c10273 => ?_) (fun c10273 => ?_))
          · refine wp_of e34 c34_68 (rw_aload_n (pc' := 69) (v := .ref r0) rfl rfl rfl ?_)
            have k10274 : H10234 r0 0 = H10218 r0 0 := (f10239 r0 0 _ g0 rfl)
            have q10275 : H10234 r0 0 = (tk : Int) := k10274.trans q10229
            refine wp_of e34 c34_69 (xg_K (pc' := 72) lf_1_12 w10238 g0 sh_3 (by decide) (by decide) rfl q10275 rfl ?_)
            have k10276 : H10234 tk 0 = H10218 tk 0 := (f10239 tk 0 _ gtk rfl)
            have q10277 : H10234 tk 0 = (rb : Int) := k10276.trans q10231
            refine wp_of e34 c34_72 (xc_V (pc' := 75) (r := tk) (as := []) (st := []) (lm_1_74) rfl rfl (Nat.le_of_ble_eq_true rfl) w10238 gtk sh_4 (by decide) rfl (by decide) (s_16 w10238 gtk q10277 grb) (fun R10278 T10279 H10280 p10281 => ?_))
            obtain ⟨e10282, w10284, f10285, e10283⟩ := p10281
            subst e10282
            subst e10283
            have f10286 := f10242.tr f10285 rfl
            show wp _ _ 34 75 [(3, vI z10240), (2, vI z10195), (0, .ref r0), (1, .ref r1)] [] _ H10280 _
            refine wp_of e34 c34_75 (rw_aload_n (pc' := 76) (v := .ref r1) rfl rfl rfl ?_)
            have k10287 : H10280 r1 0 = H10234 r1 0 := (f10285 r1 0 _ g1 rfl)
            have q10288 : H10280 r1 0 = (r10256 : Int) := k10287.trans q10257
            refine wp_of e34 c34_76 (xg_K (pc' := 79) lf_1_143 w10284 g1 sh_27 (by decide) (by decide) rfl q10288 rfl ?_)
            refine wp_of e34 c34_79 (rw_iload_n (pc' := 80) (z := z10195) rfl rfl ?_)
            have k10289 : H10280 r10256 (z10195.toNat) = H10234 r10256 (z10195.toNat) := (f10285 r10256 (z10195.toNat) _ g10258 rfl)
            have q10290 : H10280 r10256 (z10195.toNat) = (r10259 : Int) := k10289.trans q10260
            refine wp_of e34 c34_80 (xa_K (pc' := 81) (by decide) w10284 g10258 sh_28 (by decide) (by omega) (by omega) q10290 rfl ?_)
            refine wp_of e34 c34_81 (rw_dup (pc' := 82) rfl rfl ?_)
            have k10291 : H10280 r10259 14 = H10234 r10259 14 := (f10285 r10259 14 _ g10261 rfl)
            refine wp_of e34 c34_82 (xg_I (pc' := 85) lf_1_214 w10284 g10261 sh_35 (by decide) (by decide) ty_35_14 rfl rfl (fun b10292 b10293 => ?_))
            refine wp_of e34 c34_85 (rw_iconst (pc' := 86) rfl ?_)
            refine wp_of e34 c34_86 (rw_iload_n (pc' := 87) (z := z10240) rfl rfl ?_)
            refine wp_of e34 c34_87 (rw_ishl (pc' := 88) rfl ?_)
            obtain ⟨v10294, e10295⟩ : ∃ x : Int, x = wq_shl 1 z10240 := ⟨_, rfl⟩
            rw [← e10295]
            have b10296 : -2147483648 ≤ v10294 ∧ v10294 ≤ 2147483647 := by
              rw [e10295]
              exact wI_shl _ _
            refine wp_of e34 c34_88 (rw_ior (pc' := 89) rfl ?_)
            obtain ⟨v10297, e10298⟩ : ∃ x : Int, x = wq_or (H10280 r10259 14) v10294 := ⟨_, rfl⟩
            rw [← e10298]
            have b10299 : -2147483648 ≤ v10297 ∧ v10297 ≤ 2147483647 := by
              rw [e10298]
              exact wI_or _ _
            refine wp_of e34 c34_89 (xp_I (pc' := 92) lf_1_214 w10284 g10261 sh_35 (by decide) (by decide) ty_35_14 rfl rfl (by omega) (by omega) ⟨by omega, by omega⟩ rfl (fun H10300 e10301 w10302 => ?_))
            have f10303 := f10286.put' e10301 g10261 rfl
            have k10304 : H10300 r10259 14 = v10297 := wq_u_s e10301
            refine wp_of e34 c34_92 (rw_aload_n (pc' := 93) (v := .ref r1) rfl rfl rfl ?_)
            have k10305 : H10300 r1 0 = H10280 r1 0 := (wq_u_t e10301 g10261 g1 rfl 0)
            have q10306 : H10300 r1 0 = (r10256 : Int) := k10305.trans q10288
            refine wp_of e34 c34_93 (xg_K (pc' := 96) lf_1_143 w10302 g1 sh_27 (by decide) (by decide) rfl q10306 rfl ?_)
            refine wp_of e34 c34_96 (rw_iload_n (pc' := 97) (z := z10240) rfl rfl ?_)
            refine wp_of e34 c34_97 (xa_R (pc' := 98) (by decide) w10302 g10258 sh_28 (by decide) (ty_28 _) (by omega) (by omega) rfl (fun r10307 q10308 g10309 => ?_))
            refine wp_of e34 c34_98 (rw_dup (pc' := 99) rfl rfl ?_)
            refine wp_of e34 c34_99 (xg_I (pc' := 102) lf_1_214 w10302 g10309 sh_35 (by decide) (by decide) ty_35_14 rfl rfl (fun b10310 b10311 => ?_))
            refine wp_of e34 c34_102 (rw_iconst (pc' := 103) rfl ?_)
            refine wp_of e34 c34_103 (rw_iload_n (pc' := 104) (z := z10195) rfl rfl ?_)
            refine wp_of e34 c34_104 (rw_ishl (pc' := 105) rfl ?_)
            obtain ⟨v10312, e10313⟩ : ∃ x : Int, x = wq_shl 1 z10195 := ⟨_, rfl⟩
            rw [← e10313]
            have b10314 : -2147483648 ≤ v10312 ∧ v10312 ≤ 2147483647 := by
              rw [e10313]
              exact wI_shl _ _
            refine wp_of e34 c34_105 (rw_ior (pc' := 106) rfl ?_)
            obtain ⟨v10315, e10316⟩ : ∃ x : Int, x = wq_or (H10300 r10307 14) v10312 := ⟨_, rfl⟩
            rw [← e10316]
            have b10317 : -2147483648 ≤ v10315 ∧ v10315 ≤ 2147483647 := by
              rw [e10316]
              exact wI_or _ _
            refine wp_of e34 c34_106 (xp_I (pc' := 109) lf_1_214 w10302 g10309 sh_35 (by decide) (by decide) ty_35_14 rfl rfl (by omega) (by omega) ⟨by omega, by omega⟩ rfl (fun H10318 e10319 w10320 => ?_))
            have f10321 := f10303.put' e10319 g10309 rfl
            have k10322 : H10318 r10307 14 = v10315 := wq_u_s e10319
            refine wp_of e34 c34_109 (rw_aload_n (pc' := 110) (v := .ref r1) rfl rfl rfl ?_)
            refine wp_of e34 c34_110 (rw_dup (pc' := 111) rfl rfl ?_)
            refine wp_of e34 c34_111 (xg_I (pc' := 114) lf_1_221 w10320 g1 sh_27 (by decide) (by decide) ty_27_11 rfl rfl (fun b10323 b10324 => ?_))
            refine wp_of e34 c34_114 (rw_iconst (pc' := 115) rfl ?_)
            refine wp_of e34 c34_115 (rw_iaddw (pc' := 116) rfl ?_)
            obtain ⟨v10325, e10326⟩ : ∃ x : Int, x = wq_w ((H10318 r1 11) + 1) := ⟨_, rfl⟩
            rw [← e10326]
            have b10327 : -2147483648 ≤ v10325 ∧ v10325 ≤ 2147483647 := by
              rw [e10326]
              exact wI_w _
            refine wp_of e34 c34_116 (xp_I (pc' := 119) lf_1_221 w10320 g1 sh_27 (by decide) (by decide) ty_27_11 rfl rfl (by omega) (by omega) ⟨by omega, by omega⟩ rfl (fun H10328 e10329 w10330 => ?_))
            have f10331 := f10321.put' e10329 g1 rfl
            have k10332 : H10328 r1 11 = v10325 := wq_u_s e10329
            refine wp_of e34 c34_119 (rw_iconst (pc' := 120) rfl ?_)
            exact wp_zreturn e34 c34_120 rfl (by omega) ⟨rfl, w10330, f10331, 1, rfl, ⟨by omega, by omega⟩⟩
          · refine wp_of e34 c34_62 (rw_aload_n (pc' := 63) (v := .ref r0) rfl rfl rfl ?_)
            refine wp_of e34 c34_63 (rw_iconst (pc' := 64) rfl ?_)
            refine wp_of e34 c34_64 (xc_V (pc' := 67) (r := r0) (as := [vI 3]) (st := []) (lm_1_47) rfl rfl (Nat.le_of_ble_eq_true rfl) w10238 g0 sh_3 (by decide) rfl (by decide) (s_20 w10238 g0 ⟨by omega, by omega⟩) (fun R10333 T10334 H10335 p10336 => ?_))
            obtain ⟨e10337, w10339, f10340, z10341, e10338, b10342⟩ := p10336
            subst e10337
            subst e10338
            have f10343 := f10242.tr f10340 rfl
            show wp _ _ 34 67 [(3, vI z10240), (2, vI z10195), (0, .ref r0), (1, .ref r1)] [vI z10341] _ H10335 _
            exact wp_zreturn e34 c34_67 rfl (by omega) ⟨rfl, w10339, f10343, z10341, rfl, ⟨by omega, by omega⟩⟩
      · refine wp_of e34 c34_39 (rw_iconst (pc' := 40) rfl ?_)
        exact wp_zreturn e34 c34_40 rfl (by omega) ⟨rfl, w10238, f10242, 0, rfl, ⟨by omega, by omega⟩⟩
    · refine wp_of e34 c34_27 (rw_iconst (pc' := 28) rfl ?_)
      exact wp_zreturn e34 c34_28 rfl (by omega) ⟨rfl, w10222, f10226, 0, rfl, ⟨by omega, by omega⟩⟩
  · refine wp_of e34 c34_10 (rw_iconst (pc' := 11) rfl ?_)
    exact wp_zreturn e34 c34_11 rfl (by omega) ⟨rfl, w10193, f10197, 0, rfl, ⟨by omega, by omega⟩⟩
/-! StrikeAwake$Reader.readsBorn(LStrikeAwake$Parish;)Z -/
theorem e37 : wq_en 37 = some (1, 3, false, some FieldType.boolean) := rfl
theorem c37_0 : mc_cd 37 0 = some (.aload_n 0, 1) := by decide +kernel
theorem c37_1 : mc_cd 37 1 = some (.iconst 0, 1) := by decide +kernel
theorem c37_2 : mc_cd 37 2 = some (.bipush 23, 2) := by decide +kernel
theorem c37_4 : mc_cd 37 4 = some (.invokevirtual 119, 3) := by decide +kernel
theorem c37_7 : mc_cd 37 7 = some (.istore_n 2, 1) := by decide +kernel
theorem c37_8 : mc_cd 37 8 = some (.iload_n 2, 1) := by decide +kernel
theorem c37_9 : mc_cd 37 9 = some (.ifCond .ge 5, 3) := by decide +kernel
theorem c37_12 : mc_cd 37 12 = some (.iconst 0, 1) := by decide +kernel
theorem c37_13 : mc_cd 37 13 = some (.ireturn, 1) := by decide +kernel
theorem c37_14 : mc_cd 37 14 = some (.aload_n 1, 1) := by decide +kernel
theorem c37_15 : mc_cd 37 15 = some (.getfield 224, 3) := by decide +kernel
theorem c37_18 : mc_cd 37 18 = some (.aload_n 1, 1) := by decide +kernel
theorem c37_19 : mc_cd 37 19 = some (.getfield 227, 3) := by decide +kernel
theorem c37_22 : mc_cd 37 22 = some (.iload_n 2, 1) := by decide +kernel
theorem c37_23 : mc_cd 37 23 = some (.iastore, 1) := by decide +kernel
theorem c37_24 : mc_cd 37 24 = some (.aload_n 1, 1) := by decide +kernel
theorem c37_25 : mc_cd 37 25 = some (.dup, 1) := by decide +kernel
theorem c37_26 : mc_cd 37 26 = some (.getfield 227, 3) := by decide +kernel
theorem c37_29 : mc_cd 37 29 = some (.iconst 1, 1) := by decide +kernel
theorem c37_30 : mc_cd 37 30 = some (.iadd, 1) := by decide +kernel
theorem c37_31 : mc_cd 37 31 = some (.putfield 227, 3) := by decide +kernel
theorem c37_34 : mc_cd 37 34 = some (.iconst 1, 1) := by decide +kernel
theorem c37_35 : mc_cd 37 35 = some (.ireturn, 1) := by decide +kernel
abbrev q_37 (r0 : Nat) (r1 : Nat) (tk : Nat) (rb : Nat) (T : wq_T) (H : wq_H) : Option Value → wq_T → wq_H → Prop := fun r T' H' => T = T' ∧ WT T H' ∧ wfr [(27, 12), (3, 3), (3, 4), (4, 2), (4, 3), (4, 4), (4, 5), (4, 6), (31, 999)] T H H' ∧ ∃ z : Int, some (vI z) = r ∧ (0 ≤ z ∧ z ≤ 1)
set_option maxHeartbeats 4000000 in
theorem s_37 {kt : Nat → Option mc_E} {T : wq_T} {H : wq_H} {r0 : Nat} {r1 : Nat} {tk : Nat} {rb : Nat} (hW : WT T H) (g0 : T.2.2.2 r0 = some 3) (g1 : T.2.2.2 r1 = some 27) (qtk : H r0 0 = (tk : Int)) (gtk : T.2.2.2 tk = some 4) (qrb : H tk 0 = (rb : Int)) (grb : T.2.2.2 rb = some 2) (p0 : H r1 12 ≤ 2) : wpc kt 3 37 [.ref r0, .ref r1] T H (q_37 r0 r1 tk rb T H) := by
  refine wp_enter e37 (Nat.le_of_ble_eq_true rfl) rfl ?_
  have f0 : wfr [(27, 12), (3, 3), (3, 4), (4, 2), (4, 3), (4, 4), (4, 5), (4, 6), (31, 999)] T H H := wfr.rf
  show wp _ _ 37 0 [(0, .ref r0), (1, .ref r1)] [] _ H _
  refine wp_of e37 c37_0 (rw_aload_n (pc' := 1) (v := .ref r0) rfl rfl rfl ?_)
  refine wp_of e37 c37_1 (rw_iconst (pc' := 2) rfl ?_)
  refine wp_of e37 c37_2 (rw_bipush (pc' := 4) (z := 23) rfl (by decide) ?_)
  refine wp_of e37 c37_4 (xc_V (pc' := 7) (r := r0) (as := [vI 0, vI 23]) (st := []) (lm_1_119) rfl rfl (Nat.le_of_ble_eq_true rfl) hW g0 sh_3 (by decide) rfl (by decide) (s_24 hW g0 ⟨by omega, by omega⟩ ⟨by omega, by omega⟩ qtk gtk qrb grb) (fun R10375 T10376 H10377 p10378 => ?_))
  obtain ⟨e10379, w10381, f10382, z10384, e10380, b10385, p10383⟩ := p10378
  subst e10379
  subst e10380
  have f10386 := f0.tr f10382 rfl
  show wp _ _ 37 7 [(0, .ref r0), (1, .ref r1)] [vI z10384] _ H10377 _
  refine wp_of e37 c37_7 (rw_istore_n (pc' := 8) (z := z10384) (L' := [(2, vI z10384), (0, .ref r0), (1, .ref r1)]) rfl rfl rfl ?_)
  refine wp_of e37 c37_8 (rw_iload_n (pc' := 9) (z := z10384) rfl rfl ?_)
  refine wp_of e37 c37_9 (rw_if_ge (p1 := 14) (p2 := 12) (by decide) rfl ⟨by omega, by omega⟩ (fun c10387 => ?_) (fun c10387 => ?_))
  · refine wp_of e37 c37_14 (rw_aload_n (pc' := 15) (v := .ref r1) rfl rfl rfl ?_)
    refine wp_of e37 c37_15 (xg_R (pc' := 18) lf_1_224 w10381 g1 sh_27 (by decide) (by decide) ty_27_3 rfl rfl (fun r10388 q10389 g10390 => ?_))
    refine wp_of e37 c37_18 (rw_aload_n (pc' := 19) (v := .ref r1) rfl rfl rfl ?_)
    have k10391 : H10377 r1 12 = H r1 12 := (f10382 r1 12 _ g1 rfl)
    refine wp_of e37 c37_19 (xg_I (pc' := 22) lf_1_227 w10381 g1 sh_27 (by decide) (by decide) ty_27_12 rfl rfl (fun b10392 b10393 => ?_))
    refine wp_of e37 c37_22 (rw_iload_n (pc' := 23) (z := z10384) rfl rfl ?_)
    refine wp_of e37 c37_23 (xs_I (pc' := 24) w10381 g10390 (by decide) sh_31 (by decide) (ty_31 _) (by omega) (by omega) ⟨by omega, by omega⟩ (by omega) (by omega) rfl (fun H10394 e10395 w10396 => ?_))
    have f10397 := f10386.put' e10395 g10390 rfl
    refine wp_of e37 c37_24 (rw_aload_n (pc' := 25) (v := .ref r1) rfl rfl rfl ?_)
    refine wp_of e37 c37_25 (rw_dup (pc' := 26) rfl rfl ?_)
    have k10398 : H10394 r1 12 = H10377 r1 12 := (wq_u_t e10395 g10390 g1 rfl 12)
    refine wp_of e37 c37_26 (xg_I (pc' := 29) lf_1_227 w10396 g1 sh_27 (by decide) (by decide) ty_27_12 rfl rfl (fun b10399 b10400 => ?_))
    refine wp_of e37 c37_29 (rw_iconst (pc' := 30) rfl ?_)
    refine wp_of e37 c37_30 (rw_iadd (pc' := 31) rfl ?_)
    refine wp_of e37 c37_31 (xp_I (pc' := 34) lf_1_227 w10396 g1 sh_27 (by decide) (by decide) ty_27_12 rfl rfl (by omega) (by omega) ⟨by omega, by omega⟩ rfl (fun H10401 e10402 w10403 => ?_))
    have f10404 := f10397.put' e10402 g1 rfl
    have k10405 : H10401 r1 12 = (H10394 r1 12) + 1 := wq_u_s e10402
    refine wp_of e37 c37_34 (rw_iconst (pc' := 35) rfl ?_)
    exact wp_zreturn e37 c37_35 rfl (by omega) ⟨rfl, w10403, f10404, 1, rfl, ⟨by omega, by omega⟩⟩
  · refine wp_of e37 c37_12 (rw_iconst (pc' := 13) rfl ?_)
    exact wp_zreturn e37 c37_13 rfl (by omega) ⟨rfl, w10381, f10386, 0, rfl, ⟨by omega, by omega⟩⟩
/-! StrikeAwake$Parish.isStruck(I)Z -/
theorem e39 : wq_en 39 = some (7, 2, false, some FieldType.boolean) := rfl
theorem c39_0 : mc_cd 39 0 = some (.iload_n 1, 1) := by decide +kernel
theorem c39_1 : mc_cd 39 1 = some (.ifCond .lt 22, 3) := by decide +kernel
theorem c39_4 : mc_cd 39 4 = some (.iload_n 1, 1) := by decide +kernel
theorem c39_5 : mc_cd 39 5 = some (.bipush 24, 2) := by decide +kernel
theorem c39_7 : mc_cd 39 7 = some (.if_icmp .ge 16, 3) := by decide +kernel
theorem c39_10 : mc_cd 39 10 = some (.aload_n 0, 1) := by decide +kernel
theorem c39_11 : mc_cd 39 11 = some (.getfield 17, 3) := by decide +kernel
theorem c39_14 : mc_cd 39 14 = some (.iload_n 1, 1) := by decide +kernel
theorem c39_15 : mc_cd 39 15 = some (.iaload, 1) := by decide +kernel
theorem c39_16 : mc_cd 39 16 = some (.ifCond .lt 7, 3) := by decide +kernel
theorem c39_19 : mc_cd 39 19 = some (.iconst 1, 1) := by decide +kernel
theorem c39_20 : mc_cd 39 20 = some (.goto 4, 3) := by decide +kernel
theorem c39_23 : mc_cd 39 23 = some (.iconst 0, 1) := by decide +kernel
theorem c39_24 : mc_cd 39 24 = some (.ireturn, 1) := by decide +kernel
abbrev q_39 (r0 : Nat) (a1 : Int) (T : wq_T) (H : wq_H) : Option Value → wq_T → wq_H → Prop := fun r T' H' => T = T' ∧ H = H' ∧ ∃ z : Int, some (vI z) = r ∧ (0 ≤ z ∧ z ≤ 1)
set_option maxHeartbeats 4000000 in
theorem s_39 {kt : Nat → Option mc_E} {T : wq_T} {H : wq_H} {r0 : Nat} {a1 : Int} (hW : WT T H) (g0 : T.2.2.2 r0 = some 27) (i1 : (-2147483648) ≤ a1 ∧ a1 ≤ 2147483647) : wpc kt 1 39 [.ref r0, vI a1] T H (q_39 r0 a1 T H) := by
  refine wp_enter e39 (Nat.le_of_ble_eq_true rfl) rfl ?_
  show wp _ _ 39 0 [(0, .ref r0), (1, vI a1)] [] _ H _
  refine wp_of e39 c39_0 (rw_iload_n (pc' := 1) (z := a1) rfl rfl ?_)
  refine wp_of e39 c39_1 (rw_if_lt (p1 := 23) (p2 := 4) (by decide) rfl ⟨by omega, by omega⟩ (fun c10414 => ?_) (fun c10414 => ?_))
  · refine wp_of e39 c39_23 (rw_iconst (pc' := 24) rfl ?_)
    exact wp_zreturn e39 c39_24 rfl (by omega) ⟨rfl, rfl, 0, rfl, ⟨by omega, by omega⟩⟩
  · refine wp_of e39 c39_4 (rw_iload_n (pc' := 5) (z := a1) rfl rfl ?_)
    refine wp_of e39 c39_5 (rw_bipush (pc' := 7) (z := 24) rfl (by decide) ?_)
    refine wp_of e39 c39_7 (rw_icmp_ge (p1 := 23) (p2 := 10) (by decide) rfl ⟨by omega, by omega⟩ ⟨by omega, by omega⟩ (fun c10415 => ?_) (fun c10415 => ?_))
    · refine wp_of e39 c39_23 (rw_iconst (pc' := 24) rfl ?_)
      exact wp_zreturn e39 c39_24 rfl (by omega) ⟨rfl, rfl, 0, rfl, ⟨by omega, by omega⟩⟩
    · refine wp_of e39 c39_10 (rw_aload_n (pc' := 11) (v := .ref r0) rfl rfl rfl ?_)
      refine wp_of e39 c39_11 (xg_R (pc' := 14) lf_7_17 hW g0 sh_27 (by decide) (by decide) ty_27_1 rfl rfl (fun r10416 q10417 g10418 => ?_))
      refine wp_of e39 c39_14 (rw_iload_n (pc' := 15) (z := a1) rfl rfl ?_)
      refine wp_of e39 c39_15 (xa_I (so := 0) (pc' := 16) hW g10418 sh_29 (by decide) (ty_29 _) (by omega) (by omega) rfl (fun b10419 b10420 => ?_))
      refine wp_of e39 c39_16 (rw_if_lt (p1 := 23) (p2 := 19) (by decide) rfl ⟨by omega, by omega⟩ (fun c10421 => ?_) (fun c10421 => ?_))
      · refine wp_of e39 c39_23 (rw_iconst (pc' := 24) rfl ?_)
        exact wp_zreturn e39 c39_24 rfl (by omega) ⟨rfl, rfl, 0, rfl, ⟨by omega, by omega⟩⟩
      · refine wp_of e39 c39_19 (rw_iconst (pc' := 20) rfl ?_)
        refine wp_of e39 c39_20 (rw_goto (p1 := 24) (by decide) ?_)
        exact wp_zreturn e39 c39_24 rfl (by omega) ⟨rfl, rfl, 1, rfl, ⟨by omega, by omega⟩⟩
/-! StrikeAwake$Parish.listStruck()V -/
theorem e41 : wq_en 41 = some (7, 2, false, none) := rfl
theorem c41_0 : mc_cd 41 0 = some (.aload_n 0, 1) := by decide +kernel
theorem c41_1 : mc_cd 41 1 = some (.iconst 0, 1) := by decide +kernel
theorem c41_2 : mc_cd 41 2 = some (.putfield 65, 3) := by decide +kernel
theorem c41_5 : mc_cd 41 5 = some (.iconst 0, 1) := by decide +kernel
theorem c41_6 : mc_cd 41 6 = some (.istore_n 1, 1) := by decide +kernel
theorem c41_7 : mc_cd 41 7 = some (.iload_n 1, 1) := by decide +kernel
theorem c41_8 : mc_cd 41 8 = some (.bipush 24, 2) := by decide +kernel
theorem c41_10 : mc_cd 41 10 = some (.if_icmp .ge 38, 3) := by decide +kernel
theorem c41_13 : mc_cd 41 13 = some (.aload_n 0, 1) := by decide +kernel
theorem c41_14 : mc_cd 41 14 = some (.getfield 17, 3) := by decide +kernel
theorem c41_17 : mc_cd 41 17 = some (.iload_n 1, 1) := by decide +kernel
theorem c41_18 : mc_cd 41 18 = some (.iaload, 1) := by decide +kernel
theorem c41_19 : mc_cd 41 19 = some (.ifCond .lt 23, 3) := by decide +kernel
theorem c41_22 : mc_cd 41 22 = some (.aload_n 0, 1) := by decide +kernel
theorem c41_23 : mc_cd 41 23 = some (.getfield 21, 3) := by decide +kernel
theorem c41_26 : mc_cd 41 26 = some (.aload_n 0, 1) := by decide +kernel
theorem c41_27 : mc_cd 41 27 = some (.getfield 65, 3) := by decide +kernel
theorem c41_30 : mc_cd 41 30 = some (.iload_n 1, 1) := by decide +kernel
theorem c41_31 : mc_cd 41 31 = some (.iastore, 1) := by decide +kernel
theorem c41_32 : mc_cd 41 32 = some (.aload_n 0, 1) := by decide +kernel
theorem c41_33 : mc_cd 41 33 = some (.dup, 1) := by decide +kernel
theorem c41_34 : mc_cd 41 34 = some (.getfield 65, 3) := by decide +kernel
theorem c41_37 : mc_cd 41 37 = some (.iconst 1, 1) := by decide +kernel
theorem c41_38 : mc_cd 41 38 = some (.iadd, 1) := by decide +kernel
theorem c41_39 : mc_cd 41 39 = some (.putfield 65, 3) := by decide +kernel
theorem c41_42 : mc_cd 41 42 = some (.iinc 1 1, 3) := by decide +kernel
theorem c41_45 : mc_cd 41 45 = some (.goto (-38), 3) := by decide +kernel
theorem c41_48 : mc_cd 41 48 = some (.return_, 1) := by decide +kernel
abbrev q_41 (r0 : Nat) (T : wq_T) (H : wq_H) : Option Value → wq_T → wq_H → Prop := fun r T' H' => T = T' ∧ WT T H' ∧ wfr [(27, 16), (30, 999)] T H H' ∧ none = r
set_option maxHeartbeats 4000000 in
theorem s_41 {kt : Nat → Option mc_E} {T : wq_T} {H : wq_H} {r0 : Nat} (hW : WT T H) (g0 : T.2.2.2 r0 = some 27) : wpc kt 1 41 [.ref r0] T H (q_41 r0 T H) := by
  refine wp_enter e41 (Nat.le_of_ble_eq_true rfl) rfl ?_
  have f0 : wfr [(27, 16), (30, 999)] T H H := wfr.rf
  show wp _ _ 41 0 [(0, .ref r0)] [] _ H _
  refine wp_of e41 c41_0 (rw_aload_n (pc' := 1) (v := .ref r0) rfl rfl rfl ?_)
  refine wp_of e41 c41_1 (rw_iconst (pc' := 2) rfl ?_)
  refine wp_of e41 c41_2 (xp_I (pc' := 5) lf_7_65 hW g0 sh_27 (by decide) (by decide) ty_27_16 rfl rfl (by omega) (by omega) ⟨by omega, by omega⟩ rfl (fun H10645 e10646 w10647 => ?_))
  have f10648 := f0.put' e10646 g0 rfl
  have k10649 : H10645 r0 16 = 0 := wq_u_s e10646
  refine wp_of e41 c41_5 (rw_iconst (pc' := 6) rfl ?_)
  refine wp_of e41 c41_6 (rw_istore_n (pc' := 7) (z := 0) (L' := [(1, vI 0), (0, .ref r0)]) rfl rfl rfl ?_)
  have lp10843 : ∀ (n10844 : Nat) (v10846 : Int) (H10847 : wq_H), WT T H10847 → wfr [(27, 16), (30, 999)] T H10645 H10847 → (0 ≤ v10846 ∧ v10846 ≤ 24) → (H10847 r0 16 ≤ v10846) → (24 - v10846).toNat = n10844 → wp kt 0 41 7 [(1, vI v10846), (0, .ref r0)] [] T H10847 (q_41 r0 T H) := by
    intro n10844
    induction n10844 using Nat.strongRecOn with
    | _ n10844 ih10845 =>
      intro v10846 H10847 w10848 f10849 b10850 x10851 m10852
      have f10853 := f10648.tr f10849 rfl
      refine wp_of e41 c41_7 (rw_iload_n (pc' := 8) (z := v10846) rfl rfl ?_)
      refine wp_of e41 c41_8 (rw_bipush (pc' := 10) (z := 24) rfl (by decide) ?_)
      refine wp_of e41 c41_10 (rw_icmp_ge (p1 := 48) (p2 := 13) (by decide) rfl ⟨by omega, by omega⟩ ⟨by omega, by omega⟩ (fun c10854 => ?_) (fun c10854 => ?_))
      · exact wp_return e41 c41_48 rfl ⟨rfl, w10848, f10853, rfl⟩
      · refine wp_of e41 c41_13 (rw_aload_n (pc' := 14) (v := .ref r0) rfl rfl rfl ?_)
        refine wp_of e41 c41_14 (xg_R (pc' := 17) lf_7_17 w10848 g0 sh_27 (by decide) (by decide) ty_27_1 rfl rfl (fun r10855 q10856 g10857 => ?_))
        refine wp_of e41 c41_17 (rw_iload_n (pc' := 18) (z := v10846) rfl rfl ?_)
        refine wp_of e41 c41_18 (xa_I (so := 0) (pc' := 19) w10848 g10857 sh_29 (by decide) (ty_29 _) (by omega) (by omega) rfl (fun b10858 b10859 => ?_))
        refine wp_of e41 c41_19 (rw_if_lt (p1 := 42) (p2 := 22) (by decide) rfl ⟨by omega, by omega⟩ (fun c10860 => ?_) (fun c10860 => ?_))
        · refine wp_of e41 c41_42 (rw_iinc (pc' := 45) (z := v10846) (L' := [(1, vI (v10846 + 1)), (0, .ref r0)]) rfl rfl rfl rfl ?_)
          refine wp_of e41 c41_45 (rw_goto (p1 := 7) (by decide) ?_)
          exact wp_lc (ks := [1, 0]) (wl_c rfl (wl_c rfl wl_n)) rfl (by decide) (ih10845 _ (by omega) (v10846 + 1) H10847 w10848 f10849 ⟨by omega, by omega⟩ (by omega) rfl)
        · refine wp_of e41 c41_22 (rw_aload_n (pc' := 23) (v := .ref r0) rfl rfl rfl ?_)
          refine wp_of e41 c41_23 (xg_R (pc' := 26) lf_7_21 w10848 g0 sh_27 (by decide) (by decide) ty_27_2 rfl rfl (fun r10861 q10862 g10863 => ?_))
          refine wp_of e41 c41_26 (rw_aload_n (pc' := 27) (v := .ref r0) rfl rfl rfl ?_)
          refine wp_of e41 c41_27 (xg_I (pc' := 30) lf_7_65 w10848 g0 sh_27 (by decide) (by decide) ty_27_16 rfl rfl (fun b10864 b10865 => ?_))
          refine wp_of e41 c41_30 (rw_iload_n (pc' := 31) (z := v10846) rfl rfl ?_)
          refine wp_of e41 c41_31 (xs_I (pc' := 32) w10848 g10863 (by decide) sh_30 (by decide) (ty_30 _) (by omega) (by omega) ⟨by omega, by omega⟩ (by omega) (by omega) rfl (fun H10866 e10867 w10868 => ?_))
          have f10869 := f10853.put' e10867 g10863 rfl
          have f10870 := f10849.put' e10867 g10863 rfl
          refine wp_of e41 c41_32 (rw_aload_n (pc' := 33) (v := .ref r0) rfl rfl rfl ?_)
          refine wp_of e41 c41_33 (rw_dup (pc' := 34) rfl rfl ?_)
          have k10871 : H10866 r0 16 = H10847 r0 16 := (wq_u_t e10867 g10863 g0 rfl 16)
          refine wp_of e41 c41_34 (xg_I (pc' := 37) lf_7_65 w10868 g0 sh_27 (by decide) (by decide) ty_27_16 rfl rfl (fun b10872 b10873 => ?_))
          refine wp_of e41 c41_37 (rw_iconst (pc' := 38) rfl ?_)
          refine wp_of e41 c41_38 (rw_iadd (pc' := 39) rfl ?_)
          refine wp_of e41 c41_39 (xp_I (pc' := 42) lf_7_65 w10868 g0 sh_27 (by decide) (by decide) ty_27_16 rfl rfl (by omega) (by omega) ⟨by omega, by omega⟩ rfl (fun H10874 e10875 w10876 => ?_))
          have f10877 := f10869.put' e10875 g0 rfl
          have f10878 := f10870.put' e10875 g0 rfl
          have k10879 : H10874 r0 16 = (H10866 r0 16) + 1 := wq_u_s e10875
          refine wp_of e41 c41_42 (rw_iinc (pc' := 45) (z := v10846) (L' := [(1, vI (v10846 + 1)), (0, .ref r0)]) rfl rfl rfl rfl ?_)
          refine wp_of e41 c41_45 (rw_goto (p1 := 7) (by decide) ?_)
          exact wp_lc (ks := [1, 0]) (wl_c rfl (wl_c rfl wl_n)) rfl (by decide) (ih10845 _ (by omega) (v10846 + 1) H10874 w10876 f10878 ⟨by omega, by omega⟩ (by omega) rfl)
  exact wp_lc (ks := [1, 0]) (wl_c rfl (wl_c rfl wl_n)) rfl (by decide) (lp10843 _ 0 H10645 w10647 wfr.rf ⟨by omega, by omega⟩ (by omega) rfl)
/-! StrikeAwake$Parish.setStroke(II)V -/
theorem e40 : wq_en 40 = some (7, 3, false, none) := rfl
theorem c40_0 : mc_cd 40 0 = some (.aload_n 0, 1) := by decide +kernel
theorem c40_1 : mc_cd 40 1 = some (.getfield 17, 3) := by decide +kernel
theorem c40_4 : mc_cd 40 4 = some (.iload_n 1, 1) := by decide +kernel
theorem c40_5 : mc_cd 40 5 = some (.iload_n 2, 1) := by decide +kernel
theorem c40_6 : mc_cd 40 6 = some (.iastore, 1) := by decide +kernel
theorem c40_7 : mc_cd 40 7 = some (.aload_n 0, 1) := by decide +kernel
theorem c40_8 : mc_cd 40 8 = some (.invokevirtual 89, 3) := by decide +kernel
theorem c40_11 : mc_cd 40 11 = some (.return_, 1) := by decide +kernel
abbrev q_40 (r0 : Nat) (a1 : Int) (a2 : Int) (T : wq_T) (H : wq_H) : Option Value → wq_T → wq_H → Prop := fun r T' H' => T = T' ∧ WT T H' ∧ wfr [(27, 16), (29, 999), (30, 999)] T H H' ∧ none = r
set_option maxHeartbeats 4000000 in
theorem s_40 {kt : Nat → Option mc_E} {T : wq_T} {H : wq_H} {r0 : Nat} {a1 : Int} {a2 : Int} (hW : WT T H) (g0 : T.2.2.2 r0 = some 27) (i1 : 0 ≤ a1 ∧ a1 ≤ 23) (i2 : (-2147483648) ≤ a2 ∧ a2 ≤ 2147483647) : wpc kt 2 40 [.ref r0, vI a1, vI a2] T H (q_40 r0 a1 a2 T H) := by
  refine wp_enter e40 (Nat.le_of_ble_eq_true rfl) rfl ?_
  have f0 : wfr [(27, 16), (29, 999), (30, 999)] T H H := wfr.rf
  show wp _ _ 40 0 [(0, .ref r0), (1, vI a1), (2, vI a2)] [] _ H _
  refine wp_of e40 c40_0 (rw_aload_n (pc' := 1) (v := .ref r0) rfl rfl rfl ?_)
  refine wp_of e40 c40_1 (xg_R (pc' := 4) lf_7_17 hW g0 sh_27 (by decide) (by decide) ty_27_1 rfl rfl (fun r10896 q10897 g10898 => ?_))
  refine wp_of e40 c40_4 (rw_iload_n (pc' := 5) (z := a1) rfl rfl ?_)
  refine wp_of e40 c40_5 (rw_iload_n (pc' := 6) (z := a2) rfl rfl ?_)
  refine wp_of e40 c40_6 (xs_I (pc' := 7) hW g10898 (by decide) sh_29 (by decide) (ty_29 _) (by omega) (by omega) ⟨by omega, by omega⟩ (by omega) (by omega) rfl (fun H10899 e10900 w10901 => ?_))
  have f10902 := f0.put' e10900 g10898 rfl
  refine wp_of e40 c40_7 (rw_aload_n (pc' := 8) (v := .ref r0) rfl rfl rfl ?_)
  refine wp_of e40 c40_8 (xc_V (pc' := 11) (r := r0) (as := []) (st := []) (lm_7_89) rfl rfl (Nat.le_of_ble_eq_true rfl) w10901 g0 sh_27 (by decide) rfl (by decide) (s_41 w10901 g0) (fun R10903 T10904 H10905 p10906 => ?_))
  obtain ⟨e10907, w10909, f10910, e10908⟩ := p10906
  subst e10907
  subst e10908
  have f10911 := f10902.tr f10910 rfl
  show wp _ _ 40 11 [(0, .ref r0), (1, vI a1), (2, vI a2)] [] _ H10905 _
  exact wp_return e40 c40_11 rfl ⟨rfl, w10909, f10911, rfl⟩
/-! StrikeAwake$Reader.readsStruck(LStrikeAwake$Parish;)Z -/
theorem e38 : wq_en 38 = some (1, 4, false, some FieldType.boolean) := rfl
theorem c38_0 : mc_cd 38 0 = some (.aload_n 0, 1) := by decide +kernel
theorem c38_1 : mc_cd 38 1 = some (.getfield 12, 3) := by decide +kernel
theorem c38_4 : mc_cd 38 4 = some (.getfield 38, 3) := by decide +kernel
theorem c38_7 : mc_cd 38 7 = some (.iconst 2, 1) := by decide +kernel
theorem c38_8 : mc_cd 38 8 = some (.if_icmp .ne 23, 3) := by decide +kernel
theorem c38_11 : mc_cd 38 11 = some (.aload_n 1, 1) := by decide +kernel
theorem c38_12 : mc_cd 38 12 = some (.aload_n 0, 1) := by decide +kernel
theorem c38_13 : mc_cd 38 13 = some (.getfield 12, 3) := by decide +kernel
theorem c38_16 : mc_cd 38 16 = some (.getfield 230, 3) := by decide +kernel
theorem c38_19 : mc_cd 38 19 = some (.invokevirtual 233, 3) := by decide +kernel
theorem c38_22 : mc_cd 38 22 = some (.ifCond .eq 9, 3) := by decide +kernel
theorem c38_25 : mc_cd 38 25 = some (.aload_n 0, 1) := by decide +kernel
theorem c38_26 : mc_cd 38 26 = some (.iconst 3, 1) := by decide +kernel
theorem c38_27 : mc_cd 38 27 = some (.invokevirtual 47, 3) := by decide +kernel
theorem c38_30 : mc_cd 38 30 = some (.ireturn, 1) := by decide +kernel
theorem c38_31 : mc_cd 38 31 = some (.aload_n 0, 1) := by decide +kernel
theorem c38_32 : mc_cd 38 32 = some (.iconst 0, 1) := by decide +kernel
theorem c38_33 : mc_cd 38 33 = some (.bipush 23, 2) := by decide +kernel
theorem c38_35 : mc_cd 38 35 = some (.invokevirtual 119, 3) := by decide +kernel
theorem c38_38 : mc_cd 38 38 = some (.istore_n 2, 1) := by decide +kernel
theorem c38_39 : mc_cd 38 39 = some (.iload_n 2, 1) := by decide +kernel
theorem c38_40 : mc_cd 38 40 = some (.ifCond .lt 22, 3) := by decide +kernel
theorem c38_43 : mc_cd 38 43 = some (.aload_n 0, 1) := by decide +kernel
theorem c38_44 : mc_cd 38 44 = some (.ldc 236, 2) := by decide +kernel
theorem c38_46 : mc_cd 38 46 = some (.invokevirtual 115, 3) := by decide +kernel
theorem c38_49 : mc_cd 38 49 = some (.ifCond .eq 13, 3) := by decide +kernel
theorem c38_52 : mc_cd 38 52 = some (.aload_n 0, 1) := by decide +kernel
theorem c38_53 : mc_cd 38 53 = some (.iconst 0, 1) := by decide +kernel
theorem c38_54 : mc_cd 38 54 = some (.bipush 99, 2) := by decide +kernel
theorem c38_56 : mc_cd 38 56 = some (.invokevirtual 119, 3) := by decide +kernel
theorem c38_59 : mc_cd 38 59 = some (.goto 4, 3) := by decide +kernel
theorem c38_62 : mc_cd 38 62 = some (.iconst (-1), 1) := by decide +kernel
theorem c38_63 : mc_cd 38 63 = some (.istore_n 3, 1) := by decide +kernel
theorem c38_64 : mc_cd 38 64 = some (.iload_n 3, 1) := by decide +kernel
theorem c38_65 : mc_cd 38 65 = some (.ifCond .ge 5, 3) := by decide +kernel
theorem c38_68 : mc_cd 38 68 = some (.iconst 0, 1) := by decide +kernel
theorem c38_69 : mc_cd 38 69 = some (.ireturn, 1) := by decide +kernel
theorem c38_70 : mc_cd 38 70 = some (.aload_n 1, 1) := by decide +kernel
theorem c38_71 : mc_cd 38 71 = some (.iload_n 2, 1) := by decide +kernel
theorem c38_72 : mc_cd 38 72 = some (.iload_n 3, 1) := by decide +kernel
theorem c38_73 : mc_cd 38 73 = some (.invokevirtual 238, 3) := by decide +kernel
theorem c38_76 : mc_cd 38 76 = some (.iconst 1, 1) := by decide +kernel
theorem c38_77 : mc_cd 38 77 = some (.ireturn, 1) := by decide +kernel
abbrev q_38 (r0 : Nat) (r1 : Nat) (tk : Nat) (rb : Nat) (T : wq_T) (H : wq_H) : Option Value → wq_T → wq_H → Prop := fun r T' H' => T = T' ∧ WT T H' ∧ wfr [(27, 16), (3, 3), (3, 4), (4, 2), (4, 3), (4, 4), (4, 5), (4, 6), (29, 999), (30, 999)] T H H' ∧ ∃ z : Int, some (vI z) = r ∧ (0 ≤ z ∧ z ≤ 1)
set_option maxHeartbeats 4000000 in
theorem s_38 {kt : Nat → Option mc_E} {T : wq_T} {H : wq_H} {r0 : Nat} {r1 : Nat} {tk : Nat} {rb : Nat} (hW : WT T H) (g0 : T.2.2.2 r0 = some 3) (g1 : T.2.2.2 r1 = some 27) (qtk : H r0 0 = (tk : Int)) (gtk : T.2.2.2 tk = some 4) (qrb : H tk 0 = (rb : Int)) (grb : T.2.2.2 rb = some 2) : wpc kt 3 38 [.ref r0, .ref r1] T H (q_38 r0 r1 tk rb T H) := by
  refine wp_enter e38 (Nat.le_of_ble_eq_true rfl) rfl ?_
  have f0 : wfr [(27, 16), (3, 3), (3, 4), (4, 2), (4, 3), (4, 4), (4, 5), (4, 6), (29, 999), (30, 999)] T H H := wfr.rf
  show wp _ _ 38 0 [(0, .ref r0), (1, .ref r1)] [] _ H _
  refine wp_of e38 c38_0 (rw_aload_n (pc' := 1) (v := .ref r0) rfl rfl rfl ?_)
  refine wp_of e38 c38_1 (xg_K (pc' := 4) lf_1_12 hW g0 sh_3 (by decide) (by decide) rfl qtk rfl ?_)
  refine wp_of e38 c38_4 (xg_I (pc' := 7) lf_1_38 hW gtk sh_4 (by decide) (by decide) ty_4_3 rfl rfl (fun b11052 b11053 => ?_))
  refine wp_of e38 c38_7 (rw_iconst (pc' := 8) rfl ?_)
  refine wp_of e38 c38_8 (rw_icmp_ne (p1 := 31) (p2 := 11) (by decide) rfl ⟨by omega, by omega⟩ ⟨by omega, by omega⟩ (fun c11054 => ?_) (fun c11054 => ?_))
  · refine wp_of e38 c38_31 (rw_aload_n (pc' := 32) (v := .ref r0) rfl rfl rfl ?_)
    refine wp_of e38 c38_32 (rw_iconst (pc' := 33) rfl ?_)
    refine wp_of e38 c38_33 (rw_bipush (pc' := 35) (z := 23) rfl (by decide) ?_)
    refine wp_of e38 c38_35 (xc_V (pc' := 38) (r := r0) (as := [vI 0, vI 23]) (st := []) (lm_1_119) rfl rfl (Nat.le_of_ble_eq_true rfl) hW g0 sh_3 (by decide) rfl (by decide) (s_24 hW g0 ⟨by omega, by omega⟩ ⟨by omega, by omega⟩ qtk gtk qrb grb) (fun R11055 T11056 H11057 p11058 => ?_))
    obtain ⟨e11059, w11061, f11062, z11064, e11060, b11065, p11063⟩ := p11058
    subst e11059
    subst e11060
    have f11066 := f0.tr f11062 rfl
    show wp _ _ 38 38 [(0, .ref r0), (1, .ref r1)] [vI z11064] _ H11057 _
    refine wp_of e38 c38_38 (rw_istore_n (pc' := 39) (z := z11064) (L' := [(2, vI z11064), (0, .ref r0), (1, .ref r1)]) rfl rfl rfl ?_)
    refine wp_of e38 c38_39 (rw_iload_n (pc' := 40) (z := z11064) rfl rfl ?_)
    refine wp_of e38 c38_40 (rw_if_lt (p1 := 62) (p2 := 43) (by decide) rfl ⟨by omega, by omega⟩ (fun c11067 => ?_) (fun c11067 => ?_))
    · refine wp_of e38 c38_62 (rw_iconst (pc' := 63) rfl ?_)
      refine wp_of e38 c38_63 (rw_istore_n (pc' := 64) (z := -1) (L' := [(3, vI (-1)), (2, vI z11064), (0, .ref r0), (1, .ref r1)]) rfl rfl rfl ?_)
      refine wp_of e38 c38_64 (rw_iload_n (pc' := 65) (z := -1) rfl rfl ?_)
      refine wp_of e38 c38_65 (rw_if_ge (p1 := 70) (p2 := 68) (by decide) rfl ⟨by omega, by omega⟩ (fun c11068 => ?_) (fun c11068 => ?_))
      · exfalso
        omega
      · refine wp_of e38 c38_68 (rw_iconst (pc' := 69) rfl ?_)
        exact wp_zreturn e38 c38_69 rfl (by omega) ⟨rfl, w11061, f11066, 0, rfl, ⟨by omega, by omega⟩⟩
    · refine wp_of e38 c38_43 (rw_aload_n (pc' := 44) (v := .ref r0) rfl rfl rfl ?_)
      refine wp_of e38 c38_44 (rw_ldcS (pc' := 46) (k := 70) rfl rfl rfl rfl ?_)
      have k11069 : H11057 r0 0 = H r0 0 := (f11062 r0 0 _ g0 rfl)
      have q11070 : H11057 r0 0 = (tk : Int) := k11069.trans qtk
      have k11071 : H11057 tk 0 = H tk 0 := (f11062 tk 0 _ gtk rfl)
      have q11072 : H11057 tk 0 = (rb : Int) := k11071.trans qrb
      refine wp_of e38 c38_46 (xc_V (pc' := 49) (r := r0) (as := [.ref 70]) (st := []) (lm_1_115) rfl rfl (Nat.le_of_ble_eq_true rfl) w11061 g0 sh_3 (by decide) rfl (by decide) (s_23 w11061 g0 rfl q11070 gtk q11072 grb) (fun R11073 T11074 H11075 p11076 => ?_))
      obtain ⟨e11077, w11079, f11080, z11081, e11078, b11082⟩ := p11076
      subst e11077
      subst e11078
      have f11083 := f11066.tr f11080 rfl
      show wp _ _ 38 49 [(2, vI z11064), (0, .ref r0), (1, .ref r1)] [vI z11081] _ H11075 _
      refine wp_of e38 c38_49 (rw_if_eq (p1 := 62) (p2 := 52) (by decide) rfl ⟨by omega, by omega⟩ (fun c11084 => ?_) (fun c11084 => ?_))
      · refine wp_of e38 c38_62 (rw_iconst (pc' := 63) rfl ?_)
        refine wp_of e38 c38_63 (rw_istore_n (pc' := 64) (z := -1) (L' := [(3, vI (-1)), (2, vI z11064), (0, .ref r0), (1, .ref r1)]) rfl rfl rfl ?_)
        refine wp_of e38 c38_64 (rw_iload_n (pc' := 65) (z := -1) rfl rfl ?_)
        refine wp_of e38 c38_65 (rw_if_ge (p1 := 70) (p2 := 68) (by decide) rfl ⟨by omega, by omega⟩ (fun c11085 => ?_) (fun c11085 => ?_))
        · exfalso
          omega
        · refine wp_of e38 c38_68 (rw_iconst (pc' := 69) rfl ?_)
          exact wp_zreturn e38 c38_69 rfl (by omega) ⟨rfl, w11079, f11083, 0, rfl, ⟨by omega, by omega⟩⟩
      · refine wp_of e38 c38_52 (rw_aload_n (pc' := 53) (v := .ref r0) rfl rfl rfl ?_)
        refine wp_of e38 c38_53 (rw_iconst (pc' := 54) rfl ?_)
        refine wp_of e38 c38_54 (rw_bipush (pc' := 56) (z := 99) rfl (by decide) ?_)
        have k11086 : H11075 r0 0 = H11057 r0 0 := (f11080 r0 0 _ g0 rfl)
        have q11087 : H11075 r0 0 = (tk : Int) := k11086.trans q11070
        have k11088 : H11075 tk 0 = H11057 tk 0 := (f11080 tk 0 _ gtk rfl)
        have q11089 : H11075 tk 0 = (rb : Int) := k11088.trans q11072
        refine wp_of e38 c38_56 (xc_V (pc' := 59) (r := r0) (as := [vI 0, vI 99]) (st := []) (lm_1_119) rfl rfl (Nat.le_of_ble_eq_true rfl) w11079 g0 sh_3 (by decide) rfl (by decide) (s_24 w11079 g0 ⟨by omega, by omega⟩ ⟨by omega, by omega⟩ q11087 gtk q11089 grb) (fun R11090 T11091 H11092 p11093 => ?_))
        obtain ⟨e11094, w11096, f11097, z11099, e11095, b11100, p11098⟩ := p11093
        subst e11094
        subst e11095
        have f11101 := f11083.tr f11097 rfl
        show wp _ _ 38 59 [(2, vI z11064), (0, .ref r0), (1, .ref r1)] [vI z11099] _ H11092 _
        refine wp_of e38 c38_59 (rw_goto (p1 := 63) (by decide) ?_)
        refine wp_of e38 c38_63 (rw_istore_n (pc' := 64) (z := z11099) (L' := [(3, vI z11099), (2, vI z11064), (0, .ref r0), (1, .ref r1)]) rfl rfl rfl ?_)
        refine wp_of e38 c38_64 (rw_iload_n (pc' := 65) (z := z11099) rfl rfl ?_)
        refine wp_of e38 c38_65 (rw_if_ge (p1 := 70) (p2 := 68) (by decide) rfl ⟨by omega, by omega⟩ (fun c11102 => ?_) (fun c11102 => ?_))
        · refine wp_of e38 c38_70 (rw_aload_n (pc' := 71) (v := .ref r1) rfl rfl rfl ?_)
          refine wp_of e38 c38_71 (rw_iload_n (pc' := 72) (z := z11064) rfl rfl ?_)
          refine wp_of e38 c38_72 (rw_iload_n (pc' := 73) (z := z11099) rfl rfl ?_)
          refine wp_of e38 c38_73 (xc_V (pc' := 76) (r := r1) (as := [vI z11064, vI z11099]) (st := []) (lm_1_238) rfl rfl (Nat.le_of_ble_eq_true rfl) w11096 g1 sh_27 (by decide) rfl (by decide) (s_40 w11096 g1 ⟨by omega, by omega⟩ ⟨by omega, by omega⟩) (fun R11103 T11104 H11105 p11106 => ?_))
          obtain ⟨e11107, w11109, f11110, e11108⟩ := p11106
          subst e11107
          subst e11108
          have f11111 := f11101.tr f11110 rfl
          show wp _ _ 38 76 [(3, vI z11099), (2, vI z11064), (0, .ref r0), (1, .ref r1)] [] _ H11105 _
          refine wp_of e38 c38_76 (rw_iconst (pc' := 77) rfl ?_)
          exact wp_zreturn e38 c38_77 rfl (by omega) ⟨rfl, w11109, f11111, 1, rfl, ⟨by omega, by omega⟩⟩
        · refine wp_of e38 c38_68 (rw_iconst (pc' := 69) rfl ?_)
          exact wp_zreturn e38 c38_69 rfl (by omega) ⟨rfl, w11096, f11101, 0, rfl, ⟨by omega, by omega⟩⟩
  · refine wp_of e38 c38_11 (rw_aload_n (pc' := 12) (v := .ref r1) rfl rfl rfl ?_)
    refine wp_of e38 c38_12 (rw_aload_n (pc' := 13) (v := .ref r0) rfl rfl rfl ?_)
    refine wp_of e38 c38_13 (xg_K (pc' := 16) lf_1_12 hW g0 sh_3 (by decide) (by decide) rfl qtk rfl ?_)
    refine wp_of e38 c38_16 (xg_I (pc' := 19) lf_1_230 hW gtk sh_4 (by decide) (by decide) ty_4_5 rfl rfl (fun b11112 b11113 => ?_))
    refine wp_of e38 c38_19 (xc_V (pc' := 22) (r := r1) (as := [vI (H tk 5)]) (st := []) (lm_1_233) rfl rfl (Nat.le_of_ble_eq_true rfl) hW g1 sh_27 (by decide) rfl (by decide) (s_39 hW g1 ⟨by omega, by omega⟩) (fun R11114 T11115 H11116 p11117 => ?_))
    obtain ⟨e11118, e11120, z11121, e11119, b11122⟩ := p11117
    subst e11118
    subst e11119
    subst e11120
    show wp _ _ 38 22 [(0, .ref r0), (1, .ref r1)] [vI z11121] _ H _
    refine wp_of e38 c38_22 (rw_if_eq (p1 := 31) (p2 := 25) (by decide) rfl ⟨by omega, by omega⟩ (fun c11123 => ?_) (fun c11123 => ?_))
    · refine wp_of e38 c38_31 (rw_aload_n (pc' := 32) (v := .ref r0) rfl rfl rfl ?_)
      refine wp_of e38 c38_32 (rw_iconst (pc' := 33) rfl ?_)
      refine wp_of e38 c38_33 (rw_bipush (pc' := 35) (z := 23) rfl (by decide) ?_)
      refine wp_of e38 c38_35 (xc_V (pc' := 38) (r := r0) (as := [vI 0, vI 23]) (st := []) (lm_1_119) rfl rfl (Nat.le_of_ble_eq_true rfl) hW g0 sh_3 (by decide) rfl (by decide) (s_24 hW g0 ⟨by omega, by omega⟩ ⟨by omega, by omega⟩ qtk gtk qrb grb) (fun R11124 T11125 H11126 p11127 => ?_))
      obtain ⟨e11128, w11130, f11131, z11133, e11129, b11134, p11132⟩ := p11127
      subst e11128
      subst e11129
      have f11135 := f0.tr f11131 rfl
      show wp _ _ 38 38 [(0, .ref r0), (1, .ref r1)] [vI z11133] _ H11126 _
      refine wp_of e38 c38_38 (rw_istore_n (pc' := 39) (z := z11133) (L' := [(2, vI z11133), (0, .ref r0), (1, .ref r1)]) rfl rfl rfl ?_)
      refine wp_of e38 c38_39 (rw_iload_n (pc' := 40) (z := z11133) rfl rfl ?_)
      refine wp_of e38 c38_40 (rw_if_lt (p1 := 62) (p2 := 43) (by decide) rfl ⟨by omega, by omega⟩ (fun c11136 => ?_) (fun c11136 => ?_))
      · refine wp_of e38 c38_62 (rw_iconst (pc' := 63) rfl ?_)
        refine wp_of e38 c38_63 (rw_istore_n (pc' := 64) (z := -1) (L' := [(3, vI (-1)), (2, vI z11133), (0, .ref r0), (1, .ref r1)]) rfl rfl rfl ?_)
        refine wp_of e38 c38_64 (rw_iload_n (pc' := 65) (z := -1) rfl rfl ?_)
        refine wp_of e38 c38_65 (rw_if_ge (p1 := 70) (p2 := 68) (by decide) rfl ⟨by omega, by omega⟩ (fun c11137 => ?_) (fun c11137 => ?_))
        · exfalso
          omega
        · refine wp_of e38 c38_68 (rw_iconst (pc' := 69) rfl ?_)
          exact wp_zreturn e38 c38_69 rfl (by omega) ⟨rfl, w11130, f11135, 0, rfl, ⟨by omega, by omega⟩⟩
      · refine wp_of e38 c38_43 (rw_aload_n (pc' := 44) (v := .ref r0) rfl rfl rfl ?_)
        refine wp_of e38 c38_44 (rw_ldcS (pc' := 46) (k := 70) rfl rfl rfl rfl ?_)
        have k11138 : H11126 r0 0 = H r0 0 := (f11131 r0 0 _ g0 rfl)
        have q11139 : H11126 r0 0 = (tk : Int) := k11138.trans qtk
        have k11140 : H11126 tk 0 = H tk 0 := (f11131 tk 0 _ gtk rfl)
        have q11141 : H11126 tk 0 = (rb : Int) := k11140.trans qrb
        refine wp_of e38 c38_46 (xc_V (pc' := 49) (r := r0) (as := [.ref 70]) (st := []) (lm_1_115) rfl rfl (Nat.le_of_ble_eq_true rfl) w11130 g0 sh_3 (by decide) rfl (by decide) (s_23 w11130 g0 rfl q11139 gtk q11141 grb) (fun R11142 T11143 H11144 p11145 => ?_))
        obtain ⟨e11146, w11148, f11149, z11150, e11147, b11151⟩ := p11145
        subst e11146
        subst e11147
        have f11152 := f11135.tr f11149 rfl
        show wp _ _ 38 49 [(2, vI z11133), (0, .ref r0), (1, .ref r1)] [vI z11150] _ H11144 _
        refine wp_of e38 c38_49 (rw_if_eq (p1 := 62) (p2 := 52) (by decide) rfl ⟨by omega, by omega⟩ (fun c11153 => ?_) (fun c11153 => ?_))
        · refine wp_of e38 c38_62 (rw_iconst (pc' := 63) rfl ?_)
          refine wp_of e38 c38_63 (rw_istore_n (pc' := 64) (z := -1) (L' := [(3, vI (-1)), (2, vI z11133), (0, .ref r0), (1, .ref r1)]) rfl rfl rfl ?_)
          refine wp_of e38 c38_64 (rw_iload_n (pc' := 65) (z := -1) rfl rfl ?_)
          refine wp_of e38 c38_65 (rw_if_ge (p1 := 70) (p2 := 68) (by decide) rfl ⟨by omega, by omega⟩ (fun c11154 => ?_) (fun c11154 => ?_))
          · exfalso
            omega
          · refine wp_of e38 c38_68 (rw_iconst (pc' := 69) rfl ?_)
            exact wp_zreturn e38 c38_69 rfl (by omega) ⟨rfl, w11148, f11152, 0, rfl, ⟨by omega, by omega⟩⟩
        · refine wp_of e38 c38_52 (rw_aload_n (pc' := 53) (v := .ref r0) rfl rfl rfl ?_)
          refine wp_of e38 c38_53 (rw_iconst (pc' := 54) rfl ?_)
          refine wp_of e38 c38_54 (rw_bipush (pc' := 56) (z := 99) rfl (by decide) ?_)
          have k11155 : H11144 r0 0 = H11126 r0 0 := (f11149 r0 0 _ g0 rfl)
          have q11156 : H11144 r0 0 = (tk : Int) := k11155.trans q11139
          have k11157 : H11144 tk 0 = H11126 tk 0 := (f11149 tk 0 _ gtk rfl)
          have q11158 : H11144 tk 0 = (rb : Int) := k11157.trans q11141
          refine wp_of e38 c38_56 (xc_V (pc' := 59) (r := r0) (as := [vI 0, vI 99]) (st := []) (lm_1_119) rfl rfl (Nat.le_of_ble_eq_true rfl) w11148 g0 sh_3 (by decide) rfl (by decide) (s_24 w11148 g0 ⟨by omega, by omega⟩ ⟨by omega, by omega⟩ q11156 gtk q11158 grb) (fun R11159 T11160 H11161 p11162 => ?_))
          obtain ⟨e11163, w11165, f11166, z11168, e11164, b11169, p11167⟩ := p11162
          subst e11163
          subst e11164
          have f11170 := f11152.tr f11166 rfl
          show wp _ _ 38 59 [(2, vI z11133), (0, .ref r0), (1, .ref r1)] [vI z11168] _ H11161 _
          refine wp_of e38 c38_59 (rw_goto (p1 := 63) (by decide) ?_)
          refine wp_of e38 c38_63 (rw_istore_n (pc' := 64) (z := z11168) (L' := [(3, vI z11168), (2, vI z11133), (0, .ref r0), (1, .ref r1)]) rfl rfl rfl ?_)
          refine wp_of e38 c38_64 (rw_iload_n (pc' := 65) (z := z11168) rfl rfl ?_)
          refine wp_of e38 c38_65 (rw_if_ge (p1 := 70) (p2 := 68) (by decide) rfl ⟨by omega, by omega⟩ (fun c11171 => ?_) (fun c11171 => ?_))
          · refine wp_of e38 c38_70 (rw_aload_n (pc' := 71) (v := .ref r1) rfl rfl rfl ?_)
            refine wp_of e38 c38_71 (rw_iload_n (pc' := 72) (z := z11133) rfl rfl ?_)
            refine wp_of e38 c38_72 (rw_iload_n (pc' := 73) (z := z11168) rfl rfl ?_)
            refine wp_of e38 c38_73 (xc_V (pc' := 76) (r := r1) (as := [vI z11133, vI z11168]) (st := []) (lm_1_238) rfl rfl (Nat.le_of_ble_eq_true rfl) w11165 g1 sh_27 (by decide) rfl (by decide) (s_40 w11165 g1 ⟨by omega, by omega⟩ ⟨by omega, by omega⟩) (fun R11172 T11173 H11174 p11175 => ?_))
            obtain ⟨e11176, w11178, f11179, e11177⟩ := p11175
            subst e11176
            subst e11177
            have f11180 := f11170.tr f11179 rfl
            show wp _ _ 38 76 [(3, vI z11168), (2, vI z11133), (0, .ref r0), (1, .ref r1)] [] _ H11174 _
            refine wp_of e38 c38_76 (rw_iconst (pc' := 77) rfl ?_)
            exact wp_zreturn e38 c38_77 rfl (by omega) ⟨rfl, w11178, f11180, 1, rfl, ⟨by omega, by omega⟩⟩
          · refine wp_of e38 c38_68 (rw_iconst (pc' := 69) rfl ?_)
            exact wp_zreturn e38 c38_69 rfl (by omega) ⟨rfl, w11165, f11170, 0, rfl, ⟨by omega, by omega⟩⟩
    · refine wp_of e38 c38_25 (rw_aload_n (pc' := 26) (v := .ref r0) rfl rfl rfl ?_)
      refine wp_of e38 c38_26 (rw_iconst (pc' := 27) rfl ?_)
      refine wp_of e38 c38_27 (xc_V (pc' := 30) (r := r0) (as := [vI 3]) (st := []) (lm_1_47) rfl rfl (Nat.le_of_ble_eq_true rfl) hW g0 sh_3 (by decide) rfl (by decide) (s_20 hW g0 ⟨by omega, by omega⟩) (fun R11181 T11182 H11183 p11184 => ?_))
      obtain ⟨e11185, w11187, f11188, z11189, e11186, b11190⟩ := p11184
      subst e11185
      subst e11186
      have f11191 := f0.tr f11188 rfl
      show wp _ _ 38 30 [(0, .ref r0), (1, .ref r1)] [vI z11189] _ H11183 _
      exact wp_zreturn e38 c38_30 rfl (by omega) ⟨rfl, w11187, f11191, z11189, rfl, ⟨by omega, by omega⟩⟩
/-! StrikeAwake$Reader.readsTold(LStrikeAwake$Parish;)Z -/
theorem e42 : wq_en 42 = some (1, 3, false, some FieldType.boolean) := rfl
theorem c42_0 : mc_cd 42 0 = some (.aload_n 0, 1) := by decide +kernel
theorem c42_1 : mc_cd 42 1 = some (.aload_n 1, 1) := by decide +kernel
theorem c42_2 : mc_cd 42 2 = some (.invokevirtual 207, 3) := by decide +kernel
theorem c42_5 : mc_cd 42 5 = some (.istore_n 2, 1) := by decide +kernel
theorem c42_6 : mc_cd 42 6 = some (.iload_n 2, 1) := by decide +kernel
theorem c42_7 : mc_cd 42 7 = some (.ifCond .ge 5, 3) := by decide +kernel
theorem c42_10 : mc_cd 42 10 = some (.iconst 0, 1) := by decide +kernel
theorem c42_11 : mc_cd 42 11 = some (.ireturn, 1) := by decide +kernel
theorem c42_12 : mc_cd 42 12 = some (.aload_n 0, 1) := by decide +kernel
theorem c42_13 : mc_cd 42 13 = some (.getfield 12, 3) := by decide +kernel
theorem c42_16 : mc_cd 42 16 = some (.invokevirtual 74, 3) := by decide +kernel
theorem c42_19 : mc_cd 42 19 = some (.aload_n 0, 1) := by decide +kernel
theorem c42_20 : mc_cd 42 20 = some (.bipush 23, 2) := by decide +kernel
theorem c42_22 : mc_cd 42 22 = some (.iconst 1, 1) := by decide +kernel
theorem c42_23 : mc_cd 42 23 = some (.bipush 24, 2) := by decide +kernel
theorem c42_25 : mc_cd 42 25 = some (.bipush 24, 2) := by decide +kernel
theorem c42_27 : mc_cd 42 27 = some (.invokevirtual 154, 3) := by decide +kernel
theorem c42_30 : mc_cd 42 30 = some (.ifCond .ne 5, 3) := by decide +kernel
theorem c42_33 : mc_cd 42 33 = some (.iconst 0, 1) := by decide +kernel
theorem c42_34 : mc_cd 42 34 = some (.ireturn, 1) := by decide +kernel
theorem c42_35 : mc_cd 42 35 = some (.aload_n 1, 1) := by decide +kernel
theorem c42_36 : mc_cd 42 36 = some (.getfield 242, 3) := by decide +kernel
theorem c42_39 : mc_cd 42 39 = some (.aload_n 1, 1) := by decide +kernel
theorem c42_40 : mc_cd 42 40 = some (.getfield 245, 3) := by decide +kernel
theorem c42_43 : mc_cd 42 43 = some (.iload_n 2, 1) := by decide +kernel
theorem c42_44 : mc_cd 42 44 = some (.iastore, 1) := by decide +kernel
theorem c42_45 : mc_cd 42 45 = some (.aload_n 1, 1) := by decide +kernel
theorem c42_46 : mc_cd 42 46 = some (.getfield 248, 3) := by decide +kernel
theorem c42_49 : mc_cd 42 49 = some (.aload_n 1, 1) := by decide +kernel
theorem c42_50 : mc_cd 42 50 = some (.getfield 245, 3) := by decide +kernel
theorem c42_53 : mc_cd 42 53 = some (.aload_n 0, 1) := by decide +kernel
theorem c42_54 : mc_cd 42 54 = some (.getfield 158, 3) := by decide +kernel
theorem c42_57 : mc_cd 42 57 = some (.aload_n 0, 1) := by decide +kernel
theorem c42_58 : mc_cd 42 58 = some (.getfield 164, 3) := by decide +kernel
theorem c42_61 : mc_cd 42 61 = some (.invokestatic 194, 3) := by decide +kernel
theorem c42_64 : mc_cd 42 64 = some (.iastore, 1) := by decide +kernel
theorem c42_65 : mc_cd 42 65 = some (.aload_n 1, 1) := by decide +kernel
theorem c42_66 : mc_cd 42 66 = some (.dup, 1) := by decide +kernel
theorem c42_67 : mc_cd 42 67 = some (.getfield 245, 3) := by decide +kernel
theorem c42_70 : mc_cd 42 70 = some (.iconst 1, 1) := by decide +kernel
theorem c42_71 : mc_cd 42 71 = some (.iadd, 1) := by decide +kernel
theorem c42_72 : mc_cd 42 72 = some (.putfield 245, 3) := by decide +kernel
theorem c42_75 : mc_cd 42 75 = some (.iconst 1, 1) := by decide +kernel
theorem c42_76 : mc_cd 42 76 = some (.ireturn, 1) := by decide +kernel
abbrev q_42 (r0 : Nat) (r1 : Nat) (tk : Nat) (rb : Nat) (T : wq_T) (H : wq_H) : Option Value → wq_T → wq_H → Prop := fun r T' H' => T = T' ∧ WT T H' ∧ wfr [(27, 13), (3, 1), (3, 2), (3, 3), (3, 4), (4, 2), (4, 3), (4, 4), (4, 5), (4, 6), (33, 999), (32, 999)] T H H' ∧ ∃ z : Int, some (vI z) = r ∧ (0 ≤ z ∧ z ≤ 1)
set_option maxHeartbeats 4000000 in
theorem s_42 {kt : Nat → Option mc_E} {T : wq_T} {H : wq_H} {r0 : Nat} {r1 : Nat} {tk : Nat} {rb : Nat} (hW : WT T H) (g0 : T.2.2.2 r0 = some 3) (g1 : T.2.2.2 r1 = some 27) (qtk : H r0 0 = (tk : Int)) (gtk : T.2.2.2 tk = some 4) (qrb : H tk 0 = (rb : Int)) (grb : T.2.2.2 rb = some 2) (p0 : H r1 13 ≤ 3) : wpc kt 5 42 [.ref r0, .ref r1] T H (q_42 r0 r1 tk rb T H) := by
  refine wp_enter e42 (Nat.le_of_ble_eq_true rfl) rfl ?_
  have f0 : wfr [(27, 13), (3, 1), (3, 2), (3, 3), (3, 4), (4, 2), (4, 3), (4, 4), (4, 5), (4, 6), (33, 999), (32, 999)] T H H := wfr.rf
  show wp _ _ 42 0 [(0, .ref r0), (1, .ref r1)] [] _ H _
  refine wp_of e42 c42_0 (rw_aload_n (pc' := 1) (v := .ref r0) rfl rfl rfl ?_)
  refine wp_of e42 c42_1 (rw_aload_n (pc' := 2) (v := .ref r1) rfl rfl rfl ?_)
  refine wp_of e42 c42_2 (xc_V (pc' := 5) (r := r0) (as := [.ref r1]) (st := []) (lm_1_207) rfl rfl (Nat.le_of_ble_eq_true rfl) hW g0 sh_3 (by decide) rfl (by decide) (s_33 hW g0 g1 qtk gtk qrb grb) (fun R11274 T11275 H11276 p11277 => ?_))
  obtain ⟨e11278, w11280, f11281, z11282, e11279, b11283⟩ := p11277
  subst e11278
  subst e11279
  have f11284 := f0.tr f11281 rfl
  show wp _ _ 42 5 [(0, .ref r0), (1, .ref r1)] [vI z11282] _ H11276 _
  refine wp_of e42 c42_5 (rw_istore_n (pc' := 6) (z := z11282) (L' := [(2, vI z11282), (0, .ref r0), (1, .ref r1)]) rfl rfl rfl ?_)
  refine wp_of e42 c42_6 (rw_iload_n (pc' := 7) (z := z11282) rfl rfl ?_)
  refine wp_of e42 c42_7 (rw_if_ge (p1 := 12) (p2 := 10) (by decide) rfl ⟨by omega, by omega⟩ (fun c11285 => ?_) (fun c11285 => ?_))
  · refine wp_of e42 c42_12 (rw_aload_n (pc' := 13) (v := .ref r0) rfl rfl rfl ?_)
    have k11286 : H11276 r0 0 = H r0 0 := (f11281 r0 0 _ g0 rfl)
    have q11287 : H11276 r0 0 = (tk : Int) := k11286.trans qtk
    refine wp_of e42 c42_13 (xg_K (pc' := 16) lf_1_12 w11280 g0 sh_3 (by decide) (by decide) rfl q11287 rfl ?_)
    have k11288 : H11276 tk 0 = H tk 0 := (f11281 tk 0 _ gtk rfl)
    have q11289 : H11276 tk 0 = (rb : Int) := k11288.trans qrb
    refine wp_of e42 c42_16 (xc_V (pc' := 19) (r := tk) (as := []) (st := []) (lm_1_74) rfl rfl (Nat.le_of_ble_eq_true rfl) w11280 gtk sh_4 (by decide) rfl (by decide) (s_16 w11280 gtk q11289 grb) (fun R11290 T11291 H11292 p11293 => ?_))
    obtain ⟨e11294, w11296, f11297, e11295⟩ := p11293
    subst e11294
    subst e11295
    have f11298 := f11284.tr f11297 rfl
    show wp _ _ 42 19 [(2, vI z11282), (0, .ref r0), (1, .ref r1)] [] _ H11292 _
    refine wp_of e42 c42_19 (rw_aload_n (pc' := 20) (v := .ref r0) rfl rfl rfl ?_)
    refine wp_of e42 c42_20 (rw_bipush (pc' := 22) (z := 23) rfl (by decide) ?_)
    refine wp_of e42 c42_22 (rw_iconst (pc' := 23) rfl ?_)
    refine wp_of e42 c42_23 (rw_bipush (pc' := 25) (z := 24) rfl (by decide) ?_)
    refine wp_of e42 c42_25 (rw_bipush (pc' := 27) (z := 24) rfl (by decide) ?_)
    have k11299 : H11292 r0 0 = H11276 r0 0 := (f11297 r0 0 _ g0 rfl)
    have q11300 : H11292 r0 0 = (tk : Int) := k11299.trans q11287
    have k11301 : H11292 tk 0 = H11276 tk 0 := (f11297 tk 0 _ gtk rfl)
    have q11302 : H11292 tk 0 = (rb : Int) := k11301.trans q11289
    refine wp_of e42 c42_27 (xc_V (pc' := 30) (r := r0) (as := [vI 23, vI 1, vI 24, vI 24]) (st := []) (lm_1_154) rfl rfl (Nat.le_of_ble_eq_true rfl) w11296 g0 sh_3 (by decide) rfl (by decide) (s_29 w11296 g0 ⟨by omega, by omega⟩ ⟨by omega, by omega⟩ ⟨by omega, by omega⟩ ⟨by omega, by omega⟩ q11300 gtk q11302 grb) (fun R11303 T11304 H11305 p11306 => ?_))
    obtain ⟨e11307, w11309, f11310, z11311, e11308, b11312⟩ := p11306
    subst e11307
    subst e11308
    have f11313 := f11298.tr f11310 rfl
    show wp _ _ 42 30 [(2, vI z11282), (0, .ref r0), (1, .ref r1)] [vI z11311] _ H11305 _
    refine wp_of e42 c42_30 (rw_if_ne (p1 := 35) (p2 := 33) (by decide) rfl ⟨by omega, by omega⟩ (fun c11314 => ?_) (fun c11314 => ?_))
    · refine wp_of e42 c42_35 (rw_aload_n (pc' := 36) (v := .ref r1) rfl rfl rfl ?_)
      refine wp_of e42 c42_36 (xg_R (pc' := 39) lf_1_242 w11309 g1 sh_27 (by decide) (by decide) ty_27_4 rfl rfl (fun r11315 q11316 g11317 => ?_))
      refine wp_of e42 c42_39 (rw_aload_n (pc' := 40) (v := .ref r1) rfl rfl rfl ?_)
      have k11318 : H11305 r1 13 = H r1 13 := ((f11310 r1 13 _ g1 rfl).trans ((f11297 r1 13 _ g1 rfl).trans (f11281 r1 13 _ g1 rfl)))
      refine wp_of e42 c42_40 (xg_I (pc' := 43) lf_1_245 w11309 g1 sh_27 (by decide) (by decide) ty_27_13 rfl rfl (fun b11319 b11320 => ?_))
      refine wp_of e42 c42_43 (rw_iload_n (pc' := 44) (z := z11282) rfl rfl ?_)
      refine wp_of e42 c42_44 (xs_I (pc' := 45) w11309 g11317 (by decide) sh_32 (by decide) (ty_32 _) (by omega) (by omega) ⟨by omega, by omega⟩ (by omega) (by omega) rfl (fun H11321 e11322 w11323 => ?_))
      have f11324 := f11313.put' e11322 g11317 rfl
      refine wp_of e42 c42_45 (rw_aload_n (pc' := 46) (v := .ref r1) rfl rfl rfl ?_)
      refine wp_of e42 c42_46 (xg_R (pc' := 49) lf_1_248 w11323 g1 sh_27 (by decide) (by decide) ty_27_5 rfl rfl (fun r11325 q11326 g11327 => ?_))
      refine wp_of e42 c42_49 (rw_aload_n (pc' := 50) (v := .ref r1) rfl rfl rfl ?_)
      have k11328 : H11321 r1 13 = H11305 r1 13 := (wq_u_t e11322 g11317 g1 rfl 13)
      refine wp_of e42 c42_50 (xg_I (pc' := 53) lf_1_245 w11323 g1 sh_27 (by decide) (by decide) ty_27_13 rfl rfl (fun b11329 b11330 => ?_))
      refine wp_of e42 c42_53 (rw_aload_n (pc' := 54) (v := .ref r0) rfl rfl rfl ?_)
      refine wp_of e42 c42_54 (xg_I (pc' := 57) lf_1_158 w11323 g0 sh_3 (by decide) (by decide) ty_3_1 rfl rfl (fun b11331 b11332 => ?_))
      refine wp_of e42 c42_57 (rw_aload_n (pc' := 58) (v := .ref r0) rfl rfl rfl ?_)
      refine wp_of e42 c42_58 (xg_I (pc' := 61) lf_1_164 w11323 g0 sh_3 (by decide) (by decide) ty_3_2 rfl rfl (fun b11333 b11334 => ?_))
      refine wp_of e42 c42_61 (xc_S (pc' := 64) (as := [vI (H11321 r0 1), vI (H11321 r0 2)]) (st := [vI (H11321 r1 13), .ref r11325]) (lm_1_194) rfl rfl (Nat.le_of_ble_eq_true rfl) rfl (by decide) (s_31 w11323 ⟨by omega, by omega⟩ ⟨by omega, by omega⟩) (fun R11335 T11336 H11337 p11338 => ?_))
      obtain ⟨e11339, e11341, z11342, e11340, b11343⟩ := p11338
      subst e11339
      subst e11340
      subst e11341
      show wp _ _ 42 64 [(2, vI z11282), (0, .ref r0), (1, .ref r1)] [vI z11342, vI (H11321 r1 13), .ref r11325] _ H11321 _
      refine wp_of e42 c42_64 (xs_I (pc' := 65) w11323 g11327 (by decide) sh_33 (by decide) (ty_33 _) (by omega) (by omega) ⟨by omega, by omega⟩ (by omega) (by omega) rfl (fun H11344 e11345 w11346 => ?_))
      have f11347 := f11324.put' e11345 g11327 rfl
      refine wp_of e42 c42_65 (rw_aload_n (pc' := 66) (v := .ref r1) rfl rfl rfl ?_)
      refine wp_of e42 c42_66 (rw_dup (pc' := 67) rfl rfl ?_)
      have k11348 : H11344 r1 13 = H11321 r1 13 := (wq_u_t e11345 g11327 g1 rfl 13)
      refine wp_of e42 c42_67 (xg_I (pc' := 70) lf_1_245 w11346 g1 sh_27 (by decide) (by decide) ty_27_13 rfl rfl (fun b11349 b11350 => ?_))
      refine wp_of e42 c42_70 (rw_iconst (pc' := 71) rfl ?_)
      refine wp_of e42 c42_71 (rw_iadd (pc' := 72) rfl ?_)
      refine wp_of e42 c42_72 (xp_I (pc' := 75) lf_1_245 w11346 g1 sh_27 (by decide) (by decide) ty_27_13 rfl rfl (by omega) (by omega) ⟨by omega, by omega⟩ rfl (fun H11351 e11352 w11353 => ?_))
      have f11354 := f11347.put' e11352 g1 rfl
      have k11355 : H11351 r1 13 = (H11344 r1 13) + 1 := wq_u_s e11352
      refine wp_of e42 c42_75 (rw_iconst (pc' := 76) rfl ?_)
      exact wp_zreturn e42 c42_76 rfl (by omega) ⟨rfl, w11353, f11354, 1, rfl, ⟨by omega, by omega⟩⟩
    · refine wp_of e42 c42_33 (rw_iconst (pc' := 34) rfl ?_)
      exact wp_zreturn e42 c42_34 rfl (by omega) ⟨rfl, w11309, f11313, 0, rfl, ⟨by omega, by omega⟩⟩
  · refine wp_of e42 c42_10 (rw_iconst (pc' := 11) rfl ?_)
    exact wp_zreturn e42 c42_11 rfl (by omega) ⟨rfl, w11280, f11284, 0, rfl, ⟨by omega, by omega⟩⟩
/-! StrikeAwake$Reader.readsOffer(LStrikeAwake$Parish;)Z -/
theorem e43 : wq_en 43 = some (1, 2, false, some FieldType.boolean) := rfl
theorem c43_0 : mc_cd 43 0 = some (.aload_n 0, 1) := by decide +kernel
theorem c43_1 : mc_cd 43 1 = some (.aload_n 1, 1) := by decide +kernel
theorem c43_2 : mc_cd 43 2 = some (.invokevirtual 207, 3) := by decide +kernel
theorem c43_5 : mc_cd 43 5 = some (.ifCond .ge 5, 3) := by decide +kernel
theorem c43_8 : mc_cd 43 8 = some (.iconst 0, 1) := by decide +kernel
theorem c43_9 : mc_cd 43 9 = some (.ireturn, 1) := by decide +kernel
theorem c43_10 : mc_cd 43 10 = some (.aload_n 0, 1) := by decide +kernel
theorem c43_11 : mc_cd 43 11 = some (.getfield 12, 3) := by decide +kernel
theorem c43_14 : mc_cd 43 14 = some (.invokevirtual 74, 3) := by decide +kernel
theorem c43_17 : mc_cd 43 17 = some (.aload_n 0, 1) := by decide +kernel
theorem c43_18 : mc_cd 43 18 = some (.bipush 23, 2) := by decide +kernel
theorem c43_20 : mc_cd 43 20 = some (.iconst 1, 1) := by decide +kernel
theorem c43_21 : mc_cd 43 21 = some (.bipush 24, 2) := by decide +kernel
theorem c43_23 : mc_cd 43 23 = some (.bipush 24, 2) := by decide +kernel
theorem c43_25 : mc_cd 43 25 = some (.invokevirtual 154, 3) := by decide +kernel
theorem c43_28 : mc_cd 43 28 = some (.ifCond .ne 5, 3) := by decide +kernel
theorem c43_31 : mc_cd 43 31 = some (.iconst 0, 1) := by decide +kernel
theorem c43_32 : mc_cd 43 32 = some (.ireturn, 1) := by decide +kernel
theorem c43_33 : mc_cd 43 33 = some (.aload_n 1, 1) := by decide +kernel
theorem c43_34 : mc_cd 43 34 = some (.getfield 251, 3) := by decide +kernel
theorem c43_37 : mc_cd 43 37 = some (.aload_n 1, 1) := by decide +kernel
theorem c43_38 : mc_cd 43 38 = some (.getfield 254, 3) := by decide +kernel
theorem c43_41 : mc_cd 43 41 = some (.aload_n 0, 1) := by decide +kernel
theorem c43_42 : mc_cd 43 42 = some (.getfield 158, 3) := by decide +kernel
theorem c43_45 : mc_cd 43 45 = some (.aload_n 0, 1) := by decide +kernel
theorem c43_46 : mc_cd 43 46 = some (.getfield 164, 3) := by decide +kernel
theorem c43_49 : mc_cd 43 49 = some (.invokestatic 194, 3) := by decide +kernel
theorem c43_52 : mc_cd 43 52 = some (.iastore, 1) := by decide +kernel
theorem c43_53 : mc_cd 43 53 = some (.aload_n 1, 1) := by decide +kernel
theorem c43_54 : mc_cd 43 54 = some (.dup, 1) := by decide +kernel
theorem c43_55 : mc_cd 43 55 = some (.getfield 254, 3) := by decide +kernel
theorem c43_58 : mc_cd 43 58 = some (.iconst 1, 1) := by decide +kernel
theorem c43_59 : mc_cd 43 59 = some (.iadd, 1) := by decide +kernel
theorem c43_60 : mc_cd 43 60 = some (.putfield 254, 3) := by decide +kernel
theorem c43_63 : mc_cd 43 63 = some (.iconst 1, 1) := by decide +kernel
theorem c43_64 : mc_cd 43 64 = some (.ireturn, 1) := by decide +kernel
abbrev q_43 (r0 : Nat) (r1 : Nat) (tk : Nat) (rb : Nat) (T : wq_T) (H : wq_H) : Option Value → wq_T → wq_H → Prop := fun r T' H' => T = T' ∧ WT T H' ∧ wfr [(27, 14), (3, 1), (3, 2), (3, 3), (3, 4), (4, 2), (4, 3), (4, 4), (4, 5), (4, 6), (34, 999)] T H H' ∧ ∃ z : Int, some (vI z) = r ∧ (0 ≤ z ∧ z ≤ 1)
set_option maxHeartbeats 4000000 in
theorem s_43 {kt : Nat → Option mc_E} {T : wq_T} {H : wq_H} {r0 : Nat} {r1 : Nat} {tk : Nat} {rb : Nat} (hW : WT T H) (g0 : T.2.2.2 r0 = some 3) (g1 : T.2.2.2 r1 = some 27) (qtk : H r0 0 = (tk : Int)) (gtk : T.2.2.2 tk = some 4) (qrb : H tk 0 = (rb : Int)) (grb : T.2.2.2 rb = some 2) (p0 : H r1 14 ≤ 5) : wpc kt 5 43 [.ref r0, .ref r1] T H (q_43 r0 r1 tk rb T H) := by
  refine wp_enter e43 (Nat.le_of_ble_eq_true rfl) rfl ?_
  have f0 : wfr [(27, 14), (3, 1), (3, 2), (3, 3), (3, 4), (4, 2), (4, 3), (4, 4), (4, 5), (4, 6), (34, 999)] T H H := wfr.rf
  show wp _ _ 43 0 [(0, .ref r0), (1, .ref r1)] [] _ H _
  refine wp_of e43 c43_0 (rw_aload_n (pc' := 1) (v := .ref r0) rfl rfl rfl ?_)
  refine wp_of e43 c43_1 (rw_aload_n (pc' := 2) (v := .ref r1) rfl rfl rfl ?_)
  refine wp_of e43 c43_2 (xc_V (pc' := 5) (r := r0) (as := [.ref r1]) (st := []) (lm_1_207) rfl rfl (Nat.le_of_ble_eq_true rfl) hW g0 sh_3 (by decide) rfl (by decide) (s_33 hW g0 g1 qtk gtk qrb grb) (fun R11428 T11429 H11430 p11431 => ?_))
  obtain ⟨e11432, w11434, f11435, z11436, e11433, b11437⟩ := p11431
  subst e11432
  subst e11433
  have f11438 := f0.tr f11435 rfl
  show wp _ _ 43 5 [(0, .ref r0), (1, .ref r1)] [vI z11436] _ H11430 _
  refine wp_of e43 c43_5 (rw_if_ge (p1 := 10) (p2 := 8) (by decide) rfl ⟨by omega, by omega⟩ (fun c11439 => ?_) (fun c11439 => ?_))
  · refine wp_of e43 c43_10 (rw_aload_n (pc' := 11) (v := .ref r0) rfl rfl rfl ?_)
    have k11440 : H11430 r0 0 = H r0 0 := (f11435 r0 0 _ g0 rfl)
    have q11441 : H11430 r0 0 = (tk : Int) := k11440.trans qtk
    refine wp_of e43 c43_11 (xg_K (pc' := 14) lf_1_12 w11434 g0 sh_3 (by decide) (by decide) rfl q11441 rfl ?_)
    have k11442 : H11430 tk 0 = H tk 0 := (f11435 tk 0 _ gtk rfl)
    have q11443 : H11430 tk 0 = (rb : Int) := k11442.trans qrb
    refine wp_of e43 c43_14 (xc_V (pc' := 17) (r := tk) (as := []) (st := []) (lm_1_74) rfl rfl (Nat.le_of_ble_eq_true rfl) w11434 gtk sh_4 (by decide) rfl (by decide) (s_16 w11434 gtk q11443 grb) (fun R11444 T11445 H11446 p11447 => ?_))
    obtain ⟨e11448, w11450, f11451, e11449⟩ := p11447
    subst e11448
    subst e11449
    have f11452 := f11438.tr f11451 rfl
    show wp _ _ 43 17 [(0, .ref r0), (1, .ref r1)] [] _ H11446 _
    refine wp_of e43 c43_17 (rw_aload_n (pc' := 18) (v := .ref r0) rfl rfl rfl ?_)
    refine wp_of e43 c43_18 (rw_bipush (pc' := 20) (z := 23) rfl (by decide) ?_)
    refine wp_of e43 c43_20 (rw_iconst (pc' := 21) rfl ?_)
    refine wp_of e43 c43_21 (rw_bipush (pc' := 23) (z := 24) rfl (by decide) ?_)
    refine wp_of e43 c43_23 (rw_bipush (pc' := 25) (z := 24) rfl (by decide) ?_)
    have k11453 : H11446 r0 0 = H11430 r0 0 := (f11451 r0 0 _ g0 rfl)
    have q11454 : H11446 r0 0 = (tk : Int) := k11453.trans q11441
    have k11455 : H11446 tk 0 = H11430 tk 0 := (f11451 tk 0 _ gtk rfl)
    have q11456 : H11446 tk 0 = (rb : Int) := k11455.trans q11443
    refine wp_of e43 c43_25 (xc_V (pc' := 28) (r := r0) (as := [vI 23, vI 1, vI 24, vI 24]) (st := []) (lm_1_154) rfl rfl (Nat.le_of_ble_eq_true rfl) w11450 g0 sh_3 (by decide) rfl (by decide) (s_29 w11450 g0 ⟨by omega, by omega⟩ ⟨by omega, by omega⟩ ⟨by omega, by omega⟩ ⟨by omega, by omega⟩ q11454 gtk q11456 grb) (fun R11457 T11458 H11459 p11460 => ?_))
    obtain ⟨e11461, w11463, f11464, z11465, e11462, b11466⟩ := p11460
    subst e11461
    subst e11462
    have f11467 := f11452.tr f11464 rfl
    show wp _ _ 43 28 [(0, .ref r0), (1, .ref r1)] [vI z11465] _ H11459 _
    refine wp_of e43 c43_28 (rw_if_ne (p1 := 33) (p2 := 31) (by decide) rfl ⟨by omega, by omega⟩ (fun c11468 => ?_) (fun c11468 => ?_))
    · refine wp_of e43 c43_33 (rw_aload_n (pc' := 34) (v := .ref r1) rfl rfl rfl ?_)
      refine wp_of e43 c43_34 (xg_R (pc' := 37) lf_1_251 w11463 g1 sh_27 (by decide) (by decide) ty_27_6 rfl rfl (fun r11469 q11470 g11471 => ?_))
      refine wp_of e43 c43_37 (rw_aload_n (pc' := 38) (v := .ref r1) rfl rfl rfl ?_)
      have k11472 : H11459 r1 14 = H r1 14 := ((f11464 r1 14 _ g1 rfl).trans ((f11451 r1 14 _ g1 rfl).trans (f11435 r1 14 _ g1 rfl)))
      refine wp_of e43 c43_38 (xg_I (pc' := 41) lf_1_254 w11463 g1 sh_27 (by decide) (by decide) ty_27_14 rfl rfl (fun b11473 b11474 => ?_))
      refine wp_of e43 c43_41 (rw_aload_n (pc' := 42) (v := .ref r0) rfl rfl rfl ?_)
      refine wp_of e43 c43_42 (xg_I (pc' := 45) lf_1_158 w11463 g0 sh_3 (by decide) (by decide) ty_3_1 rfl rfl (fun b11475 b11476 => ?_))
      refine wp_of e43 c43_45 (rw_aload_n (pc' := 46) (v := .ref r0) rfl rfl rfl ?_)
      refine wp_of e43 c43_46 (xg_I (pc' := 49) lf_1_164 w11463 g0 sh_3 (by decide) (by decide) ty_3_2 rfl rfl (fun b11477 b11478 => ?_))
      refine wp_of e43 c43_49 (xc_S (pc' := 52) (as := [vI (H11459 r0 1), vI (H11459 r0 2)]) (st := [vI (H11459 r1 14), .ref r11469]) (lm_1_194) rfl rfl (Nat.le_of_ble_eq_true rfl) rfl (by decide) (s_31 w11463 ⟨by omega, by omega⟩ ⟨by omega, by omega⟩) (fun R11479 T11480 H11481 p11482 => ?_))
      obtain ⟨e11483, e11485, z11486, e11484, b11487⟩ := p11482
      subst e11483
      subst e11484
      subst e11485
      show wp _ _ 43 52 [(0, .ref r0), (1, .ref r1)] [vI z11486, vI (H11459 r1 14), .ref r11469] _ H11459 _
      refine wp_of e43 c43_52 (xs_I (pc' := 53) w11463 g11471 (by decide) sh_34 (by decide) (ty_34 _) (by omega) (by omega) ⟨by omega, by omega⟩ (by omega) (by omega) rfl (fun H11488 e11489 w11490 => ?_))
      have f11491 := f11467.put' e11489 g11471 rfl
      refine wp_of e43 c43_53 (rw_aload_n (pc' := 54) (v := .ref r1) rfl rfl rfl ?_)
      refine wp_of e43 c43_54 (rw_dup (pc' := 55) rfl rfl ?_)
      have k11492 : H11488 r1 14 = H11459 r1 14 := (wq_u_t e11489 g11471 g1 rfl 14)
      refine wp_of e43 c43_55 (xg_I (pc' := 58) lf_1_254 w11490 g1 sh_27 (by decide) (by decide) ty_27_14 rfl rfl (fun b11493 b11494 => ?_))
      refine wp_of e43 c43_58 (rw_iconst (pc' := 59) rfl ?_)
      refine wp_of e43 c43_59 (rw_iadd (pc' := 60) rfl ?_)
      refine wp_of e43 c43_60 (xp_I (pc' := 63) lf_1_254 w11490 g1 sh_27 (by decide) (by decide) ty_27_14 rfl rfl (by omega) (by omega) ⟨by omega, by omega⟩ rfl (fun H11495 e11496 w11497 => ?_))
      have f11498 := f11491.put' e11496 g1 rfl
      have k11499 : H11495 r1 14 = (H11488 r1 14) + 1 := wq_u_s e11496
      refine wp_of e43 c43_63 (rw_iconst (pc' := 64) rfl ?_)
      exact wp_zreturn e43 c43_64 rfl (by omega) ⟨rfl, w11497, f11498, 1, rfl, ⟨by omega, by omega⟩⟩
    · refine wp_of e43 c43_31 (rw_iconst (pc' := 32) rfl ?_)
      exact wp_zreturn e43 c43_32 rfl (by omega) ⟨rfl, w11463, f11467, 0, rfl, ⟨by omega, by omega⟩⟩
  · refine wp_of e43 c43_8 (rw_iconst (pc' := 9) rfl ?_)
    exact wp_zreturn e43 c43_9 rfl (by omega) ⟨rfl, w11434, f11438, 0, rfl, ⟨by omega, by omega⟩⟩
/-! StrikeAwake$Reader.readsLine(LStrikeAwake$Parish;)Z -/
theorem e17 : wq_en 17 = some (1, 4, false, some FieldType.boolean) := rfl
theorem c17_0 : mc_cd 17 0 = some (.aload_n 0, 1) := by decide +kernel
theorem c17_1 : mc_cd 17 1 = some (.invokevirtual 54, 3) := by decide +kernel
theorem c17_4 : mc_cd 17 4 = some (.astore_n 2, 1) := by decide +kernel
theorem c17_5 : mc_cd 17 5 = some (.aload_n 2, 1) := by decide +kernel
theorem c17_6 : mc_cd 17 6 = some (.ifnull 10, 3) := by decide +kernel
theorem c17_9 : mc_cd 17 9 = some (.aload_n 2, 1) := by decide +kernel
theorem c17_10 : mc_cd 17 10 = some (.getfield 58, 3) := by decide +kernel
theorem c17_13 : mc_cd 17 13 = some (.ifCond .ne 9, 3) := by decide +kernel
theorem c17_16 : mc_cd 17 16 = some (.aload_n 0, 1) := by decide +kernel
theorem c17_17 : mc_cd 17 17 = some (.iconst 1, 1) := by decide +kernel
theorem c17_18 : mc_cd 17 18 = some (.invokevirtual 47, 3) := by decide +kernel
theorem c17_21 : mc_cd 17 21 = some (.ireturn, 1) := by decide +kernel
theorem c17_22 : mc_cd 17 22 = some (.aload_n 1, 1) := by decide +kernel
theorem c17_23 : mc_cd 17 23 = some (.aload_n 2, 1) := by decide +kernel
theorem c17_24 : mc_cd 17 24 = some (.invokevirtual 63, 3) := by decide +kernel
theorem c17_27 : mc_cd 17 27 = some (.aload_n 2, 1) := by decide +kernel
theorem c17_28 : mc_cd 17 28 = some (.getfield 58, 3) := by decide +kernel
theorem c17_31 : mc_cd 17 31 = some (.if_icmp .lt 37, 3) := by decide +kernel
theorem c17_34 : mc_cd 17 34 = some (.aload_n 2, 1) := by decide +kernel
theorem c17_35 : mc_cd 17 35 = some (.getstatic 67, 3) := by decide +kernel
theorem c17_38 : mc_cd 17 38 = some (.if_acmp .eq 10, 3) := by decide +kernel
theorem c17_41 : mc_cd 17 41 = some (.aload_n 2, 1) := by decide +kernel
theorem c17_42 : mc_cd 17 42 = some (.getstatic 71, 3) := by decide +kernel
theorem c17_45 : mc_cd 17 45 = some (.if_acmp .ne 7, 3) := by decide +kernel
theorem c17_48 : mc_cd 17 48 = some (.iconst 1, 1) := by decide +kernel
theorem c17_49 : mc_cd 17 49 = some (.goto 4, 3) := by decide +kernel
theorem c17_52 : mc_cd 17 52 = some (.iconst 0, 1) := by decide +kernel
theorem c17_53 : mc_cd 17 53 = some (.istore_n 3, 1) := by decide +kernel
theorem c17_54 : mc_cd 17 54 = some (.aload_n 0, 1) := by decide +kernel
theorem c17_55 : mc_cd 17 55 = some (.iload_n 3, 1) := by decide +kernel
theorem c17_56 : mc_cd 17 56 = some (.ifCond .eq 7, 3) := by decide +kernel
theorem c17_59 : mc_cd 17 59 = some (.iconst 3, 1) := by decide +kernel
theorem c17_60 : mc_cd 17 60 = some (.goto 4, 3) := by decide +kernel
theorem c17_63 : mc_cd 17 63 = some (.iconst 5, 1) := by decide +kernel
theorem c17_64 : mc_cd 17 64 = some (.invokevirtual 47, 3) := by decide +kernel
theorem c17_67 : mc_cd 17 67 = some (.ireturn, 1) := by decide +kernel
theorem c17_68 : mc_cd 17 68 = some (.aload_n 0, 1) := by decide +kernel
theorem c17_69 : mc_cd 17 69 = some (.getfield 12, 3) := by decide +kernel
theorem c17_72 : mc_cd 17 72 = some (.invokevirtual 74, 3) := by decide +kernel
theorem c17_75 : mc_cd 17 75 = some (.getstatic 77, 3) := by decide +kernel
theorem c17_78 : mc_cd 17 78 = some (.aload_n 2, 1) := by decide +kernel
theorem c17_79 : mc_cd 17 79 = some (.invokevirtual 83, 3) := by decide +kernel
theorem c17_82 : mc_cd 17 82 = some (.iaload, 1) := by decide +kernel
theorem c17_83 : mc_cd 17 83 = some (.tableswitch 109 1 8 #[45, 51, 73, 79, 85, 91, 97, 103], 45) := by decide +kernel
theorem c17_128 : mc_cd 17 128 = some (.aload_n 0, 1) := by decide +kernel
theorem c17_129 : mc_cd 17 129 = some (.aload_n 1, 1) := by decide +kernel
theorem c17_130 : mc_cd 17 130 = some (.invokevirtual 87, 3) := by decide +kernel
theorem c17_133 : mc_cd 17 133 = some (.ireturn, 1) := by decide +kernel
theorem c17_134 : mc_cd 17 134 = some (.aload_n 0, 1) := by decide +kernel
theorem c17_135 : mc_cd 17 135 = some (.aload_n 1, 1) := by decide +kernel
theorem c17_136 : mc_cd 17 136 = some (.invokevirtual 90, 3) := by decide +kernel
theorem c17_139 : mc_cd 17 139 = some (.ifCond .eq 15, 3) := by decide +kernel
theorem c17_142 : mc_cd 17 142 = some (.aload_n 0, 1) := by decide +kernel
theorem c17_143 : mc_cd 17 143 = some (.aload_n 1, 1) := by decide +kernel
theorem c17_144 : mc_cd 17 144 = some (.invokevirtual 93, 3) := by decide +kernel
theorem c17_147 : mc_cd 17 147 = some (.ifCond .eq 7, 3) := by decide +kernel
theorem c17_150 : mc_cd 17 150 = some (.iconst 1, 1) := by decide +kernel
theorem c17_151 : mc_cd 17 151 = some (.goto 4, 3) := by decide +kernel
theorem c17_154 : mc_cd 17 154 = some (.iconst 0, 1) := by decide +kernel
theorem c17_155 : mc_cd 17 155 = some (.ireturn, 1) := by decide +kernel
theorem c17_156 : mc_cd 17 156 = some (.aload_n 0, 1) := by decide +kernel
theorem c17_157 : mc_cd 17 157 = some (.aload_n 1, 1) := by decide +kernel
theorem c17_158 : mc_cd 17 158 = some (.invokevirtual 96, 3) := by decide +kernel
theorem c17_161 : mc_cd 17 161 = some (.ireturn, 1) := by decide +kernel
theorem c17_162 : mc_cd 17 162 = some (.aload_n 0, 1) := by decide +kernel
theorem c17_163 : mc_cd 17 163 = some (.aload_n 1, 1) := by decide +kernel
theorem c17_164 : mc_cd 17 164 = some (.invokevirtual 99, 3) := by decide +kernel
theorem c17_167 : mc_cd 17 167 = some (.ireturn, 1) := by decide +kernel
theorem c17_168 : mc_cd 17 168 = some (.aload_n 0, 1) := by decide +kernel
theorem c17_169 : mc_cd 17 169 = some (.aload_n 1, 1) := by decide +kernel
theorem c17_170 : mc_cd 17 170 = some (.invokevirtual 102, 3) := by decide +kernel
theorem c17_173 : mc_cd 17 173 = some (.ireturn, 1) := by decide +kernel
theorem c17_174 : mc_cd 17 174 = some (.aload_n 0, 1) := by decide +kernel
theorem c17_175 : mc_cd 17 175 = some (.aload_n 1, 1) := by decide +kernel
theorem c17_176 : mc_cd 17 176 = some (.invokevirtual 105, 3) := by decide +kernel
theorem c17_179 : mc_cd 17 179 = some (.ireturn, 1) := by decide +kernel
theorem c17_180 : mc_cd 17 180 = some (.aload_n 0, 1) := by decide +kernel
theorem c17_181 : mc_cd 17 181 = some (.aload_n 1, 1) := by decide +kernel
theorem c17_182 : mc_cd 17 182 = some (.invokevirtual 108, 3) := by decide +kernel
theorem c17_185 : mc_cd 17 185 = some (.ireturn, 1) := by decide +kernel
theorem c17_186 : mc_cd 17 186 = some (.aload_n 0, 1) := by decide +kernel
theorem c17_187 : mc_cd 17 187 = some (.aload_n 1, 1) := by decide +kernel
theorem c17_188 : mc_cd 17 188 = some (.invokevirtual 111, 3) := by decide +kernel
theorem c17_191 : mc_cd 17 191 = some (.ireturn, 1) := by decide +kernel
theorem c17_192 : mc_cd 17 192 = some (.aload_n 0, 1) := by decide +kernel
theorem c17_193 : mc_cd 17 193 = some (.iconst 1, 1) := by decide +kernel
theorem c17_194 : mc_cd 17 194 = some (.invokevirtual 47, 3) := by decide +kernel
theorem c17_197 : mc_cd 17 197 = some (.ireturn, 1) := by decide +kernel
abbrev q_17 (r0 : Nat) (r1 : Nat) (tk : Nat) (rb : Nat) (T : wq_T) (H : wq_H) : Option Value → wq_T → wq_H → Prop := fun r T' H' => T = T' ∧ WT T H' ∧ wfr [(27, 7), (27, 8), (27, 9), (27, 10), (27, 11), (27, 12), (27, 13), (27, 14), (27, 15), (27, 16), (35, 6), (35, 7), (35, 8), (35, 9), (35, 10), (35, 11), (35, 12), (35, 13), (35, 14), (35, 15), (35, 16), (35, 17), (3, 1), (3, 2), (3, 3), (3, 4), (4, 2), (4, 3), (4, 4), (4, 5), (4, 6), (31, 999), (34, 999), (29, 999), (30, 999), (33, 999), (32, 999)] T H H' ∧ ∃ z : Int, some (vI z) = r ∧ (0 ≤ z ∧ z ≤ 1)
set_option maxHeartbeats 4000000 in
theorem s_17 {kt : Nat → Option mc_E} {T : wq_T} {H : wq_H} {r0 : Nat} {r1 : Nat} {tk : Nat} {rb : Nat} (hW : WT T H) (g0 : T.2.2.2 r0 = some 3) (g1 : T.2.2.2 r1 = some 27) (qtk : H r0 0 = (tk : Int)) (gtk : T.2.2.2 tk = some 4) (qrb : H tk 0 = (rb : Int)) (grb : T.2.2.2 rb = some 2) : wpc kt 6 17 [.ref r0, .ref r1] T H (q_17 r0 r1 tk rb T H) := by
  refine wp_enter e17 (Nat.le_of_ble_eq_true rfl) rfl ?_
  have f0 : wfr [(27, 7), (27, 8), (27, 9), (27, 10), (27, 11), (27, 12), (27, 13), (27, 14), (27, 15), (27, 16), (35, 6), (35, 7), (35, 8), (35, 9), (35, 10), (35, 11), (35, 12), (35, 13), (35, 14), (35, 15), (35, 16), (35, 17), (3, 1), (3, 2), (3, 3), (3, 4), (4, 2), (4, 3), (4, 4), (4, 5), (4, 6), (31, 999), (34, 999), (29, 999), (30, 999), (33, 999), (32, 999)] T H H := wfr.rf
  show wp _ _ 17 0 [(0, .ref r0), (1, .ref r1)] [] _ H _
  refine wp_of e17 c17_0 (rw_aload_n (pc' := 1) (v := .ref r0) rfl rfl rfl ?_)
  refine wp_of e17 c17_1 (xc_V (pc' := 4) (r := r0) (as := []) (st := []) (lm_1_54) rfl rfl (Nat.le_of_ble_eq_true rfl) hW g0 sh_3 (by decide) rfl (by decide) (s_18 hW g0) (fun R11997 T11998 H11999 p12000 => ?_))
  obtain ⟨e12001, e12003, e12002⟩ := p12000
  subst e12001
  subst e12003
  rcases e12002 with e12002 | ⟨r12004, e12002, b12005, b12006⟩
  · subst e12002
    show wp _ _ 17 4 [(0, .ref r0), (1, .ref r1)] [.null] _ H _
    refine wp_of e17 c17_4 (rw_astore_n (pc' := 5) (v := .null) (L' := [(2, .null), (0, .ref r0), (1, .ref r1)]) rfl rfl rfl rfl ?_)
    refine wp_of e17 c17_5 (rw_aload_n (pc' := 6) (v := .null) rfl rfl rfl ?_)
    refine wp_of e17 c17_6 (rw_ifnull_n (p1 := 16) (p2 := 9) (by decide) rfl ?_)
    refine wp_of e17 c17_16 (rw_aload_n (pc' := 17) (v := .ref r0) rfl rfl rfl ?_)
    refine wp_of e17 c17_17 (rw_iconst (pc' := 18) rfl ?_)
    refine wp_of e17 c17_18 (xc_V (pc' := 21) (r := r0) (as := [vI 1]) (st := []) (lm_1_47) rfl rfl (Nat.le_of_ble_eq_true rfl) hW g0 sh_3 (by decide) rfl (by decide) (s_20 hW g0 ⟨by omega, by omega⟩) (fun R12007 T12008 H12009 p12010 => ?_))
    obtain ⟨e12011, w12013, f12014, z12015, e12012, b12016⟩ := p12010
    subst e12011
    subst e12012
    have f12017 := f0.tr f12014 rfl
    show wp _ _ 17 21 [(2, .null), (0, .ref r0), (1, .ref r1)] [vI z12015] _ H12009 _
    exact wp_zreturn e17 c17_21 rfl (by omega) ⟨rfl, w12013, f12017, z12015, rfl, ⟨by omega, by omega⟩⟩
  · subst e12002
    have c12018 : r12004 = 16 ∨ r12004 = 17 ∨ r12004 = 18 ∨ r12004 = 19 ∨ r12004 = 20 ∨ r12004 = 21 ∨ r12004 = 22 ∨ r12004 = 23 ∨ r12004 = 24 ∨ r12004 = 25 ∨ r12004 = 26 := by omega
    rcases c12018 with c12018 | c12018 | c12018 | c12018 | c12018 | c12018 | c12018 | c12018 | c12018 | c12018 | c12018
    · subst c12018
      show wp _ _ 17 4 [(0, .ref r0), (1, .ref r1)] [.ref 16] _ H _
      refine wp_of e17 c17_4 (rw_astore_n (pc' := 5) (v := .ref 16) (L' := [(2, .ref 16), (0, .ref r0), (1, .ref r1)]) rfl rfl rfl rfl ?_)
      refine wp_of e17 c17_5 (rw_aload_n (pc' := 6) (v := .ref 16) rfl rfl rfl ?_)
      refine wp_of e17 c17_6 (rw_ifnull_r (p1 := 16) (p2 := 9) (by decide) rfl ?_)
      refine wp_of e17 c17_9 (rw_aload_n (pc' := 10) (v := .ref 16) rfl rfl rfl ?_)
      have k12019 : H 16 1 = 1 := (hW.2 16 _ (hW.1.2.2 0 (by decide))).2.2 1 (by decide) |> fun z => by have z1 : (1 : Int) ≤ H 16 1 ∧ H 16 1 ≤ 1 := z; omega
      refine wp_of e17 c17_10 (rw_getI (pc' := 13) (n := 2) (e := _) (lf_1_58).choose_spec.1 (lf_1_58).choose_spec.2.1 (hW.sh (hW.1.2.2 0 (by decide)) rfl) (by decide) rfl rfl ?_)
      rw [k12019]
      refine wp_of e17 c17_13 (rw_if_ne (p1 := 22) (p2 := 16) (by decide) rfl ⟨by omega, by omega⟩ (fun c12020 => ?_) (fun c12020 => ?_))
      · refine wp_of e17 c17_22 (rw_aload_n (pc' := 23) (v := .ref r1) rfl rfl rfl ?_)
        refine wp_of e17 c17_23 (rw_aload_n (pc' := 24) (v := .ref 16) rfl rfl rfl ?_)
        refine wp_of e17 c17_24 (xc_V (pc' := 27) (r := r1) (as := [.ref 16]) (st := []) (lm_1_63) rfl rfl (Nat.le_of_ble_eq_true rfl) hW g1 sh_27 (by decide) rfl (by decide) (s_21_16 hW g1) (fun R12021 T12022 H12023 p12024 => ?_))
        obtain ⟨e12025, e12027, z12029, e12026, b12030, p12028⟩ := p12024
        subst e12025
        subst e12026
        subst e12027
        show wp _ _ 17 27 [(2, .ref 16), (0, .ref r0), (1, .ref r1)] [vI z12029] _ H _
        refine wp_of e17 c17_27 (rw_aload_n (pc' := 28) (v := .ref 16) rfl rfl rfl ?_)
        have k12031 : H 16 1 = 1 := (hW.2 16 _ (hW.1.2.2 0 (by decide))).2.2 1 (by decide) |> fun z => by have z1 : (1 : Int) ≤ H 16 1 ∧ H 16 1 ≤ 1 := z; omega
        refine wp_of e17 c17_28 (rw_getI (pc' := 31) (n := 2) (e := _) (lf_1_58).choose_spec.1 (lf_1_58).choose_spec.2.1 (hW.sh (hW.1.2.2 0 (by decide)) rfl) (by decide) rfl rfl ?_)
        rw [k12031]
        refine wp_of e17 c17_31 (rw_icmp_lt (p1 := 68) (p2 := 34) (by decide) rfl ⟨by omega, by omega⟩ ⟨by omega, by omega⟩ (fun c12032 => ?_) (fun c12032 => ?_))
        · refine wp_of e17 c17_68 (rw_aload_n (pc' := 69) (v := .ref r0) rfl rfl rfl ?_)
          refine wp_of e17 c17_69 (xg_K (pc' := 72) lf_1_12 hW g0 sh_3 (by decide) (by decide) rfl qtk rfl ?_)
          refine wp_of e17 c17_72 (xc_V (pc' := 75) (r := tk) (as := []) (st := []) (lm_1_74) rfl rfl (Nat.le_of_ble_eq_true rfl) hW gtk sh_4 (by decide) rfl (by decide) (s_16 hW gtk qrb grb) (fun R12033 T12034 H12035 p12036 => ?_))
          obtain ⟨e12037, w12039, f12040, e12038⟩ := p12036
          subst e12037
          subst e12038
          have f12041 := f0.tr f12040 rfl
          show wp _ _ 17 75 [(2, .ref 16), (0, .ref r0), (1, .ref r1)] [] _ H12035 _
          refine wp_of e17 c17_75 (rw_gs (pc' := 78) (k := 2) rfl rfl rfl rfl ?_)
          refine wp_of e17 c17_78 (rw_aload_n (pc' := 79) (v := .ref 16) rfl rfl rfl ?_)
          refine wp_of e17 c17_79 (rw_ord (pc' := 82) rfl rfl rfl (by decide) (Nat.le_of_ble_eq_true rfl) rfl ?_)
          show wp _ _ 17 82 [(2, .ref 16), (0, .ref r0), (1, .ref r1)] [vI 0, .ref 2] _ H12035 _
          have k12042 : H12035 2 (0 : Int).toNat = 1 := (w12039.2 2 _ w12039.1.2.1).2.2 0 (by decide) |> fun z => by have z1 : (1 : Int) ≤ H12035 2 0 ∧ H12035 2 0 ≤ 1 := z; exact Int.le_antisymm z1.2 z1.1
          refine wp_of e17 c17_82 (rw_iaload (pc' := 83) (n := 11) (w12039.sh w12039.1.2.1 rfl) (by decide) (by decide) (by decide) rfl rfl ?_)
          rw [k12042]
          refine wp_of e17 c17_83 (rw_tsw (p1 := 128) ⟨by omega, by omega⟩ (by decide) ?_)
          refine wp_of e17 c17_128 (rw_aload_n (pc' := 129) (v := .ref r0) rfl rfl rfl ?_)
          refine wp_of e17 c17_129 (rw_aload_n (pc' := 130) (v := .ref r1) rfl rfl rfl ?_)
          have k12044 : H12035 r0 0 = H r0 0 := (f12040 r0 0 _ g0 rfl)
          have q12045 : H12035 r0 0 = (tk : Int) := k12044.trans qtk
          have k12046 : H12035 tk 0 = H tk 0 := (f12040 tk 0 _ gtk rfl)
          have q12047 : H12035 tk 0 = (rb : Int) := k12046.trans qrb
          refine wp_of e17 c17_130 (xc_V (pc' := 133) (r := r0) (as := [.ref r1]) (st := []) (lm_1_87) rfl rfl (Nat.le_of_ble_eq_true rfl) w12039 g0 sh_3 (by decide) rfl (by decide) (s_22 w12039 g0 g1 q12045 gtk q12047 grb) (fun R12048 T12049 H12050 p12051 => ?_))
          obtain ⟨e12052, w12054, f12055, z12056, e12053, b12057⟩ := p12051
          subst e12052
          subst e12053
          have f12058 := f12041.tr f12055 rfl
          show wp _ _ 17 133 [(2, .ref 16), (0, .ref r0), (1, .ref r1)] [vI z12056] _ H12050 _
          exact wp_zreturn e17 c17_133 rfl (by omega) ⟨rfl, w12054, f12058, z12056, rfl, ⟨by omega, by omega⟩⟩
        · refine wp_of e17 c17_34 (rw_aload_n (pc' := 35) (v := .ref 16) rfl rfl rfl ?_)
          refine wp_of e17 c17_35 (rw_gs (pc' := 38) (k := 16) rfl rfl rfl rfl ?_)
          refine wp_of e17 c17_38 (rw_acmp_eq (p1 := 48) (p2 := 41) (a := some 16) (b := some 16) rfl rfl (by decide) rfl (fun q => ?_) (fun q => absurd q (by decide)))
          refine wp_of e17 c17_48 (rw_iconst (pc' := 49) rfl ?_)
          refine wp_of e17 c17_49 (rw_goto (p1 := 53) (by decide) ?_)
          refine wp_of e17 c17_53 (rw_istore_n (pc' := 54) (z := 1) (L' := [(3, vI 1), (2, .ref 16), (0, .ref r0), (1, .ref r1)]) rfl rfl rfl ?_)
          refine wp_of e17 c17_54 (rw_aload_n (pc' := 55) (v := .ref r0) rfl rfl rfl ?_)
          refine wp_of e17 c17_55 (rw_iload_n (pc' := 56) (z := 1) rfl rfl ?_)
          refine wp_of e17 c17_56 (rw_if_eq (p1 := 63) (p2 := 59) (by decide) rfl ⟨by omega, by omega⟩ (fun c12059 => ?_) (fun c12059 => ?_))
          · exfalso
            omega
          · refine wp_of e17 c17_59 (rw_iconst (pc' := 60) rfl ?_)
            refine wp_of e17 c17_60 (rw_goto (p1 := 64) (by decide) ?_)
            refine wp_of e17 c17_64 (xc_V (pc' := 67) (r := r0) (as := [vI 3]) (st := []) (lm_1_47) rfl rfl (Nat.le_of_ble_eq_true rfl) hW g0 sh_3 (by decide) rfl (by decide) (s_20 hW g0 ⟨by omega, by omega⟩) (fun R12060 T12061 H12062 p12063 => ?_))
            obtain ⟨e12064, w12066, f12067, z12068, e12065, b12069⟩ := p12063
            subst e12064
            subst e12065
            have f12070 := f0.tr f12067 rfl
            show wp _ _ 17 67 [(3, vI 1), (2, .ref 16), (0, .ref r0), (1, .ref r1)] [vI z12068] _ H12062 _
            exact wp_zreturn e17 c17_67 rfl (by omega) ⟨rfl, w12066, f12070, z12068, rfl, ⟨by omega, by omega⟩⟩
      · exfalso
        omega
    · subst c12018
      show wp _ _ 17 4 [(0, .ref r0), (1, .ref r1)] [.ref 17] _ H _
      refine wp_of e17 c17_4 (rw_astore_n (pc' := 5) (v := .ref 17) (L' := [(2, .ref 17), (0, .ref r0), (1, .ref r1)]) rfl rfl rfl rfl ?_)
      refine wp_of e17 c17_5 (rw_aload_n (pc' := 6) (v := .ref 17) rfl rfl rfl ?_)
      refine wp_of e17 c17_6 (rw_ifnull_r (p1 := 16) (p2 := 9) (by decide) rfl ?_)
      refine wp_of e17 c17_9 (rw_aload_n (pc' := 10) (v := .ref 17) rfl rfl rfl ?_)
      have k12071 : H 17 1 = 6 := (hW.2 17 _ (hW.1.2.2 1 (by decide))).2.2 1 (by decide) |> fun z => by have z1 : (6 : Int) ≤ H 17 1 ∧ H 17 1 ≤ 6 := z; omega
      refine wp_of e17 c17_10 (rw_getI (pc' := 13) (n := 2) (e := _) (lf_1_58).choose_spec.1 (lf_1_58).choose_spec.2.1 (hW.sh (hW.1.2.2 1 (by decide)) rfl) (by decide) rfl rfl ?_)
      rw [k12071]
      refine wp_of e17 c17_13 (rw_if_ne (p1 := 22) (p2 := 16) (by decide) rfl ⟨by omega, by omega⟩ (fun c12072 => ?_) (fun c12072 => ?_))
      · refine wp_of e17 c17_22 (rw_aload_n (pc' := 23) (v := .ref r1) rfl rfl rfl ?_)
        refine wp_of e17 c17_23 (rw_aload_n (pc' := 24) (v := .ref 17) rfl rfl rfl ?_)
        refine wp_of e17 c17_24 (xc_V (pc' := 27) (r := r1) (as := [.ref 17]) (st := []) (lm_1_63) rfl rfl (Nat.le_of_ble_eq_true rfl) hW g1 sh_27 (by decide) rfl (by decide) (s_21_17 hW g1) (fun R12073 T12074 H12075 p12076 => ?_))
        obtain ⟨e12077, e12079, z12081, e12078, b12082, p12080⟩ := p12076
        subst e12077
        subst e12078
        subst e12079
        show wp _ _ 17 27 [(2, .ref 17), (0, .ref r0), (1, .ref r1)] [vI z12081] _ H _
        refine wp_of e17 c17_27 (rw_aload_n (pc' := 28) (v := .ref 17) rfl rfl rfl ?_)
        have k12083 : H 17 1 = 6 := (hW.2 17 _ (hW.1.2.2 1 (by decide))).2.2 1 (by decide) |> fun z => by have z1 : (6 : Int) ≤ H 17 1 ∧ H 17 1 ≤ 6 := z; omega
        refine wp_of e17 c17_28 (rw_getI (pc' := 31) (n := 2) (e := _) (lf_1_58).choose_spec.1 (lf_1_58).choose_spec.2.1 (hW.sh (hW.1.2.2 1 (by decide)) rfl) (by decide) rfl rfl ?_)
        rw [k12083]
        refine wp_of e17 c17_31 (rw_icmp_lt (p1 := 68) (p2 := 34) (by decide) rfl ⟨by omega, by omega⟩ ⟨by omega, by omega⟩ (fun c12084 => ?_) (fun c12084 => ?_))
        · refine wp_of e17 c17_68 (rw_aload_n (pc' := 69) (v := .ref r0) rfl rfl rfl ?_)
          refine wp_of e17 c17_69 (xg_K (pc' := 72) lf_1_12 hW g0 sh_3 (by decide) (by decide) rfl qtk rfl ?_)
          refine wp_of e17 c17_72 (xc_V (pc' := 75) (r := tk) (as := []) (st := []) (lm_1_74) rfl rfl (Nat.le_of_ble_eq_true rfl) hW gtk sh_4 (by decide) rfl (by decide) (s_16 hW gtk qrb grb) (fun R12085 T12086 H12087 p12088 => ?_))
          obtain ⟨e12089, w12091, f12092, e12090⟩ := p12088
          subst e12089
          subst e12090
          have f12093 := f0.tr f12092 rfl
          show wp _ _ 17 75 [(2, .ref 17), (0, .ref r0), (1, .ref r1)] [] _ H12087 _
          refine wp_of e17 c17_75 (rw_gs (pc' := 78) (k := 2) rfl rfl rfl rfl ?_)
          refine wp_of e17 c17_78 (rw_aload_n (pc' := 79) (v := .ref 17) rfl rfl rfl ?_)
          refine wp_of e17 c17_79 (rw_ord (pc' := 82) rfl rfl rfl (by decide) (Nat.le_of_ble_eq_true rfl) rfl ?_)
          show wp _ _ 17 82 [(2, .ref 17), (0, .ref r0), (1, .ref r1)] [vI 1, .ref 2] _ H12087 _
          have k12094 : H12087 2 (1 : Int).toNat = 2 := (w12091.2 2 _ w12091.1.2.1).2.2 1 (by decide) |> fun z => by have z1 : (2 : Int) ≤ H12087 2 1 ∧ H12087 2 1 ≤ 2 := z; exact Int.le_antisymm z1.2 z1.1
          refine wp_of e17 c17_82 (rw_iaload (pc' := 83) (n := 11) (w12091.sh w12091.1.2.1 rfl) (by decide) (by decide) (by decide) rfl rfl ?_)
          rw [k12094]
          refine wp_of e17 c17_83 (rw_tsw (p1 := 134) ⟨by omega, by omega⟩ (by decide) ?_)
          refine wp_of e17 c17_134 (rw_aload_n (pc' := 135) (v := .ref r0) rfl rfl rfl ?_)
          refine wp_of e17 c17_135 (rw_aload_n (pc' := 136) (v := .ref r1) rfl rfl rfl ?_)
          have k12096 : H12087 r1 10 = H r1 10 := (f12092 r1 10 _ g1 rfl)
          have k12097 : H12087 r0 0 = H r0 0 := (f12092 r0 0 _ g0 rfl)
          have q12098 : H12087 r0 0 = (tk : Int) := k12097.trans qtk
          have k12099 : H12087 tk 0 = H tk 0 := (f12092 tk 0 _ gtk rfl)
          have q12100 : H12087 tk 0 = (rb : Int) := k12099.trans qrb
          refine wp_of e17 c17_136 (xc_V (pc' := 139) (r := r0) (as := [.ref r1]) (st := []) (lm_1_90) rfl rfl (Nat.le_of_ble_eq_true rfl) w12091 g0 sh_3 (by decide) rfl (by decide) (s_25 w12091 g0 g1 q12098 gtk q12100 grb (by omega)) (fun R12101 T12102 H12103 p12104 => ?_))
          obtain ⟨e12105, w12107, f12108, z12109, e12106, b12110⟩ := p12104
          subst e12105
          subst e12106
          have f12111 := f12093.tr f12108 rfl
          show wp _ _ 17 139 [(2, .ref 17), (0, .ref r0), (1, .ref r1)] [vI z12109] _ H12103 _
          refine wp_of e17 c17_139 (rw_if_eq (p1 := 154) (p2 := 142) (by decide) rfl ⟨by omega, by omega⟩ (fun c12112 => ?_) (fun c12112 => ?_))
          · refine wp_of e17 c17_154 (rw_iconst (pc' := 155) rfl ?_)
            exact wp_zreturn e17 c17_155 rfl (by omega) ⟨rfl, w12107, f12111, 0, rfl, ⟨by omega, by omega⟩⟩
          · refine wp_of e17 c17_142 (rw_aload_n (pc' := 143) (v := .ref r0) rfl rfl rfl ?_)
            refine wp_of e17 c17_143 (rw_aload_n (pc' := 144) (v := .ref r1) rfl rfl rfl ?_)
            have k12113 : H12103 r1 10 = H12087 r1 10 := (f12108 r1 10 _ g1 rfl)
            have k12114 : H12103 r0 0 = H12087 r0 0 := (f12108 r0 0 _ g0 rfl)
            have q12115 : H12103 r0 0 = (tk : Int) := k12114.trans q12098
            have k12116 : H12103 tk 0 = H12087 tk 0 := (f12108 tk 0 _ gtk rfl)
            have q12117 : H12103 tk 0 = (rb : Int) := k12116.trans q12100
            refine wp_of e17 c17_144 (xc_V (pc' := 147) (r := r0) (as := [.ref r1]) (st := []) (lm_1_93) rfl rfl (Nat.le_of_ble_eq_true rfl) w12107 g0 sh_3 (by decide) rfl (by decide) (s_30 w12107 g0 g1 q12115 gtk q12117 grb (by omega)) (fun R12118 T12119 H12120 p12121 => ?_))
            obtain ⟨e12122, w12124, f12125, z12126, e12123, b12127⟩ := p12121
            subst e12122
            subst e12123
            have f12128 := f12111.tr f12125 rfl
            show wp _ _ 17 147 [(2, .ref 17), (0, .ref r0), (1, .ref r1)] [vI z12126] _ H12120 _
            refine wp_of e17 c17_147 (rw_if_eq (p1 := 154) (p2 := 150) (by decide) rfl ⟨by omega, by omega⟩ (fun c12129 => ?_) (fun c12129 => ?_))
            · refine wp_of e17 c17_154 (rw_iconst (pc' := 155) rfl ?_)
              exact wp_zreturn e17 c17_155 rfl (by omega) ⟨rfl, w12124, f12128, 0, rfl, ⟨by omega, by omega⟩⟩
            · refine wp_of e17 c17_150 (rw_iconst (pc' := 151) rfl ?_)
              refine wp_of e17 c17_151 (rw_goto (p1 := 155) (by decide) ?_)
              exact wp_zreturn e17 c17_155 rfl (by omega) ⟨rfl, w12124, f12128, 1, rfl, ⟨by omega, by omega⟩⟩
        · refine wp_of e17 c17_34 (rw_aload_n (pc' := 35) (v := .ref 17) rfl rfl rfl ?_)
          refine wp_of e17 c17_35 (rw_gs (pc' := 38) (k := 16) rfl rfl rfl rfl ?_)
          refine wp_of e17 c17_38 (rw_acmp_eq (p1 := 48) (p2 := 41) (a := some 17) (b := some 16) rfl rfl (by decide) rfl (fun q => absurd q (by decide)) (fun q => ?_))
          refine wp_of e17 c17_41 (rw_aload_n (pc' := 42) (v := .ref 17) rfl rfl rfl ?_)
          refine wp_of e17 c17_42 (rw_gs (pc' := 45) (k := 18) rfl rfl rfl rfl ?_)
          refine wp_of e17 c17_45 (rw_acmp_ne (p1 := 52) (p2 := 48) (a := some 17) (b := some 18) rfl rfl (by decide) rfl (fun q => ?_) (fun q => absurd q (by decide)))
          refine wp_of e17 c17_52 (rw_iconst (pc' := 53) rfl ?_)
          refine wp_of e17 c17_53 (rw_istore_n (pc' := 54) (z := 0) (L' := [(3, vI 0), (2, .ref 17), (0, .ref r0), (1, .ref r1)]) rfl rfl rfl ?_)
          refine wp_of e17 c17_54 (rw_aload_n (pc' := 55) (v := .ref r0) rfl rfl rfl ?_)
          refine wp_of e17 c17_55 (rw_iload_n (pc' := 56) (z := 0) rfl rfl ?_)
          refine wp_of e17 c17_56 (rw_if_eq (p1 := 63) (p2 := 59) (by decide) rfl ⟨by omega, by omega⟩ (fun c12130 => ?_) (fun c12130 => ?_))
          · refine wp_of e17 c17_63 (rw_iconst (pc' := 64) rfl ?_)
            refine wp_of e17 c17_64 (xc_V (pc' := 67) (r := r0) (as := [vI 5]) (st := []) (lm_1_47) rfl rfl (Nat.le_of_ble_eq_true rfl) hW g0 sh_3 (by decide) rfl (by decide) (s_20 hW g0 ⟨by omega, by omega⟩) (fun R12131 T12132 H12133 p12134 => ?_))
            obtain ⟨e12135, w12137, f12138, z12139, e12136, b12140⟩ := p12134
            subst e12135
            subst e12136
            have f12141 := f0.tr f12138 rfl
            show wp _ _ 17 67 [(3, vI 0), (2, .ref 17), (0, .ref r0), (1, .ref r1)] [vI z12139] _ H12133 _
            exact wp_zreturn e17 c17_67 rfl (by omega) ⟨rfl, w12137, f12141, z12139, rfl, ⟨by omega, by omega⟩⟩
          · exfalso
            omega
      · exfalso
        omega
    · subst c12018
      show wp _ _ 17 4 [(0, .ref r0), (1, .ref r1)] [.ref 18] _ H _
      refine wp_of e17 c17_4 (rw_astore_n (pc' := 5) (v := .ref 18) (L' := [(2, .ref 18), (0, .ref r0), (1, .ref r1)]) rfl rfl rfl rfl ?_)
      refine wp_of e17 c17_5 (rw_aload_n (pc' := 6) (v := .ref 18) rfl rfl rfl ?_)
      refine wp_of e17 c17_6 (rw_ifnull_r (p1 := 16) (p2 := 9) (by decide) rfl ?_)
      refine wp_of e17 c17_9 (rw_aload_n (pc' := 10) (v := .ref 18) rfl rfl rfl ?_)
      have k12142 : H 18 1 = 1 := (hW.2 18 _ (hW.1.2.2 2 (by decide))).2.2 1 (by decide) |> fun z => by have z1 : (1 : Int) ≤ H 18 1 ∧ H 18 1 ≤ 1 := z; omega
      refine wp_of e17 c17_10 (rw_getI (pc' := 13) (n := 2) (e := _) (lf_1_58).choose_spec.1 (lf_1_58).choose_spec.2.1 (hW.sh (hW.1.2.2 2 (by decide)) rfl) (by decide) rfl rfl ?_)
      rw [k12142]
      refine wp_of e17 c17_13 (rw_if_ne (p1 := 22) (p2 := 16) (by decide) rfl ⟨by omega, by omega⟩ (fun c12143 => ?_) (fun c12143 => ?_))
      · refine wp_of e17 c17_22 (rw_aload_n (pc' := 23) (v := .ref r1) rfl rfl rfl ?_)
        refine wp_of e17 c17_23 (rw_aload_n (pc' := 24) (v := .ref 18) rfl rfl rfl ?_)
        refine wp_of e17 c17_24 (xc_V (pc' := 27) (r := r1) (as := [.ref 18]) (st := []) (lm_1_63) rfl rfl (Nat.le_of_ble_eq_true rfl) hW g1 sh_27 (by decide) rfl (by decide) (s_21_18 hW g1) (fun R12144 T12145 H12146 p12147 => ?_))
        obtain ⟨e12148, e12150, z12152, e12149, b12153, p12151⟩ := p12147
        subst e12148
        subst e12149
        subst e12150
        show wp _ _ 17 27 [(2, .ref 18), (0, .ref r0), (1, .ref r1)] [vI z12152] _ H _
        refine wp_of e17 c17_27 (rw_aload_n (pc' := 28) (v := .ref 18) rfl rfl rfl ?_)
        have k12154 : H 18 1 = 1 := (hW.2 18 _ (hW.1.2.2 2 (by decide))).2.2 1 (by decide) |> fun z => by have z1 : (1 : Int) ≤ H 18 1 ∧ H 18 1 ≤ 1 := z; omega
        refine wp_of e17 c17_28 (rw_getI (pc' := 31) (n := 2) (e := _) (lf_1_58).choose_spec.1 (lf_1_58).choose_spec.2.1 (hW.sh (hW.1.2.2 2 (by decide)) rfl) (by decide) rfl rfl ?_)
        rw [k12154]
        refine wp_of e17 c17_31 (rw_icmp_lt (p1 := 68) (p2 := 34) (by decide) rfl ⟨by omega, by omega⟩ ⟨by omega, by omega⟩ (fun c12155 => ?_) (fun c12155 => ?_))
        · refine wp_of e17 c17_68 (rw_aload_n (pc' := 69) (v := .ref r0) rfl rfl rfl ?_)
          refine wp_of e17 c17_69 (xg_K (pc' := 72) lf_1_12 hW g0 sh_3 (by decide) (by decide) rfl qtk rfl ?_)
          refine wp_of e17 c17_72 (xc_V (pc' := 75) (r := tk) (as := []) (st := []) (lm_1_74) rfl rfl (Nat.le_of_ble_eq_true rfl) hW gtk sh_4 (by decide) rfl (by decide) (s_16 hW gtk qrb grb) (fun R12156 T12157 H12158 p12159 => ?_))
          obtain ⟨e12160, w12162, f12163, e12161⟩ := p12159
          subst e12160
          subst e12161
          have f12164 := f0.tr f12163 rfl
          show wp _ _ 17 75 [(2, .ref 18), (0, .ref r0), (1, .ref r1)] [] _ H12158 _
          refine wp_of e17 c17_75 (rw_gs (pc' := 78) (k := 2) rfl rfl rfl rfl ?_)
          refine wp_of e17 c17_78 (rw_aload_n (pc' := 79) (v := .ref 18) rfl rfl rfl ?_)
          refine wp_of e17 c17_79 (rw_ord (pc' := 82) rfl rfl rfl (by decide) (Nat.le_of_ble_eq_true rfl) rfl ?_)
          show wp _ _ 17 82 [(2, .ref 18), (0, .ref r0), (1, .ref r1)] [vI 2, .ref 2] _ H12158 _
          have k12165 : H12158 2 (2 : Int).toNat = 3 := (w12162.2 2 _ w12162.1.2.1).2.2 2 (by decide) |> fun z => by have z1 : (3 : Int) ≤ H12158 2 2 ∧ H12158 2 2 ≤ 3 := z; exact Int.le_antisymm z1.2 z1.1
          refine wp_of e17 c17_82 (rw_iaload (pc' := 83) (n := 11) (w12162.sh w12162.1.2.1 rfl) (by decide) (by decide) (by decide) rfl rfl ?_)
          rw [k12165]
          refine wp_of e17 c17_83 (rw_tsw (p1 := 156) ⟨by omega, by omega⟩ (by decide) ?_)
          refine wp_of e17 c17_156 (rw_aload_n (pc' := 157) (v := .ref r0) rfl rfl rfl ?_)
          refine wp_of e17 c17_157 (rw_aload_n (pc' := 158) (v := .ref r1) rfl rfl rfl ?_)
          have k12167 : H12158 r0 0 = H r0 0 := (f12163 r0 0 _ g0 rfl)
          have q12168 : H12158 r0 0 = (tk : Int) := k12167.trans qtk
          have k12169 : H12158 tk 0 = H tk 0 := (f12163 tk 0 _ gtk rfl)
          have q12170 : H12158 tk 0 = (rb : Int) := k12169.trans qrb
          refine wp_of e17 c17_158 (xc_V (pc' := 161) (r := r0) (as := [.ref r1]) (st := []) (lm_1_96) rfl rfl (Nat.le_of_ble_eq_true rfl) w12162 g0 sh_3 (by decide) rfl (by decide) (s_32 w12162 g0 g1 q12168 gtk q12170 grb) (fun R12171 T12172 H12173 p12174 => ?_))
          obtain ⟨e12175, w12177, f12178, z12179, e12176, b12180⟩ := p12174
          subst e12175
          subst e12176
          have f12181 := f12164.tr f12178 rfl
          show wp _ _ 17 161 [(2, .ref 18), (0, .ref r0), (1, .ref r1)] [vI z12179] _ H12173 _
          exact wp_zreturn e17 c17_161 rfl (by omega) ⟨rfl, w12177, f12181, z12179, rfl, ⟨by omega, by omega⟩⟩
        · refine wp_of e17 c17_34 (rw_aload_n (pc' := 35) (v := .ref 18) rfl rfl rfl ?_)
          refine wp_of e17 c17_35 (rw_gs (pc' := 38) (k := 16) rfl rfl rfl rfl ?_)
          refine wp_of e17 c17_38 (rw_acmp_eq (p1 := 48) (p2 := 41) (a := some 18) (b := some 16) rfl rfl (by decide) rfl (fun q => absurd q (by decide)) (fun q => ?_))
          refine wp_of e17 c17_41 (rw_aload_n (pc' := 42) (v := .ref 18) rfl rfl rfl ?_)
          refine wp_of e17 c17_42 (rw_gs (pc' := 45) (k := 18) rfl rfl rfl rfl ?_)
          refine wp_of e17 c17_45 (rw_acmp_ne (p1 := 52) (p2 := 48) (a := some 18) (b := some 18) rfl rfl (by decide) rfl (fun q => absurd q (by decide)) (fun q => ?_))
          refine wp_of e17 c17_48 (rw_iconst (pc' := 49) rfl ?_)
          refine wp_of e17 c17_49 (rw_goto (p1 := 53) (by decide) ?_)
          refine wp_of e17 c17_53 (rw_istore_n (pc' := 54) (z := 1) (L' := [(3, vI 1), (2, .ref 18), (0, .ref r0), (1, .ref r1)]) rfl rfl rfl ?_)
          refine wp_of e17 c17_54 (rw_aload_n (pc' := 55) (v := .ref r0) rfl rfl rfl ?_)
          refine wp_of e17 c17_55 (rw_iload_n (pc' := 56) (z := 1) rfl rfl ?_)
          refine wp_of e17 c17_56 (rw_if_eq (p1 := 63) (p2 := 59) (by decide) rfl ⟨by omega, by omega⟩ (fun c12182 => ?_) (fun c12182 => ?_))
          · exfalso
            omega
          · refine wp_of e17 c17_59 (rw_iconst (pc' := 60) rfl ?_)
            refine wp_of e17 c17_60 (rw_goto (p1 := 64) (by decide) ?_)
            refine wp_of e17 c17_64 (xc_V (pc' := 67) (r := r0) (as := [vI 3]) (st := []) (lm_1_47) rfl rfl (Nat.le_of_ble_eq_true rfl) hW g0 sh_3 (by decide) rfl (by decide) (s_20 hW g0 ⟨by omega, by omega⟩) (fun R12183 T12184 H12185 p12186 => ?_))
            obtain ⟨e12187, w12189, f12190, z12191, e12188, b12192⟩ := p12186
            subst e12187
            subst e12188
            have f12193 := f0.tr f12190 rfl
            show wp _ _ 17 67 [(3, vI 1), (2, .ref 18), (0, .ref r0), (1, .ref r1)] [vI z12191] _ H12185 _
            exact wp_zreturn e17 c17_67 rfl (by omega) ⟨rfl, w12189, f12193, z12191, rfl, ⟨by omega, by omega⟩⟩
      · exfalso
        omega
    · subst c12018
      show wp _ _ 17 4 [(0, .ref r0), (1, .ref r1)] [.ref 19] _ H _
      refine wp_of e17 c17_4 (rw_astore_n (pc' := 5) (v := .ref 19) (L' := [(2, .ref 19), (0, .ref r0), (1, .ref r1)]) rfl rfl rfl rfl ?_)
      refine wp_of e17 c17_5 (rw_aload_n (pc' := 6) (v := .ref 19) rfl rfl rfl ?_)
      refine wp_of e17 c17_6 (rw_ifnull_r (p1 := 16) (p2 := 9) (by decide) rfl ?_)
      refine wp_of e17 c17_9 (rw_aload_n (pc' := 10) (v := .ref 19) rfl rfl rfl ?_)
      have k12194 : H 19 1 = 3 := (hW.2 19 _ (hW.1.2.2 3 (by decide))).2.2 1 (by decide) |> fun z => by have z1 : (3 : Int) ≤ H 19 1 ∧ H 19 1 ≤ 3 := z; omega
      refine wp_of e17 c17_10 (rw_getI (pc' := 13) (n := 2) (e := _) (lf_1_58).choose_spec.1 (lf_1_58).choose_spec.2.1 (hW.sh (hW.1.2.2 3 (by decide)) rfl) (by decide) rfl rfl ?_)
      rw [k12194]
      refine wp_of e17 c17_13 (rw_if_ne (p1 := 22) (p2 := 16) (by decide) rfl ⟨by omega, by omega⟩ (fun c12195 => ?_) (fun c12195 => ?_))
      · refine wp_of e17 c17_22 (rw_aload_n (pc' := 23) (v := .ref r1) rfl rfl rfl ?_)
        refine wp_of e17 c17_23 (rw_aload_n (pc' := 24) (v := .ref 19) rfl rfl rfl ?_)
        refine wp_of e17 c17_24 (xc_V (pc' := 27) (r := r1) (as := [.ref 19]) (st := []) (lm_1_63) rfl rfl (Nat.le_of_ble_eq_true rfl) hW g1 sh_27 (by decide) rfl (by decide) (s_21_19 hW g1) (fun R12196 T12197 H12198 p12199 => ?_))
        obtain ⟨e12200, e12202, z12203, e12201, b12204⟩ := p12199
        subst e12200
        subst e12201
        subst e12202
        show wp _ _ 17 27 [(2, .ref 19), (0, .ref r0), (1, .ref r1)] [vI z12203] _ H _
        refine wp_of e17 c17_27 (rw_aload_n (pc' := 28) (v := .ref 19) rfl rfl rfl ?_)
        have k12205 : H 19 1 = 3 := (hW.2 19 _ (hW.1.2.2 3 (by decide))).2.2 1 (by decide) |> fun z => by have z1 : (3 : Int) ≤ H 19 1 ∧ H 19 1 ≤ 3 := z; omega
        refine wp_of e17 c17_28 (rw_getI (pc' := 31) (n := 2) (e := _) (lf_1_58).choose_spec.1 (lf_1_58).choose_spec.2.1 (hW.sh (hW.1.2.2 3 (by decide)) rfl) (by decide) rfl rfl ?_)
        rw [k12205]
        refine wp_of e17 c17_31 (rw_icmp_lt (p1 := 68) (p2 := 34) (by decide) rfl ⟨by omega, by omega⟩ ⟨by omega, by omega⟩ (fun c12206 => ?_) (fun c12206 => ?_))
        · refine wp_of e17 c17_68 (rw_aload_n (pc' := 69) (v := .ref r0) rfl rfl rfl ?_)
          refine wp_of e17 c17_69 (xg_K (pc' := 72) lf_1_12 hW g0 sh_3 (by decide) (by decide) rfl qtk rfl ?_)
          refine wp_of e17 c17_72 (xc_V (pc' := 75) (r := tk) (as := []) (st := []) (lm_1_74) rfl rfl (Nat.le_of_ble_eq_true rfl) hW gtk sh_4 (by decide) rfl (by decide) (s_16 hW gtk qrb grb) (fun R12207 T12208 H12209 p12210 => ?_))
          obtain ⟨e12211, w12213, f12214, e12212⟩ := p12210
          subst e12211
          subst e12212
          have f12215 := f0.tr f12214 rfl
          show wp _ _ 17 75 [(2, .ref 19), (0, .ref r0), (1, .ref r1)] [] _ H12209 _
          refine wp_of e17 c17_75 (rw_gs (pc' := 78) (k := 2) rfl rfl rfl rfl ?_)
          refine wp_of e17 c17_78 (rw_aload_n (pc' := 79) (v := .ref 19) rfl rfl rfl ?_)
          refine wp_of e17 c17_79 (rw_ord (pc' := 82) rfl rfl rfl (by decide) (Nat.le_of_ble_eq_true rfl) rfl ?_)
          show wp _ _ 17 82 [(2, .ref 19), (0, .ref r0), (1, .ref r1)] [vI 3, .ref 2] _ H12209 _
          have k12216 : H12209 2 (3 : Int).toNat = 4 := (w12213.2 2 _ w12213.1.2.1).2.2 3 (by decide) |> fun z => by have z1 : (4 : Int) ≤ H12209 2 3 ∧ H12209 2 3 ≤ 4 := z; exact Int.le_antisymm z1.2 z1.1
          refine wp_of e17 c17_82 (rw_iaload (pc' := 83) (n := 11) (w12213.sh w12213.1.2.1 rfl) (by decide) (by decide) (by decide) rfl rfl ?_)
          rw [k12216]
          refine wp_of e17 c17_83 (rw_tsw (p1 := 162) ⟨by omega, by omega⟩ (by decide) ?_)
          refine wp_of e17 c17_162 (rw_aload_n (pc' := 163) (v := .ref r0) rfl rfl rfl ?_)
          refine wp_of e17 c17_163 (rw_aload_n (pc' := 164) (v := .ref r1) rfl rfl rfl ?_)
          have k12218 : H12209 r0 0 = H r0 0 := (f12214 r0 0 _ g0 rfl)
          have q12219 : H12209 r0 0 = (tk : Int) := k12218.trans qtk
          have k12220 : H12209 tk 0 = H tk 0 := (f12214 tk 0 _ gtk rfl)
          have q12221 : H12209 tk 0 = (rb : Int) := k12220.trans qrb
          refine wp_of e17 c17_164 (xc_V (pc' := 167) (r := r0) (as := [.ref r1]) (st := []) (lm_1_99) rfl rfl (Nat.le_of_ble_eq_true rfl) w12213 g0 sh_3 (by decide) rfl (by decide) (s_34 w12213 g0 g1 q12219 gtk q12221 grb) (fun R12222 T12223 H12224 p12225 => ?_))
          obtain ⟨e12226, w12228, f12229, z12230, e12227, b12231⟩ := p12225
          subst e12226
          subst e12227
          have f12232 := f12215.tr f12229 rfl
          show wp _ _ 17 167 [(2, .ref 19), (0, .ref r0), (1, .ref r1)] [vI z12230] _ H12224 _
          exact wp_zreturn e17 c17_167 rfl (by omega) ⟨rfl, w12228, f12232, z12230, rfl, ⟨by omega, by omega⟩⟩
        · refine wp_of e17 c17_34 (rw_aload_n (pc' := 35) (v := .ref 19) rfl rfl rfl ?_)
          refine wp_of e17 c17_35 (rw_gs (pc' := 38) (k := 16) rfl rfl rfl rfl ?_)
          refine wp_of e17 c17_38 (rw_acmp_eq (p1 := 48) (p2 := 41) (a := some 19) (b := some 16) rfl rfl (by decide) rfl (fun q => absurd q (by decide)) (fun q => ?_))
          refine wp_of e17 c17_41 (rw_aload_n (pc' := 42) (v := .ref 19) rfl rfl rfl ?_)
          refine wp_of e17 c17_42 (rw_gs (pc' := 45) (k := 18) rfl rfl rfl rfl ?_)
          refine wp_of e17 c17_45 (rw_acmp_ne (p1 := 52) (p2 := 48) (a := some 19) (b := some 18) rfl rfl (by decide) rfl (fun q => ?_) (fun q => absurd q (by decide)))
          refine wp_of e17 c17_52 (rw_iconst (pc' := 53) rfl ?_)
          refine wp_of e17 c17_53 (rw_istore_n (pc' := 54) (z := 0) (L' := [(3, vI 0), (2, .ref 19), (0, .ref r0), (1, .ref r1)]) rfl rfl rfl ?_)
          refine wp_of e17 c17_54 (rw_aload_n (pc' := 55) (v := .ref r0) rfl rfl rfl ?_)
          refine wp_of e17 c17_55 (rw_iload_n (pc' := 56) (z := 0) rfl rfl ?_)
          refine wp_of e17 c17_56 (rw_if_eq (p1 := 63) (p2 := 59) (by decide) rfl ⟨by omega, by omega⟩ (fun c12233 => ?_) (fun c12233 => ?_))
          · refine wp_of e17 c17_63 (rw_iconst (pc' := 64) rfl ?_)
            refine wp_of e17 c17_64 (xc_V (pc' := 67) (r := r0) (as := [vI 5]) (st := []) (lm_1_47) rfl rfl (Nat.le_of_ble_eq_true rfl) hW g0 sh_3 (by decide) rfl (by decide) (s_20 hW g0 ⟨by omega, by omega⟩) (fun R12234 T12235 H12236 p12237 => ?_))
            obtain ⟨e12238, w12240, f12241, z12242, e12239, b12243⟩ := p12237
            subst e12238
            subst e12239
            have f12244 := f0.tr f12241 rfl
            show wp _ _ 17 67 [(3, vI 0), (2, .ref 19), (0, .ref r0), (1, .ref r1)] [vI z12242] _ H12236 _
            exact wp_zreturn e17 c17_67 rfl (by omega) ⟨rfl, w12240, f12244, z12242, rfl, ⟨by omega, by omega⟩⟩
          · exfalso
            omega
      · exfalso
        omega
    · subst c12018
      show wp _ _ 17 4 [(0, .ref r0), (1, .ref r1)] [.ref 20] _ H _
      refine wp_of e17 c17_4 (rw_astore_n (pc' := 5) (v := .ref 20) (L' := [(2, .ref 20), (0, .ref r0), (1, .ref r1)]) rfl rfl rfl rfl ?_)
      refine wp_of e17 c17_5 (rw_aload_n (pc' := 6) (v := .ref 20) rfl rfl rfl ?_)
      refine wp_of e17 c17_6 (rw_ifnull_r (p1 := 16) (p2 := 9) (by decide) rfl ?_)
      refine wp_of e17 c17_9 (rw_aload_n (pc' := 10) (v := .ref 20) rfl rfl rfl ?_)
      have k12245 : H 20 1 = 3 := (hW.2 20 _ (hW.1.2.2 4 (by decide))).2.2 1 (by decide) |> fun z => by have z1 : (3 : Int) ≤ H 20 1 ∧ H 20 1 ≤ 3 := z; omega
      refine wp_of e17 c17_10 (rw_getI (pc' := 13) (n := 2) (e := _) (lf_1_58).choose_spec.1 (lf_1_58).choose_spec.2.1 (hW.sh (hW.1.2.2 4 (by decide)) rfl) (by decide) rfl rfl ?_)
      rw [k12245]
      refine wp_of e17 c17_13 (rw_if_ne (p1 := 22) (p2 := 16) (by decide) rfl ⟨by omega, by omega⟩ (fun c12246 => ?_) (fun c12246 => ?_))
      · refine wp_of e17 c17_22 (rw_aload_n (pc' := 23) (v := .ref r1) rfl rfl rfl ?_)
        refine wp_of e17 c17_23 (rw_aload_n (pc' := 24) (v := .ref 20) rfl rfl rfl ?_)
        refine wp_of e17 c17_24 (xc_V (pc' := 27) (r := r1) (as := [.ref 20]) (st := []) (lm_1_63) rfl rfl (Nat.le_of_ble_eq_true rfl) hW g1 sh_27 (by decide) rfl (by decide) (s_21_20 hW g1) (fun R12247 T12248 H12249 p12250 => ?_))
        obtain ⟨e12251, e12253, z12255, e12252, b12256, p12254⟩ := p12250
        subst e12251
        subst e12252
        subst e12253
        show wp _ _ 17 27 [(2, .ref 20), (0, .ref r0), (1, .ref r1)] [vI z12255] _ H _
        refine wp_of e17 c17_27 (rw_aload_n (pc' := 28) (v := .ref 20) rfl rfl rfl ?_)
        have k12257 : H 20 1 = 3 := (hW.2 20 _ (hW.1.2.2 4 (by decide))).2.2 1 (by decide) |> fun z => by have z1 : (3 : Int) ≤ H 20 1 ∧ H 20 1 ≤ 3 := z; omega
        refine wp_of e17 c17_28 (rw_getI (pc' := 31) (n := 2) (e := _) (lf_1_58).choose_spec.1 (lf_1_58).choose_spec.2.1 (hW.sh (hW.1.2.2 4 (by decide)) rfl) (by decide) rfl rfl ?_)
        rw [k12257]
        refine wp_of e17 c17_31 (rw_icmp_lt (p1 := 68) (p2 := 34) (by decide) rfl ⟨by omega, by omega⟩ ⟨by omega, by omega⟩ (fun c12258 => ?_) (fun c12258 => ?_))
        · refine wp_of e17 c17_68 (rw_aload_n (pc' := 69) (v := .ref r0) rfl rfl rfl ?_)
          refine wp_of e17 c17_69 (xg_K (pc' := 72) lf_1_12 hW g0 sh_3 (by decide) (by decide) rfl qtk rfl ?_)
          refine wp_of e17 c17_72 (xc_V (pc' := 75) (r := tk) (as := []) (st := []) (lm_1_74) rfl rfl (Nat.le_of_ble_eq_true rfl) hW gtk sh_4 (by decide) rfl (by decide) (s_16 hW gtk qrb grb) (fun R12259 T12260 H12261 p12262 => ?_))
          obtain ⟨e12263, w12265, f12266, e12264⟩ := p12262
          subst e12263
          subst e12264
          have f12267 := f0.tr f12266 rfl
          show wp _ _ 17 75 [(2, .ref 20), (0, .ref r0), (1, .ref r1)] [] _ H12261 _
          refine wp_of e17 c17_75 (rw_gs (pc' := 78) (k := 2) rfl rfl rfl rfl ?_)
          refine wp_of e17 c17_78 (rw_aload_n (pc' := 79) (v := .ref 20) rfl rfl rfl ?_)
          refine wp_of e17 c17_79 (rw_ord (pc' := 82) rfl rfl rfl (by decide) (Nat.le_of_ble_eq_true rfl) rfl ?_)
          show wp _ _ 17 82 [(2, .ref 20), (0, .ref r0), (1, .ref r1)] [vI 4, .ref 2] _ H12261 _
          have k12268 : H12261 2 (4 : Int).toNat = 5 := (w12265.2 2 _ w12265.1.2.1).2.2 4 (by decide) |> fun z => by have z1 : (5 : Int) ≤ H12261 2 4 ∧ H12261 2 4 ≤ 5 := z; exact Int.le_antisymm z1.2 z1.1
          refine wp_of e17 c17_82 (rw_iaload (pc' := 83) (n := 11) (w12265.sh w12265.1.2.1 rfl) (by decide) (by decide) (by decide) rfl rfl ?_)
          rw [k12268]
          refine wp_of e17 c17_83 (rw_tsw (p1 := 168) ⟨by omega, by omega⟩ (by decide) ?_)
          refine wp_of e17 c17_168 (rw_aload_n (pc' := 169) (v := .ref r0) rfl rfl rfl ?_)
          refine wp_of e17 c17_169 (rw_aload_n (pc' := 170) (v := .ref r1) rfl rfl rfl ?_)
          have k12270 : H12261 r1 12 = H r1 12 := (f12266 r1 12 _ g1 rfl)
          have k12271 : H12261 r0 0 = H r0 0 := (f12266 r0 0 _ g0 rfl)
          have q12272 : H12261 r0 0 = (tk : Int) := k12271.trans qtk
          have k12273 : H12261 tk 0 = H tk 0 := (f12266 tk 0 _ gtk rfl)
          have q12274 : H12261 tk 0 = (rb : Int) := k12273.trans qrb
          refine wp_of e17 c17_170 (xc_V (pc' := 173) (r := r0) (as := [.ref r1]) (st := []) (lm_1_102) rfl rfl (Nat.le_of_ble_eq_true rfl) w12265 g0 sh_3 (by decide) rfl (by decide) (s_37 w12265 g0 g1 q12272 gtk q12274 grb (by omega)) (fun R12275 T12276 H12277 p12278 => ?_))
          obtain ⟨e12279, w12281, f12282, z12283, e12280, b12284⟩ := p12278
          subst e12279
          subst e12280
          have f12285 := f12267.tr f12282 rfl
          show wp _ _ 17 173 [(2, .ref 20), (0, .ref r0), (1, .ref r1)] [vI z12283] _ H12277 _
          exact wp_zreturn e17 c17_173 rfl (by omega) ⟨rfl, w12281, f12285, z12283, rfl, ⟨by omega, by omega⟩⟩
        · refine wp_of e17 c17_34 (rw_aload_n (pc' := 35) (v := .ref 20) rfl rfl rfl ?_)
          refine wp_of e17 c17_35 (rw_gs (pc' := 38) (k := 16) rfl rfl rfl rfl ?_)
          refine wp_of e17 c17_38 (rw_acmp_eq (p1 := 48) (p2 := 41) (a := some 20) (b := some 16) rfl rfl (by decide) rfl (fun q => absurd q (by decide)) (fun q => ?_))
          refine wp_of e17 c17_41 (rw_aload_n (pc' := 42) (v := .ref 20) rfl rfl rfl ?_)
          refine wp_of e17 c17_42 (rw_gs (pc' := 45) (k := 18) rfl rfl rfl rfl ?_)
          refine wp_of e17 c17_45 (rw_acmp_ne (p1 := 52) (p2 := 48) (a := some 20) (b := some 18) rfl rfl (by decide) rfl (fun q => ?_) (fun q => absurd q (by decide)))
          refine wp_of e17 c17_52 (rw_iconst (pc' := 53) rfl ?_)
          refine wp_of e17 c17_53 (rw_istore_n (pc' := 54) (z := 0) (L' := [(3, vI 0), (2, .ref 20), (0, .ref r0), (1, .ref r1)]) rfl rfl rfl ?_)
          refine wp_of e17 c17_54 (rw_aload_n (pc' := 55) (v := .ref r0) rfl rfl rfl ?_)
          refine wp_of e17 c17_55 (rw_iload_n (pc' := 56) (z := 0) rfl rfl ?_)
          refine wp_of e17 c17_56 (rw_if_eq (p1 := 63) (p2 := 59) (by decide) rfl ⟨by omega, by omega⟩ (fun c12286 => ?_) (fun c12286 => ?_))
          · refine wp_of e17 c17_63 (rw_iconst (pc' := 64) rfl ?_)
            refine wp_of e17 c17_64 (xc_V (pc' := 67) (r := r0) (as := [vI 5]) (st := []) (lm_1_47) rfl rfl (Nat.le_of_ble_eq_true rfl) hW g0 sh_3 (by decide) rfl (by decide) (s_20 hW g0 ⟨by omega, by omega⟩) (fun R12287 T12288 H12289 p12290 => ?_))
            obtain ⟨e12291, w12293, f12294, z12295, e12292, b12296⟩ := p12290
            subst e12291
            subst e12292
            have f12297 := f0.tr f12294 rfl
            show wp _ _ 17 67 [(3, vI 0), (2, .ref 20), (0, .ref r0), (1, .ref r1)] [vI z12295] _ H12289 _
            exact wp_zreturn e17 c17_67 rfl (by omega) ⟨rfl, w12293, f12297, z12295, rfl, ⟨by omega, by omega⟩⟩
          · exfalso
            omega
      · exfalso
        omega
    · subst c12018
      show wp _ _ 17 4 [(0, .ref r0), (1, .ref r1)] [.ref 21] _ H _
      refine wp_of e17 c17_4 (rw_astore_n (pc' := 5) (v := .ref 21) (L' := [(2, .ref 21), (0, .ref r0), (1, .ref r1)]) rfl rfl rfl rfl ?_)
      refine wp_of e17 c17_5 (rw_aload_n (pc' := 6) (v := .ref 21) rfl rfl rfl ?_)
      refine wp_of e17 c17_6 (rw_ifnull_r (p1 := 16) (p2 := 9) (by decide) rfl ?_)
      refine wp_of e17 c17_9 (rw_aload_n (pc' := 10) (v := .ref 21) rfl rfl rfl ?_)
      have k12298 : H 21 1 = 24 := (hW.2 21 _ (hW.1.2.2 5 (by decide))).2.2 1 (by decide) |> fun z => by have z1 : (24 : Int) ≤ H 21 1 ∧ H 21 1 ≤ 24 := z; omega
      refine wp_of e17 c17_10 (rw_getI (pc' := 13) (n := 2) (e := _) (lf_1_58).choose_spec.1 (lf_1_58).choose_spec.2.1 (hW.sh (hW.1.2.2 5 (by decide)) rfl) (by decide) rfl rfl ?_)
      rw [k12298]
      refine wp_of e17 c17_13 (rw_if_ne (p1 := 22) (p2 := 16) (by decide) rfl ⟨by omega, by omega⟩ (fun c12299 => ?_) (fun c12299 => ?_))
      · refine wp_of e17 c17_22 (rw_aload_n (pc' := 23) (v := .ref r1) rfl rfl rfl ?_)
        refine wp_of e17 c17_23 (rw_aload_n (pc' := 24) (v := .ref 21) rfl rfl rfl ?_)
        refine wp_of e17 c17_24 (xc_V (pc' := 27) (r := r1) (as := [.ref 21]) (st := []) (lm_1_63) rfl rfl (Nat.le_of_ble_eq_true rfl) hW g1 sh_27 (by decide) rfl (by decide) (s_21_21 hW g1) (fun R12300 T12301 H12302 p12303 => ?_))
        obtain ⟨e12304, e12306, z12307, e12305, b12308⟩ := p12303
        subst e12304
        subst e12305
        subst e12306
        show wp _ _ 17 27 [(2, .ref 21), (0, .ref r0), (1, .ref r1)] [vI z12307] _ H _
        refine wp_of e17 c17_27 (rw_aload_n (pc' := 28) (v := .ref 21) rfl rfl rfl ?_)
        have k12309 : H 21 1 = 24 := (hW.2 21 _ (hW.1.2.2 5 (by decide))).2.2 1 (by decide) |> fun z => by have z1 : (24 : Int) ≤ H 21 1 ∧ H 21 1 ≤ 24 := z; omega
        refine wp_of e17 c17_28 (rw_getI (pc' := 31) (n := 2) (e := _) (lf_1_58).choose_spec.1 (lf_1_58).choose_spec.2.1 (hW.sh (hW.1.2.2 5 (by decide)) rfl) (by decide) rfl rfl ?_)
        rw [k12309]
        refine wp_of e17 c17_31 (rw_icmp_lt (p1 := 68) (p2 := 34) (by decide) rfl ⟨by omega, by omega⟩ ⟨by omega, by omega⟩ (fun c12310 => ?_) (fun c12310 => ?_))
        · refine wp_of e17 c17_68 (rw_aload_n (pc' := 69) (v := .ref r0) rfl rfl rfl ?_)
          refine wp_of e17 c17_69 (xg_K (pc' := 72) lf_1_12 hW g0 sh_3 (by decide) (by decide) rfl qtk rfl ?_)
          refine wp_of e17 c17_72 (xc_V (pc' := 75) (r := tk) (as := []) (st := []) (lm_1_74) rfl rfl (Nat.le_of_ble_eq_true rfl) hW gtk sh_4 (by decide) rfl (by decide) (s_16 hW gtk qrb grb) (fun R12311 T12312 H12313 p12314 => ?_))
          obtain ⟨e12315, w12317, f12318, e12316⟩ := p12314
          subst e12315
          subst e12316
          have f12319 := f0.tr f12318 rfl
          show wp _ _ 17 75 [(2, .ref 21), (0, .ref r0), (1, .ref r1)] [] _ H12313 _
          refine wp_of e17 c17_75 (rw_gs (pc' := 78) (k := 2) rfl rfl rfl rfl ?_)
          refine wp_of e17 c17_78 (rw_aload_n (pc' := 79) (v := .ref 21) rfl rfl rfl ?_)
          refine wp_of e17 c17_79 (rw_ord (pc' := 82) rfl rfl rfl (by decide) (Nat.le_of_ble_eq_true rfl) rfl ?_)
          show wp _ _ 17 82 [(2, .ref 21), (0, .ref r0), (1, .ref r1)] [vI 5, .ref 2] _ H12313 _
          have k12320 : H12313 2 (5 : Int).toNat = 6 := (w12317.2 2 _ w12317.1.2.1).2.2 5 (by decide) |> fun z => by have z1 : (6 : Int) ≤ H12313 2 5 ∧ H12313 2 5 ≤ 6 := z; exact Int.le_antisymm z1.2 z1.1
          refine wp_of e17 c17_82 (rw_iaload (pc' := 83) (n := 11) (w12317.sh w12317.1.2.1 rfl) (by decide) (by decide) (by decide) rfl rfl ?_)
          rw [k12320]
          refine wp_of e17 c17_83 (rw_tsw (p1 := 174) ⟨by omega, by omega⟩ (by decide) ?_)
          refine wp_of e17 c17_174 (rw_aload_n (pc' := 175) (v := .ref r0) rfl rfl rfl ?_)
          refine wp_of e17 c17_175 (rw_aload_n (pc' := 176) (v := .ref r1) rfl rfl rfl ?_)
          have k12322 : H12313 r0 0 = H r0 0 := (f12318 r0 0 _ g0 rfl)
          have q12323 : H12313 r0 0 = (tk : Int) := k12322.trans qtk
          have k12324 : H12313 tk 0 = H tk 0 := (f12318 tk 0 _ gtk rfl)
          have q12325 : H12313 tk 0 = (rb : Int) := k12324.trans qrb
          refine wp_of e17 c17_176 (xc_V (pc' := 179) (r := r0) (as := [.ref r1]) (st := []) (lm_1_105) rfl rfl (Nat.le_of_ble_eq_true rfl) w12317 g0 sh_3 (by decide) rfl (by decide) (s_38 w12317 g0 g1 q12323 gtk q12325 grb) (fun R12326 T12327 H12328 p12329 => ?_))
          obtain ⟨e12330, w12332, f12333, z12334, e12331, b12335⟩ := p12329
          subst e12330
          subst e12331
          have f12336 := f12319.tr f12333 rfl
          show wp _ _ 17 179 [(2, .ref 21), (0, .ref r0), (1, .ref r1)] [vI z12334] _ H12328 _
          exact wp_zreturn e17 c17_179 rfl (by omega) ⟨rfl, w12332, f12336, z12334, rfl, ⟨by omega, by omega⟩⟩
        · refine wp_of e17 c17_34 (rw_aload_n (pc' := 35) (v := .ref 21) rfl rfl rfl ?_)
          refine wp_of e17 c17_35 (rw_gs (pc' := 38) (k := 16) rfl rfl rfl rfl ?_)
          refine wp_of e17 c17_38 (rw_acmp_eq (p1 := 48) (p2 := 41) (a := some 21) (b := some 16) rfl rfl (by decide) rfl (fun q => absurd q (by decide)) (fun q => ?_))
          refine wp_of e17 c17_41 (rw_aload_n (pc' := 42) (v := .ref 21) rfl rfl rfl ?_)
          refine wp_of e17 c17_42 (rw_gs (pc' := 45) (k := 18) rfl rfl rfl rfl ?_)
          refine wp_of e17 c17_45 (rw_acmp_ne (p1 := 52) (p2 := 48) (a := some 21) (b := some 18) rfl rfl (by decide) rfl (fun q => ?_) (fun q => absurd q (by decide)))
          refine wp_of e17 c17_52 (rw_iconst (pc' := 53) rfl ?_)
          refine wp_of e17 c17_53 (rw_istore_n (pc' := 54) (z := 0) (L' := [(3, vI 0), (2, .ref 21), (0, .ref r0), (1, .ref r1)]) rfl rfl rfl ?_)
          refine wp_of e17 c17_54 (rw_aload_n (pc' := 55) (v := .ref r0) rfl rfl rfl ?_)
          refine wp_of e17 c17_55 (rw_iload_n (pc' := 56) (z := 0) rfl rfl ?_)
          refine wp_of e17 c17_56 (rw_if_eq (p1 := 63) (p2 := 59) (by decide) rfl ⟨by omega, by omega⟩ (fun c12337 => ?_) (fun c12337 => ?_))
          · refine wp_of e17 c17_63 (rw_iconst (pc' := 64) rfl ?_)
            refine wp_of e17 c17_64 (xc_V (pc' := 67) (r := r0) (as := [vI 5]) (st := []) (lm_1_47) rfl rfl (Nat.le_of_ble_eq_true rfl) hW g0 sh_3 (by decide) rfl (by decide) (s_20 hW g0 ⟨by omega, by omega⟩) (fun R12338 T12339 H12340 p12341 => ?_))
            obtain ⟨e12342, w12344, f12345, z12346, e12343, b12347⟩ := p12341
            subst e12342
            subst e12343
            have f12348 := f0.tr f12345 rfl
            show wp _ _ 17 67 [(3, vI 0), (2, .ref 21), (0, .ref r0), (1, .ref r1)] [vI z12346] _ H12340 _
            exact wp_zreturn e17 c17_67 rfl (by omega) ⟨rfl, w12344, f12348, z12346, rfl, ⟨by omega, by omega⟩⟩
          · exfalso
            omega
      · exfalso
        omega
    · subst c12018
      show wp _ _ 17 4 [(0, .ref r0), (1, .ref r1)] [.ref 22] _ H _
      refine wp_of e17 c17_4 (rw_astore_n (pc' := 5) (v := .ref 22) (L' := [(2, .ref 22), (0, .ref r0), (1, .ref r1)]) rfl rfl rfl rfl ?_)
      refine wp_of e17 c17_5 (rw_aload_n (pc' := 6) (v := .ref 22) rfl rfl rfl ?_)
      refine wp_of e17 c17_6 (rw_ifnull_r (p1 := 16) (p2 := 9) (by decide) rfl ?_)
      refine wp_of e17 c17_9 (rw_aload_n (pc' := 10) (v := .ref 22) rfl rfl rfl ?_)
      have k12349 : H 22 1 = 4 := (hW.2 22 _ (hW.1.2.2 6 (by decide))).2.2 1 (by decide) |> fun z => by have z1 : (4 : Int) ≤ H 22 1 ∧ H 22 1 ≤ 4 := z; omega
      refine wp_of e17 c17_10 (rw_getI (pc' := 13) (n := 2) (e := _) (lf_1_58).choose_spec.1 (lf_1_58).choose_spec.2.1 (hW.sh (hW.1.2.2 6 (by decide)) rfl) (by decide) rfl rfl ?_)
      rw [k12349]
      refine wp_of e17 c17_13 (rw_if_ne (p1 := 22) (p2 := 16) (by decide) rfl ⟨by omega, by omega⟩ (fun c12350 => ?_) (fun c12350 => ?_))
      · refine wp_of e17 c17_22 (rw_aload_n (pc' := 23) (v := .ref r1) rfl rfl rfl ?_)
        refine wp_of e17 c17_23 (rw_aload_n (pc' := 24) (v := .ref 22) rfl rfl rfl ?_)
        refine wp_of e17 c17_24 (xc_V (pc' := 27) (r := r1) (as := [.ref 22]) (st := []) (lm_1_63) rfl rfl (Nat.le_of_ble_eq_true rfl) hW g1 sh_27 (by decide) rfl (by decide) (s_21_22 hW g1) (fun R12351 T12352 H12353 p12354 => ?_))
        obtain ⟨e12355, e12357, z12359, e12356, b12360, p12358⟩ := p12354
        subst e12355
        subst e12356
        subst e12357
        show wp _ _ 17 27 [(2, .ref 22), (0, .ref r0), (1, .ref r1)] [vI z12359] _ H _
        refine wp_of e17 c17_27 (rw_aload_n (pc' := 28) (v := .ref 22) rfl rfl rfl ?_)
        have k12361 : H 22 1 = 4 := (hW.2 22 _ (hW.1.2.2 6 (by decide))).2.2 1 (by decide) |> fun z => by have z1 : (4 : Int) ≤ H 22 1 ∧ H 22 1 ≤ 4 := z; omega
        refine wp_of e17 c17_28 (rw_getI (pc' := 31) (n := 2) (e := _) (lf_1_58).choose_spec.1 (lf_1_58).choose_spec.2.1 (hW.sh (hW.1.2.2 6 (by decide)) rfl) (by decide) rfl rfl ?_)
        rw [k12361]
        refine wp_of e17 c17_31 (rw_icmp_lt (p1 := 68) (p2 := 34) (by decide) rfl ⟨by omega, by omega⟩ ⟨by omega, by omega⟩ (fun c12362 => ?_) (fun c12362 => ?_))
        · refine wp_of e17 c17_68 (rw_aload_n (pc' := 69) (v := .ref r0) rfl rfl rfl ?_)
          refine wp_of e17 c17_69 (xg_K (pc' := 72) lf_1_12 hW g0 sh_3 (by decide) (by decide) rfl qtk rfl ?_)
          refine wp_of e17 c17_72 (xc_V (pc' := 75) (r := tk) (as := []) (st := []) (lm_1_74) rfl rfl (Nat.le_of_ble_eq_true rfl) hW gtk sh_4 (by decide) rfl (by decide) (s_16 hW gtk qrb grb) (fun R12363 T12364 H12365 p12366 => ?_))
          obtain ⟨e12367, w12369, f12370, e12368⟩ := p12366
          subst e12367
          subst e12368
          have f12371 := f0.tr f12370 rfl
          show wp _ _ 17 75 [(2, .ref 22), (0, .ref r0), (1, .ref r1)] [] _ H12365 _
          refine wp_of e17 c17_75 (rw_gs (pc' := 78) (k := 2) rfl rfl rfl rfl ?_)
          refine wp_of e17 c17_78 (rw_aload_n (pc' := 79) (v := .ref 22) rfl rfl rfl ?_)
          refine wp_of e17 c17_79 (rw_ord (pc' := 82) rfl rfl rfl (by decide) (Nat.le_of_ble_eq_true rfl) rfl ?_)
          show wp _ _ 17 82 [(2, .ref 22), (0, .ref r0), (1, .ref r1)] [vI 6, .ref 2] _ H12365 _
          have k12372 : H12365 2 (6 : Int).toNat = 7 := (w12369.2 2 _ w12369.1.2.1).2.2 6 (by decide) |> fun z => by have z1 : (7 : Int) ≤ H12365 2 6 ∧ H12365 2 6 ≤ 7 := z; exact Int.le_antisymm z1.2 z1.1
          refine wp_of e17 c17_82 (rw_iaload (pc' := 83) (n := 11) (w12369.sh w12369.1.2.1 rfl) (by decide) (by decide) (by decide) rfl rfl ?_)
          rw [k12372]
          refine wp_of e17 c17_83 (rw_tsw (p1 := 180) ⟨by omega, by omega⟩ (by decide) ?_)
          refine wp_of e17 c17_180 (rw_aload_n (pc' := 181) (v := .ref r0) rfl rfl rfl ?_)
          refine wp_of e17 c17_181 (rw_aload_n (pc' := 182) (v := .ref r1) rfl rfl rfl ?_)
          have k12374 : H12365 r1 13 = H r1 13 := (f12370 r1 13 _ g1 rfl)
          have k12375 : H12365 r0 0 = H r0 0 := (f12370 r0 0 _ g0 rfl)
          have q12376 : H12365 r0 0 = (tk : Int) := k12375.trans qtk
          have k12377 : H12365 tk 0 = H tk 0 := (f12370 tk 0 _ gtk rfl)
          have q12378 : H12365 tk 0 = (rb : Int) := k12377.trans qrb
          refine wp_of e17 c17_182 (xc_V (pc' := 185) (r := r0) (as := [.ref r1]) (st := []) (lm_1_108) rfl rfl (Nat.le_of_ble_eq_true rfl) w12369 g0 sh_3 (by decide) rfl (by decide) (s_42 w12369 g0 g1 q12376 gtk q12378 grb (by omega)) (fun R12379 T12380 H12381 p12382 => ?_))
          obtain ⟨e12383, w12385, f12386, z12387, e12384, b12388⟩ := p12382
          subst e12383
          subst e12384
          have f12389 := f12371.tr f12386 rfl
          show wp _ _ 17 185 [(2, .ref 22), (0, .ref r0), (1, .ref r1)] [vI z12387] _ H12381 _
          exact wp_zreturn e17 c17_185 rfl (by omega) ⟨rfl, w12385, f12389, z12387, rfl, ⟨by omega, by omega⟩⟩
        · refine wp_of e17 c17_34 (rw_aload_n (pc' := 35) (v := .ref 22) rfl rfl rfl ?_)
          refine wp_of e17 c17_35 (rw_gs (pc' := 38) (k := 16) rfl rfl rfl rfl ?_)
          refine wp_of e17 c17_38 (rw_acmp_eq (p1 := 48) (p2 := 41) (a := some 22) (b := some 16) rfl rfl (by decide) rfl (fun q => absurd q (by decide)) (fun q => ?_))
          refine wp_of e17 c17_41 (rw_aload_n (pc' := 42) (v := .ref 22) rfl rfl rfl ?_)
          refine wp_of e17 c17_42 (rw_gs (pc' := 45) (k := 18) rfl rfl rfl rfl ?_)
          refine wp_of e17 c17_45 (rw_acmp_ne (p1 := 52) (p2 := 48) (a := some 22) (b := some 18) rfl rfl (by decide) rfl (fun q => ?_) (fun q => absurd q (by decide)))
          refine wp_of e17 c17_52 (rw_iconst (pc' := 53) rfl ?_)
          refine wp_of e17 c17_53 (rw_istore_n (pc' := 54) (z := 0) (L' := [(3, vI 0), (2, .ref 22), (0, .ref r0), (1, .ref r1)]) rfl rfl rfl ?_)
          refine wp_of e17 c17_54 (rw_aload_n (pc' := 55) (v := .ref r0) rfl rfl rfl ?_)
          refine wp_of e17 c17_55 (rw_iload_n (pc' := 56) (z := 0) rfl rfl ?_)
          refine wp_of e17 c17_56 (rw_if_eq (p1 := 63) (p2 := 59) (by decide) rfl ⟨by omega, by omega⟩ (fun c12390 => ?_) (fun c12390 => ?_))
          · refine wp_of e17 c17_63 (rw_iconst (pc' := 64) rfl ?_)
            refine wp_of e17 c17_64 (xc_V (pc' := 67) (r := r0) (as := [vI 5]) (st := []) (lm_1_47) rfl rfl (Nat.le_of_ble_eq_true rfl) hW g0 sh_3 (by decide) rfl (by decide) (s_20 hW g0 ⟨by omega, by omega⟩) (fun R12391 T12392 H12393 p12394 => ?_))
            obtain ⟨e12395, w12397, f12398, z12399, e12396, b12400⟩ := p12394
            subst e12395
            subst e12396
            have f12401 := f0.tr f12398 rfl
            show wp _ _ 17 67 [(3, vI 0), (2, .ref 22), (0, .ref r0), (1, .ref r1)] [vI z12399] _ H12393 _
            exact wp_zreturn e17 c17_67 rfl (by omega) ⟨rfl, w12397, f12401, z12399, rfl, ⟨by omega, by omega⟩⟩
          · exfalso
            omega
      · exfalso
        omega
    · subst c12018
      show wp _ _ 17 4 [(0, .ref r0), (1, .ref r1)] [.ref 23] _ H _
      refine wp_of e17 c17_4 (rw_astore_n (pc' := 5) (v := .ref 23) (L' := [(2, .ref 23), (0, .ref r0), (1, .ref r1)]) rfl rfl rfl rfl ?_)
      refine wp_of e17 c17_5 (rw_aload_n (pc' := 6) (v := .ref 23) rfl rfl rfl ?_)
      refine wp_of e17 c17_6 (rw_ifnull_r (p1 := 16) (p2 := 9) (by decide) rfl ?_)
      refine wp_of e17 c17_9 (rw_aload_n (pc' := 10) (v := .ref 23) rfl rfl rfl ?_)
      have k12402 : H 23 1 = 6 := (hW.2 23 _ (hW.1.2.2 7 (by decide))).2.2 1 (by decide) |> fun z => by have z1 : (6 : Int) ≤ H 23 1 ∧ H 23 1 ≤ 6 := z; omega
      refine wp_of e17 c17_10 (rw_getI (pc' := 13) (n := 2) (e := _) (lf_1_58).choose_spec.1 (lf_1_58).choose_spec.2.1 (hW.sh (hW.1.2.2 7 (by decide)) rfl) (by decide) rfl rfl ?_)
      rw [k12402]
      refine wp_of e17 c17_13 (rw_if_ne (p1 := 22) (p2 := 16) (by decide) rfl ⟨by omega, by omega⟩ (fun c12403 => ?_) (fun c12403 => ?_))
      · refine wp_of e17 c17_22 (rw_aload_n (pc' := 23) (v := .ref r1) rfl rfl rfl ?_)
        refine wp_of e17 c17_23 (rw_aload_n (pc' := 24) (v := .ref 23) rfl rfl rfl ?_)
        refine wp_of e17 c17_24 (xc_V (pc' := 27) (r := r1) (as := [.ref 23]) (st := []) (lm_1_63) rfl rfl (Nat.le_of_ble_eq_true rfl) hW g1 sh_27 (by decide) rfl (by decide) (s_21_23 hW g1) (fun R12404 T12405 H12406 p12407 => ?_))
        obtain ⟨e12408, e12410, z12412, e12409, b12413, p12411⟩ := p12407
        subst e12408
        subst e12409
        subst e12410
        show wp _ _ 17 27 [(2, .ref 23), (0, .ref r0), (1, .ref r1)] [vI z12412] _ H _
        refine wp_of e17 c17_27 (rw_aload_n (pc' := 28) (v := .ref 23) rfl rfl rfl ?_)
        have k12414 : H 23 1 = 6 := (hW.2 23 _ (hW.1.2.2 7 (by decide))).2.2 1 (by decide) |> fun z => by have z1 : (6 : Int) ≤ H 23 1 ∧ H 23 1 ≤ 6 := z; omega
        refine wp_of e17 c17_28 (rw_getI (pc' := 31) (n := 2) (e := _) (lf_1_58).choose_spec.1 (lf_1_58).choose_spec.2.1 (hW.sh (hW.1.2.2 7 (by decide)) rfl) (by decide) rfl rfl ?_)
        rw [k12414]
        refine wp_of e17 c17_31 (rw_icmp_lt (p1 := 68) (p2 := 34) (by decide) rfl ⟨by omega, by omega⟩ ⟨by omega, by omega⟩ (fun c12415 => ?_) (fun c12415 => ?_))
        · refine wp_of e17 c17_68 (rw_aload_n (pc' := 69) (v := .ref r0) rfl rfl rfl ?_)
          refine wp_of e17 c17_69 (xg_K (pc' := 72) lf_1_12 hW g0 sh_3 (by decide) (by decide) rfl qtk rfl ?_)
          refine wp_of e17 c17_72 (xc_V (pc' := 75) (r := tk) (as := []) (st := []) (lm_1_74) rfl rfl (Nat.le_of_ble_eq_true rfl) hW gtk sh_4 (by decide) rfl (by decide) (s_16 hW gtk qrb grb) (fun R12416 T12417 H12418 p12419 => ?_))
          obtain ⟨e12420, w12422, f12423, e12421⟩ := p12419
          subst e12420
          subst e12421
          have f12424 := f0.tr f12423 rfl
          show wp _ _ 17 75 [(2, .ref 23), (0, .ref r0), (1, .ref r1)] [] _ H12418 _
          refine wp_of e17 c17_75 (rw_gs (pc' := 78) (k := 2) rfl rfl rfl rfl ?_)
          refine wp_of e17 c17_78 (rw_aload_n (pc' := 79) (v := .ref 23) rfl rfl rfl ?_)
          refine wp_of e17 c17_79 (rw_ord (pc' := 82) rfl rfl rfl (by decide) (Nat.le_of_ble_eq_true rfl) rfl ?_)
          show wp _ _ 17 82 [(2, .ref 23), (0, .ref r0), (1, .ref r1)] [vI 7, .ref 2] _ H12418 _
          have k12425 : H12418 2 (7 : Int).toNat = 8 := (w12422.2 2 _ w12422.1.2.1).2.2 7 (by decide) |> fun z => by have z1 : (8 : Int) ≤ H12418 2 7 ∧ H12418 2 7 ≤ 8 := z; exact Int.le_antisymm z1.2 z1.1
          refine wp_of e17 c17_82 (rw_iaload (pc' := 83) (n := 11) (w12422.sh w12422.1.2.1 rfl) (by decide) (by decide) (by decide) rfl rfl ?_)
          rw [k12425]
          refine wp_of e17 c17_83 (rw_tsw (p1 := 186) ⟨by omega, by omega⟩ (by decide) ?_)
          refine wp_of e17 c17_186 (rw_aload_n (pc' := 187) (v := .ref r0) rfl rfl rfl ?_)
          refine wp_of e17 c17_187 (rw_aload_n (pc' := 188) (v := .ref r1) rfl rfl rfl ?_)
          have k12427 : H12418 r1 14 = H r1 14 := (f12423 r1 14 _ g1 rfl)
          have k12428 : H12418 r0 0 = H r0 0 := (f12423 r0 0 _ g0 rfl)
          have q12429 : H12418 r0 0 = (tk : Int) := k12428.trans qtk
          have k12430 : H12418 tk 0 = H tk 0 := (f12423 tk 0 _ gtk rfl)
          have q12431 : H12418 tk 0 = (rb : Int) := k12430.trans qrb
          refine wp_of e17 c17_188 (xc_V (pc' := 191) (r := r0) (as := [.ref r1]) (st := []) (lm_1_111) rfl rfl (Nat.le_of_ble_eq_true rfl) w12422 g0 sh_3 (by decide) rfl (by decide) (s_43 w12422 g0 g1 q12429 gtk q12431 grb (by omega)) (fun R12432 T12433 H12434 p12435 => ?_))
          obtain ⟨e12436, w12438, f12439, z12440, e12437, b12441⟩ := p12435
          subst e12436
          subst e12437
          have f12442 := f12424.tr f12439 rfl
          show wp _ _ 17 191 [(2, .ref 23), (0, .ref r0), (1, .ref r1)] [vI z12440] _ H12434 _
          exact wp_zreturn e17 c17_191 rfl (by omega) ⟨rfl, w12438, f12442, z12440, rfl, ⟨by omega, by omega⟩⟩
        · refine wp_of e17 c17_34 (rw_aload_n (pc' := 35) (v := .ref 23) rfl rfl rfl ?_)
          refine wp_of e17 c17_35 (rw_gs (pc' := 38) (k := 16) rfl rfl rfl rfl ?_)
          refine wp_of e17 c17_38 (rw_acmp_eq (p1 := 48) (p2 := 41) (a := some 23) (b := some 16) rfl rfl (by decide) rfl (fun q => absurd q (by decide)) (fun q => ?_))
          refine wp_of e17 c17_41 (rw_aload_n (pc' := 42) (v := .ref 23) rfl rfl rfl ?_)
          refine wp_of e17 c17_42 (rw_gs (pc' := 45) (k := 18) rfl rfl rfl rfl ?_)
          refine wp_of e17 c17_45 (rw_acmp_ne (p1 := 52) (p2 := 48) (a := some 23) (b := some 18) rfl rfl (by decide) rfl (fun q => ?_) (fun q => absurd q (by decide)))
          refine wp_of e17 c17_52 (rw_iconst (pc' := 53) rfl ?_)
          refine wp_of e17 c17_53 (rw_istore_n (pc' := 54) (z := 0) (L' := [(3, vI 0), (2, .ref 23), (0, .ref r0), (1, .ref r1)]) rfl rfl rfl ?_)
          refine wp_of e17 c17_54 (rw_aload_n (pc' := 55) (v := .ref r0) rfl rfl rfl ?_)
          refine wp_of e17 c17_55 (rw_iload_n (pc' := 56) (z := 0) rfl rfl ?_)
          refine wp_of e17 c17_56 (rw_if_eq (p1 := 63) (p2 := 59) (by decide) rfl ⟨by omega, by omega⟩ (fun c12443 => ?_) (fun c12443 => ?_))
          · refine wp_of e17 c17_63 (rw_iconst (pc' := 64) rfl ?_)
            refine wp_of e17 c17_64 (xc_V (pc' := 67) (r := r0) (as := [vI 5]) (st := []) (lm_1_47) rfl rfl (Nat.le_of_ble_eq_true rfl) hW g0 sh_3 (by decide) rfl (by decide) (s_20 hW g0 ⟨by omega, by omega⟩) (fun R12444 T12445 H12446 p12447 => ?_))
            obtain ⟨e12448, w12450, f12451, z12452, e12449, b12453⟩ := p12447
            subst e12448
            subst e12449
            have f12454 := f0.tr f12451 rfl
            show wp _ _ 17 67 [(3, vI 0), (2, .ref 23), (0, .ref r0), (1, .ref r1)] [vI z12452] _ H12446 _
            exact wp_zreturn e17 c17_67 rfl (by omega) ⟨rfl, w12450, f12454, z12452, rfl, ⟨by omega, by omega⟩⟩
          · exfalso
            omega
      · exfalso
        omega
    · subst c12018
      show wp _ _ 17 4 [(0, .ref r0), (1, .ref r1)] [.ref 24] _ H _
      refine wp_of e17 c17_4 (rw_astore_n (pc' := 5) (v := .ref 24) (L' := [(2, .ref 24), (0, .ref r0), (1, .ref r1)]) rfl rfl rfl rfl ?_)
      refine wp_of e17 c17_5 (rw_aload_n (pc' := 6) (v := .ref 24) rfl rfl rfl ?_)
      refine wp_of e17 c17_6 (rw_ifnull_r (p1 := 16) (p2 := 9) (by decide) rfl ?_)
      refine wp_of e17 c17_9 (rw_aload_n (pc' := 10) (v := .ref 24) rfl rfl rfl ?_)
      have k12455 : H 24 1 = 0 := (hW.2 24 _ (hW.1.2.2 8 (by decide))).2.2 1 (by decide) |> fun z => by have z1 : (0 : Int) ≤ H 24 1 ∧ H 24 1 ≤ 0 := z; omega
      refine wp_of e17 c17_10 (rw_getI (pc' := 13) (n := 2) (e := _) (lf_1_58).choose_spec.1 (lf_1_58).choose_spec.2.1 (hW.sh (hW.1.2.2 8 (by decide)) rfl) (by decide) rfl rfl ?_)
      rw [k12455]
      refine wp_of e17 c17_13 (rw_if_ne (p1 := 22) (p2 := 16) (by decide) rfl ⟨by omega, by omega⟩ (fun c12456 => ?_) (fun c12456 => ?_))
      · exfalso
        omega
      · refine wp_of e17 c17_16 (rw_aload_n (pc' := 17) (v := .ref r0) rfl rfl rfl ?_)
        refine wp_of e17 c17_17 (rw_iconst (pc' := 18) rfl ?_)
        refine wp_of e17 c17_18 (xc_V (pc' := 21) (r := r0) (as := [vI 1]) (st := []) (lm_1_47) rfl rfl (Nat.le_of_ble_eq_true rfl) hW g0 sh_3 (by decide) rfl (by decide) (s_20 hW g0 ⟨by omega, by omega⟩) (fun R12457 T12458 H12459 p12460 => ?_))
        obtain ⟨e12461, w12463, f12464, z12465, e12462, b12466⟩ := p12460
        subst e12461
        subst e12462
        have f12467 := f0.tr f12464 rfl
        show wp _ _ 17 21 [(2, .ref 24), (0, .ref r0), (1, .ref r1)] [vI z12465] _ H12459 _
        exact wp_zreturn e17 c17_21 rfl (by omega) ⟨rfl, w12463, f12467, z12465, rfl, ⟨by omega, by omega⟩⟩
    · subst c12018
      show wp _ _ 17 4 [(0, .ref r0), (1, .ref r1)] [.ref 25] _ H _
      refine wp_of e17 c17_4 (rw_astore_n (pc' := 5) (v := .ref 25) (L' := [(2, .ref 25), (0, .ref r0), (1, .ref r1)]) rfl rfl rfl rfl ?_)
      refine wp_of e17 c17_5 (rw_aload_n (pc' := 6) (v := .ref 25) rfl rfl rfl ?_)
      refine wp_of e17 c17_6 (rw_ifnull_r (p1 := 16) (p2 := 9) (by decide) rfl ?_)
      refine wp_of e17 c17_9 (rw_aload_n (pc' := 10) (v := .ref 25) rfl rfl rfl ?_)
      have k12468 : H 25 1 = 0 := (hW.2 25 _ (hW.1.2.2 9 (by decide))).2.2 1 (by decide) |> fun z => by have z1 : (0 : Int) ≤ H 25 1 ∧ H 25 1 ≤ 0 := z; omega
      refine wp_of e17 c17_10 (rw_getI (pc' := 13) (n := 2) (e := _) (lf_1_58).choose_spec.1 (lf_1_58).choose_spec.2.1 (hW.sh (hW.1.2.2 9 (by decide)) rfl) (by decide) rfl rfl ?_)
      rw [k12468]
      refine wp_of e17 c17_13 (rw_if_ne (p1 := 22) (p2 := 16) (by decide) rfl ⟨by omega, by omega⟩ (fun c12469 => ?_) (fun c12469 => ?_))
      · exfalso
        omega
      · refine wp_of e17 c17_16 (rw_aload_n (pc' := 17) (v := .ref r0) rfl rfl rfl ?_)
        refine wp_of e17 c17_17 (rw_iconst (pc' := 18) rfl ?_)
        refine wp_of e17 c17_18 (xc_V (pc' := 21) (r := r0) (as := [vI 1]) (st := []) (lm_1_47) rfl rfl (Nat.le_of_ble_eq_true rfl) hW g0 sh_3 (by decide) rfl (by decide) (s_20 hW g0 ⟨by omega, by omega⟩) (fun R12470 T12471 H12472 p12473 => ?_))
        obtain ⟨e12474, w12476, f12477, z12478, e12475, b12479⟩ := p12473
        subst e12474
        subst e12475
        have f12480 := f0.tr f12477 rfl
        show wp _ _ 17 21 [(2, .ref 25), (0, .ref r0), (1, .ref r1)] [vI z12478] _ H12472 _
        exact wp_zreturn e17 c17_21 rfl (by omega) ⟨rfl, w12476, f12480, z12478, rfl, ⟨by omega, by omega⟩⟩
    · subst c12018
      show wp _ _ 17 4 [(0, .ref r0), (1, .ref r1)] [.ref 26] _ H _
      refine wp_of e17 c17_4 (rw_astore_n (pc' := 5) (v := .ref 26) (L' := [(2, .ref 26), (0, .ref r0), (1, .ref r1)]) rfl rfl rfl rfl ?_)
      refine wp_of e17 c17_5 (rw_aload_n (pc' := 6) (v := .ref 26) rfl rfl rfl ?_)
      refine wp_of e17 c17_6 (rw_ifnull_r (p1 := 16) (p2 := 9) (by decide) rfl ?_)
      refine wp_of e17 c17_9 (rw_aload_n (pc' := 10) (v := .ref 26) rfl rfl rfl ?_)
      have k12481 : H 26 1 = 0 := (hW.2 26 _ (hW.1.2.2 10 (by decide))).2.2 1 (by decide) |> fun z => by have z1 : (0 : Int) ≤ H 26 1 ∧ H 26 1 ≤ 0 := z; omega
      refine wp_of e17 c17_10 (rw_getI (pc' := 13) (n := 2) (e := _) (lf_1_58).choose_spec.1 (lf_1_58).choose_spec.2.1 (hW.sh (hW.1.2.2 10 (by decide)) rfl) (by decide) rfl rfl ?_)
      rw [k12481]
      refine wp_of e17 c17_13 (rw_if_ne (p1 := 22) (p2 := 16) (by decide) rfl ⟨by omega, by omega⟩ (fun c12482 => ?_) (fun c12482 => ?_))
      · exfalso
        omega
      · refine wp_of e17 c17_16 (rw_aload_n (pc' := 17) (v := .ref r0) rfl rfl rfl ?_)
        refine wp_of e17 c17_17 (rw_iconst (pc' := 18) rfl ?_)
        refine wp_of e17 c17_18 (xc_V (pc' := 21) (r := r0) (as := [vI 1]) (st := []) (lm_1_47) rfl rfl (Nat.le_of_ble_eq_true rfl) hW g0 sh_3 (by decide) rfl (by decide) (s_20 hW g0 ⟨by omega, by omega⟩) (fun R12483 T12484 H12485 p12486 => ?_))
        obtain ⟨e12487, w12489, f12490, z12491, e12488, b12492⟩ := p12486
        subst e12487
        subst e12488
        have f12493 := f0.tr f12490 rfl
        show wp _ _ 17 21 [(2, .ref 26), (0, .ref r0), (1, .ref r1)] [vI z12491] _ H12485 _
        exact wp_zreturn e17 c17_21 rfl (by omega) ⟨rfl, w12489, f12493, z12491, rfl, ⟨by omega, by omega⟩⟩
