/-! methods (own work, written by wip/gen2/sx.py) -/
/-! StrikeAwake$Reader.knownPerson(LStrikeAwake$Parish;)I -/
theorem e33 : wq_en 33 = some (1, 3, false, some FieldType.int) := rfl
theorem c33_0 : mc_cd 33 0 = some (.aload_n 0, 1) := by decide +kernel
theorem c33_1 : mc_cd 33 1 = some (.invokevirtual 131, 3) := by decide +kernel
theorem c33_4 : mc_cd 33 4 = some (.ifCond .ne 11, 3) := by decide +kernel
theorem c33_7 : mc_cd 33 7 = some (.aload_n 0, 1) := by decide +kernel
theorem c33_8 : mc_cd 33 8 = some (.iconst 1, 1) := by decide +kernel
theorem c33_9 : mc_cd 33 9 = some (.invokevirtual 47, 3) := by decide +kernel
theorem c33_12 : mc_cd 33 12 = some (.pop, 1) := by decide +kernel
theorem c33_13 : mc_cd 33 13 = some (.iconst (-1), 1) := by decide +kernel
theorem c33_14 : mc_cd 33 14 = some (.ireturn, 1) := by decide +kernel
theorem c33_15 : mc_cd 33 15 = some (.aload_n 1, 1) := by decide +kernel
theorem c33_16 : mc_cd 33 16 = some (.aload_n 0, 1) := by decide +kernel
theorem c33_17 : mc_cd 33 17 = some (.getfield 12, 3) := by decide +kernel
theorem c33_20 : mc_cd 33 20 = some (.getfield 135, 3) := by decide +kernel
theorem c33_23 : mc_cd 33 23 = some (.invokevirtual 139, 3) := by decide +kernel
theorem c33_26 : mc_cd 33 26 = some (.istore_n 2, 1) := by decide +kernel
theorem c33_27 : mc_cd 33 27 = some (.iload_n 2, 1) := by decide +kernel
theorem c33_28 : mc_cd 33 28 = some (.ifCond .ge 9, 3) := by decide +kernel
theorem c33_31 : mc_cd 33 31 = some (.aload_n 0, 1) := by decide +kernel
theorem c33_32 : mc_cd 33 32 = some (.iconst 2, 1) := by decide +kernel
theorem c33_33 : mc_cd 33 33 = some (.invokevirtual 47, 3) := by decide +kernel
theorem c33_36 : mc_cd 33 36 = some (.pop, 1) := by decide +kernel
theorem c33_37 : mc_cd 33 37 = some (.iload_n 2, 1) := by decide +kernel
theorem c33_38 : mc_cd 33 38 = some (.ireturn, 1) := by decide +kernel
abbrev q_33 (r0 : Nat) (r1 : Nat) (tk : Nat) (rb : Nat) (T : wq_T) (H : wq_H) : Option Value → wq_T → wq_H → Prop := fun r T' H' => T = T' ∧ WT T H' ∧ wfr [(3, 3), (3, 4)] T H H' ∧ ∃ z : Int, some (vI z) = r ∧ ((-1) ≤ z ∧ z ≤ 5)
set_option maxHeartbeats 4000000 in
theorem s_33 {kt : Nat → Option mc_E} {T : wq_T} {H : wq_H} {r0 : Nat} {r1 : Nat} {tk : Nat} {rb : Nat} (hW : WT T H) (g0 : T.2.2.2 r0 = some 3) (g1 : T.2.2.2 r1 = some 27) (qtk : H r0 0 = (tk : Int)) (gtk : T.2.2.2 tk = some 4) (qrb : H tk 0 = (rb : Int)) (grb : T.2.2.2 rb = some 2) : wpc kt 4 33 [.ref r0, .ref r1] T H (q_33 r0 r1 tk rb T H) := by
  refine wp_enter e33 (Nat.le_of_ble_eq_true rfl) rfl ?_
  have f0 : wfr [(3, 3), (3, 4)] T H H := wfr.rf
  show wp _ _ 33 0 [(0, .ref r0), (1, .ref r1)] [] _ H _
  refine wp_of e33 c33_0 (rw_aload_n (pc' := 1) (v := .ref r0) rfl rfl rfl ?_)
  refine wp_of e33 c33_1 (xc_V (pc' := 4) (r := r0) (as := []) (st := []) (lm_1_131) rfl rfl (Nat.le_of_ble_eq_true rfl) hW g0 sh_3 (by decide) rfl (by decide) (s_26 hW g0) (fun R9889 T9890 H9891 p9892 => ?_))
  obtain ⟨e9893, e9895, z9896, e9894, b9897⟩ := p9892
  subst e9893
  subst e9894
  subst e9895
  show wp _ _ 33 4 [(0, .ref r0), (1, .ref r1)] [vI z9896] _ H _
  refine wp_of e33 c33_4 (rw_if_ne (p1 := 15) (p2 := 7) (by decide) rfl ⟨by omega, by omega⟩ (fun c9898 => ?_) (fun c9898 => ?_))
  · refine wp_of e33 c33_15 (rw_aload_n (pc' := 16) (v := .ref r1) rfl rfl rfl ?_)
    refine wp_of e33 c33_16 (rw_aload_n (pc' := 17) (v := .ref r0) rfl rfl rfl ?_)
    refine wp_of e33 c33_17 (xg_K (pc' := 20) lf_1_12 hW g0 sh_3 (by decide) (by decide) rfl qtk rfl ?_)
    refine wp_of e33 c33_20 (xg_L (pc' := 23) lf_1_135 hW gtk sh_4 (by decide) (by decide) ty_4_6 rfl rfl (fun b9899 b9900 => ?_))
    refine wp_of e33 c33_23 (xc_V (pc' := 26) (r := r1) (as := [vL (H tk 6)]) (st := []) (lm_1_139) rfl rfl (Nat.le_of_ble_eq_true rfl) hW g1 sh_27 (by decide) rfl (by decide) (s_27 hW g1 ⟨by omega, by omega⟩) (fun R9901 T9902 H9903 p9904 => ?_))
    obtain ⟨e9905, e9907, z9908, e9906, b9909⟩ := p9904
    subst e9905
    subst e9906
    subst e9907
    show wp _ _ 33 26 [(0, .ref r0), (1, .ref r1)] [vI z9908] _ H _
    refine wp_of e33 c33_26 (rw_istore_n (pc' := 27) (z := z9908) (L' := [(2, vI z9908), (0, .ref r0), (1, .ref r1)]) rfl rfl rfl ?_)
    refine wp_of e33 c33_27 (rw_iload_n (pc' := 28) (z := z9908) rfl rfl ?_)
    refine wp_of e33 c33_28 (rw_if_ge (p1 := 37) (p2 := 31) (by decide) rfl ⟨by omega, by omega⟩ (fun c9910 => ?_) (fun c9910 => ?_))
    · refine wp_of e33 c33_37 (rw_iload_n (pc' := 38) (z := z9908) rfl rfl ?_)
      exact wp_ireturn e33 c33_38 rfl ⟨rfl, hW, f0, z9908, rfl, ⟨by omega, by omega⟩⟩
    · refine wp_of e33 c33_31 (rw_aload_n (pc' := 32) (v := .ref r0) rfl rfl rfl ?_)
      refine wp_of e33 c33_32 (rw_iconst (pc' := 33) rfl ?_)
      refine wp_of e33 c33_33 (xc_V (pc' := 36) (r := r0) (as := [vI 2]) (st := []) (lm_1_47) rfl rfl (Nat.le_of_ble_eq_true rfl) hW g0 sh_3 (by decide) rfl (by decide) (s_20 hW g0 ⟨by omega, by omega⟩) (fun R9911 T9912 H9913 p9914 => ?_))
      obtain ⟨e9915, w9917, f9918, z9919, e9916, b9920⟩ := p9914
      subst e9915
      subst e9916
      have f9921 := f0.tr f9918 rfl
      show wp _ _ 33 36 [(2, vI z9908), (0, .ref r0), (1, .ref r1)] [vI z9919] _ H9913 _
      refine wp_of e33 c33_36 (rw_pop (pc' := 37) rfl rfl ?_)
      refine wp_of e33 c33_37 (rw_iload_n (pc' := 38) (z := z9908) rfl rfl ?_)
      exact wp_ireturn e33 c33_38 rfl ⟨rfl, w9917, f9921, z9908, rfl, ⟨by omega, by omega⟩⟩
  · refine wp_of e33 c33_7 (rw_aload_n (pc' := 8) (v := .ref r0) rfl rfl rfl ?_)
    refine wp_of e33 c33_8 (rw_iconst (pc' := 9) rfl ?_)
    refine wp_of e33 c33_9 (xc_V (pc' := 12) (r := r0) (as := [vI 1]) (st := []) (lm_1_47) rfl rfl (Nat.le_of_ble_eq_true rfl) hW g0 sh_3 (by decide) rfl (by decide) (s_20 hW g0 ⟨by omega, by omega⟩) (fun R9922 T9923 H9924 p9925 => ?_))
    obtain ⟨e9926, w9928, f9929, z9930, e9927, b9931⟩ := p9925
    subst e9926
    subst e9927
    have f9932 := f0.tr f9929 rfl
    show wp _ _ 33 12 [(0, .ref r0), (1, .ref r1)] [vI z9930] _ H9924 _
    refine wp_of e33 c33_12 (rw_pop (pc' := 13) rfl rfl ?_)
    refine wp_of e33 c33_13 (rw_iconst (pc' := 14) rfl ?_)
    exact wp_ireturn e33 c33_14 rfl ⟨rfl, w9928, f9932, -1, rfl, ⟨by omega, by omega⟩⟩
/-! StrikeAwake$Reader.readsSexton(LStrikeAwake$Parish;)Z -/
theorem e32 : wq_en 32 = some (1, 3, false, some FieldType.boolean) := rfl
theorem c32_0 : mc_cd 32 0 = some (.aload_n 0, 1) := by decide +kernel
theorem c32_1 : mc_cd 32 1 = some (.aload_n 1, 1) := by decide +kernel
theorem c32_2 : mc_cd 32 2 = some (.invokevirtual 207, 3) := by decide +kernel
theorem c32_5 : mc_cd 32 5 = some (.istore_n 2, 1) := by decide +kernel
theorem c32_6 : mc_cd 32 6 = some (.iload_n 2, 1) := by decide +kernel
theorem c32_7 : mc_cd 32 7 = some (.ifCond .ge 5, 3) := by decide +kernel
theorem c32_10 : mc_cd 32 10 = some (.iconst 0, 1) := by decide +kernel
theorem c32_11 : mc_cd 32 11 = some (.ireturn, 1) := by decide +kernel
theorem c32_12 : mc_cd 32 12 = some (.aload_n 0, 1) := by decide +kernel
theorem c32_13 : mc_cd 32 13 = some (.getfield 12, 3) := by decide +kernel
theorem c32_16 : mc_cd 32 16 = some (.invokevirtual 74, 3) := by decide +kernel
theorem c32_19 : mc_cd 32 19 = some (.aload_n 1, 1) := by decide +kernel
theorem c32_20 : mc_cd 32 20 = some (.iload_n 2, 1) := by decide +kernel
theorem c32_21 : mc_cd 32 21 = some (.putfield 211, 3) := by decide +kernel
theorem c32_24 : mc_cd 32 24 = some (.iconst 1, 1) := by decide +kernel
theorem c32_25 : mc_cd 32 25 = some (.ireturn, 1) := by decide +kernel
abbrev q_32 (r0 : Nat) (r1 : Nat) (tk : Nat) (rb : Nat) (T : wq_T) (H : wq_H) : Option Value → wq_T → wq_H → Prop := fun r T' H' => T = T' ∧ WT T H' ∧ wfr [(27, 15), (3, 3), (3, 4), (4, 2), (4, 3), (4, 4), (4, 5), (4, 6)] T H H' ∧ ∃ z : Int, some (vI z) = r ∧ (0 ≤ z ∧ z ≤ 1)
set_option maxHeartbeats 4000000 in
theorem s_32 {kt : Nat → Option mc_E} {T : wq_T} {H : wq_H} {r0 : Nat} {r1 : Nat} {tk : Nat} {rb : Nat} (hW : WT T H) (g0 : T.2.2.2 r0 = some 3) (g1 : T.2.2.2 r1 = some 27) (qtk : H r0 0 = (tk : Int)) (gtk : T.2.2.2 tk = some 4) (qrb : H tk 0 = (rb : Int)) (grb : T.2.2.2 rb = some 2) : wpc kt 5 32 [.ref r0, .ref r1] T H (q_32 r0 r1 tk rb T H) := by
  refine wp_enter e32 (Nat.le_of_ble_eq_true rfl) rfl ?_
  have f0 : wfr [(27, 15), (3, 3), (3, 4), (4, 2), (4, 3), (4, 4), (4, 5), (4, 6)] T H H := wfr.rf
  show wp _ _ 32 0 [(0, .ref r0), (1, .ref r1)] [] _ H _
  refine wp_of e32 c32_0 (rw_aload_n (pc' := 1) (v := .ref r0) rfl rfl rfl ?_)
  refine wp_of e32 c32_1 (rw_aload_n (pc' := 2) (v := .ref r1) rfl rfl rfl ?_)
  refine wp_of e32 c32_2 (xc_V (pc' := 5) (r := r0) (as := [.ref r1]) (st := []) (lm_1_207) rfl rfl (Nat.le_of_ble_eq_true rfl) hW g0 sh_3 (by decide) rfl (by decide) (s_33 hW g0 g1 qtk gtk qrb grb) (fun R9963 T9964 H9965 p9966 => ?_))
  obtain ⟨e9967, w9969, f9970, z9971, e9968, b9972⟩ := p9966
  subst e9967
  subst e9968
  have f9973 := f0.tr f9970 rfl
  show wp _ _ 32 5 [(0, .ref r0), (1, .ref r1)] [vI z9971] _ H9965 _
  refine wp_of e32 c32_5 (rw_istore_n (pc' := 6) (z := z9971) (L' := [(2, vI z9971), (0, .ref r0), (1, .ref r1)]) rfl rfl rfl ?_)
  refine wp_of e32 c32_6 (rw_iload_n (pc' := 7) (z := z9971) rfl rfl ?_)
  refine wp_of e32 c32_7 (rw_if_ge (p1 := 12) (p2 := 10) (by decide) rfl ⟨by omega, by omega⟩ (fun c9974 => ?_) (fun c9974 => ?_))
  · refine wp_of e32 c32_12 (rw_aload_n (pc' := 13) (v := .ref r0) rfl rfl rfl ?_)
    have k9975 : H9965 r0 0 = H r0 0 := (f9970 r0 0 _ g0 rfl)
    have q9976 : H9965 r0 0 = (tk : Int) := k9975.trans qtk
    refine wp_of e32 c32_13 (xg_K (pc' := 16) lf_1_12 w9969 g0 sh_3 (by decide) (by decide) rfl q9976 rfl ?_)
    have k9977 : H9965 tk 0 = H tk 0 := (f9970 tk 0 _ gtk rfl)
    have q9978 : H9965 tk 0 = (rb : Int) := k9977.trans qrb
    refine wp_of e32 c32_16 (xc_V (pc' := 19) (r := tk) (as := []) (st := []) (lm_1_74) rfl rfl (Nat.le_of_ble_eq_true rfl) w9969 gtk sh_4 (by decide) rfl (by decide) (s_16 w9969 gtk q9978 grb) (fun R9979 T9980 H9981 p9982 => ?_))
    obtain ⟨e9983, w9985, f9986, e9984⟩ := p9982
    subst e9983
    subst e9984
    have f9987 := f9973.tr f9986 rfl
    show wp _ _ 32 19 [(2, vI z9971), (0, .ref r0), (1, .ref r1)] [] _ H9981 _
    refine wp_of e32 c32_19 (rw_aload_n (pc' := 20) (v := .ref r1) rfl rfl rfl ?_)
    refine wp_of e32 c32_20 (rw_iload_n (pc' := 21) (z := z9971) rfl rfl ?_)
    refine wp_of e32 c32_21 (xp_I (pc' := 24) lf_1_211 w9985 g1 sh_27 (by decide) (by decide) ty_27_15 rfl rfl (by omega) (by omega) ⟨by omega, by omega⟩ rfl (fun H9988 e9989 w9990 => ?_))
    have f9991 := f9987.put' e9989 g1 rfl
    have k9992 : H9988 r1 15 = z9971 := wq_u_s e9989
    refine wp_of e32 c32_24 (rw_iconst (pc' := 25) rfl ?_)
    exact wp_zreturn e32 c32_25 rfl (by omega) ⟨rfl, w9990, f9991, 1, rfl, ⟨by omega, by omega⟩⟩
  · refine wp_of e32 c32_10 (rw_iconst (pc' := 11) rfl ?_)
    exact wp_zreturn e32 c32_11 rfl (by omega) ⟨rfl, w9969, f9973, 0, rfl, ⟨by omega, by omega⟩⟩
/-! StrikeAwake$Reader.takes(I)Z -/
theorem e35 : wq_en 35 = some (1, 2, false, some FieldType.boolean) := rfl
theorem c35_0 : mc_cd 35 0 = some (.aload_n 0, 1) := by decide +kernel
theorem c35_1 : mc_cd 35 1 = some (.getfield 12, 3) := by decide +kernel
theorem c35_4 : mc_cd 35 4 = some (.getfield 38, 3) := by decide +kernel
theorem c35_7 : mc_cd 35 7 = some (.iload_n 1, 1) := by decide +kernel
theorem c35_8 : mc_cd 35 8 = some (.if_icmp .eq 9, 3) := by decide +kernel
theorem c35_11 : mc_cd 35 11 = some (.aload_n 0, 1) := by decide +kernel
theorem c35_12 : mc_cd 35 12 = some (.iconst 1, 1) := by decide +kernel
theorem c35_13 : mc_cd 35 13 = some (.invokevirtual 47, 3) := by decide +kernel
theorem c35_16 : mc_cd 35 16 = some (.ireturn, 1) := by decide +kernel
theorem c35_17 : mc_cd 35 17 = some (.aload_n 0, 1) := by decide +kernel
theorem c35_18 : mc_cd 35 18 = some (.getfield 12, 3) := by decide +kernel
theorem c35_21 : mc_cd 35 21 = some (.invokevirtual 74, 3) := by decide +kernel
theorem c35_24 : mc_cd 35 24 = some (.iconst 1, 1) := by decide +kernel
theorem c35_25 : mc_cd 35 25 = some (.ireturn, 1) := by decide +kernel
abbrev q_35 (r0 : Nat) (a1 : Int) (tk : Nat) (rb : Nat) (T : wq_T) (H : wq_H) : Option Value → wq_T → wq_H → Prop := fun r T' H' => T = T' ∧ WT T H' ∧ wfr [(3, 3), (3, 4), (4, 2), (4, 3), (4, 4), (4, 5), (4, 6)] T H H' ∧ ∃ z : Int, some (vI z) = r ∧ (0 ≤ z ∧ z ≤ 1)
set_option maxHeartbeats 4000000 in
theorem s_35 {kt : Nat → Option mc_E} {T : wq_T} {H : wq_H} {r0 : Nat} {a1 : Int} {tk : Nat} {rb : Nat} (hW : WT T H) (g0 : T.2.2.2 r0 = some 3) (i1 : (-2147483648) ≤ a1 ∧ a1 ≤ 2147483647) (qtk : H r0 0 = (tk : Int)) (gtk : T.2.2.2 tk = some 4) (qrb : H tk 0 = (rb : Int)) (grb : T.2.2.2 rb = some 2) : wpc kt 2 35 [.ref r0, vI a1] T H (q_35 r0 a1 tk rb T H) := by
  refine wp_enter e35 (Nat.le_of_ble_eq_true rfl) rfl ?_
  have f0 : wfr [(3, 3), (3, 4), (4, 2), (4, 3), (4, 4), (4, 5), (4, 6)] T H H := wfr.rf
  show wp _ _ 35 0 [(0, .ref r0), (1, vI a1)] [] _ H _
  refine wp_of e35 c35_0 (rw_aload_n (pc' := 1) (v := .ref r0) rfl rfl rfl ?_)
  refine wp_of e35 c35_1 (xg_K (pc' := 4) lf_1_12 hW g0 sh_3 (by decide) (by decide) rfl qtk rfl ?_)
  refine wp_of e35 c35_4 (xg_I (pc' := 7) lf_1_38 hW gtk sh_4 (by decide) (by decide) ty_4_3 rfl rfl (fun b10016 b10017 => ?_))
  refine wp_of e35 c35_7 (rw_iload_n (pc' := 8) (z := a1) rfl rfl ?_)
  refine wp_of e35 c35_8 (rw_icmp_eq (p1 := 17) (p2 := 11) (by decide) rfl ⟨by omega, by omega⟩ ⟨by omega, by omega⟩ (fun c10018 => ?_) (fun c10018 => ?_))
  · refine wp_of e35 c35_17 (rw_aload_n (pc' := 18) (v := .ref r0) rfl rfl rfl ?_)
    refine wp_of e35 c35_18 (xg_K (pc' := 21) lf_1_12 hW g0 sh_3 (by decide) (by decide) rfl qtk rfl ?_)
    refine wp_of e35 c35_21 (xc_V (pc' := 24) (r := tk) (as := []) (st := []) (lm_1_74) rfl rfl (Nat.le_of_ble_eq_true rfl) hW gtk sh_4 (by decide) rfl (by decide) (s_16 hW gtk qrb grb) (fun R10019 T10020 H10021 p10022 => ?_))
    obtain ⟨e10023, w10025, f10026, e10024⟩ := p10022
    subst e10023
    subst e10024
    have f10027 := f0.tr f10026 rfl
    show wp _ _ 35 24 [(0, .ref r0), (1, vI a1)] [] _ H10021 _
    refine wp_of e35 c35_24 (rw_iconst (pc' := 25) rfl ?_)
    exact wp_zreturn e35 c35_25 rfl (by omega) ⟨rfl, w10025, f10027, 1, rfl, ⟨by omega, by omega⟩⟩
  · refine wp_of e35 c35_11 (rw_aload_n (pc' := 12) (v := .ref r0) rfl rfl rfl ?_)
    refine wp_of e35 c35_12 (rw_iconst (pc' := 13) rfl ?_)
    refine wp_of e35 c35_13 (xc_V (pc' := 16) (r := r0) (as := [vI 1]) (st := []) (lm_1_47) rfl rfl (Nat.le_of_ble_eq_true rfl) hW g0 sh_3 (by decide) rfl (by decide) (s_20 hW g0 ⟨by omega, by omega⟩) (fun R10028 T10029 H10030 p10031 => ?_))
    obtain ⟨e10032, w10034, f10035, z10036, e10033, b10037⟩ := p10031
    subst e10032
    subst e10033
    have f10038 := f0.tr f10035 rfl
    show wp _ _ 35 16 [(0, .ref r0), (1, vI a1)] [vI z10036] _ H10030 _
    exact wp_zreturn e35 c35_16 rfl (by omega) ⟨rfl, w10034, f10038, z10036, rfl, ⟨by omega, by omega⟩⟩
/-! StrikeAwake.hasBit(II)Z -/
theorem e36 : wq_en 36 = some (0, 2, false, some FieldType.boolean) := rfl
theorem c36_0 : mc_cd 36 0 = some (.iload_n 0, 1) := by decide +kernel
theorem c36_1 : mc_cd 36 1 = some (.iload_n 1, 1) := by decide +kernel
theorem c36_2 : mc_cd 36 2 = some (.ishr, 1) := by decide +kernel
theorem c36_3 : mc_cd 36 3 = some (.iconst 1, 1) := by decide +kernel
theorem c36_4 : mc_cd 36 4 = some (.iand, 1) := by decide +kernel
theorem c36_5 : mc_cd 36 5 = some (.ifCond .eq 7, 3) := by decide +kernel
theorem c36_8 : mc_cd 36 8 = some (.iconst 1, 1) := by decide +kernel
theorem c36_9 : mc_cd 36 9 = some (.goto 4, 3) := by decide +kernel
theorem c36_12 : mc_cd 36 12 = some (.iconst 0, 1) := by decide +kernel
theorem c36_13 : mc_cd 36 13 = some (.ireturn, 1) := by decide +kernel
abbrev q_36 (a0 : Int) (a1 : Int) (T : wq_T) (H : wq_H) : Option Value → wq_T → wq_H → Prop := fun r T' H' => T = T' ∧ H = H' ∧ ∃ z : Int, some (vI z) = r ∧ (0 ≤ z ∧ z ≤ 1)
set_option maxHeartbeats 4000000 in
theorem s_36 {kt : Nat → Option mc_E} {T : wq_T} {H : wq_H} {a0 : Int} {a1 : Int} (hW : WT T H) (i0 : (-2147483648) ≤ a0 ∧ a0 ≤ 2147483647) (i1 : (-2147483648) ≤ a1 ∧ a1 ≤ 2147483647) : wpc kt 1 36 [vI a0, vI a1] T H (q_36 a0 a1 T H) := by
  refine wp_enter e36 (Nat.le_of_ble_eq_true rfl) rfl ?_
  show wp _ _ 36 0 [(0, vI a0), (1, vI a1)] [] _ H _
  refine wp_of e36 c36_0 (rw_iload_n (pc' := 1) (z := a0) rfl rfl ?_)
  refine wp_of e36 c36_1 (rw_iload_n (pc' := 2) (z := a1) rfl rfl ?_)
  refine wp_of e36 c36_2 (rw_ishr (pc' := 3) rfl ?_)
  obtain ⟨v10044, e10045⟩ : ∃ x : Int, x = wq_shr a0 a1 := ⟨_, rfl⟩
  rw [← e10045]
  have b10046 : -2147483648 ≤ v10044 ∧ v10044 ≤ 2147483647 := by
    rw [e10045]
    exact wI_shr _ _
  refine wp_of e36 c36_3 (rw_iconst (pc' := 4) rfl ?_)
  refine wp_of e36 c36_4 (rw_iand (pc' := 5) rfl ?_)
  obtain ⟨v10047, e10048⟩ : ∃ x : Int, x = wq_and v10044 1 := ⟨_, rfl⟩
  rw [← e10048]
  have b10049 : 0 ≤ v10047 ∧ v10047 ≤ 1 := by
    rw [e10048]
    exact wq_and_b _ (by omega) (by omega)
  refine wp_of e36 c36_5 (rw_if_eq (p1 := 12) (p2 := 8) (by decide) rfl ⟨by omega, by omega⟩ (fun c10050 => ?_) (fun c10050 => ?_))
  · refine wp_of e36 c36_12 (rw_iconst (pc' := 13) rfl ?_)
    exact wp_zreturn e36 c36_13 rfl (by omega) ⟨rfl, rfl, 0, rfl, ⟨by omega, by omega⟩⟩
  · refine wp_of e36 c36_8 (rw_iconst (pc' := 9) rfl ?_)
    refine wp_of e36 c36_9 (rw_goto (p1 := 13) (by decide) ?_)
    exact wp_zreturn e36 c36_13 rfl (by omega) ⟨rfl, rfl, 1, rfl, ⟨by omega, by omega⟩⟩
/-! StrikeAwake$Reader.readsApart(LStrikeAwake$Parish;)Z -/
theorem e34 : wq_en 34 = some (1, 4, false, some FieldType.boolean) := rfl
theorem c34_0 : mc_cd 34 0 = some (.aload_n 0, 1) := by decide +kernel
theorem c34_1 : mc_cd 34 1 = some (.aload_n 1, 1) := by decide +kernel
theorem c34_2 : mc_cd 34 2 = some (.invokevirtual 207, 3) := by decide +kernel
theorem c34_5 : mc_cd 34 5 = some (.istore_n 2, 1) := by decide +kernel
theorem c34_6 : mc_cd 34 6 = some (.iload_n 2, 1) := by decide +kernel
theorem c34_7 : mc_cd 34 7 = some (.ifCond .ge 5, 3) := by decide +kernel
theorem c34_10 : mc_cd 34 10 = some (.iconst 0, 1) := by decide +kernel
theorem c34_11 : mc_cd 34 11 = some (.ireturn, 1) := by decide +kernel
theorem c34_12 : mc_cd 34 12 = some (.aload_n 0, 1) := by decide +kernel
theorem c34_13 : mc_cd 34 13 = some (.getfield 12, 3) := by decide +kernel
theorem c34_16 : mc_cd 34 16 = some (.invokevirtual 74, 3) := by decide +kernel
theorem c34_19 : mc_cd 34 19 = some (.aload_n 0, 1) := by decide +kernel
theorem c34_20 : mc_cd 34 20 = some (.iconst 4, 1) := by decide +kernel
theorem c34_21 : mc_cd 34 21 = some (.invokevirtual 51, 3) := by decide +kernel
theorem c34_24 : mc_cd 34 24 = some (.ifCond .ne 5, 3) := by decide +kernel
theorem c34_27 : mc_cd 34 27 = some (.iconst 0, 1) := by decide +kernel
theorem c34_28 : mc_cd 34 28 = some (.ireturn, 1) := by decide +kernel
theorem c34_29 : mc_cd 34 29 = some (.aload_n 0, 1) := by decide +kernel
theorem c34_30 : mc_cd 34 30 = some (.aload_n 1, 1) := by decide +kernel
theorem c34_31 : mc_cd 34 31 = some (.invokevirtual 207, 3) := by decide +kernel
theorem c34_34 : mc_cd 34 34 = some (.istore_n 3, 1) := by decide +kernel
theorem c34_35 : mc_cd 34 35 = some (.iload_n 3, 1) := by decide +kernel
theorem c34_36 : mc_cd 34 36 = some (.ifCond .ge 5, 3) := by decide +kernel
theorem c34_39 : mc_cd 34 39 = some (.iconst 0, 1) := by decide +kernel
theorem c34_40 : mc_cd 34 40 = some (.ireturn, 1) := by decide +kernel
theorem c34_41 : mc_cd 34 41 = some (.iload_n 3, 1) := by decide +kernel
theorem c34_42 : mc_cd 34 42 = some (.iload_n 2, 1) := by decide +kernel
theorem c34_43 : mc_cd 34 43 = some (.if_icmp .eq 19, 3) := by decide +kernel
theorem c34_46 : mc_cd 34 46 = some (.aload_n 1, 1) := by decide +kernel
theorem c34_47 : mc_cd 34 47 = some (.getfield 143, 3) := by decide +kernel
theorem c34_50 : mc_cd 34 50 = some (.iload_n 2, 1) := by decide +kernel
theorem c34_51 : mc_cd 34 51 = some (.aaload, 1) := by decide +kernel
theorem c34_52 : mc_cd 34 52 = some (.getfield 214, 3) := by decide +kernel
theorem c34_55 : mc_cd 34 55 = some (.iload_n 3, 1) := by decide +kernel
theorem c34_56 : mc_cd 34 56 = some (.invokestatic 217, 3) := by decide +kernel
theorem c34_59 : mc_cd 34 59 = some (.ifCond .eq 9, 3) := by decide +kernel
theorem c34_62 : mc_cd 34 62 = some (.aload_n 0, 1) := by decide +kernel
theorem c34_63 : mc_cd 34 63 = some (.iconst 3, 1) := by decide +kernel
theorem c34_64 : mc_cd 34 64 = some (.invokevirtual 47, 3) := by decide +kernel
theorem c34_67 : mc_cd 34 67 = some (.ireturn, 1) := by decide +kernel
theorem c34_68 : mc_cd 34 68 = some (.aload_n 0, 1) := by decide +kernel
theorem c34_69 : mc_cd 34 69 = some (.getfield 12, 3) := by decide +kernel
theorem c34_72 : mc_cd 34 72 = some (.invokevirtual 74, 3) := by decide +kernel
theorem c34_75 : mc_cd 34 75 = some (.aload_n 1, 1) := by decide +kernel
theorem c34_76 : mc_cd 34 76 = some (.getfield 143, 3) := by decide +kernel
theorem c34_79 : mc_cd 34 79 = some (.iload_n 2, 1) := by decide +kernel
theorem c34_80 : mc_cd 34 80 = some (.aaload, 1) := by decide +kernel
theorem c34_81 : mc_cd 34 81 = some (.dup, 1) := by decide +kernel
theorem c34_82 : mc_cd 34 82 = some (.getfield 214, 3) := by decide +kernel
theorem c34_85 : mc_cd 34 85 = some (.iconst 1, 1) := by decide +kernel
theorem c34_86 : mc_cd 34 86 = some (.iload_n 3, 1) := by decide +kernel
theorem c34_87 : mc_cd 34 87 = some (.ishl, 1) := by decide +kernel
theorem c34_88 : mc_cd 34 88 = some (.ior, 1) := by decide +kernel
theorem c34_89 : mc_cd 34 89 = some (.putfield 214, 3) := by decide +kernel
theorem c34_92 : mc_cd 34 92 = some (.aload_n 1, 1) := by decide +kernel
theorem c34_93 : mc_cd 34 93 = some (.getfield 143, 3) := by decide +kernel
theorem c34_96 : mc_cd 34 96 = some (.iload_n 3, 1) := by decide +kernel
theorem c34_97 : mc_cd 34 97 = some (.aaload, 1) := by decide +kernel
theorem c34_98 : mc_cd 34 98 = some (.dup, 1) := by decide +kernel
theorem c34_99 : mc_cd 34 99 = some (.getfield 214, 3) := by decide +kernel
theorem c34_102 : mc_cd 34 102 = some (.iconst 1, 1) := by decide +kernel
theorem c34_103 : mc_cd 34 103 = some (.iload_n 2, 1) := by decide +kernel
theorem c34_104 : mc_cd 34 104 = some (.ishl, 1) := by decide +kernel
theorem c34_105 : mc_cd 34 105 = some (.ior, 1) := by decide +kernel
theorem c34_106 : mc_cd 34 106 = some (.putfield 214, 3) := by decide +kernel
theorem c34_109 : mc_cd 34 109 = some (.aload_n 1, 1) := by decide +kernel
theorem c34_110 : mc_cd 34 110 = some (.dup, 1) := by decide +kernel
theorem c34_111 : mc_cd 34 111 = some (.getfield 221, 3) := by decide +kernel
theorem c34_114 : mc_cd 34 114 = some (.iconst 1, 1) := by decide +kernel
theorem c34_115 : mc_cd 34 115 = some (.iadd, 1) := by decide +kernel
theorem c34_116 : mc_cd 34 116 = some (.putfield 221, 3) := by decide +kernel
theorem c34_119 : mc_cd 34 119 = some (.iconst 1, 1) := by decide +kernel
theorem c34_120 : mc_cd 34 120 = some (.ireturn, 1) := by decide +kernel
abbrev q_34 (r0 : Nat) (r1 : Nat) (tk : Nat) (rb : Nat) (T : wq_T) (H : wq_H) : Option Value → wq_T → wq_H → Prop := fun r T' H' => T = T' ∧ WT T H' ∧ wfr [(27, 11), (35, 14), (3, 3), (3, 4), (4, 2), (4, 3), (4, 4), (4, 5), (4, 6)] T H H' ∧ ∃ z : Int, some (vI z) = r ∧ (0 ≤ z ∧ z ≤ 1)
set_option maxHeartbeats 4000000 in
theorem s_34 {kt : Nat → Option mc_E} {T : wq_T} {H : wq_H} {r0 : Nat} {r1 : Nat} {tk : Nat} {rb : Nat} (hW : WT T H) (g0 : T.2.2.2 r0 = some 3) (g1 : T.2.2.2 r1 = some 27) (qtk : H r0 0 = (tk : Int)) (gtk : T.2.2.2 tk = some 4) (qrb : H tk 0 = (rb : Int)) (grb : T.2.2.2 rb = some 2) : wpc kt 5 34 [.ref r0, .ref r1] T H (q_34 r0 r1 tk rb T H) := by
  refine wp_enter e34 (Nat.le_of_ble_eq_true rfl) rfl ?_
  have f0 : wfr [(27, 11), (35, 14), (3, 3), (3, 4), (4, 2), (4, 3), (4, 4), (4, 5), (4, 6)] T H H := wfr.rf
  show wp _ _ 34 0 [(0, .ref r0), (1, .ref r1)] [] _ H _
  refine wp_of e34 c34_0 (rw_aload_n (pc' := 1) (v := .ref r0) rfl rfl rfl ?_)
  refine wp_of e34 c34_1 (rw_aload_n (pc' := 2) (v := .ref r1) rfl rfl rfl ?_)
  refine wp_of e34 c34_2 (xc_V (pc' := 5) (r := r0) (as := [.ref r1]) (st := []) (lm_1_207) rfl rfl (Nat.le_of_ble_eq_true rfl) hW g0 sh_3 (by decide) rfl (by decide) (s_33 hW g0 g1 qtk gtk qrb grb) (fun R10203 T10204 H10205 p10206 => ?_))
  obtain ⟨e10207, w10209, f10210, z10211, e10208, b10212⟩ := p10206
  subst e10207
  subst e10208
  have f10213 := f0.tr f10210 rfl
  show wp _ _ 34 5 [(0, .ref r0), (1, .ref r1)] [vI z10211] _ H10205 _
  refine wp_of e34 c34_5 (rw_istore_n (pc' := 6) (z := z10211) (L' := [(2, vI z10211), (0, .ref r0), (1, .ref r1)]) rfl rfl rfl ?_)
  refine wp_of e34 c34_6 (rw_iload_n (pc' := 7) (z := z10211) rfl rfl ?_)
  refine wp_of e34 c34_7 (rw_if_ge (p1 := 12) (p2 := 10) (by decide) rfl ⟨by omega, by omega⟩ (fun c10214 => ?_) (fun c10214 => ?_))
  · refine wp_of e34 c34_12 (rw_aload_n (pc' := 13) (v := .ref r0) rfl rfl rfl ?_)
    have k10215 : H10205 r0 0 = H r0 0 := (f10210 r0 0 _ g0 rfl)
    have q10216 : H10205 r0 0 = (tk : Int) := k10215.trans qtk
    refine wp_of e34 c34_13 (xg_K (pc' := 16) lf_1_12 w10209 g0 sh_3 (by decide) (by decide) rfl q10216 rfl ?_)
    have k10217 : H10205 tk 0 = H tk 0 := (f10210 tk 0 _ gtk rfl)
    have q10218 : H10205 tk 0 = (rb : Int) := k10217.trans qrb
    refine wp_of e34 c34_16 (xc_V (pc' := 19) (r := tk) (as := []) (st := []) (lm_1_74) rfl rfl (Nat.le_of_ble_eq_true rfl) w10209 gtk sh_4 (by decide) rfl (by decide) (s_16 w10209 gtk q10218 grb) (fun R10219 T10220 H10221 p10222 => ?_))
    obtain ⟨e10223, w10225, f10226, e10224⟩ := p10222
    subst e10223
    subst e10224
    have f10227 := f10213.tr f10226 rfl
    show wp _ _ 34 19 [(2, vI z10211), (0, .ref r0), (1, .ref r1)] [] _ H10221 _
    refine wp_of e34 c34_19 (rw_aload_n (pc' := 20) (v := .ref r0) rfl rfl rfl ?_)
    refine wp_of e34 c34_20 (rw_iconst (pc' := 21) rfl ?_)
    have k10228 : H10221 r0 0 = H10205 r0 0 := (f10226 r0 0 _ g0 rfl)
    have q10229 : H10221 r0 0 = (tk : Int) := k10228.trans q10216
    have k10230 : H10221 tk 0 = H10205 tk 0 := (f10226 tk 0 _ gtk rfl)
    have q10231 : H10221 tk 0 = (rb : Int) := k10230.trans q10218
    refine wp_of e34 c34_21 (xc_V (pc' := 24) (r := r0) (as := [vI 4]) (st := []) (lm_1_51) rfl rfl (Nat.le_of_ble_eq_true rfl) w10225 g0 sh_3 (by decide) rfl (by decide) (s_35 w10225 g0 ⟨by omega, by omega⟩ q10229 gtk q10231 grb) (fun R10232 T10233 H10234 p10235 => ?_))
    obtain ⟨e10236, w10238, f10239, z10240, e10237, b10241⟩ := p10235
    subst e10236
    subst e10237
    have f10242 := f10227.tr f10239 rfl
    show wp _ _ 34 24 [(2, vI z10211), (0, .ref r0), (1, .ref r1)] [vI z10240] _ H10234 _
    refine wp_of e34 c34_24 (rw_if_ne (p1 := 29) (p2 := 27) (by decide) rfl ⟨by omega, by omega⟩ (fun c10243 => ?_) (fun c10243 => ?_))
    · refine wp_of e34 c34_29 (rw_aload_n (pc' := 30) (v := .ref r0) rfl rfl rfl ?_)
      refine wp_of e34 c34_30 (rw_aload_n (pc' := 31) (v := .ref r1) rfl rfl rfl ?_)
      have k10244 : H10234 r0 0 = H10221 r0 0 := (f10239 r0 0 _ g0 rfl)
      have q10245 : H10234 r0 0 = (tk : Int) := k10244.trans q10229
      have k10246 : H10234 tk 0 = H10221 tk 0 := (f10239 tk 0 _ gtk rfl)
      have q10247 : H10234 tk 0 = (rb : Int) := k10246.trans q10231
      refine wp_of e34 c34_31 (xc_V (pc' := 34) (r := r0) (as := [.ref r1]) (st := []) (lm_1_207) rfl rfl (Nat.le_of_ble_eq_true rfl) w10238 g0 sh_3 (by decide) rfl (by decide) (s_33 w10238 g0 g1 q10245 gtk q10247 grb) (fun R10248 T10249 H10250 p10251 => ?_))
      obtain ⟨e10252, w10254, f10255, z10256, e10253, b10257⟩ := p10251
      subst e10252
      subst e10253
      have f10258 := f10242.tr f10255 rfl
      show wp _ _ 34 34 [(2, vI z10211), (0, .ref r0), (1, .ref r1)] [vI z10256] _ H10250 _
      refine wp_of e34 c34_34 (rw_istore_n (pc' := 35) (z := z10256) (L' := [(3, vI z10256), (2, vI z10211), (0, .ref r0), (1, .ref r1)]) rfl rfl rfl ?_)
      refine wp_of e34 c34_35 (rw_iload_n (pc' := 36) (z := z10256) rfl rfl ?_)
      refine wp_of e34 c34_36 (rw_if_ge (p1 := 41) (p2 := 39) (by decide) rfl ⟨by omega, by omega⟩ (fun c10259 => ?_) (fun c10259 => ?_))
      · refine wp_of e34 c34_41 (rw_iload_n (pc' := 42) (z := z10256) rfl rfl ?_)
        refine wp_of e34 c34_42 (rw_iload_n (pc' := 43) (z := z10211) rfl rfl ?_)
        refine wp_of e34 c34_43 (rw_icmp_eq (p1 := 62) (p2 := 46) (by decide) rfl ⟨by omega, by omega⟩ ⟨by omega, by omega⟩ (fun c10260 => ?_) (fun c10260 => ?_))
        · refine wp_of e34 c34_62 (rw_aload_n (pc' := 63) (v := .ref r0) rfl rfl rfl ?_)
          refine wp_of e34 c34_63 (rw_iconst (pc' := 64) rfl ?_)
          refine wp_of e34 c34_64 (xc_V (pc' := 67) (r := r0) (as := [vI 3]) (st := []) (lm_1_47) rfl rfl (Nat.le_of_ble_eq_true rfl) w10254 g0 sh_3 (by decide) rfl (by decide) (s_20 w10254 g0 ⟨by omega, by omega⟩) (fun R10261 T10262 H10263 p10264 => ?_))
          obtain ⟨e10265, w10267, f10268, z10269, e10266, b10270⟩ := p10264
          subst e10265
          subst e10266
          have f10271 := f10258.tr f10268 rfl
          show wp _ _ 34 67 [(3, vI z10256), (2, vI z10211), (0, .ref r0), (1, .ref r1)] [vI z10269] _ H10263 _
          exact wp_zreturn e34 c34_67 rfl (by omega) ⟨rfl, w10267, f10271, z10269, rfl, ⟨by omega, by omega⟩⟩
        · refine wp_of e34 c34_46 (rw_aload_n (pc' := 47) (v := .ref r1) rfl rfl rfl ?_)
          refine wp_of e34 c34_47 (xg_R (pc' := 50) lf_1_143 w10254 g1 sh_27 (by decide) (by decide) ty_27_0 rfl rfl (fun r10272 q10273 g10274 => ?_))
          refine wp_of e34 c34_50 (rw_iload_n (pc' := 51) (z := z10211) rfl rfl ?_)
          refine wp_of e34 c34_51 (xa_R (pc' := 52) (by decide) w10254 g10274 sh_28 (by decide) (ty_28 _) (by omega) (by omega) rfl (fun r10275 q10276 g10277 => ?_))
          refine wp_of e34 c34_52 (xg_I (pc' := 55) lf_1_214 w10254 g10277 sh_35 (by decide) (by decide) ty_35_14 rfl rfl (fun b10278 b10279 => ?_))
          refine wp_of e34 c34_55 (rw_iload_n (pc' := 56) (z := z10256) rfl rfl ?_)
          refine wp_of e34 c34_56 (xc_S (pc' := 59) (as := [vI (H10250 r10275 14), vI z10256]) (st := []) (lm_1_217) rfl rfl (Nat.le_of_ble_eq_true rfl) rfl (by decide) (s_36 w10254 ⟨by omega, by omega⟩ ⟨by omega, by omega⟩) (fun R10280 T10281 H10282 p10283 => ?_))
          obtain ⟨e10284, e10286, z10287, e10285, b10288⟩ := p10283
          subst e10284
          subst e10285
          subst e10286
          show wp _ _ 34 59 [(3, vI z10256), (2, vI z10211), (0, .ref r0), (1, .ref r1)] [vI z10287] _ H10250 _
          refine wp_of e34 c34_59 (rw_if_eq (p1 := 68) (p2 := 62) (by decide) rfl ⟨by omega, by omega⟩ (fun c10289 => ?_) (fun c10289 => ?_))
          · refine wp_of e34 c34_68 (rw_aload_n (pc' := 69) (v := .ref r0) rfl rfl rfl ?_)
            have k10290 : H10250 r0 0 = H10234 r0 0 := (f10255 r0 0 _ g0 rfl)
            have q10291 : H10250 r0 0 = (tk : Int) := k10290.trans q10245
            refine wp_of e34 c34_69 (xg_K (pc' := 72) lf_1_12 w10254 g0 sh_3 (by decide) (by decide) rfl q10291 rfl ?_)
            have k10292 : H10250 tk 0 = H10234 tk 0 := (f10255 tk 0 _ gtk rfl)
            have q10293 : H10250 tk 0 = (rb : Int) := k10292.trans q10247
            refine wp_of e34 c34_72 (xc_V (pc' := 75) (r := tk) (as := []) (st := []) (lm_1_74) rfl rfl (Nat.le_of_ble_eq_true rfl) w10254 gtk sh_4 (by decide) rfl (by decide) (s_16 w10254 gtk q10293 grb) (fun R10294 T10295 H10296 p10297 => ?_))
            obtain ⟨e10298, w10300, f10301, e10299⟩ := p10297
            subst e10298
            subst e10299
            have f10302 := f10258.tr f10301 rfl
            show wp _ _ 34 75 [(3, vI z10256), (2, vI z10211), (0, .ref r0), (1, .ref r1)] [] _ H10296 _
            refine wp_of e34 c34_75 (rw_aload_n (pc' := 76) (v := .ref r1) rfl rfl rfl ?_)
            have k10303 : H10296 r1 0 = H10250 r1 0 := (f10301 r1 0 _ g1 rfl)
            have q10304 : H10296 r1 0 = (r10272 : Int) := k10303.trans q10273
            refine wp_of e34 c34_76 (xg_K (pc' := 79) lf_1_143 w10300 g1 sh_27 (by decide) (by decide) rfl q10304 rfl ?_)
            refine wp_of e34 c34_79 (rw_iload_n (pc' := 80) (z := z10211) rfl rfl ?_)
            have k10305 : H10296 r10272 (z10211.toNat) = H10250 r10272 (z10211.toNat) := (f10301 r10272 (z10211.toNat) _ g10274 rfl)
            have q10306 : H10296 r10272 (z10211.toNat) = (r10275 : Int) := k10305.trans q10276
            refine wp_of e34 c34_80 (xa_K (pc' := 81) (by decide) w10300 g10274 sh_28 (by decide) (by omega) (by omega) q10306 rfl ?_)
            refine wp_of e34 c34_81 (rw_dup (pc' := 82) rfl rfl ?_)
            have k10307 : H10296 r10275 14 = H10250 r10275 14 := (f10301 r10275 14 _ g10277 rfl)
            refine wp_of e34 c34_82 (xg_I (pc' := 85) lf_1_214 w10300 g10277 sh_35 (by decide) (by decide) ty_35_14 rfl rfl (fun b10308 b10309 => ?_))
            refine wp_of e34 c34_85 (rw_iconst (pc' := 86) rfl ?_)
            refine wp_of e34 c34_86 (rw_iload_n (pc' := 87) (z := z10256) rfl rfl ?_)
            refine wp_of e34 c34_87 (rw_ishl (pc' := 88) rfl ?_)
            obtain ⟨v10310, e10311⟩ : ∃ x : Int, x = wq_shl 1 z10256 := ⟨_, rfl⟩
            rw [← e10311]
            have b10312 : 1 ≤ v10310 ∧ v10310 ≤ 64 := by
              rw [e10311]
              exact wq_shl1_6 ⟨by omega, by omega⟩
            refine wp_of e34 c34_88 (rw_ior (pc' := 89) rfl ?_)
            obtain ⟨v10313, e10314⟩ : ∃ x : Int, x = wq_or (H10296 r10275 14) v10310 := ⟨_, rfl⟩
            rw [← e10314]
            have b10315 : -2147483648 ≤ v10313 ∧ v10313 ≤ 2147483647 := by
              rw [e10314]
              exact wI_or _ _
            refine wp_of e34 c34_89 (xp_I (pc' := 92) lf_1_214 w10300 g10277 sh_35 (by decide) (by decide) ty_35_14 rfl rfl (by omega) (by omega) ⟨by omega, by omega⟩ rfl (fun H10316 e10317 w10318 => ?_))
            have f10319 := f10302.put' e10317 g10277 rfl
            have k10320 : H10316 r10275 14 = v10313 := wq_u_s e10317
            refine wp_of e34 c34_92 (rw_aload_n (pc' := 93) (v := .ref r1) rfl rfl rfl ?_)
            have k10321 : H10316 r1 0 = H10296 r1 0 := (wq_u_t e10317 g10277 g1 rfl 0)
            have q10322 : H10316 r1 0 = (r10272 : Int) := k10321.trans q10304
            refine wp_of e34 c34_93 (xg_K (pc' := 96) lf_1_143 w10318 g1 sh_27 (by decide) (by decide) rfl q10322 rfl ?_)
            refine wp_of e34 c34_96 (rw_iload_n (pc' := 97) (z := z10256) rfl rfl ?_)
            refine wp_of e34 c34_97 (xa_R (pc' := 98) (by decide) w10318 g10274 sh_28 (by decide) (ty_28 _) (by omega) (by omega) rfl (fun r10323 q10324 g10325 => ?_))
            refine wp_of e34 c34_98 (rw_dup (pc' := 99) rfl rfl ?_)
            refine wp_of e34 c34_99 (xg_I (pc' := 102) lf_1_214 w10318 g10325 sh_35 (by decide) (by decide) ty_35_14 rfl rfl (fun b10326 b10327 => ?_))
            refine wp_of e34 c34_102 (rw_iconst (pc' := 103) rfl ?_)
            refine wp_of e34 c34_103 (rw_iload_n (pc' := 104) (z := z10211) rfl rfl ?_)
            refine wp_of e34 c34_104 (rw_ishl (pc' := 105) rfl ?_)
            obtain ⟨v10328, e10329⟩ : ∃ x : Int, x = wq_shl 1 z10211 := ⟨_, rfl⟩
            rw [← e10329]
            have b10330 : 1 ≤ v10328 ∧ v10328 ≤ 64 := by
              rw [e10329]
              exact wq_shl1_6 ⟨by omega, by omega⟩
            refine wp_of e34 c34_105 (rw_ior (pc' := 106) rfl ?_)
            obtain ⟨v10331, e10332⟩ : ∃ x : Int, x = wq_or (H10316 r10323 14) v10328 := ⟨_, rfl⟩
            rw [← e10332]
            have b10333 : -2147483648 ≤ v10331 ∧ v10331 ≤ 2147483647 := by
              rw [e10332]
              exact wI_or _ _
            refine wp_of e34 c34_106 (xp_I (pc' := 109) lf_1_214 w10318 g10325 sh_35 (by decide) (by decide) ty_35_14 rfl rfl (by omega) (by omega) ⟨by omega, by omega⟩ rfl (fun H10334 e10335 w10336 => ?_))
            have f10337 := f10319.put' e10335 g10325 rfl
            have k10338 : H10334 r10323 14 = v10331 := wq_u_s e10335
            refine wp_of e34 c34_109 (rw_aload_n (pc' := 110) (v := .ref r1) rfl rfl rfl ?_)
            refine wp_of e34 c34_110 (rw_dup (pc' := 111) rfl rfl ?_)
            refine wp_of e34 c34_111 (xg_I (pc' := 114) lf_1_221 w10336 g1 sh_27 (by decide) (by decide) ty_27_11 rfl rfl (fun b10339 b10340 => ?_))
            refine wp_of e34 c34_114 (rw_iconst (pc' := 115) rfl ?_)
            refine wp_of e34 c34_115 (rw_iaddw (pc' := 116) rfl ?_)
            obtain ⟨v10341, e10342⟩ : ∃ x : Int, x = wq_w ((H10334 r1 11) + 1) := ⟨_, rfl⟩
            rw [← e10342]
            have b10343 : -2147483648 ≤ v10341 ∧ v10341 ≤ 2147483647 := by
              rw [e10342]
              exact wI_w _
            refine wp_of e34 c34_116 (xp_I (pc' := 119) lf_1_221 w10336 g1 sh_27 (by decide) (by decide) ty_27_11 rfl rfl (by omega) (by omega) ⟨by omega, by omega⟩ rfl (fun H10344 e10345 w10346 => ?_))
            have f10347 := f10337.put' e10345 g1 rfl
            have k10348 : H10344 r1 11 = v10341 := wq_u_s e10345
            refine wp_of e34 c34_119 (rw_iconst (pc' := 120) rfl ?_)
            exact wp_zreturn e34 c34_120 rfl (by omega) ⟨rfl, w10346, f10347, 1, rfl, ⟨by omega, by omega⟩⟩
          · refine wp_of e34 c34_62 (rw_aload_n (pc' := 63) (v := .ref r0) rfl rfl rfl ?_)
            refine wp_of e34 c34_63 (rw_iconst (pc' := 64) rfl ?_)
            refine wp_of e34 c34_64 (xc_V (pc' := 67) (r := r0) (as := [vI 3]) (st := []) (lm_1_47) rfl rfl (Nat.le_of_ble_eq_true rfl) w10254 g0 sh_3 (by decide) rfl (by decide) (s_20 w10254 g0 ⟨by omega, by omega⟩) (fun R10349 T10350 H10351 p10352 => ?_))
            obtain ⟨e10353, w10355, f10356, z10357, e10354, b10358⟩ := p10352
            subst e10353
            subst e10354
            have f10359 := f10258.tr f10356 rfl
            show wp _ _ 34 67 [(3, vI z10256), (2, vI z10211), (0, .ref r0), (1, .ref r1)] [vI z10357] _ H10351 _
            exact wp_zreturn e34 c34_67 rfl (by omega) ⟨rfl, w10355, f10359, z10357, rfl, ⟨by omega, by omega⟩⟩
      · refine wp_of e34 c34_39 (rw_iconst (pc' := 40) rfl ?_)
        exact wp_zreturn e34 c34_40 rfl (by omega) ⟨rfl, w10254, f10258, 0, rfl, ⟨by omega, by omega⟩⟩
    · refine wp_of e34 c34_27 (rw_iconst (pc' := 28) rfl ?_)
      exact wp_zreturn e34 c34_28 rfl (by omega) ⟨rfl, w10238, f10242, 0, rfl, ⟨by omega, by omega⟩⟩
  · refine wp_of e34 c34_10 (rw_iconst (pc' := 11) rfl ?_)
    exact wp_zreturn e34 c34_11 rfl (by omega) ⟨rfl, w10209, f10213, 0, rfl, ⟨by omega, by omega⟩⟩
/-! StrikeAwake$Reader.readsBorn(LStrikeAwake$Parish;)Z -/
theorem e37 : wq_en 37 = some (1, 3, false, some FieldType.boolean) := rfl
theorem c37_0 : mc_cd 37 0 = some (.aload_n 0, 1) := by decide +kernel
theorem c37_1 : mc_cd 37 1 = some (.iconst 0, 1) := by decide +kernel
theorem c37_2 : mc_cd 37 2 = some (.bipush 23, 2) := by decide +kernel
theorem c37_4 : mc_cd 37 4 = some (.invokevirtual 119, 3) := by decide +kernel
theorem c37_7 : mc_cd 37 7 = some (.istore_n 2, 1) := by decide +kernel
theorem c37_8 : mc_cd 37 8 = some (.iload_n 2, 1) := by decide +kernel
theorem c37_9 : mc_cd 37 9 = some (.ifCond .ge 5, 3) := by decide +kernel
theorem c37_12 : mc_cd 37 12 = some (.iconst 0, 1) := by decide +kernel
theorem c37_13 : mc_cd 37 13 = some (.ireturn, 1) := by decide +kernel
theorem c37_14 : mc_cd 37 14 = some (.aload_n 1, 1) := by decide +kernel
theorem c37_15 : mc_cd 37 15 = some (.getfield 224, 3) := by decide +kernel
theorem c37_18 : mc_cd 37 18 = some (.aload_n 1, 1) := by decide +kernel
theorem c37_19 : mc_cd 37 19 = some (.getfield 227, 3) := by decide +kernel
theorem c37_22 : mc_cd 37 22 = some (.iload_n 2, 1) := by decide +kernel
theorem c37_23 : mc_cd 37 23 = some (.iastore, 1) := by decide +kernel
theorem c37_24 : mc_cd 37 24 = some (.aload_n 1, 1) := by decide +kernel
theorem c37_25 : mc_cd 37 25 = some (.dup, 1) := by decide +kernel
theorem c37_26 : mc_cd 37 26 = some (.getfield 227, 3) := by decide +kernel
theorem c37_29 : mc_cd 37 29 = some (.iconst 1, 1) := by decide +kernel
theorem c37_30 : mc_cd 37 30 = some (.iadd, 1) := by decide +kernel
theorem c37_31 : mc_cd 37 31 = some (.putfield 227, 3) := by decide +kernel
theorem c37_34 : mc_cd 37 34 = some (.iconst 1, 1) := by decide +kernel
theorem c37_35 : mc_cd 37 35 = some (.ireturn, 1) := by decide +kernel
abbrev q_37 (r0 : Nat) (r1 : Nat) (tk : Nat) (rb : Nat) (T : wq_T) (H : wq_H) : Option Value → wq_T → wq_H → Prop := fun r T' H' => T = T' ∧ WT T H' ∧ wfr [(27, 12), (3, 3), (3, 4), (4, 2), (4, 3), (4, 4), (4, 5), (4, 6), (31, 999)] T H H' ∧ ∃ z : Int, some (vI z) = r ∧ (0 ≤ z ∧ z ≤ 1)
set_option maxHeartbeats 4000000 in
theorem s_37 {kt : Nat → Option mc_E} {T : wq_T} {H : wq_H} {r0 : Nat} {r1 : Nat} {tk : Nat} {rb : Nat} (hW : WT T H) (g0 : T.2.2.2 r0 = some 3) (g1 : T.2.2.2 r1 = some 27) (qtk : H r0 0 = (tk : Int)) (gtk : T.2.2.2 tk = some 4) (qrb : H tk 0 = (rb : Int)) (grb : T.2.2.2 rb = some 2) (p0 : H r1 12 ≤ 2) : wpc kt 3 37 [.ref r0, .ref r1] T H (q_37 r0 r1 tk rb T H) := by
  refine wp_enter e37 (Nat.le_of_ble_eq_true rfl) rfl ?_
  have f0 : wfr [(27, 12), (3, 3), (3, 4), (4, 2), (4, 3), (4, 4), (4, 5), (4, 6), (31, 999)] T H H := wfr.rf
  show wp _ _ 37 0 [(0, .ref r0), (1, .ref r1)] [] _ H _
  refine wp_of e37 c37_0 (rw_aload_n (pc' := 1) (v := .ref r0) rfl rfl rfl ?_)
  refine wp_of e37 c37_1 (rw_iconst (pc' := 2) rfl ?_)
  refine wp_of e37 c37_2 (rw_bipush (pc' := 4) (z := 23) rfl (by decide) ?_)
  refine wp_of e37 c37_4 (xc_V (pc' := 7) (r := r0) (as := [vI 0, vI 23]) (st := []) (lm_1_119) rfl rfl (Nat.le_of_ble_eq_true rfl) hW g0 sh_3 (by decide) rfl (by decide) (s_24 hW g0 ⟨by omega, by omega⟩ ⟨by omega, by omega⟩ qtk gtk qrb grb) (fun R10391 T10392 H10393 p10394 => ?_))
  obtain ⟨e10395, w10397, f10398, z10400, e10396, b10401, p10399⟩ := p10394
  subst e10395
  subst e10396
  have f10402 := f0.tr f10398 rfl
  show wp _ _ 37 7 [(0, .ref r0), (1, .ref r1)] [vI z10400] _ H10393 _
  refine wp_of e37 c37_7 (rw_istore_n (pc' := 8) (z := z10400) (L' := [(2, vI z10400), (0, .ref r0), (1, .ref r1)]) rfl rfl rfl ?_)
  refine wp_of e37 c37_8 (rw_iload_n (pc' := 9) (z := z10400) rfl rfl ?_)
  refine wp_of e37 c37_9 (rw_if_ge (p1 := 14) (p2 := 12) (by decide) rfl ⟨by omega, by omega⟩ (fun c10403 => ?_) (fun c10403 => ?_))
  · refine wp_of e37 c37_14 (rw_aload_n (pc' := 15) (v := .ref r1) rfl rfl rfl ?_)
    refine wp_of e37 c37_15 (xg_R (pc' := 18) lf_1_224 w10397 g1 sh_27 (by decide) (by decide) ty_27_3 rfl rfl (fun r10404 q10405 g10406 => ?_))
    refine wp_of e37 c37_18 (rw_aload_n (pc' := 19) (v := .ref r1) rfl rfl rfl ?_)
    have k10407 : H10393 r1 12 = H r1 12 := (f10398 r1 12 _ g1 rfl)
    refine wp_of e37 c37_19 (xg_I (pc' := 22) lf_1_227 w10397 g1 sh_27 (by decide) (by decide) ty_27_12 rfl rfl (fun b10408 b10409 => ?_))
    refine wp_of e37 c37_22 (rw_iload_n (pc' := 23) (z := z10400) rfl rfl ?_)
    refine wp_of e37 c37_23 (xs_I (pc' := 24) w10397 g10406 (by decide) sh_31 (by decide) (ty_31 _) (by omega) (by omega) ⟨by omega, by omega⟩ (by omega) (by omega) rfl (fun H10410 e10411 w10412 => ?_))
    have f10413 := f10402.put' e10411 g10406 rfl
    refine wp_of e37 c37_24 (rw_aload_n (pc' := 25) (v := .ref r1) rfl rfl rfl ?_)
    refine wp_of e37 c37_25 (rw_dup (pc' := 26) rfl rfl ?_)
    have k10414 : H10410 r1 12 = H10393 r1 12 := (wq_u_t e10411 g10406 g1 rfl 12)
    refine wp_of e37 c37_26 (xg_I (pc' := 29) lf_1_227 w10412 g1 sh_27 (by decide) (by decide) ty_27_12 rfl rfl (fun b10415 b10416 => ?_))
    refine wp_of e37 c37_29 (rw_iconst (pc' := 30) rfl ?_)
    refine wp_of e37 c37_30 (rw_iadd (pc' := 31) rfl ?_)
    refine wp_of e37 c37_31 (xp_I (pc' := 34) lf_1_227 w10412 g1 sh_27 (by decide) (by decide) ty_27_12 rfl rfl (by omega) (by omega) ⟨by omega, by omega⟩ rfl (fun H10417 e10418 w10419 => ?_))
    have f10420 := f10413.put' e10418 g1 rfl
    have k10421 : H10417 r1 12 = (H10410 r1 12) + 1 := wq_u_s e10418
    refine wp_of e37 c37_34 (rw_iconst (pc' := 35) rfl ?_)
    exact wp_zreturn e37 c37_35 rfl (by omega) ⟨rfl, w10419, f10420, 1, rfl, ⟨by omega, by omega⟩⟩
  · refine wp_of e37 c37_12 (rw_iconst (pc' := 13) rfl ?_)
    exact wp_zreturn e37 c37_13 rfl (by omega) ⟨rfl, w10397, f10402, 0, rfl, ⟨by omega, by omega⟩⟩
/-! StrikeAwake$Parish.isStruck(I)Z -/
theorem e39 : wq_en 39 = some (7, 2, false, some FieldType.boolean) := rfl
theorem c39_0 : mc_cd 39 0 = some (.iload_n 1, 1) := by decide +kernel
theorem c39_1 : mc_cd 39 1 = some (.ifCond .lt 22, 3) := by decide +kernel
theorem c39_4 : mc_cd 39 4 = some (.iload_n 1, 1) := by decide +kernel
theorem c39_5 : mc_cd 39 5 = some (.bipush 24, 2) := by decide +kernel
theorem c39_7 : mc_cd 39 7 = some (.if_icmp .ge 16, 3) := by decide +kernel
theorem c39_10 : mc_cd 39 10 = some (.aload_n 0, 1) := by decide +kernel
theorem c39_11 : mc_cd 39 11 = some (.getfield 17, 3) := by decide +kernel
theorem c39_14 : mc_cd 39 14 = some (.iload_n 1, 1) := by decide +kernel
theorem c39_15 : mc_cd 39 15 = some (.iaload, 1) := by decide +kernel
theorem c39_16 : mc_cd 39 16 = some (.ifCond .lt 7, 3) := by decide +kernel
theorem c39_19 : mc_cd 39 19 = some (.iconst 1, 1) := by decide +kernel
theorem c39_20 : mc_cd 39 20 = some (.goto 4, 3) := by decide +kernel
theorem c39_23 : mc_cd 39 23 = some (.iconst 0, 1) := by decide +kernel
theorem c39_24 : mc_cd 39 24 = some (.ireturn, 1) := by decide +kernel
abbrev q_39 (r0 : Nat) (a1 : Int) (T : wq_T) (H : wq_H) : Option Value → wq_T → wq_H → Prop := fun r T' H' => T = T' ∧ H = H' ∧ ∃ z : Int, some (vI z) = r ∧ (0 ≤ z ∧ z ≤ 1)
set_option maxHeartbeats 4000000 in
theorem s_39 {kt : Nat → Option mc_E} {T : wq_T} {H : wq_H} {r0 : Nat} {a1 : Int} (hW : WT T H) (g0 : T.2.2.2 r0 = some 27) (i1 : (-2147483648) ≤ a1 ∧ a1 ≤ 2147483647) : wpc kt 1 39 [.ref r0, vI a1] T H (q_39 r0 a1 T H) := by
  refine wp_enter e39 (Nat.le_of_ble_eq_true rfl) rfl ?_
  show wp _ _ 39 0 [(0, .ref r0), (1, vI a1)] [] _ H _
  refine wp_of e39 c39_0 (rw_iload_n (pc' := 1) (z := a1) rfl rfl ?_)
  refine wp_of e39 c39_1 (rw_if_lt (p1 := 23) (p2 := 4) (by decide) rfl ⟨by omega, by omega⟩ (fun c10430 => ?_) (fun c10430 => ?_))
  · refine wp_of e39 c39_23 (rw_iconst (pc' := 24) rfl ?_)
    exact wp_zreturn e39 c39_24 rfl (by omega) ⟨rfl, rfl, 0, rfl, ⟨by omega, by omega⟩⟩
  · refine wp_of e39 c39_4 (rw_iload_n (pc' := 5) (z := a1) rfl rfl ?_)
    refine wp_of e39 c39_5 (rw_bipush (pc' := 7) (z := 24) rfl (by decide) ?_)
    refine wp_of e39 c39_7 (rw_icmp_ge (p1 := 23) (p2 := 10) (by decide) rfl ⟨by omega, by omega⟩ ⟨by omega, by omega⟩ (fun c10431 => ?_) (fun c10431 => ?_))
    · refine wp_of e39 c39_23 (rw_iconst (pc' := 24) rfl ?_)
      exact wp_zreturn e39 c39_24 rfl (by omega) ⟨rfl, rfl, 0, rfl, ⟨by omega, by omega⟩⟩
    · refine wp_of e39 c39_10 (rw_aload_n (pc' := 11) (v := .ref r0) rfl rfl rfl ?_)
      refine wp_of e39 c39_11 (xg_R (pc' := 14) lf_7_17 hW g0 sh_27 (by decide) (by decide) ty_27_1 rfl rfl (fun r10432 q10433 g10434 => ?_))
      refine wp_of e39 c39_14 (rw_iload_n (pc' := 15) (z := a1) rfl rfl ?_)
      refine wp_of e39 c39_15 (xa_I (so := 0) (pc' := 16) hW g10434 sh_29 (by decide) (ty_29 _) (by omega) (by omega) rfl (fun b10435 b10436 => ?_))
      refine wp_of e39 c39_16 (rw_if_lt (p1 := 23) (p2 := 19) (by decide) rfl ⟨by omega, by omega⟩ (fun c10437 => ?_) (fun c10437 => ?_))
      · refine wp_of e39 c39_23 (rw_iconst (pc' := 24) rfl ?_)
        exact wp_zreturn e39 c39_24 rfl (by omega) ⟨rfl, rfl, 0, rfl, ⟨by omega, by omega⟩⟩
      · refine wp_of e39 c39_19 (rw_iconst (pc' := 20) rfl ?_)
        refine wp_of e39 c39_20 (rw_goto (p1 := 24) (by decide) ?_)
        exact wp_zreturn e39 c39_24 rfl (by omega) ⟨rfl, rfl, 1, rfl, ⟨by omega, by omega⟩⟩
/-! StrikeAwake$Parish.listStruck()V -/
theorem e41 : wq_en 41 = some (7, 2, false, none) := rfl
theorem c41_0 : mc_cd 41 0 = some (.aload_n 0, 1) := by decide +kernel
theorem c41_1 : mc_cd 41 1 = some (.iconst 0, 1) := by decide +kernel
theorem c41_2 : mc_cd 41 2 = some (.putfield 65, 3) := by decide +kernel
theorem c41_5 : mc_cd 41 5 = some (.iconst 0, 1) := by decide +kernel
theorem c41_6 : mc_cd 41 6 = some (.istore_n 1, 1) := by decide +kernel
theorem c41_7 : mc_cd 41 7 = some (.iload_n 1, 1) := by decide +kernel
theorem c41_8 : mc_cd 41 8 = some (.bipush 24, 2) := by decide +kernel
theorem c41_10 : mc_cd 41 10 = some (.if_icmp .ge 38, 3) := by decide +kernel
theorem c41_13 : mc_cd 41 13 = some (.aload_n 0, 1) := by decide +kernel
theorem c41_14 : mc_cd 41 14 = some (.getfield 17, 3) := by decide +kernel
theorem c41_17 : mc_cd 41 17 = some (.iload_n 1, 1) := by decide +kernel
theorem c41_18 : mc_cd 41 18 = some (.iaload, 1) := by decide +kernel
theorem c41_19 : mc_cd 41 19 = some (.ifCond .lt 23, 3) := by decide +kernel
theorem c41_22 : mc_cd 41 22 = some (.aload_n 0, 1) := by decide +kernel
theorem c41_23 : mc_cd 41 23 = some (.getfield 21, 3) := by decide +kernel
theorem c41_26 : mc_cd 41 26 = some (.aload_n 0, 1) := by decide +kernel
theorem c41_27 : mc_cd 41 27 = some (.getfield 65, 3) := by decide +kernel
theorem c41_30 : mc_cd 41 30 = some (.iload_n 1, 1) := by decide +kernel
theorem c41_31 : mc_cd 41 31 = some (.iastore, 1) := by decide +kernel
theorem c41_32 : mc_cd 41 32 = some (.aload_n 0, 1) := by decide +kernel
theorem c41_33 : mc_cd 41 33 = some (.dup, 1) := by decide +kernel
theorem c41_34 : mc_cd 41 34 = some (.getfield 65, 3) := by decide +kernel
theorem c41_37 : mc_cd 41 37 = some (.iconst 1, 1) := by decide +kernel
theorem c41_38 : mc_cd 41 38 = some (.iadd, 1) := by decide +kernel
theorem c41_39 : mc_cd 41 39 = some (.putfield 65, 3) := by decide +kernel
theorem c41_42 : mc_cd 41 42 = some (.iinc 1 1, 3) := by decide +kernel
theorem c41_45 : mc_cd 41 45 = some (.goto (-38), 3) := by decide +kernel
theorem c41_48 : mc_cd 41 48 = some (.return_, 1) := by decide +kernel
abbrev q_41 (r0 : Nat) (T : wq_T) (H : wq_H) : Option Value → wq_T → wq_H → Prop := fun r T' H' => T = T' ∧ WT T H' ∧ wfr [(27, 16), (30, 999)] T H H' ∧ none = r
set_option maxHeartbeats 4000000 in
theorem s_41 {kt : Nat → Option mc_E} {T : wq_T} {H : wq_H} {r0 : Nat} (hW : WT T H) (g0 : T.2.2.2 r0 = some 27) : wpc kt 1 41 [.ref r0] T H (q_41 r0 T H) := by
  refine wp_enter e41 (Nat.le_of_ble_eq_true rfl) rfl ?_
  have f0 : wfr [(27, 16), (30, 999)] T H H := wfr.rf
  show wp _ _ 41 0 [(0, .ref r0)] [] _ H _
  refine wp_of e41 c41_0 (rw_aload_n (pc' := 1) (v := .ref r0) rfl rfl rfl ?_)
  refine wp_of e41 c41_1 (rw_iconst (pc' := 2) rfl ?_)
  refine wp_of e41 c41_2 (xp_I (pc' := 5) lf_7_65 hW g0 sh_27 (by decide) (by decide) ty_27_16 rfl rfl (by omega) (by omega) ⟨by omega, by omega⟩ rfl (fun H10661 e10662 w10663 => ?_))
  have f10664 := f0.put' e10662 g0 rfl
  have k10665 : H10661 r0 16 = 0 := wq_u_s e10662
  refine wp_of e41 c41_5 (rw_iconst (pc' := 6) rfl ?_)
  refine wp_of e41 c41_6 (rw_istore_n (pc' := 7) (z := 0) (L' := [(1, vI 0), (0, .ref r0)]) rfl rfl rfl ?_)
  have lp10859 : ∀ (n10860 : Nat) (v10862 : Int) (H10863 : wq_H), WT T H10863 → wfr [(27, 16), (30, 999)] T H10661 H10863 → (0 ≤ v10862 ∧ v10862 ≤ 24) → (H10863 r0 16 ≤ v10862) → (24 - v10862).toNat = n10860 → wp kt 0 41 7 [(1, vI v10862), (0, .ref r0)] [] T H10863 (q_41 r0 T H) := by
    intro n10860
    induction n10860 using Nat.strongRecOn with
    | _ n10860 ih10861 =>
      intro v10862 H10863 w10864 f10865 b10866 x10867 m10868
      have f10869 := f10664.tr f10865 rfl
      refine wp_of e41 c41_7 (rw_iload_n (pc' := 8) (z := v10862) rfl rfl ?_)
      refine wp_of e41 c41_8 (rw_bipush (pc' := 10) (z := 24) rfl (by decide) ?_)
      refine wp_of e41 c41_10 (rw_icmp_ge (p1 := 48) (p2 := 13) (by decide) rfl ⟨by omega, by omega⟩ ⟨by omega, by omega⟩ (fun c10870 => ?_) (fun c10870 => ?_))
      · exact wp_return e41 c41_48 rfl ⟨rfl, w10864, f10869, rfl⟩
      · refine wp_of e41 c41_13 (rw_aload_n (pc' := 14) (v := .ref r0) rfl rfl rfl ?_)
        refine wp_of e41 c41_14 (xg_R (pc' := 17) lf_7_17 w10864 g0 sh_27 (by decide) (by decide) ty_27_1 rfl rfl (fun r10871 q10872 g10873 => ?_))
        refine wp_of e41 c41_17 (rw_iload_n (pc' := 18) (z := v10862) rfl rfl ?_)
        refine wp_of e41 c41_18 (xa_I (so := 0) (pc' := 19) w10864 g10873 sh_29 (by decide) (ty_29 _) (by omega) (by omega) rfl (fun b10874 b10875 => ?_))
        refine wp_of e41 c41_19 (rw_if_lt (p1 := 42) (p2 := 22) (by decide) rfl ⟨by omega, by omega⟩ (fun c10876 => ?_) (fun c10876 => ?_))
        · refine wp_of e41 c41_42 (rw_iinc (pc' := 45) (z := v10862) (L' := [(1, vI (v10862 + 1)), (0, .ref r0)]) rfl rfl rfl rfl ?_)
          refine wp_of e41 c41_45 (rw_goto (p1 := 7) (by decide) ?_)
          exact wp_lc (ks := [1, 0]) (wl_c rfl (wl_c rfl wl_n)) rfl (by decide) (ih10861 _ (by omega) (v10862 + 1) H10863 w10864 f10865 ⟨by omega, by omega⟩ (by omega) rfl)
        · refine wp_of e41 c41_22 (rw_aload_n (pc' := 23) (v := .ref r0) rfl rfl rfl ?_)
          refine wp_of e41 c41_23 (xg_R (pc' := 26) lf_7_21 w10864 g0 sh_27 (by decide) (by decide) ty_27_2 rfl rfl (fun r10877 q10878 g10879 => ?_))
          refine wp_of e41 c41_26 (rw_aload_n (pc' := 27) (v := .ref r0) rfl rfl rfl ?_)
          refine wp_of e41 c41_27 (xg_I (pc' := 30) lf_7_65 w10864 g0 sh_27 (by decide) (by decide) ty_27_16 rfl rfl (fun b10880 b10881 => ?_))
          refine wp_of e41 c41_30 (rw_iload_n (pc' := 31) (z := v10862) rfl rfl ?_)
          refine wp_of e41 c41_31 (xs_I (pc' := 32) w10864 g10879 (by decide) sh_30 (by decide) (ty_30 _) (by omega) (by omega) ⟨by omega, by omega⟩ (by omega) (by omega) rfl (fun H10882 e10883 w10884 => ?_))
          have f10885 := f10869.put' e10883 g10879 rfl
          have f10886 := f10865.put' e10883 g10879 rfl
          refine wp_of e41 c41_32 (rw_aload_n (pc' := 33) (v := .ref r0) rfl rfl rfl ?_)
          refine wp_of e41 c41_33 (rw_dup (pc' := 34) rfl rfl ?_)
          have k10887 : H10882 r0 16 = H10863 r0 16 := (wq_u_t e10883 g10879 g0 rfl 16)
          refine wp_of e41 c41_34 (xg_I (pc' := 37) lf_7_65 w10884 g0 sh_27 (by decide) (by decide) ty_27_16 rfl rfl (fun b10888 b10889 => ?_))
          refine wp_of e41 c41_37 (rw_iconst (pc' := 38) rfl ?_)
          refine wp_of e41 c41_38 (rw_iadd (pc' := 39) rfl ?_)
          refine wp_of e41 c41_39 (xp_I (pc' := 42) lf_7_65 w10884 g0 sh_27 (by decide) (by decide) ty_27_16 rfl rfl (by omega) (by omega) ⟨by omega, by omega⟩ rfl (fun H10890 e10891 w10892 => ?_))
          have f10893 := f10885.put' e10891 g0 rfl
          have f10894 := f10886.put' e10891 g0 rfl
          have k10895 : H10890 r0 16 = (H10882 r0 16) + 1 := wq_u_s e10891
          refine wp_of e41 c41_42 (rw_iinc (pc' := 45) (z := v10862) (L' := [(1, vI (v10862 + 1)), (0, .ref r0)]) rfl rfl rfl rfl ?_)
          refine wp_of e41 c41_45 (rw_goto (p1 := 7) (by decide) ?_)
          exact wp_lc (ks := [1, 0]) (wl_c rfl (wl_c rfl wl_n)) rfl (by decide) (ih10861 _ (by omega) (v10862 + 1) H10890 w10892 f10894 ⟨by omega, by omega⟩ (by omega) rfl)
  exact wp_lc (ks := [1, 0]) (wl_c rfl (wl_c rfl wl_n)) rfl (by decide) (lp10859 _ 0 H10661 w10663 wfr.rf ⟨by omega, by omega⟩ (by omega) rfl)
/-! StrikeAwake$Parish.setStroke(II)V -/
theorem e40 : wq_en 40 = some (7, 3, false, none) := rfl
theorem c40_0 : mc_cd 40 0 = some (.aload_n 0, 1) := by decide +kernel
theorem c40_1 : mc_cd 40 1 = some (.getfield 17, 3) := by decide +kernel
theorem c40_4 : mc_cd 40 4 = some (.iload_n 1, 1) := by decide +kernel
theorem c40_5 : mc_cd 40 5 = some (.iload_n 2, 1) := by decide +kernel
theorem c40_6 : mc_cd 40 6 = some (.iastore, 1) := by decide +kernel
theorem c40_7 : mc_cd 40 7 = some (.aload_n 0, 1) := by decide +kernel
theorem c40_8 : mc_cd 40 8 = some (.invokevirtual 89, 3) := by decide +kernel
theorem c40_11 : mc_cd 40 11 = some (.return_, 1) := by decide +kernel
abbrev q_40 (r0 : Nat) (a1 : Int) (a2 : Int) (T : wq_T) (H : wq_H) : Option Value → wq_T → wq_H → Prop := fun r T' H' => T = T' ∧ WT T H' ∧ wfr [(27, 16), (29, 999), (30, 999)] T H H' ∧ none = r
set_option maxHeartbeats 4000000 in
theorem s_40 {kt : Nat → Option mc_E} {T : wq_T} {H : wq_H} {r0 : Nat} {a1 : Int} {a2 : Int} (hW : WT T H) (g0 : T.2.2.2 r0 = some 27) (i1 : 0 ≤ a1 ∧ a1 ≤ 23) (i2 : (-2147483648) ≤ a2 ∧ a2 ≤ 2147483647) : wpc kt 2 40 [.ref r0, vI a1, vI a2] T H (q_40 r0 a1 a2 T H) := by
  refine wp_enter e40 (Nat.le_of_ble_eq_true rfl) rfl ?_
  have f0 : wfr [(27, 16), (29, 999), (30, 999)] T H H := wfr.rf
  show wp _ _ 40 0 [(0, .ref r0), (1, vI a1), (2, vI a2)] [] _ H _
  refine wp_of e40 c40_0 (rw_aload_n (pc' := 1) (v := .ref r0) rfl rfl rfl ?_)
  refine wp_of e40 c40_1 (xg_R (pc' := 4) lf_7_17 hW g0 sh_27 (by decide) (by decide) ty_27_1 rfl rfl (fun r10912 q10913 g10914 => ?_))
  refine wp_of e40 c40_4 (rw_iload_n (pc' := 5) (z := a1) rfl rfl ?_)
  refine wp_of e40 c40_5 (rw_iload_n (pc' := 6) (z := a2) rfl rfl ?_)
  refine wp_of e40 c40_6 (xs_I (pc' := 7) hW g10914 (by decide) sh_29 (by decide) (ty_29 _) (by omega) (by omega) ⟨by omega, by omega⟩ (by omega) (by omega) rfl (fun H10915 e10916 w10917 => ?_))
  have f10918 := f0.put' e10916 g10914 rfl
  refine wp_of e40 c40_7 (rw_aload_n (pc' := 8) (v := .ref r0) rfl rfl rfl ?_)
  refine wp_of e40 c40_8 (xc_V (pc' := 11) (r := r0) (as := []) (st := []) (lm_7_89) rfl rfl (Nat.le_of_ble_eq_true rfl) w10917 g0 sh_27 (by decide) rfl (by decide) (s_41 w10917 g0) (fun R10919 T10920 H10921 p10922 => ?_))
  obtain ⟨e10923, w10925, f10926, e10924⟩ := p10922
  subst e10923
  subst e10924
  have f10927 := f10918.tr f10926 rfl
  show wp _ _ 40 11 [(0, .ref r0), (1, vI a1), (2, vI a2)] [] _ H10921 _
  exact wp_return e40 c40_11 rfl ⟨rfl, w10925, f10927, rfl⟩
/-! StrikeAwake$Reader.readsStruck(LStrikeAwake$Parish;)Z -/
theorem e38 : wq_en 38 = some (1, 4, false, some FieldType.boolean) := rfl
theorem c38_0 : mc_cd 38 0 = some (.aload_n 0, 1) := by decide +kernel
theorem c38_1 : mc_cd 38 1 = some (.getfield 12, 3) := by decide +kernel
theorem c38_4 : mc_cd 38 4 = some (.getfield 38, 3) := by decide +kernel
theorem c38_7 : mc_cd 38 7 = some (.iconst 2, 1) := by decide +kernel
theorem c38_8 : mc_cd 38 8 = some (.if_icmp .ne 23, 3) := by decide +kernel
theorem c38_11 : mc_cd 38 11 = some (.aload_n 1, 1) := by decide +kernel
theorem c38_12 : mc_cd 38 12 = some (.aload_n 0, 1) := by decide +kernel
theorem c38_13 : mc_cd 38 13 = some (.getfield 12, 3) := by decide +kernel
theorem c38_16 : mc_cd 38 16 = some (.getfield 230, 3) := by decide +kernel
theorem c38_19 : mc_cd 38 19 = some (.invokevirtual 233, 3) := by decide +kernel
theorem c38_22 : mc_cd 38 22 = some (.ifCond .eq 9, 3) := by decide +kernel
theorem c38_25 : mc_cd 38 25 = some (.aload_n 0, 1) := by decide +kernel
theorem c38_26 : mc_cd 38 26 = some (.iconst 3, 1) := by decide +kernel
theorem c38_27 : mc_cd 38 27 = some (.invokevirtual 47, 3) := by decide +kernel
theorem c38_30 : mc_cd 38 30 = some (.ireturn, 1) := by decide +kernel
theorem c38_31 : mc_cd 38 31 = some (.aload_n 0, 1) := by decide +kernel
theorem c38_32 : mc_cd 38 32 = some (.iconst 0, 1) := by decide +kernel
theorem c38_33 : mc_cd 38 33 = some (.bipush 23, 2) := by decide +kernel
theorem c38_35 : mc_cd 38 35 = some (.invokevirtual 119, 3) := by decide +kernel
theorem c38_38 : mc_cd 38 38 = some (.istore_n 2, 1) := by decide +kernel
theorem c38_39 : mc_cd 38 39 = some (.iload_n 2, 1) := by decide +kernel
theorem c38_40 : mc_cd 38 40 = some (.ifCond .lt 22, 3) := by decide +kernel
theorem c38_43 : mc_cd 38 43 = some (.aload_n 0, 1) := by decide +kernel
theorem c38_44 : mc_cd 38 44 = some (.ldc 236, 2) := by decide +kernel
theorem c38_46 : mc_cd 38 46 = some (.invokevirtual 115, 3) := by decide +kernel
theorem c38_49 : mc_cd 38 49 = some (.ifCond .eq 13, 3) := by decide +kernel
theorem c38_52 : mc_cd 38 52 = some (.aload_n 0, 1) := by decide +kernel
theorem c38_53 : mc_cd 38 53 = some (.iconst 0, 1) := by decide +kernel
theorem c38_54 : mc_cd 38 54 = some (.bipush 99, 2) := by decide +kernel
theorem c38_56 : mc_cd 38 56 = some (.invokevirtual 119, 3) := by decide +kernel
theorem c38_59 : mc_cd 38 59 = some (.goto 4, 3) := by decide +kernel
theorem c38_62 : mc_cd 38 62 = some (.iconst (-1), 1) := by decide +kernel
theorem c38_63 : mc_cd 38 63 = some (.istore_n 3, 1) := by decide +kernel
theorem c38_64 : mc_cd 38 64 = some (.iload_n 3, 1) := by decide +kernel
theorem c38_65 : mc_cd 38 65 = some (.ifCond .ge 5, 3) := by decide +kernel
theorem c38_68 : mc_cd 38 68 = some (.iconst 0, 1) := by decide +kernel
theorem c38_69 : mc_cd 38 69 = some (.ireturn, 1) := by decide +kernel
theorem c38_70 : mc_cd 38 70 = some (.aload_n 1, 1) := by decide +kernel
theorem c38_71 : mc_cd 38 71 = some (.iload_n 2, 1) := by decide +kernel
theorem c38_72 : mc_cd 38 72 = some (.iload_n 3, 1) := by decide +kernel
theorem c38_73 : mc_cd 38 73 = some (.invokevirtual 238, 3) := by decide +kernel
theorem c38_76 : mc_cd 38 76 = some (.iconst 1, 1) := by decide +kernel
theorem c38_77 : mc_cd 38 77 = some (.ireturn, 1) := by decide +kernel
abbrev q_38 (r0 : Nat) (r1 : Nat) (tk : Nat) (rb : Nat) (T : wq_T) (H : wq_H) : Option Value → wq_T → wq_H → Prop := fun r T' H' => T = T' ∧ WT T H' ∧ wfr [(27, 16), (3, 3), (3, 4), (4, 2), (4, 3), (4, 4), (4, 5), (4, 6), (29, 999), (30, 999)] T H H' ∧ ∃ z : Int, some (vI z) = r ∧ (0 ≤ z ∧ z ≤ 1)
set_option maxHeartbeats 4000000 in
theorem s_38 {kt : Nat → Option mc_E} {T : wq_T} {H : wq_H} {r0 : Nat} {r1 : Nat} {tk : Nat} {rb : Nat} (hW : WT T H) (g0 : T.2.2.2 r0 = some 3) (g1 : T.2.2.2 r1 = some 27) (qtk : H r0 0 = (tk : Int)) (gtk : T.2.2.2 tk = some 4) (qrb : H tk 0 = (rb : Int)) (grb : T.2.2.2 rb = some 2) : wpc kt 3 38 [.ref r0, .ref r1] T H (q_38 r0 r1 tk rb T H) := by
  refine wp_enter e38 (Nat.le_of_ble_eq_true rfl) rfl ?_
  have f0 : wfr [(27, 16), (3, 3), (3, 4), (4, 2), (4, 3), (4, 4), (4, 5), (4, 6), (29, 999), (30, 999)] T H H := wfr.rf
  show wp _ _ 38 0 [(0, .ref r0), (1, .ref r1)] [] _ H _
  refine wp_of e38 c38_0 (rw_aload_n (pc' := 1) (v := .ref r0) rfl rfl rfl ?_)
  refine wp_of e38 c38_1 (xg_K (pc' := 4) lf_1_12 hW g0 sh_3 (by decide) (by decide) rfl qtk rfl ?_)
  refine wp_of e38 c38_4 (xg_I (pc' := 7) lf_1_38 hW gtk sh_4 (by decide) (by decide) ty_4_3 rfl rfl (fun b11068 b11069 => ?_))
  refine wp_of e38 c38_7 (rw_iconst (pc' := 8) rfl ?_)
  refine wp_of e38 c38_8 (rw_icmp_ne (p1 := 31) (p2 := 11) (by decide) rfl ⟨by omega, by omega⟩ ⟨by omega, by omega⟩ (fun c11070 => ?_) (fun c11070 => ?_))
  · refine wp_of e38 c38_31 (rw_aload_n (pc' := 32) (v := .ref r0) rfl rfl rfl ?_)
    refine wp_of e38 c38_32 (rw_iconst (pc' := 33) rfl ?_)
    refine wp_of e38 c38_33 (rw_bipush (pc' := 35) (z := 23) rfl (by decide) ?_)
    refine wp_of e38 c38_35 (xc_V (pc' := 38) (r := r0) (as := [vI 0, vI 23]) (st := []) (lm_1_119) rfl rfl (Nat.le_of_ble_eq_true rfl) hW g0 sh_3 (by decide) rfl (by decide) (s_24 hW g0 ⟨by omega, by omega⟩ ⟨by omega, by omega⟩ qtk gtk qrb grb) (fun R11071 T11072 H11073 p11074 => ?_))
    obtain ⟨e11075, w11077, f11078, z11080, e11076, b11081, p11079⟩ := p11074
    subst e11075
    subst e11076
    have f11082 := f0.tr f11078 rfl
    show wp _ _ 38 38 [(0, .ref r0), (1, .ref r1)] [vI z11080] _ H11073 _
    refine wp_of e38 c38_38 (rw_istore_n (pc' := 39) (z := z11080) (L' := [(2, vI z11080), (0, .ref r0), (1, .ref r1)]) rfl rfl rfl ?_)
    refine wp_of e38 c38_39 (rw_iload_n (pc' := 40) (z := z11080) rfl rfl ?_)
    refine wp_of e38 c38_40 (rw_if_lt (p1 := 62) (p2 := 43) (by decide) rfl ⟨by omega, by omega⟩ (fun c11083 => ?_) (fun c11083 => ?_))
    · refine wp_of e38 c38_62 (rw_iconst (pc' := 63) rfl ?_)
      refine wp_of e38 c38_63 (rw_istore_n (pc' := 64) (z := -1) (L' := [(3, vI (-1)), (2, vI z11080), (0, .ref r0), (1, .ref r1)]) rfl rfl rfl ?_)
      refine wp_of e38 c38_64 (rw_iload_n (pc' := 65) (z := -1) rfl rfl ?_)
      refine wp_of e38 c38_65 (rw_if_ge (p1 := 70) (p2 := 68) (by decide) rfl ⟨by omega, by omega⟩ (fun c11084 => ?_) (fun c11084 => ?_))
      · exfalso
        omega
      · refine wp_of e38 c38_68 (rw_iconst (pc' := 69) rfl ?_)
        exact wp_zreturn e38 c38_69 rfl (by omega) ⟨rfl, w11077, f11082, 0, rfl, ⟨by omega, by omega⟩⟩
    · refine wp_of e38 c38_43 (rw_aload_n (pc' := 44) (v := .ref r0) rfl rfl rfl ?_)
      refine wp_of e38 c38_44 (rw_ldcS (pc' := 46) (k := 70) rfl rfl rfl rfl ?_)
      have k11085 : H11073 r0 0 = H r0 0 := (f11078 r0 0 _ g0 rfl)
      have q11086 : H11073 r0 0 = (tk : Int) := k11085.trans qtk
      have k11087 : H11073 tk 0 = H tk 0 := (f11078 tk 0 _ gtk rfl)
      have q11088 : H11073 tk 0 = (rb : Int) := k11087.trans qrb
      refine wp_of e38 c38_46 (xc_V (pc' := 49) (r := r0) (as := [.ref 70]) (st := []) (lm_1_115) rfl rfl (Nat.le_of_ble_eq_true rfl) w11077 g0 sh_3 (by decide) rfl (by decide) (s_23 w11077 g0 rfl q11086 gtk q11088 grb) (fun R11089 T11090 H11091 p11092 => ?_))
      obtain ⟨e11093, w11095, f11096, z11097, e11094, b11098⟩ := p11092
      subst e11093
      subst e11094
      have f11099 := f11082.tr f11096 rfl
      show wp _ _ 38 49 [(2, vI z11080), (0, .ref r0), (1, .ref r1)] [vI z11097] _ H11091 _
      refine wp_of e38 c38_49 (rw_if_eq (p1 := 62) (p2 := 52) (by decide) rfl ⟨by omega, by omega⟩ (fun c11100 => ?_) (fun c11100 => ?_))
      · refine wp_of e38 c38_62 (rw_iconst (pc' := 63) rfl ?_)
        refine wp_of e38 c38_63 (rw_istore_n (pc' := 64) (z := -1) (L' := [(3, vI (-1)), (2, vI z11080), (0, .ref r0), (1, .ref r1)]) rfl rfl rfl ?_)
        refine wp_of e38 c38_64 (rw_iload_n (pc' := 65) (z := -1) rfl rfl ?_)
        refine wp_of e38 c38_65 (rw_if_ge (p1 := 70) (p2 := 68) (by decide) rfl ⟨by omega, by omega⟩ (fun c11101 => ?_) (fun c11101 => ?_))
        · exfalso
          omega
        · refine wp_of e38 c38_68 (rw_iconst (pc' := 69) rfl ?_)
          exact wp_zreturn e38 c38_69 rfl (by omega) ⟨rfl, w11095, f11099, 0, rfl, ⟨by omega, by omega⟩⟩
      · refine wp_of e38 c38_52 (rw_aload_n (pc' := 53) (v := .ref r0) rfl rfl rfl ?_)
        refine wp_of e38 c38_53 (rw_iconst (pc' := 54) rfl ?_)
        refine wp_of e38 c38_54 (rw_bipush (pc' := 56) (z := 99) rfl (by decide) ?_)
        have k11102 : H11091 r0 0 = H11073 r0 0 := (f11096 r0 0 _ g0 rfl)
        have q11103 : H11091 r0 0 = (tk : Int) := k11102.trans q11086
        have k11104 : H11091 tk 0 = H11073 tk 0 := (f11096 tk 0 _ gtk rfl)
        have q11105 : H11091 tk 0 = (rb : Int) := k11104.trans q11088
        refine wp_of e38 c38_56 (xc_V (pc' := 59) (r := r0) (as := [vI 0, vI 99]) (st := []) (lm_1_119) rfl rfl (Nat.le_of_ble_eq_true rfl) w11095 g0 sh_3 (by decide) rfl (by decide) (s_24 w11095 g0 ⟨by omega, by omega⟩ ⟨by omega, by omega⟩ q11103 gtk q11105 grb) (fun R11106 T11107 H11108 p11109 => ?_))
        obtain ⟨e11110, w11112, f11113, z11115, e11111, b11116, p11114⟩ := p11109
        subst e11110
        subst e11111
        have f11117 := f11099.tr f11113 rfl
        show wp _ _ 38 59 [(2, vI z11080), (0, .ref r0), (1, .ref r1)] [vI z11115] _ H11108 _
        refine wp_of e38 c38_59 (rw_goto (p1 := 63) (by decide) ?_)
        refine wp_of e38 c38_63 (rw_istore_n (pc' := 64) (z := z11115) (L' := [(3, vI z11115), (2, vI z11080), (0, .ref r0), (1, .ref r1)]) rfl rfl rfl ?_)
        refine wp_of e38 c38_64 (rw_iload_n (pc' := 65) (z := z11115) rfl rfl ?_)
        refine wp_of e38 c38_65 (rw_if_ge (p1 := 70) (p2 := 68) (by decide) rfl ⟨by omega, by omega⟩ (fun c11118 => ?_) (fun c11118 => ?_))
        · refine wp_of e38 c38_70 (rw_aload_n (pc' := 71) (v := .ref r1) rfl rfl rfl ?_)
          refine wp_of e38 c38_71 (rw_iload_n (pc' := 72) (z := z11080) rfl rfl ?_)
          refine wp_of e38 c38_72 (rw_iload_n (pc' := 73) (z := z11115) rfl rfl ?_)
          refine wp_of e38 c38_73 (xc_V (pc' := 76) (r := r1) (as := [vI z11080, vI z11115]) (st := []) (lm_1_238) rfl rfl (Nat.le_of_ble_eq_true rfl) w11112 g1 sh_27 (by decide) rfl (by decide) (s_40 w11112 g1 ⟨by omega, by omega⟩ ⟨by omega, by omega⟩) (fun R11119 T11120 H11121 p11122 => ?_))
          obtain ⟨e11123, w11125, f11126, e11124⟩ := p11122
          subst e11123
          subst e11124
          have f11127 := f11117.tr f11126 rfl
          show wp _ _ 38 76 [(3, vI z11115), (2, vI z11080), (0, .ref r0), (1, .ref r1)] [] _ H11121 _
          refine wp_of e38 c38_76 (rw_iconst (pc' := 77) rfl ?_)
          exact wp_zreturn e38 c38_77 rfl (by omega) ⟨rfl, w11125, f11127, 1, rfl, ⟨by omega, by omega⟩⟩
        · refine wp_of e38 c38_68 (rw_iconst (pc' := 69) rfl ?_)
          exact wp_zreturn e38 c38_69 rfl (by omega) ⟨rfl, w11112, f11117, 0, rfl, ⟨by omega, by omega⟩⟩
  · refine wp_of e38 c38_11 (rw_aload_n (pc' := 12) (v := .ref r1) rfl rfl rfl ?_)
    refine wp_of e38 c38_12 (rw_aload_n (pc' := 13) (v := .ref r0) rfl rfl rfl ?_)
    refine wp_of e38 c38_13 (xg_K (pc' := 16) lf_1_12 hW g0 sh_3 (by decide) (by decide) rfl qtk rfl ?_)
    refine wp_of e38 c38_16 (xg_I (pc' := 19) lf_1_230 hW gtk sh_4 (by decide) (by decide) ty_4_5 rfl rfl (fun b11128 b11129 => ?_))
    refine wp_of e38 c38_19 (xc_V (pc' := 22) (r := r1) (as := [vI (H tk 5)]) (st := []) (lm_1_233) rfl rfl (Nat.le_of_ble_eq_true rfl) hW g1 sh_27 (by decide) rfl (by decide) (s_39 hW g1 ⟨by omega, by omega⟩) (fun R11130 T11131 H11132 p11133 => ?_))
    obtain ⟨e11134, e11136, z11137, e11135, b11138⟩ := p11133
    subst e11134
    subst e11135
    subst e11136
    show wp _ _ 38 22 [(0, .ref r0), (1, .ref r1)] [vI z11137] _ H _
    refine wp_of e38 c38_22 (rw_if_eq (p1 := 31) (p2 := 25) (by decide) rfl ⟨by omega, by omega⟩ (fun c11139 => ?_) (fun c11139 => ?_))
    · refine wp_of e38 c38_31 (rw_aload_n (pc' := 32) (v := .ref r0) rfl rfl rfl ?_)
      refine wp_of e38 c38_32 (rw_iconst (pc' := 33) rfl ?_)
      refine wp_of e38 c38_33 (rw_bipush (pc' := 35) (z := 23) rfl (by decide) ?_)
      refine wp_of e38 c38_35 (xc_V (pc' := 38) (r := r0) (as := [vI 0, vI 23]) (st := []) (lm_1_119) rfl rfl (Nat.le_of_ble_eq_true rfl) hW g0 sh_3 (by decide) rfl (by decide) (s_24 hW g0 ⟨by omega, by omega⟩ ⟨by omega, by omega⟩ qtk gtk qrb grb) (fun R11140 T11141 H11142 p11143 => ?_))
      obtain ⟨e11144, w11146, f11147, z11149, e11145, b11150, p11148⟩ := p11143
      subst e11144
      subst e11145
      have f11151 := f0.tr f11147 rfl
      show wp _ _ 38 38 [(0, .ref r0), (1, .ref r1)] [vI z11149] _ H11142 _
      refine wp_of e38 c38_38 (rw_istore_n (pc' := 39) (z := z11149) (L' := [(2, vI z11149), (0, .ref r0), (1, .ref r1)]) rfl rfl rfl ?_)
      refine wp_of e38 c38_39 (rw_iload_n (pc' := 40) (z := z11149) rfl rfl ?_)
      refine wp_of e38 c38_40 (rw_if_lt (p1 := 62) (p2 := 43) (by decide) rfl ⟨by omega, by omega⟩ (fun c11152 => ?_) (fun c11152 => ?_))
      · refine wp_of e38 c38_62 (rw_iconst (pc' := 63) rfl ?_)
        refine wp_of e38 c38_63 (rw_istore_n (pc' := 64) (z := -1) (L' := [(3, vI (-1)), (2, vI z11149), (0, .ref r0), (1, .ref r1)]) rfl rfl rfl ?_)
        refine wp_of e38 c38_64 (rw_iload_n (pc' := 65) (z := -1) rfl rfl ?_)
        refine wp_of e38 c38_65 (rw_if_ge (p1 := 70) (p2 := 68) (by decide) rfl ⟨by omega, by omega⟩ (fun c11153 => ?_) (fun c11153 => ?_))
        · exfalso
          omega
        · refine wp_of e38 c38_68 (rw_iconst (pc' := 69) rfl ?_)
          exact wp_zreturn e38 c38_69 rfl (by omega) ⟨rfl, w11146, f11151, 0, rfl, ⟨by omega, by omega⟩⟩
      · refine wp_of e38 c38_43 (rw_aload_n (pc' := 44) (v := .ref r0) rfl rfl rfl ?_)
        refine wp_of e38 c38_44 (rw_ldcS (pc' := 46) (k := 70) rfl rfl rfl rfl ?_)
        have k11154 : H11142 r0 0 = H r0 0 := (f11147 r0 0 _ g0 rfl)
        have q11155 : H11142 r0 0 = (tk : Int) := k11154.trans qtk
        have k11156 : H11142 tk 0 = H tk 0 := (f11147 tk 0 _ gtk rfl)
        have q11157 : H11142 tk 0 = (rb : Int) := k11156.trans qrb
        refine wp_of e38 c38_46 (xc_V (pc' := 49) (r := r0) (as := [.ref 70]) (st := []) (lm_1_115) rfl rfl (Nat.le_of_ble_eq_true rfl) w11146 g0 sh_3 (by decide) rfl (by decide) (s_23 w11146 g0 rfl q11155 gtk q11157 grb) (fun R11158 T11159 H11160 p11161 => ?_))
        obtain ⟨e11162, w11164, f11165, z11166, e11163, b11167⟩ := p11161
        subst e11162
        subst e11163
        have f11168 := f11151.tr f11165 rfl
        show wp _ _ 38 49 [(2, vI z11149), (0, .ref r0), (1, .ref r1)] [vI z11166] _ H11160 _
        refine wp_of e38 c38_49 (rw_if_eq (p1 := 62) (p2 := 52) (by decide) rfl ⟨by omega, by omega⟩ (fun c11169 => ?_) (fun c11169 => ?_))
        · refine wp_of e38 c38_62 (rw_iconst (pc' := 63) rfl ?_)
          refine wp_of e38 c38_63 (rw_istore_n (pc' := 64) (z := -1) (L' := [(3, vI (-1)), (2, vI z11149), (0, .ref r0), (1, .ref r1)]) rfl rfl rfl ?_)
          refine wp_of e38 c38_64 (rw_iload_n (pc' := 65) (z := -1) rfl rfl ?_)
          refine wp_of e38 c38_65 (rw_if_ge (p1 := 70) (p2 := 68) (by decide) rfl ⟨by omega, by omega⟩ (fun c11170 => ?_) (fun c11170 => ?_))
          · exfalso
            omega
          · refine wp_of e38 c38_68 (rw_iconst (pc' := 69) rfl ?_)
            exact wp_zreturn e38 c38_69 rfl (by omega) ⟨rfl, w11164, f11168, 0, rfl, ⟨by omega, by omega⟩⟩
        · refine wp_of e38 c38_52 (rw_aload_n (pc' := 53) (v := .ref r0) rfl rfl rfl ?_)
          refine wp_of e38 c38_53 (rw_iconst (pc' := 54) rfl ?_)
          refine wp_of e38 c38_54 (rw_bipush (pc' := 56) (z := 99) rfl (by decide) ?_)
          have k11171 : H11160 r0 0 = H11142 r0 0 := (f11165 r0 0 _ g0 rfl)
          have q11172 : H11160 r0 0 = (tk : Int) := k11171.trans q11155
          have k11173 : H11160 tk 0 = H11142 tk 0 := (f11165 tk 0 _ gtk rfl)
          have q11174 : H11160 tk 0 = (rb : Int) := k11173.trans q11157
          refine wp_of e38 c38_56 (xc_V (pc' := 59) (r := r0) (as := [vI 0, vI 99]) (st := []) (lm_1_119) rfl rfl (Nat.le_of_ble_eq_true rfl) w11164 g0 sh_3 (by decide) rfl (by decide) (s_24 w11164 g0 ⟨by omega, by omega⟩ ⟨by omega, by omega⟩ q11172 gtk q11174 grb) (fun R11175 T11176 H11177 p11178 => ?_))
          obtain ⟨e11179, w11181, f11182, z11184, e11180, b11185, p11183⟩ := p11178
          subst e11179
          subst e11180
          have f11186 := f11168.tr f11182 rfl
          show wp _ _ 38 59 [(2, vI z11149), (0, .ref r0), (1, .ref r1)] [vI z11184] _ H11177 _
          refine wp_of e38 c38_59 (rw_goto (p1 := 63) (by decide) ?_)
          refine wp_of e38 c38_63 (rw_istore_n (pc' := 64) (z := z11184) (L' := [(3, vI z11184), (2, vI z11149), (0, .ref r0), (1, .ref r1)]) rfl rfl rfl ?_)
          refine wp_of e38 c38_64 (rw_iload_n (pc' := 65) (z := z11184) rfl rfl ?_)
          refine wp_of e38 c38_65 (rw_if_ge (p1 := 70) (p2 := 68) (by decide) rfl ⟨by omega, by omega⟩ (fun c11187 => ?_) (fun c11187 => ?_))
          · refine wp_of e38 c38_70 (rw_aload_n (pc' := 71) (v := .ref r1) rfl rfl rfl ?_)
            refine wp_of e38 c38_71 (rw_iload_n (pc' := 72) (z := z11149) rfl rfl ?_)
            refine wp_of e38 c38_72 (rw_iload_n (pc' := 73) (z := z11184) rfl rfl ?_)
            refine wp_of e38 c38_73 (xc_V (pc' := 76) (r := r1) (as := [vI z11149, vI z11184]) (st := []) (lm_1_238) rfl rfl (Nat.le_of_ble_eq_true rfl) w11181 g1 sh_27 (by decide) rfl (by decide) (s_40 w11181 g1 ⟨by omega, by omega⟩ ⟨by omega, by omega⟩) (fun R11188 T11189 H11190 p11191 => ?_))
            obtain ⟨e11192, w11194, f11195, e11193⟩ := p11191
            subst e11192
            subst e11193
            have f11196 := f11186.tr f11195 rfl
            show wp _ _ 38 76 [(3, vI z11184), (2, vI z11149), (0, .ref r0), (1, .ref r1)] [] _ H11190 _
            refine wp_of e38 c38_76 (rw_iconst (pc' := 77) rfl ?_)
            exact wp_zreturn e38 c38_77 rfl (by omega) ⟨rfl, w11194, f11196, 1, rfl, ⟨by omega, by omega⟩⟩
          · refine wp_of e38 c38_68 (rw_iconst (pc' := 69) rfl ?_)
            exact wp_zreturn e38 c38_69 rfl (by omega) ⟨rfl, w11181, f11186, 0, rfl, ⟨by omega, by omega⟩⟩
    · refine wp_of e38 c38_25 (rw_aload_n (pc' := 26) (v := .ref r0) rfl rfl rfl ?_)
      refine wp_of e38 c38_26 (rw_iconst (pc' := 27) rfl ?_)
      refine wp_of e38 c38_27 (xc_V (pc' := 30) (r := r0) (as := [vI 3]) (st := []) (lm_1_47) rfl rfl (Nat.le_of_ble_eq_true rfl) hW g0 sh_3 (by decide) rfl (by decide) (s_20 hW g0 ⟨by omega, by omega⟩) (fun R11197 T11198 H11199 p11200 => ?_))
      obtain ⟨e11201, w11203, f11204, z11205, e11202, b11206⟩ := p11200
      subst e11201
      subst e11202
      have f11207 := f0.tr f11204 rfl
      show wp _ _ 38 30 [(0, .ref r0), (1, .ref r1)] [vI z11205] _ H11199 _
      exact wp_zreturn e38 c38_30 rfl (by omega) ⟨rfl, w11203, f11207, z11205, rfl, ⟨by omega, by omega⟩⟩
/-! StrikeAwake$Reader.readsTold(LStrikeAwake$Parish;)Z -/
theorem e42 : wq_en 42 = some (1, 3, false, some FieldType.boolean) := rfl
theorem c42_0 : mc_cd 42 0 = some (.aload_n 0, 1) := by decide +kernel
theorem c42_1 : mc_cd 42 1 = some (.aload_n 1, 1) := by decide +kernel
theorem c42_2 : mc_cd 42 2 = some (.invokevirtual 207, 3) := by decide +kernel
theorem c42_5 : mc_cd 42 5 = some (.istore_n 2, 1) := by decide +kernel
theorem c42_6 : mc_cd 42 6 = some (.iload_n 2, 1) := by decide +kernel
theorem c42_7 : mc_cd 42 7 = some (.ifCond .ge 5, 3) := by decide +kernel
theorem c42_10 : mc_cd 42 10 = some (.iconst 0, 1) := by decide +kernel
theorem c42_11 : mc_cd 42 11 = some (.ireturn, 1) := by decide +kernel
theorem c42_12 : mc_cd 42 12 = some (.aload_n 0, 1) := by decide +kernel
theorem c42_13 : mc_cd 42 13 = some (.getfield 12, 3) := by decide +kernel
theorem c42_16 : mc_cd 42 16 = some (.invokevirtual 74, 3) := by decide +kernel
theorem c42_19 : mc_cd 42 19 = some (.aload_n 0, 1) := by decide +kernel
theorem c42_20 : mc_cd 42 20 = some (.bipush 23, 2) := by decide +kernel
theorem c42_22 : mc_cd 42 22 = some (.iconst 1, 1) := by decide +kernel
theorem c42_23 : mc_cd 42 23 = some (.bipush 24, 2) := by decide +kernel
theorem c42_25 : mc_cd 42 25 = some (.bipush 24, 2) := by decide +kernel
theorem c42_27 : mc_cd 42 27 = some (.invokevirtual 154, 3) := by decide +kernel
theorem c42_30 : mc_cd 42 30 = some (.ifCond .ne 5, 3) := by decide +kernel
theorem c42_33 : mc_cd 42 33 = some (.iconst 0, 1) := by decide +kernel
theorem c42_34 : mc_cd 42 34 = some (.ireturn, 1) := by decide +kernel
theorem c42_35 : mc_cd 42 35 = some (.aload_n 1, 1) := by decide +kernel
theorem c42_36 : mc_cd 42 36 = some (.getfield 242, 3) := by decide +kernel
theorem c42_39 : mc_cd 42 39 = some (.aload_n 1, 1) := by decide +kernel
theorem c42_40 : mc_cd 42 40 = some (.getfield 245, 3) := by decide +kernel
theorem c42_43 : mc_cd 42 43 = some (.iload_n 2, 1) := by decide +kernel
theorem c42_44 : mc_cd 42 44 = some (.iastore, 1) := by decide +kernel
theorem c42_45 : mc_cd 42 45 = some (.aload_n 1, 1) := by decide +kernel
theorem c42_46 : mc_cd 42 46 = some (.getfield 248, 3) := by decide +kernel
theorem c42_49 : mc_cd 42 49 = some (.aload_n 1, 1) := by decide +kernel
theorem c42_50 : mc_cd 42 50 = some (.getfield 245, 3) := by decide +kernel
theorem c42_53 : mc_cd 42 53 = some (.aload_n 0, 1) := by decide +kernel
theorem c42_54 : mc_cd 42 54 = some (.getfield 158, 3) := by decide +kernel
theorem c42_57 : mc_cd 42 57 = some (.aload_n 0, 1) := by decide +kernel
theorem c42_58 : mc_cd 42 58 = some (.getfield 164, 3) := by decide +kernel
theorem c42_61 : mc_cd 42 61 = some (.invokestatic 194, 3) := by decide +kernel
theorem c42_64 : mc_cd 42 64 = some (.iastore, 1) := by decide +kernel
theorem c42_65 : mc_cd 42 65 = some (.aload_n 1, 1) := by decide +kernel
theorem c42_66 : mc_cd 42 66 = some (.dup, 1) := by decide +kernel
theorem c42_67 : mc_cd 42 67 = some (.getfield 245, 3) := by decide +kernel
theorem c42_70 : mc_cd 42 70 = some (.iconst 1, 1) := by decide +kernel
theorem c42_71 : mc_cd 42 71 = some (.iadd, 1) := by decide +kernel
theorem c42_72 : mc_cd 42 72 = some (.putfield 245, 3) := by decide +kernel
theorem c42_75 : mc_cd 42 75 = some (.iconst 1, 1) := by decide +kernel
theorem c42_76 : mc_cd 42 76 = some (.ireturn, 1) := by decide +kernel
abbrev q_42 (r0 : Nat) (r1 : Nat) (tk : Nat) (rb : Nat) (T : wq_T) (H : wq_H) : Option Value → wq_T → wq_H → Prop := fun r T' H' => T = T' ∧ WT T H' ∧ wfr [(27, 13), (3, 1), (3, 2), (3, 3), (3, 4), (4, 2), (4, 3), (4, 4), (4, 5), (4, 6), (33, 999), (32, 999)] T H H' ∧ ∃ z : Int, some (vI z) = r ∧ (0 ≤ z ∧ z ≤ 1)
set_option maxHeartbeats 4000000 in
theorem s_42 {kt : Nat → Option mc_E} {T : wq_T} {H : wq_H} {r0 : Nat} {r1 : Nat} {tk : Nat} {rb : Nat} (hW : WT T H) (g0 : T.2.2.2 r0 = some 3) (g1 : T.2.2.2 r1 = some 27) (qtk : H r0 0 = (tk : Int)) (gtk : T.2.2.2 tk = some 4) (qrb : H tk 0 = (rb : Int)) (grb : T.2.2.2 rb = some 2) (p0 : H r1 13 ≤ 3) : wpc kt 5 42 [.ref r0, .ref r1] T H (q_42 r0 r1 tk rb T H) := by
  refine wp_enter e42 (Nat.le_of_ble_eq_true rfl) rfl ?_
  have f0 : wfr [(27, 13), (3, 1), (3, 2), (3, 3), (3, 4), (4, 2), (4, 3), (4, 4), (4, 5), (4, 6), (33, 999), (32, 999)] T H H := wfr.rf
  show wp _ _ 42 0 [(0, .ref r0), (1, .ref r1)] [] _ H _
  refine wp_of e42 c42_0 (rw_aload_n (pc' := 1) (v := .ref r0) rfl rfl rfl ?_)
  refine wp_of e42 c42_1 (rw_aload_n (pc' := 2) (v := .ref r1) rfl rfl rfl ?_)
  refine wp_of e42 c42_2 (xc_V (pc' := 5) (r := r0) (as := [.ref r1]) (st := []) (lm_1_207) rfl rfl (Nat.le_of_ble_eq_true rfl) hW g0 sh_3 (by decide) rfl (by decide) (s_33 hW g0 g1 qtk gtk qrb grb) (fun R11290 T11291 H11292 p11293 => ?_))
  obtain ⟨e11294, w11296, f11297, z11298, e11295, b11299⟩ := p11293
  subst e11294
  subst e11295
  have f11300 := f0.tr f11297 rfl
  show wp _ _ 42 5 [(0, .ref r0), (1, .ref r1)] [vI z11298] _ H11292 _
  refine wp_of e42 c42_5 (rw_istore_n (pc' := 6) (z := z11298) (L' := [(2, vI z11298), (0, .ref r0), (1, .ref r1)]) rfl rfl rfl ?_)
  refine wp_of e42 c42_6 (rw_iload_n (pc' := 7) (z := z11298) rfl rfl ?_)
  refine wp_of e42 c42_7 (rw_if_ge (p1 := 12) (p2 := 10) (by decide) rfl ⟨by omega, by omega⟩ (fun c11301 => ?_) (fun c11301 => ?_))
  · refine wp_of e42 c42_12 (rw_aload_n (pc' := 13) (v := .ref r0) rfl rfl rfl ?_)
    have k11302 : H11292 r0 0 = H r0 0 := (f11297 r0 0 _ g0 rfl)
    have q11303 : H11292 r0 0 = (tk : Int) := k11302.trans qtk
    refine wp_of e42 c42_13 (xg_K (pc' := 16) lf_1_12 w11296 g0 sh_3 (by decide) (by decide) rfl q11303 rfl ?_)
    have k11304 : H11292 tk 0 = H tk 0 := (f11297 tk 0 _ gtk rfl)
    have q11305 : H11292 tk 0 = (rb : Int) := k11304.trans qrb
    refine wp_of e42 c42_16 (xc_V (pc' := 19) (r := tk) (as := []) (st := []) (lm_1_74) rfl rfl (Nat.le_of_ble_eq_true rfl) w11296 gtk sh_4 (by decide) rfl (by decide) (s_16 w11296 gtk q11305 grb) (fun R11306 T11307 H11308 p11309 => ?_))
    obtain ⟨e11310, w11312, f11313, e11311⟩ := p11309
    subst e11310
    subst e11311
    have f11314 := f11300.tr f11313 rfl
    show wp _ _ 42 19 [(2, vI z11298), (0, .ref r0), (1, .ref r1)] [] _ H11308 _
    refine wp_of e42 c42_19 (rw_aload_n (pc' := 20) (v := .ref r0) rfl rfl rfl ?_)
    refine wp_of e42 c42_20 (rw_bipush (pc' := 22) (z := 23) rfl (by decide) ?_)
    refine wp_of e42 c42_22 (rw_iconst (pc' := 23) rfl ?_)
    refine wp_of e42 c42_23 (rw_bipush (pc' := 25) (z := 24) rfl (by decide) ?_)
    refine wp_of e42 c42_25 (rw_bipush (pc' := 27) (z := 24) rfl (by decide) ?_)
    have k11315 : H11308 r0 0 = H11292 r0 0 := (f11313 r0 0 _ g0 rfl)
    have q11316 : H11308 r0 0 = (tk : Int) := k11315.trans q11303
    have k11317 : H11308 tk 0 = H11292 tk 0 := (f11313 tk 0 _ gtk rfl)
    have q11318 : H11308 tk 0 = (rb : Int) := k11317.trans q11305
    refine wp_of e42 c42_27 (xc_V (pc' := 30) (r := r0) (as := [vI 23, vI 1, vI 24, vI 24]) (st := []) (lm_1_154) rfl rfl (Nat.le_of_ble_eq_true rfl) w11312 g0 sh_3 (by decide) rfl (by decide) (s_29 w11312 g0 ⟨by omega, by omega⟩ ⟨by omega, by omega⟩ ⟨by omega, by omega⟩ ⟨by omega, by omega⟩ q11316 gtk q11318 grb) (fun R11319 T11320 H11321 p11322 => ?_))
    obtain ⟨e11323, w11325, f11326, z11327, e11324, b11328⟩ := p11322
    subst e11323
    subst e11324
    have f11329 := f11314.tr f11326 rfl
    show wp _ _ 42 30 [(2, vI z11298), (0, .ref r0), (1, .ref r1)] [vI z11327] _ H11321 _
    refine wp_of e42 c42_30 (rw_if_ne (p1 := 35) (p2 := 33) (by decide) rfl ⟨by omega, by omega⟩ (fun c11330 => ?_) (fun c11330 => ?_))
    · refine wp_of e42 c42_35 (rw_aload_n (pc' := 36) (v := .ref r1) rfl rfl rfl ?_)
      refine wp_of e42 c42_36 (xg_R (pc' := 39) lf_1_242 w11325 g1 sh_27 (by decide) (by decide) ty_27_4 rfl rfl (fun r11331 q11332 g11333 => ?_))
      refine wp_of e42 c42_39 (rw_aload_n (pc' := 40) (v := .ref r1) rfl rfl rfl ?_)
      have k11334 : H11321 r1 13 = H r1 13 := ((f11326 r1 13 _ g1 rfl).trans ((f11313 r1 13 _ g1 rfl).trans (f11297 r1 13 _ g1 rfl)))
      refine wp_of e42 c42_40 (xg_I (pc' := 43) lf_1_245 w11325 g1 sh_27 (by decide) (by decide) ty_27_13 rfl rfl (fun b11335 b11336 => ?_))
      refine wp_of e42 c42_43 (rw_iload_n (pc' := 44) (z := z11298) rfl rfl ?_)
      refine wp_of e42 c42_44 (xs_I (pc' := 45) w11325 g11333 (by decide) sh_32 (by decide) (ty_32 _) (by omega) (by omega) ⟨by omega, by omega⟩ (by omega) (by omega) rfl (fun H11337 e11338 w11339 => ?_))
      have f11340 := f11329.put' e11338 g11333 rfl
      refine wp_of e42 c42_45 (rw_aload_n (pc' := 46) (v := .ref r1) rfl rfl rfl ?_)
      refine wp_of e42 c42_46 (xg_R (pc' := 49) lf_1_248 w11339 g1 sh_27 (by decide) (by decide) ty_27_5 rfl rfl (fun r11341 q11342 g11343 => ?_))
      refine wp_of e42 c42_49 (rw_aload_n (pc' := 50) (v := .ref r1) rfl rfl rfl ?_)
      have k11344 : H11337 r1 13 = H11321 r1 13 := (wq_u_t e11338 g11333 g1 rfl 13)
      refine wp_of e42 c42_50 (xg_I (pc' := 53) lf_1_245 w11339 g1 sh_27 (by decide) (by decide) ty_27_13 rfl rfl (fun b11345 b11346 => ?_))
      refine wp_of e42 c42_53 (rw_aload_n (pc' := 54) (v := .ref r0) rfl rfl rfl ?_)
      refine wp_of e42 c42_54 (xg_I (pc' := 57) lf_1_158 w11339 g0 sh_3 (by decide) (by decide) ty_3_1 rfl rfl (fun b11347 b11348 => ?_))
      refine wp_of e42 c42_57 (rw_aload_n (pc' := 58) (v := .ref r0) rfl rfl rfl ?_)
      refine wp_of e42 c42_58 (xg_I (pc' := 61) lf_1_164 w11339 g0 sh_3 (by decide) (by decide) ty_3_2 rfl rfl (fun b11349 b11350 => ?_))
      refine wp_of e42 c42_61 (xc_S (pc' := 64) (as := [vI (H11337 r0 1), vI (H11337 r0 2)]) (st := [vI (H11337 r1 13), .ref r11341]) (lm_1_194) rfl rfl (Nat.le_of_ble_eq_true rfl) rfl (by decide) (s_31 w11339 ⟨by omega, by omega⟩ ⟨by omega, by omega⟩) (fun R11351 T11352 H11353 p11354 => ?_))
      obtain ⟨e11355, e11357, z11358, e11356, b11359⟩ := p11354
      subst e11355
      subst e11356
      subst e11357
      show wp _ _ 42 64 [(2, vI z11298), (0, .ref r0), (1, .ref r1)] [vI z11358, vI (H11337 r1 13), .ref r11341] _ H11337 _
      refine wp_of e42 c42_64 (xs_I (pc' := 65) w11339 g11343 (by decide) sh_33 (by decide) (ty_33 _) (by omega) (by omega) ⟨by omega, by omega⟩ (by omega) (by omega) rfl (fun H11360 e11361 w11362 => ?_))
      have f11363 := f11340.put' e11361 g11343 rfl
      refine wp_of e42 c42_65 (rw_aload_n (pc' := 66) (v := .ref r1) rfl rfl rfl ?_)
      refine wp_of e42 c42_66 (rw_dup (pc' := 67) rfl rfl ?_)
      have k11364 : H11360 r1 13 = H11337 r1 13 := (wq_u_t e11361 g11343 g1 rfl 13)
      refine wp_of e42 c42_67 (xg_I (pc' := 70) lf_1_245 w11362 g1 sh_27 (by decide) (by decide) ty_27_13 rfl rfl (fun b11365 b11366 => ?_))
      refine wp_of e42 c42_70 (rw_iconst (pc' := 71) rfl ?_)
      refine wp_of e42 c42_71 (rw_iadd (pc' := 72) rfl ?_)
      refine wp_of e42 c42_72 (xp_I (pc' := 75) lf_1_245 w11362 g1 sh_27 (by decide) (by decide) ty_27_13 rfl rfl (by omega) (by omega) ⟨by omega, by omega⟩ rfl (fun H11367 e11368 w11369 => ?_))
      have f11370 := f11363.put' e11368 g1 rfl
      have k11371 : H11367 r1 13 = (H11360 r1 13) + 1 := wq_u_s e11368
      refine wp_of e42 c42_75 (rw_iconst (pc' := 76) rfl ?_)
      exact wp_zreturn e42 c42_76 rfl (by omega) ⟨rfl, w11369, f11370, 1, rfl, ⟨by omega, by omega⟩⟩
    · refine wp_of e42 c42_33 (rw_iconst (pc' := 34) rfl ?_)
      exact wp_zreturn e42 c42_34 rfl (by omega) ⟨rfl, w11325, f11329, 0, rfl, ⟨by omega, by omega⟩⟩
  · refine wp_of e42 c42_10 (rw_iconst (pc' := 11) rfl ?_)
    exact wp_zreturn e42 c42_11 rfl (by omega) ⟨rfl, w11296, f11300, 0, rfl, ⟨by omega, by omega⟩⟩
/-! StrikeAwake$Reader.readsOffer(LStrikeAwake$Parish;)Z -/
theorem e43 : wq_en 43 = some (1, 2, false, some FieldType.boolean) := rfl
theorem c43_0 : mc_cd 43 0 = some (.aload_n 0, 1) := by decide +kernel
theorem c43_1 : mc_cd 43 1 = some (.aload_n 1, 1) := by decide +kernel
theorem c43_2 : mc_cd 43 2 = some (.invokevirtual 207, 3) := by decide +kernel
theorem c43_5 : mc_cd 43 5 = some (.ifCond .ge 5, 3) := by decide +kernel
theorem c43_8 : mc_cd 43 8 = some (.iconst 0, 1) := by decide +kernel
theorem c43_9 : mc_cd 43 9 = some (.ireturn, 1) := by decide +kernel
theorem c43_10 : mc_cd 43 10 = some (.aload_n 0, 1) := by decide +kernel
theorem c43_11 : mc_cd 43 11 = some (.getfield 12, 3) := by decide +kernel
theorem c43_14 : mc_cd 43 14 = some (.invokevirtual 74, 3) := by decide +kernel
theorem c43_17 : mc_cd 43 17 = some (.aload_n 0, 1) := by decide +kernel
theorem c43_18 : mc_cd 43 18 = some (.bipush 23, 2) := by decide +kernel
theorem c43_20 : mc_cd 43 20 = some (.iconst 1, 1) := by decide +kernel
theorem c43_21 : mc_cd 43 21 = some (.bipush 24, 2) := by decide +kernel
theorem c43_23 : mc_cd 43 23 = some (.bipush 24, 2) := by decide +kernel
theorem c43_25 : mc_cd 43 25 = some (.invokevirtual 154, 3) := by decide +kernel
theorem c43_28 : mc_cd 43 28 = some (.ifCond .ne 5, 3) := by decide +kernel
theorem c43_31 : mc_cd 43 31 = some (.iconst 0, 1) := by decide +kernel
theorem c43_32 : mc_cd 43 32 = some (.ireturn, 1) := by decide +kernel
theorem c43_33 : mc_cd 43 33 = some (.aload_n 1, 1) := by decide +kernel
theorem c43_34 : mc_cd 43 34 = some (.getfield 251, 3) := by decide +kernel
theorem c43_37 : mc_cd 43 37 = some (.aload_n 1, 1) := by decide +kernel
theorem c43_38 : mc_cd 43 38 = some (.getfield 254, 3) := by decide +kernel
theorem c43_41 : mc_cd 43 41 = some (.aload_n 0, 1) := by decide +kernel
theorem c43_42 : mc_cd 43 42 = some (.getfield 158, 3) := by decide +kernel
theorem c43_45 : mc_cd 43 45 = some (.aload_n 0, 1) := by decide +kernel
theorem c43_46 : mc_cd 43 46 = some (.getfield 164, 3) := by decide +kernel
theorem c43_49 : mc_cd 43 49 = some (.invokestatic 194, 3) := by decide +kernel
theorem c43_52 : mc_cd 43 52 = some (.iastore, 1) := by decide +kernel
theorem c43_53 : mc_cd 43 53 = some (.aload_n 1, 1) := by decide +kernel
theorem c43_54 : mc_cd 43 54 = some (.dup, 1) := by decide +kernel
theorem c43_55 : mc_cd 43 55 = some (.getfield 254, 3) := by decide +kernel
theorem c43_58 : mc_cd 43 58 = some (.iconst 1, 1) := by decide +kernel
theorem c43_59 : mc_cd 43 59 = some (.iadd, 1) := by decide +kernel
theorem c43_60 : mc_cd 43 60 = some (.putfield 254, 3) := by decide +kernel
theorem c43_63 : mc_cd 43 63 = some (.iconst 1, 1) := by decide +kernel
theorem c43_64 : mc_cd 43 64 = some (.ireturn, 1) := by decide +kernel
abbrev q_43 (r0 : Nat) (r1 : Nat) (tk : Nat) (rb : Nat) (T : wq_T) (H : wq_H) : Option Value → wq_T → wq_H → Prop := fun r T' H' => T = T' ∧ WT T H' ∧ wfr [(27, 14), (3, 1), (3, 2), (3, 3), (3, 4), (4, 2), (4, 3), (4, 4), (4, 5), (4, 6), (34, 999)] T H H' ∧ ∃ z : Int, some (vI z) = r ∧ (0 ≤ z ∧ z ≤ 1)
set_option maxHeartbeats 4000000 in
theorem s_43 {kt : Nat → Option mc_E} {T : wq_T} {H : wq_H} {r0 : Nat} {r1 : Nat} {tk : Nat} {rb : Nat} (hW : WT T H) (g0 : T.2.2.2 r0 = some 3) (g1 : T.2.2.2 r1 = some 27) (qtk : H r0 0 = (tk : Int)) (gtk : T.2.2.2 tk = some 4) (qrb : H tk 0 = (rb : Int)) (grb : T.2.2.2 rb = some 2) (p0 : H r1 14 ≤ 5) : wpc kt 5 43 [.ref r0, .ref r1] T H (q_43 r0 r1 tk rb T H) := by
  refine wp_enter e43 (Nat.le_of_ble_eq_true rfl) rfl ?_
  have f0 : wfr [(27, 14), (3, 1), (3, 2), (3, 3), (3, 4), (4, 2), (4, 3), (4, 4), (4, 5), (4, 6), (34, 999)] T H H := wfr.rf
  show wp _ _ 43 0 [(0, .ref r0), (1, .ref r1)] [] _ H _
  refine wp_of e43 c43_0 (rw_aload_n (pc' := 1) (v := .ref r0) rfl rfl rfl ?_)
  refine wp_of e43 c43_1 (rw_aload_n (pc' := 2) (v := .ref r1) rfl rfl rfl ?_)
  refine wp_of e43 c43_2 (xc_V (pc' := 5) (r := r0) (as := [.ref r1]) (st := []) (lm_1_207) rfl rfl (Nat.le_of_ble_eq_true rfl) hW g0 sh_3 (by decide) rfl (by decide) (s_33 hW g0 g1 qtk gtk qrb grb) (fun R11444 T11445 H11446 p11447 => ?_))
  obtain ⟨e11448, w11450, f11451, z11452, e11449, b11453⟩ := p11447
  subst e11448
  subst e11449
  have f11454 := f0.tr f11451 rfl
  show wp _ _ 43 5 [(0, .ref r0), (1, .ref r1)] [vI z11452] _ H11446 _
  refine wp_of e43 c43_5 (rw_if_ge (p1 := 10) (p2 := 8) (by decide) rfl ⟨by omega, by omega⟩ (fun c11455 => ?_) (fun c11455 => ?_))
  · refine wp_of e43 c43_10 (rw_aload_n (pc' := 11) (v := .ref r0) rfl rfl rfl ?_)
    have k11456 : H11446 r0 0 = H r0 0 := (f11451 r0 0 _ g0 rfl)
    have q11457 : H11446 r0 0 = (tk : Int) := k11456.trans qtk
    refine wp_of e43 c43_11 (xg_K (pc' := 14) lf_1_12 w11450 g0 sh_3 (by decide) (by decide) rfl q11457 rfl ?_)
    have k11458 : H11446 tk 0 = H tk 0 := (f11451 tk 0 _ gtk rfl)
    have q11459 : H11446 tk 0 = (rb : Int) := k11458.trans qrb
    refine wp_of e43 c43_14 (xc_V (pc' := 17) (r := tk) (as := []) (st := []) (lm_1_74) rfl rfl (Nat.le_of_ble_eq_true rfl) w11450 gtk sh_4 (by decide) rfl (by decide) (s_16 w11450 gtk q11459 grb) (fun R11460 T11461 H11462 p11463 => ?_))
    obtain ⟨e11464, w11466, f11467, e11465⟩ := p11463
    subst e11464
    subst e11465
    have f11468 := f11454.tr f11467 rfl
    show wp _ _ 43 17 [(0, .ref r0), (1, .ref r1)] [] _ H11462 _
    refine wp_of e43 c43_17 (rw_aload_n (pc' := 18) (v := .ref r0) rfl rfl rfl ?_)
    refine wp_of e43 c43_18 (rw_bipush (pc' := 20) (z := 23) rfl (by decide) ?_)
    refine wp_of e43 c43_20 (rw_iconst (pc' := 21) rfl ?_)
    refine wp_of e43 c43_21 (rw_bipush (pc' := 23) (z := 24) rfl (by decide) ?_)
    refine wp_of e43 c43_23 (rw_bipush (pc' := 25) (z := 24) rfl (by decide) ?_)
    have k11469 : H11462 r0 0 = H11446 r0 0 := (f11467 r0 0 _ g0 rfl)
    have q11470 : H11462 r0 0 = (tk : Int) := k11469.trans q11457
    have k11471 : H11462 tk 0 = H11446 tk 0 := (f11467 tk 0 _ gtk rfl)
    have q11472 : H11462 tk 0 = (rb : Int) := k11471.trans q11459
    refine wp_of e43 c43_25 (xc_V (pc' := 28) (r := r0) (as := [vI 23, vI 1, vI 24, vI 24]) (st := []) (lm_1_154) rfl rfl (Nat.le_of_ble_eq_true rfl) w11466 g0 sh_3 (by decide) rfl (by decide) (s_29 w11466 g0 ⟨by omega, by omega⟩ ⟨by omega, by omega⟩ ⟨by omega, by omega⟩ ⟨by omega, by omega⟩ q11470 gtk q11472 grb) (fun R11473 T11474 H11475 p11476 => ?_))
    obtain ⟨e11477, w11479, f11480, z11481, e11478, b11482⟩ := p11476
    subst e11477
    subst e11478
    have f11483 := f11468.tr f11480 rfl
    show wp _ _ 43 28 [(0, .ref r0), (1, .ref r1)] [vI z11481] _ H11475 _
    refine wp_of e43 c43_28 (rw_if_ne (p1 := 33) (p2 := 31) (by decide) rfl ⟨by omega, by omega⟩ (fun c11484 => ?_) (fun c11484 => ?_))
    · refine wp_of e43 c43_33 (rw_aload_n (pc' := 34) (v := .ref r1) rfl rfl rfl ?_)
      refine wp_of e43 c43_34 (xg_R (pc' := 37) lf_1_251 w11479 g1 sh_27 (by decide) (by decide) ty_27_6 rfl rfl (fun r11485 q11486 g11487 => ?_))
      refine wp_of e43 c43_37 (rw_aload_n (pc' := 38) (v := .ref r1) rfl rfl rfl ?_)
      have k11488 : H11475 r1 14 = H r1 14 := ((f11480 r1 14 _ g1 rfl).trans ((f11467 r1 14 _ g1 rfl).trans (f11451 r1 14 _ g1 rfl)))
      refine wp_of e43 c43_38 (xg_I (pc' := 41) lf_1_254 w11479 g1 sh_27 (by decide) (by decide) ty_27_14 rfl rfl (fun b11489 b11490 => ?_))
      refine wp_of e43 c43_41 (rw_aload_n (pc' := 42) (v := .ref r0) rfl rfl rfl ?_)
      refine wp_of e43 c43_42 (xg_I (pc' := 45) lf_1_158 w11479 g0 sh_3 (by decide) (by decide) ty_3_1 rfl rfl (fun b11491 b11492 => ?_))
      refine wp_of e43 c43_45 (rw_aload_n (pc' := 46) (v := .ref r0) rfl rfl rfl ?_)
      refine wp_of e43 c43_46 (xg_I (pc' := 49) lf_1_164 w11479 g0 sh_3 (by decide) (by decide) ty_3_2 rfl rfl (fun b11493 b11494 => ?_))
      refine wp_of e43 c43_49 (xc_S (pc' := 52) (as := [vI (H11475 r0 1), vI (H11475 r0 2)]) (st := [vI (H11475 r1 14), .ref r11485]) (lm_1_194) rfl rfl (Nat.le_of_ble_eq_true rfl) rfl (by decide) (s_31 w11479 ⟨by omega, by omega⟩ ⟨by omega, by omega⟩) (fun R11495 T11496 H11497 p11498 => ?_))
      obtain ⟨e11499, e11501, z11502, e11500, b11503⟩ := p11498
      subst e11499
      subst e11500
      subst e11501
      show wp _ _ 43 52 [(0, .ref r0), (1, .ref r1)] [vI z11502, vI (H11475 r1 14), .ref r11485] _ H11475 _
      refine wp_of e43 c43_52 (xs_I (pc' := 53) w11479 g11487 (by decide) sh_34 (by decide) (ty_34 _) (by omega) (by omega) ⟨by omega, by omega⟩ (by omega) (by omega) rfl (fun H11504 e11505 w11506 => ?_))
      have f11507 := f11483.put' e11505 g11487 rfl
      refine wp_of e43 c43_53 (rw_aload_n (pc' := 54) (v := .ref r1) rfl rfl rfl ?_)
      refine wp_of e43 c43_54 (rw_dup (pc' := 55) rfl rfl ?_)
      have k11508 : H11504 r1 14 = H11475 r1 14 := (wq_u_t e11505 g11487 g1 rfl 14)
      refine wp_of e43 c43_55 (xg_I (pc' := 58) lf_1_254 w11506 g1 sh_27 (by decide) (by decide) ty_27_14 rfl rfl (fun b11509 b11510 => ?_))
      refine wp_of e43 c43_58 (rw_iconst (pc' := 59) rfl ?_)
      refine wp_of e43 c43_59 (rw_iadd (pc' := 60) rfl ?_)
      refine wp_of e43 c43_60 (xp_I (pc' := 63) lf_1_254 w11506 g1 sh_27 (by decide) (by decide) ty_27_14 rfl rfl (by omega) (by omega) ⟨by omega, by omega⟩ rfl (fun H11511 e11512 w11513 => ?_))
      have f11514 := f11507.put' e11512 g1 rfl
      have k11515 : H11511 r1 14 = (H11504 r1 14) + 1 := wq_u_s e11512
      refine wp_of e43 c43_63 (rw_iconst (pc' := 64) rfl ?_)
      exact wp_zreturn e43 c43_64 rfl (by omega) ⟨rfl, w11513, f11514, 1, rfl, ⟨by omega, by omega⟩⟩
    · refine wp_of e43 c43_31 (rw_iconst (pc' := 32) rfl ?_)
      exact wp_zreturn e43 c43_32 rfl (by omega) ⟨rfl, w11479, f11483, 0, rfl, ⟨by omega, by omega⟩⟩
  · refine wp_of e43 c43_8 (rw_iconst (pc' := 9) rfl ?_)
    exact wp_zreturn e43 c43_9 rfl (by omega) ⟨rfl, w11450, f11454, 0, rfl, ⟨by omega, by omega⟩⟩
/-! StrikeAwake$Reader.readsLine(LStrikeAwake$Parish;)Z -/
theorem e17 : wq_en 17 = some (1, 4, false, some FieldType.boolean) := rfl
theorem c17_0 : mc_cd 17 0 = some (.aload_n 0, 1) := by decide +kernel
theorem c17_1 : mc_cd 17 1 = some (.invokevirtual 54, 3) := by decide +kernel
theorem c17_4 : mc_cd 17 4 = some (.astore_n 2, 1) := by decide +kernel
theorem c17_5 : mc_cd 17 5 = some (.aload_n 2, 1) := by decide +kernel
theorem c17_6 : mc_cd 17 6 = some (.ifnull 10, 3) := by decide +kernel
theorem c17_9 : mc_cd 17 9 = some (.aload_n 2, 1) := by decide +kernel
theorem c17_10 : mc_cd 17 10 = some (.getfield 58, 3) := by decide +kernel
theorem c17_13 : mc_cd 17 13 = some (.ifCond .ne 9, 3) := by decide +kernel
theorem c17_16 : mc_cd 17 16 = some (.aload_n 0, 1) := by decide +kernel
theorem c17_17 : mc_cd 17 17 = some (.iconst 1, 1) := by decide +kernel
theorem c17_18 : mc_cd 17 18 = some (.invokevirtual 47, 3) := by decide +kernel
theorem c17_21 : mc_cd 17 21 = some (.ireturn, 1) := by decide +kernel
theorem c17_22 : mc_cd 17 22 = some (.aload_n 1, 1) := by decide +kernel
theorem c17_23 : mc_cd 17 23 = some (.aload_n 2, 1) := by decide +kernel
theorem c17_24 : mc_cd 17 24 = some (.invokevirtual 63, 3) := by decide +kernel
theorem c17_27 : mc_cd 17 27 = some (.aload_n 2, 1) := by decide +kernel
theorem c17_28 : mc_cd 17 28 = some (.getfield 58, 3) := by decide +kernel
theorem c17_31 : mc_cd 17 31 = some (.if_icmp .lt 37, 3) := by decide +kernel
theorem c17_34 : mc_cd 17 34 = some (.aload_n 2, 1) := by decide +kernel
theorem c17_35 : mc_cd 17 35 = some (.getstatic 67, 3) := by decide +kernel
theorem c17_38 : mc_cd 17 38 = some (.if_acmp .eq 10, 3) := by decide +kernel
theorem c17_41 : mc_cd 17 41 = some (.aload_n 2, 1) := by decide +kernel
theorem c17_42 : mc_cd 17 42 = some (.getstatic 71, 3) := by decide +kernel
theorem c17_45 : mc_cd 17 45 = some (.if_acmp .ne 7, 3) := by decide +kernel
theorem c17_48 : mc_cd 17 48 = some (.iconst 1, 1) := by decide +kernel
theorem c17_49 : mc_cd 17 49 = some (.goto 4, 3) := by decide +kernel
theorem c17_52 : mc_cd 17 52 = some (.iconst 0, 1) := by decide +kernel
theorem c17_53 : mc_cd 17 53 = some (.istore_n 3, 1) := by decide +kernel
theorem c17_54 : mc_cd 17 54 = some (.aload_n 0, 1) := by decide +kernel
theorem c17_55 : mc_cd 17 55 = some (.iload_n 3, 1) := by decide +kernel
theorem c17_56 : mc_cd 17 56 = some (.ifCond .eq 7, 3) := by decide +kernel
theorem c17_59 : mc_cd 17 59 = some (.iconst 3, 1) := by decide +kernel
theorem c17_60 : mc_cd 17 60 = some (.goto 4, 3) := by decide +kernel
theorem c17_63 : mc_cd 17 63 = some (.iconst 5, 1) := by decide +kernel
theorem c17_64 : mc_cd 17 64 = some (.invokevirtual 47, 3) := by decide +kernel
theorem c17_67 : mc_cd 17 67 = some (.ireturn, 1) := by decide +kernel
theorem c17_68 : mc_cd 17 68 = some (.aload_n 0, 1) := by decide +kernel
theorem c17_69 : mc_cd 17 69 = some (.getfield 12, 3) := by decide +kernel
theorem c17_72 : mc_cd 17 72 = some (.invokevirtual 74, 3) := by decide +kernel
theorem c17_75 : mc_cd 17 75 = some (.getstatic 77, 3) := by decide +kernel
theorem c17_78 : mc_cd 17 78 = some (.aload_n 2, 1) := by decide +kernel
theorem c17_79 : mc_cd 17 79 = some (.invokevirtual 83, 3) := by decide +kernel
theorem c17_82 : mc_cd 17 82 = some (.iaload, 1) := by decide +kernel
theorem c17_83 : mc_cd 17 83 = some (.tableswitch 109 1 8 #[45, 51, 73, 79, 85, 91, 97, 103], 45) := by decide +kernel
theorem c17_128 : mc_cd 17 128 = some (.aload_n 0, 1) := by decide +kernel
theorem c17_129 : mc_cd 17 129 = some (.aload_n 1, 1) := by decide +kernel
theorem c17_130 : mc_cd 17 130 = some (.invokevirtual 87, 3) := by decide +kernel
theorem c17_133 : mc_cd 17 133 = some (.ireturn, 1) := by decide +kernel
theorem c17_134 : mc_cd 17 134 = some (.aload_n 0, 1) := by decide +kernel
theorem c17_135 : mc_cd 17 135 = some (.aload_n 1, 1) := by decide +kernel
theorem c17_136 : mc_cd 17 136 = some (.invokevirtual 90, 3) := by decide +kernel
theorem c17_139 : mc_cd 17 139 = some (.ifCond .eq 15, 3) := by decide +kernel
theorem c17_142 : mc_cd 17 142 = some (.aload_n 0, 1) := by decide +kernel
theorem c17_143 : mc_cd 17 143 = some (.aload_n 1, 1) := by decide +kernel
theorem c17_144 : mc_cd 17 144 = some (.invokevirtual 93, 3) := by decide +kernel
theorem c17_147 : mc_cd 17 147 = some (.ifCond .eq 7, 3) := by decide +kernel
theorem c17_150 : mc_cd 17 150 = some (.iconst 1, 1) := by decide +kernel
theorem c17_151 : mc_cd 17 151 = some (.goto 4, 3) := by decide +kernel
theorem c17_154 : mc_cd 17 154 = some (.iconst 0, 1) := by decide +kernel
theorem c17_155 : mc_cd 17 155 = some (.ireturn, 1) := by decide +kernel
theorem c17_156 : mc_cd 17 156 = some (.aload_n 0, 1) := by decide +kernel
theorem c17_157 : mc_cd 17 157 = some (.aload_n 1, 1) := by decide +kernel
theorem c17_158 : mc_cd 17 158 = some (.invokevirtual 96, 3) := by decide +kernel
theorem c17_161 : mc_cd 17 161 = some (.ireturn, 1) := by decide +kernel
theorem c17_162 : mc_cd 17 162 = some (.aload_n 0, 1) := by decide +kernel
theorem c17_163 : mc_cd 17 163 = some (.aload_n 1, 1) := by decide +kernel
theorem c17_164 : mc_cd 17 164 = some (.invokevirtual 99, 3) := by decide +kernel
theorem c17_167 : mc_cd 17 167 = some (.ireturn, 1) := by decide +kernel
theorem c17_168 : mc_cd 17 168 = some (.aload_n 0, 1) := by decide +kernel
theorem c17_169 : mc_cd 17 169 = some (.aload_n 1, 1) := by decide +kernel
theorem c17_170 : mc_cd 17 170 = some (.invokevirtual 102, 3) := by decide +kernel
theorem c17_173 : mc_cd 17 173 = some (.ireturn, 1) := by decide +kernel
theorem c17_174 : mc_cd 17 174 = some (.aload_n 0, 1) := by decide +kernel
theorem c17_175 : mc_cd 17 175 = some (.aload_n 1, 1) := by decide +kernel
theorem c17_176 : mc_cd 17 176 = some (.invokevirtual 105, 3) := by decide +kernel
theorem c17_179 : mc_cd 17 179 = some (.ireturn, 1) := by decide +kernel
theorem c17_180 : mc_cd 17 180 = some (.aload_n 0, 1) := by decide +kernel
theorem c17_181 : mc_cd 17 181 = some (.aload_n 1, 1) := by decide +kernel
theorem c17_182 : mc_cd 17 182 = some (.invokevirtual 108, 3) := by decide +kernel
theorem c17_185 : mc_cd 17 185 = some (.ireturn, 1) := by decide +kernel
theorem c17_186 : mc_cd 17 186 = some (.aload_n 0, 1) := by decide +kernel
theorem c17_187 : mc_cd 17 187 = some (.aload_n 1, 1) := by decide +kernel
theorem c17_188 : mc_cd 17 188 = some (.invokevirtual 111, 3) := by decide +kernel
theorem c17_191 : mc_cd 17 191 = some (.ireturn, 1) := by decide +kernel
theorem c17_192 : mc_cd 17 192 = some (.aload_n 0, 1) := by decide +kernel
theorem c17_193 : mc_cd 17 193 = some (.iconst 1, 1) := by decide +kernel
theorem c17_194 : mc_cd 17 194 = some (.invokevirtual 47, 3) := by decide +kernel
theorem c17_197 : mc_cd 17 197 = some (.ireturn, 1) := by decide +kernel
abbrev q_17 (r0 : Nat) (r1 : Nat) (tk : Nat) (rb : Nat) (T : wq_T) (H : wq_H) : Option Value → wq_T → wq_H → Prop := fun r T' H' => T = T' ∧ WT T H' ∧ wfr [(27, 7), (27, 8), (27, 9), (27, 10), (27, 11), (27, 12), (27, 13), (27, 14), (27, 15), (27, 16), (35, 6), (35, 7), (35, 8), (35, 9), (35, 10), (35, 11), (35, 12), (35, 13), (35, 14), (35, 15), (35, 16), (35, 17), (3, 1), (3, 2), (3, 3), (3, 4), (4, 2), (4, 3), (4, 4), (4, 5), (4, 6), (31, 999), (34, 999), (29, 999), (30, 999), (33, 999), (32, 999)] T H H' ∧ ∃ z : Int, some (vI z) = r ∧ (0 ≤ z ∧ z ≤ 1)
set_option maxHeartbeats 4000000 in
theorem s_17 {kt : Nat → Option mc_E} {T : wq_T} {H : wq_H} {r0 : Nat} {r1 : Nat} {tk : Nat} {rb : Nat} (hW : WT T H) (g0 : T.2.2.2 r0 = some 3) (g1 : T.2.2.2 r1 = some 27) (qtk : H r0 0 = (tk : Int)) (gtk : T.2.2.2 tk = some 4) (qrb : H tk 0 = (rb : Int)) (grb : T.2.2.2 rb = some 2) : wpc kt 6 17 [.ref r0, .ref r1] T H (q_17 r0 r1 tk rb T H) := by
  refine wp_enter e17 (Nat.le_of_ble_eq_true rfl) rfl ?_
  have f0 : wfr [(27, 7), (27, 8), (27, 9), (27, 10), (27, 11), (27, 12), (27, 13), (27, 14), (27, 15), (27, 16), (35, 6), (35, 7), (35, 8), (35, 9), (35, 10), (35, 11), (35, 12), (35, 13), (35, 14), (35, 15), (35, 16), (35, 17), (3, 1), (3, 2), (3, 3), (3, 4), (4, 2), (4, 3), (4, 4), (4, 5), (4, 6), (31, 999), (34, 999), (29, 999), (30, 999), (33, 999), (32, 999)] T H H := wfr.rf
  show wp _ _ 17 0 [(0, .ref r0), (1, .ref r1)] [] _ H _
  refine wp_of e17 c17_0 (rw_aload_n (pc' := 1) (v := .ref r0) rfl rfl rfl ?_)
  refine wp_of e17 c17_1 (xc_V (pc' := 4) (r := r0) (as := []) (st := []) (lm_1_54) rfl rfl (Nat.le_of_ble_eq_true rfl) hW g0 sh_3 (by decide) rfl (by decide) (s_18 hW g0) (fun R12013 T12014 H12015 p12016 => ?_))
  obtain ⟨e12017, e12019, e12018⟩ := p12016
  subst e12017
  subst e12019
  rcases e12018 with e12018 | ⟨r12020, e12018, b12021, b12022⟩
  · subst e12018
    show wp _ _ 17 4 [(0, .ref r0), (1, .ref r1)] [.null] _ H _
    refine wp_of e17 c17_4 (rw_astore_n (pc' := 5) (v := .null) (L' := [(2, .null), (0, .ref r0), (1, .ref r1)]) rfl rfl rfl rfl ?_)
    refine wp_of e17 c17_5 (rw_aload_n (pc' := 6) (v := .null) rfl rfl rfl ?_)
    refine wp_of e17 c17_6 (rw_ifnull_n (p1 := 16) (p2 := 9) (by decide) rfl ?_)
    refine wp_of e17 c17_16 (rw_aload_n (pc' := 17) (v := .ref r0) rfl rfl rfl ?_)
    refine wp_of e17 c17_17 (rw_iconst (pc' := 18) rfl ?_)
    refine wp_of e17 c17_18 (xc_V (pc' := 21) (r := r0) (as := [vI 1]) (st := []) (lm_1_47) rfl rfl (Nat.le_of_ble_eq_true rfl) hW g0 sh_3 (by decide) rfl (by decide) (s_20 hW g0 ⟨by omega, by omega⟩) (fun R12023 T12024 H12025 p12026 => ?_))
    obtain ⟨e12027, w12029, f12030, z12031, e12028, b12032⟩ := p12026
    subst e12027
    subst e12028
    have f12033 := f0.tr f12030 rfl
    show wp _ _ 17 21 [(2, .null), (0, .ref r0), (1, .ref r1)] [vI z12031] _ H12025 _
    exact wp_zreturn e17 c17_21 rfl (by omega) ⟨rfl, w12029, f12033, z12031, rfl, ⟨by omega, by omega⟩⟩
  · subst e12018
    have c12034 : r12020 = 16 ∨ r12020 = 17 ∨ r12020 = 18 ∨ r12020 = 19 ∨ r12020 = 20 ∨ r12020 = 21 ∨ r12020 = 22 ∨ r12020 = 23 ∨ r12020 = 24 ∨ r12020 = 25 ∨ r12020 = 26 := by omega
    rcases c12034 with c12034 | c12034 | c12034 | c12034 | c12034 | c12034 | c12034 | c12034 | c12034 | c12034 | c12034
    · subst c12034
      show wp _ _ 17 4 [(0, .ref r0), (1, .ref r1)] [.ref 16] _ H _
      refine wp_of e17 c17_4 (rw_astore_n (pc' := 5) (v := .ref 16) (L' := [(2, .ref 16), (0, .ref r0), (1, .ref r1)]) rfl rfl rfl rfl ?_)
      refine wp_of e17 c17_5 (rw_aload_n (pc' := 6) (v := .ref 16) rfl rfl rfl ?_)
      refine wp_of e17 c17_6 (rw_ifnull_r (p1 := 16) (p2 := 9) (by decide) rfl ?_)
      refine wp_of e17 c17_9 (rw_aload_n (pc' := 10) (v := .ref 16) rfl rfl rfl ?_)
      have k12035 : H 16 1 = 1 := (hW.2 16 _ (hW.1.2.2 0 (by decide))).2.2 1 (by decide) |> fun z => by have z1 : (1 : Int) ≤ H 16 1 ∧ H 16 1 ≤ 1 := z; omega
      refine wp_of e17 c17_10 (rw_getI (pc' := 13) (n := 2) (e := _) (lf_1_58).choose_spec.1 (lf_1_58).choose_spec.2.1 (hW.sh (hW.1.2.2 0 (by decide)) rfl) (by decide) rfl rfl ?_)
      rw [k12035]
      refine wp_of e17 c17_13 (rw_if_ne (p1 := 22) (p2 := 16) (by decide) rfl ⟨by omega, by omega⟩ (fun c12036 => ?_) (fun c12036 => ?_))
      · refine wp_of e17 c17_22 (rw_aload_n (pc' := 23) (v := .ref r1) rfl rfl rfl ?_)
        refine wp_of e17 c17_23 (rw_aload_n (pc' := 24) (v := .ref 16) rfl rfl rfl ?_)
        refine wp_of e17 c17_24 (xc_V (pc' := 27) (r := r1) (as := [.ref 16]) (st := []) (lm_1_63) rfl rfl (Nat.le_of_ble_eq_true rfl) hW g1 sh_27 (by decide) rfl (by decide) (s_21_16 hW g1) (fun R12037 T12038 H12039 p12040 => ?_))
        obtain ⟨e12041, e12043, z12045, e12042, b12046, p12044⟩ := p12040
        subst e12041
        subst e12042
        subst e12043
        show wp _ _ 17 27 [(2, .ref 16), (0, .ref r0), (1, .ref r1)] [vI z12045] _ H _
        refine wp_of e17 c17_27 (rw_aload_n (pc' := 28) (v := .ref 16) rfl rfl rfl ?_)
        have k12047 : H 16 1 = 1 := (hW.2 16 _ (hW.1.2.2 0 (by decide))).2.2 1 (by decide) |> fun z => by have z1 : (1 : Int) ≤ H 16 1 ∧ H 16 1 ≤ 1 := z; omega
        refine wp_of e17 c17_28 (rw_getI (pc' := 31) (n := 2) (e := _) (lf_1_58).choose_spec.1 (lf_1_58).choose_spec.2.1 (hW.sh (hW.1.2.2 0 (by decide)) rfl) (by decide) rfl rfl ?_)
        rw [k12047]
        refine wp_of e17 c17_31 (rw_icmp_lt (p1 := 68) (p2 := 34) (by decide) rfl ⟨by omega, by omega⟩ ⟨by omega, by omega⟩ (fun c12048 => ?_) (fun c12048 => ?_))
        · refine wp_of e17 c17_68 (rw_aload_n (pc' := 69) (v := .ref r0) rfl rfl rfl ?_)
          refine wp_of e17 c17_69 (xg_K (pc' := 72) lf_1_12 hW g0 sh_3 (by decide) (by decide) rfl qtk rfl ?_)
          refine wp_of e17 c17_72 (xc_V (pc' := 75) (r := tk) (as := []) (st := []) (lm_1_74) rfl rfl (Nat.le_of_ble_eq_true rfl) hW gtk sh_4 (by decide) rfl (by decide) (s_16 hW gtk qrb grb) (fun R12049 T12050 H12051 p12052 => ?_))
          obtain ⟨e12053, w12055, f12056, e12054⟩ := p12052
          subst e12053
          subst e12054
          have f12057 := f0.tr f12056 rfl
          show wp _ _ 17 75 [(2, .ref 16), (0, .ref r0), (1, .ref r1)] [] _ H12051 _
          refine wp_of e17 c17_75 (rw_gs (pc' := 78) (k := 2) rfl rfl rfl rfl ?_)
          refine wp_of e17 c17_78 (rw_aload_n (pc' := 79) (v := .ref 16) rfl rfl rfl ?_)
          refine wp_of e17 c17_79 (rw_ord (pc' := 82) rfl rfl rfl (by decide) (Nat.le_of_ble_eq_true rfl) rfl ?_)
          show wp _ _ 17 82 [(2, .ref 16), (0, .ref r0), (1, .ref r1)] [vI 0, .ref 2] _ H12051 _
          have k12058 : H12051 2 (0 : Int).toNat = 1 := (w12055.2 2 _ w12055.1.2.1).2.2 0 (by decide) |> fun z => by have z1 : (1 : Int) ≤ H12051 2 0 ∧ H12051 2 0 ≤ 1 := z; exact Int.le_antisymm z1.2 z1.1
          refine wp_of e17 c17_82 (rw_iaload (pc' := 83) (n := 11) (w12055.sh w12055.1.2.1 rfl) (by decide) (by decide) (by decide) rfl rfl ?_)
          rw [k12058]
          refine wp_of e17 c17_83 (rw_tsw (p1 := 128) ⟨by omega, by omega⟩ (by decide) ?_)
          refine wp_of e17 c17_128 (rw_aload_n (pc' := 129) (v := .ref r0) rfl rfl rfl ?_)
          refine wp_of e17 c17_129 (rw_aload_n (pc' := 130) (v := .ref r1) rfl rfl rfl ?_)
          have k12060 : H12051 r0 0 = H r0 0 := (f12056 r0 0 _ g0 rfl)
          have q12061 : H12051 r0 0 = (tk : Int) := k12060.trans qtk
          have k12062 : H12051 tk 0 = H tk 0 := (f12056 tk 0 _ gtk rfl)
          have q12063 : H12051 tk 0 = (rb : Int) := k12062.trans qrb
          refine wp_of e17 c17_130 (xc_V (pc' := 133) (r := r0) (as := [.ref r1]) (st := []) (lm_1_87) rfl rfl (Nat.le_of_ble_eq_true rfl) w12055 g0 sh_3 (by decide) rfl (by decide) (s_22 w12055 g0 g1 q12061 gtk q12063 grb) (fun R12064 T12065 H12066 p12067 => ?_))
          obtain ⟨e12068, w12070, f12071, z12072, e12069, b12073⟩ := p12067
          subst e12068
          subst e12069
          have f12074 := f12057.tr f12071 rfl
          show wp _ _ 17 133 [(2, .ref 16), (0, .ref r0), (1, .ref r1)] [vI z12072] _ H12066 _
          exact wp_zreturn e17 c17_133 rfl (by omega) ⟨rfl, w12070, f12074, z12072, rfl, ⟨by omega, by omega⟩⟩
        · refine wp_of e17 c17_34 (rw_aload_n (pc' := 35) (v := .ref 16) rfl rfl rfl ?_)
          refine wp_of e17 c17_35 (rw_gs (pc' := 38) (k := 16) rfl rfl rfl rfl ?_)
          refine wp_of e17 c17_38 (rw_acmp_eq (p1 := 48) (p2 := 41) (a := some 16) (b := some 16) rfl rfl (by decide) rfl (fun q => ?_) (fun q => absurd q (by decide)))
          refine wp_of e17 c17_48 (rw_iconst (pc' := 49) rfl ?_)
          refine wp_of e17 c17_49 (rw_goto (p1 := 53) (by decide) ?_)
          refine wp_of e17 c17_53 (rw_istore_n (pc' := 54) (z := 1) (L' := [(3, vI 1), (2, .ref 16), (0, .ref r0), (1, .ref r1)]) rfl rfl rfl ?_)
          refine wp_of e17 c17_54 (rw_aload_n (pc' := 55) (v := .ref r0) rfl rfl rfl ?_)
          refine wp_of e17 c17_55 (rw_iload_n (pc' := 56) (z := 1) rfl rfl ?_)
          refine wp_of e17 c17_56 (rw_if_eq (p1 := 63) (p2 := 59) (by decide) rfl ⟨by omega, by omega⟩ (fun c12075 => ?_) (fun c12075 => ?_))
          · exfalso
            omega
          · refine wp_of e17 c17_59 (rw_iconst (pc' := 60) rfl ?_)
            refine wp_of e17 c17_60 (rw_goto (p1 := 64) (by decide) ?_)
            refine wp_of e17 c17_64 (xc_V (pc' := 67) (r := r0) (as := [vI 3]) (st := []) (lm_1_47) rfl rfl (Nat.le_of_ble_eq_true rfl) hW g0 sh_3 (by decide) rfl (by decide) (s_20 hW g0 ⟨by omega, by omega⟩) (fun R12076 T12077 H12078 p12079 => ?_))
            obtain ⟨e12080, w12082, f12083, z12084, e12081, b12085⟩ := p12079
            subst e12080
            subst e12081
            have f12086 := f0.tr f12083 rfl
            show wp _ _ 17 67 [(3, vI 1), (2, .ref 16), (0, .ref r0), (1, .ref r1)] [vI z12084] _ H12078 _
            exact wp_zreturn e17 c17_67 rfl (by omega) ⟨rfl, w12082, f12086, z12084, rfl, ⟨by omega, by omega⟩⟩
      · exfalso
        omega
    · subst c12034
      show wp _ _ 17 4 [(0, .ref r0), (1, .ref r1)] [.ref 17] _ H _
      refine wp_of e17 c17_4 (rw_astore_n (pc' := 5) (v := .ref 17) (L' := [(2, .ref 17), (0, .ref r0), (1, .ref r1)]) rfl rfl rfl rfl ?_)
      refine wp_of e17 c17_5 (rw_aload_n (pc' := 6) (v := .ref 17) rfl rfl rfl ?_)
      refine wp_of e17 c17_6 (rw_ifnull_r (p1 := 16) (p2 := 9) (by decide) rfl ?_)
      refine wp_of e17 c17_9 (rw_aload_n (pc' := 10) (v := .ref 17) rfl rfl rfl ?_)
      have k12087 : H 17 1 = 6 := (hW.2 17 _ (hW.1.2.2 1 (by decide))).2.2 1 (by decide) |> fun z => by have z1 : (6 : Int) ≤ H 17 1 ∧ H 17 1 ≤ 6 := z; omega
      refine wp_of e17 c17_10 (rw_getI (pc' := 13) (n := 2) (e := _) (lf_1_58).choose_spec.1 (lf_1_58).choose_spec.2.1 (hW.sh (hW.1.2.2 1 (by decide)) rfl) (by decide) rfl rfl ?_)
      rw [k12087]
      refine wp_of e17 c17_13 (rw_if_ne (p1 := 22) (p2 := 16) (by decide) rfl ⟨by omega, by omega⟩ (fun c12088 => ?_) (fun c12088 => ?_))
      · refine wp_of e17 c17_22 (rw_aload_n (pc' := 23) (v := .ref r1) rfl rfl rfl ?_)
        refine wp_of e17 c17_23 (rw_aload_n (pc' := 24) (v := .ref 17) rfl rfl rfl ?_)
        refine wp_of e17 c17_24 (xc_V (pc' := 27) (r := r1) (as := [.ref 17]) (st := []) (lm_1_63) rfl rfl (Nat.le_of_ble_eq_true rfl) hW g1 sh_27 (by decide) rfl (by decide) (s_21_17 hW g1) (fun R12089 T12090 H12091 p12092 => ?_))
        obtain ⟨e12093, e12095, z12097, e12094, b12098, p12096⟩ := p12092
        subst e12093
        subst e12094
        subst e12095
        show wp _ _ 17 27 [(2, .ref 17), (0, .ref r0), (1, .ref r1)] [vI z12097] _ H _
        refine wp_of e17 c17_27 (rw_aload_n (pc' := 28) (v := .ref 17) rfl rfl rfl ?_)
        have k12099 : H 17 1 = 6 := (hW.2 17 _ (hW.1.2.2 1 (by decide))).2.2 1 (by decide) |> fun z => by have z1 : (6 : Int) ≤ H 17 1 ∧ H 17 1 ≤ 6 := z; omega
        refine wp_of e17 c17_28 (rw_getI (pc' := 31) (n := 2) (e := _) (lf_1_58).choose_spec.1 (lf_1_58).choose_spec.2.1 (hW.sh (hW.1.2.2 1 (by decide)) rfl) (by decide) rfl rfl ?_)
        rw [k12099]
        refine wp_of e17 c17_31 (rw_icmp_lt (p1 := 68) (p2 := 34) (by decide) rfl ⟨by omega, by omega⟩ ⟨by omega, by omega⟩ (fun c12100 => ?_) (fun c12100 => ?_))
        · refine wp_of e17 c17_68 (rw_aload_n (pc' := 69) (v := .ref r0) rfl rfl rfl ?_)
          refine wp_of e17 c17_69 (xg_K (pc' := 72) lf_1_12 hW g0 sh_3 (by decide) (by decide) rfl qtk rfl ?_)
          refine wp_of e17 c17_72 (xc_V (pc' := 75) (r := tk) (as := []) (st := []) (lm_1_74) rfl rfl (Nat.le_of_ble_eq_true rfl) hW gtk sh_4 (by decide) rfl (by decide) (s_16 hW gtk qrb grb) (fun R12101 T12102 H12103 p12104 => ?_))
          obtain ⟨e12105, w12107, f12108, e12106⟩ := p12104
          subst e12105
          subst e12106
          have f12109 := f0.tr f12108 rfl
          show wp _ _ 17 75 [(2, .ref 17), (0, .ref r0), (1, .ref r1)] [] _ H12103 _
          refine wp_of e17 c17_75 (rw_gs (pc' := 78) (k := 2) rfl rfl rfl rfl ?_)
          refine wp_of e17 c17_78 (rw_aload_n (pc' := 79) (v := .ref 17) rfl rfl rfl ?_)
          refine wp_of e17 c17_79 (rw_ord (pc' := 82) rfl rfl rfl (by decide) (Nat.le_of_ble_eq_true rfl) rfl ?_)
          show wp _ _ 17 82 [(2, .ref 17), (0, .ref r0), (1, .ref r1)] [vI 1, .ref 2] _ H12103 _
          have k12110 : H12103 2 (1 : Int).toNat = 2 := (w12107.2 2 _ w12107.1.2.1).2.2 1 (by decide) |> fun z => by have z1 : (2 : Int) ≤ H12103 2 1 ∧ H12103 2 1 ≤ 2 := z; exact Int.le_antisymm z1.2 z1.1
          refine wp_of e17 c17_82 (rw_iaload (pc' := 83) (n := 11) (w12107.sh w12107.1.2.1 rfl) (by decide) (by decide) (by decide) rfl rfl ?_)
          rw [k12110]
          refine wp_of e17 c17_83 (rw_tsw (p1 := 134) ⟨by omega, by omega⟩ (by decide) ?_)
          refine wp_of e17 c17_134 (rw_aload_n (pc' := 135) (v := .ref r0) rfl rfl rfl ?_)
          refine wp_of e17 c17_135 (rw_aload_n (pc' := 136) (v := .ref r1) rfl rfl rfl ?_)
          have k12112 : H12103 r1 10 = H r1 10 := (f12108 r1 10 _ g1 rfl)
          have k12113 : H12103 r0 0 = H r0 0 := (f12108 r0 0 _ g0 rfl)
          have q12114 : H12103 r0 0 = (tk : Int) := k12113.trans qtk
          have k12115 : H12103 tk 0 = H tk 0 := (f12108 tk 0 _ gtk rfl)
          have q12116 : H12103 tk 0 = (rb : Int) := k12115.trans qrb
          refine wp_of e17 c17_136 (xc_V (pc' := 139) (r := r0) (as := [.ref r1]) (st := []) (lm_1_90) rfl rfl (Nat.le_of_ble_eq_true rfl) w12107 g0 sh_3 (by decide) rfl (by decide) (s_25 w12107 g0 g1 q12114 gtk q12116 grb (by omega)) (fun R12117 T12118 H12119 p12120 => ?_))
          obtain ⟨e12121, w12123, f12124, z12125, e12122, b12126⟩ := p12120
          subst e12121
          subst e12122
          have f12127 := f12109.tr f12124 rfl
          show wp _ _ 17 139 [(2, .ref 17), (0, .ref r0), (1, .ref r1)] [vI z12125] _ H12119 _
          refine wp_of e17 c17_139 (rw_if_eq (p1 := 154) (p2 := 142) (by decide) rfl ⟨by omega, by omega⟩ (fun c12128 => ?_) (fun c12128 => ?_))
          · refine wp_of e17 c17_154 (rw_iconst (pc' := 155) rfl ?_)
            exact wp_zreturn e17 c17_155 rfl (by omega) ⟨rfl, w12123, f12127, 0, rfl, ⟨by omega, by omega⟩⟩
          · refine wp_of e17 c17_142 (rw_aload_n (pc' := 143) (v := .ref r0) rfl rfl rfl ?_)
            refine wp_of e17 c17_143 (rw_aload_n (pc' := 144) (v := .ref r1) rfl rfl rfl ?_)
            have k12129 : H12119 r1 10 = H12103 r1 10 := (f12124 r1 10 _ g1 rfl)
            have k12130 : H12119 r0 0 = H12103 r0 0 := (f12124 r0 0 _ g0 rfl)
            have q12131 : H12119 r0 0 = (tk : Int) := k12130.trans q12114
            have k12132 : H12119 tk 0 = H12103 tk 0 := (f12124 tk 0 _ gtk rfl)
            have q12133 : H12119 tk 0 = (rb : Int) := k12132.trans q12116
            refine wp_of e17 c17_144 (xc_V (pc' := 147) (r := r0) (as := [.ref r1]) (st := []) (lm_1_93) rfl rfl (Nat.le_of_ble_eq_true rfl) w12123 g0 sh_3 (by decide) rfl (by decide) (s_30 w12123 g0 g1 q12131 gtk q12133 grb (by omega)) (fun R12134 T12135 H12136 p12137 => ?_))
            obtain ⟨e12138, w12140, f12141, z12142, e12139, b12143⟩ := p12137
            subst e12138
            subst e12139
            have f12144 := f12127.tr f12141 rfl
            show wp _ _ 17 147 [(2, .ref 17), (0, .ref r0), (1, .ref r1)] [vI z12142] _ H12136 _
            refine wp_of e17 c17_147 (rw_if_eq (p1 := 154) (p2 := 150) (by decide) rfl ⟨by omega, by omega⟩ (fun c12145 => ?_) (fun c12145 => ?_))
            · refine wp_of e17 c17_154 (rw_iconst (pc' := 155) rfl ?_)
              exact wp_zreturn e17 c17_155 rfl (by omega) ⟨rfl, w12140, f12144, 0, rfl, ⟨by omega, by omega⟩⟩
            · refine wp_of e17 c17_150 (rw_iconst (pc' := 151) rfl ?_)
              refine wp_of e17 c17_151 (rw_goto (p1 := 155) (by decide) ?_)
              exact wp_zreturn e17 c17_155 rfl (by omega) ⟨rfl, w12140, f12144, 1, rfl, ⟨by omega, by omega⟩⟩
        · refine wp_of e17 c17_34 (rw_aload_n (pc' := 35) (v := .ref 17) rfl rfl rfl ?_)
          refine wp_of e17 c17_35 (rw_gs (pc' := 38) (k := 16) rfl rfl rfl rfl ?_)
          refine wp_of e17 c17_38 (rw_acmp_eq (p1 := 48) (p2 := 41) (a := some 17) (b := some 16) rfl rfl (by decide) rfl (fun q => absurd q (by decide)) (fun q => ?_))
          refine wp_of e17 c17_41 (rw_aload_n (pc' := 42) (v := .ref 17) rfl rfl rfl ?_)
          refine wp_of e17 c17_42 (rw_gs (pc' := 45) (k := 18) rfl rfl rfl rfl ?_)
          refine wp_of e17 c17_45 (rw_acmp_ne (p1 := 52) (p2 := 48) (a := some 17) (b := some 18) rfl rfl (by decide) rfl (fun q => ?_) (fun q => absurd q (by decide)))
          refine wp_of e17 c17_52 (rw_iconst (pc' := 53) rfl ?_)
          refine wp_of e17 c17_53 (rw_istore_n (pc' := 54) (z := 0) (L' := [(3, vI 0), (2, .ref 17), (0, .ref r0), (1, .ref r1)]) rfl rfl rfl ?_)
          refine wp_of e17 c17_54 (rw_aload_n (pc' := 55) (v := .ref r0) rfl rfl rfl ?_)
          refine wp_of e17 c17_55 (rw_iload_n (pc' := 56) (z := 0) rfl rfl ?_)
          refine wp_of e17 c17_56 (rw_if_eq (p1 := 63) (p2 := 59) (by decide) rfl ⟨by omega, by omega⟩ (fun c12146 => ?_) (fun c12146 => ?_))
          · refine wp_of e17 c17_63 (rw_iconst (pc' := 64) rfl ?_)
            refine wp_of e17 c17_64 (xc_V (pc' := 67) (r := r0) (as := [vI 5]) (st := []) (lm_1_47) rfl rfl (Nat.le_of_ble_eq_true rfl) hW g0 sh_3 (by decide) rfl (by decide) (s_20 hW g0 ⟨by omega, by omega⟩) (fun R12147 T12148 H12149 p12150 => ?_))
            obtain ⟨e12151, w12153, f12154, z12155, e12152, b12156⟩ := p12150
            subst e12151
            subst e12152
            have f12157 := f0.tr f12154 rfl
            show wp _ _ 17 67 [(3, vI 0), (2, .ref 17), (0, .ref r0), (1, .ref r1)] [vI z12155] _ H12149 _
            exact wp_zreturn e17 c17_67 rfl (by omega) ⟨rfl, w12153, f12157, z12155, rfl, ⟨by omega, by omega⟩⟩
          · exfalso
            omega
      · exfalso
        omega
    · subst c12034
      show wp _ _ 17 4 [(0, .ref r0), (1, .ref r1)] [.ref 18] _ H _
      refine wp_of e17 c17_4 (rw_astore_n (pc' := 5) (v := .ref 18) (L' := [(2, .ref 18), (0, .ref r0), (1, .ref r1)]) rfl rfl rfl rfl ?_)
      refine wp_of e17 c17_5 (rw_aload_n (pc' := 6) (v := .ref 18) rfl rfl rfl ?_)
      refine wp_of e17 c17_6 (rw_ifnull_r (p1 := 16) (p2 := 9) (by decide) rfl ?_)
      refine wp_of e17 c17_9 (rw_aload_n (pc' := 10) (v := .ref 18) rfl rfl rfl ?_)
      have k12158 : H 18 1 = 1 := (hW.2 18 _ (hW.1.2.2 2 (by decide))).2.2 1 (by decide) |> fun z => by have z1 : (1 : Int) ≤ H 18 1 ∧ H 18 1 ≤ 1 := z; omega
      refine wp_of e17 c17_10 (rw_getI (pc' := 13) (n := 2) (e := _) (lf_1_58).choose_spec.1 (lf_1_58).choose_spec.2.1 (hW.sh (hW.1.2.2 2 (by decide)) rfl) (by decide) rfl rfl ?_)
      rw [k12158]
      refine wp_of e17 c17_13 (rw_if_ne (p1 := 22) (p2 := 16) (by decide) rfl ⟨by omega, by omega⟩ (fun c12159 => ?_) (fun c12159 => ?_))
      · refine wp_of e17 c17_22 (rw_aload_n (pc' := 23) (v := .ref r1) rfl rfl rfl ?_)
        refine wp_of e17 c17_23 (rw_aload_n (pc' := 24) (v := .ref 18) rfl rfl rfl ?_)
        refine wp_of e17 c17_24 (xc_V (pc' := 27) (r := r1) (as := [.ref 18]) (st := []) (lm_1_63) rfl rfl (Nat.le_of_ble_eq_true rfl) hW g1 sh_27 (by decide) rfl (by decide) (s_21_18 hW g1) (fun R12160 T12161 H12162 p12163 => ?_))
        obtain ⟨e12164, e12166, z12168, e12165, b12169, p12167⟩ := p12163
        subst e12164
        subst e12165
        subst e12166
        show wp _ _ 17 27 [(2, .ref 18), (0, .ref r0), (1, .ref r1)] [vI z12168] _ H _
        refine wp_of e17 c17_27 (rw_aload_n (pc' := 28) (v := .ref 18) rfl rfl rfl ?_)
        have k12170 : H 18 1 = 1 := (hW.2 18 _ (hW.1.2.2 2 (by decide))).2.2 1 (by decide) |> fun z => by have z1 : (1 : Int) ≤ H 18 1 ∧ H 18 1 ≤ 1 := z; omega
        refine wp_of e17 c17_28 (rw_getI (pc' := 31) (n := 2) (e := _) (lf_1_58).choose_spec.1 (lf_1_58).choose_spec.2.1 (hW.sh (hW.1.2.2 2 (by decide)) rfl) (by decide) rfl rfl ?_)
        rw [k12170]
        refine wp_of e17 c17_31 (rw_icmp_lt (p1 := 68) (p2 := 34) (by decide) rfl ⟨by omega, by omega⟩ ⟨by omega, by omega⟩ (fun c12171 => ?_) (fun c12171 => ?_))
        · refine wp_of e17 c17_68 (rw_aload_n (pc' := 69) (v := .ref r0) rfl rfl rfl ?_)
          refine wp_of e17 c17_69 (xg_K (pc' := 72) lf_1_12 hW g0 sh_3 (by decide) (by decide) rfl qtk rfl ?_)
          refine wp_of e17 c17_72 (xc_V (pc' := 75) (r := tk) (as := []) (st := []) (lm_1_74) rfl rfl (Nat.le_of_ble_eq_true rfl) hW gtk sh_4 (by decide) rfl (by decide) (s_16 hW gtk qrb grb) (fun R12172 T12173 H12174 p12175 => ?_))
          obtain ⟨e12176, w12178, f12179, e12177⟩ := p12175
          subst e12176
          subst e12177
          have f12180 := f0.tr f12179 rfl
          show wp _ _ 17 75 [(2, .ref 18), (0, .ref r0), (1, .ref r1)] [] _ H12174 _
          refine wp_of e17 c17_75 (rw_gs (pc' := 78) (k := 2) rfl rfl rfl rfl ?_)
          refine wp_of e17 c17_78 (rw_aload_n (pc' := 79) (v := .ref 18) rfl rfl rfl ?_)
          refine wp_of e17 c17_79 (rw_ord (pc' := 82) rfl rfl rfl (by decide) (Nat.le_of_ble_eq_true rfl) rfl ?_)
          show wp _ _ 17 82 [(2, .ref 18), (0, .ref r0), (1, .ref r1)] [vI 2, .ref 2] _ H12174 _
          have k12181 : H12174 2 (2 : Int).toNat = 3 := (w12178.2 2 _ w12178.1.2.1).2.2 2 (by decide) |> fun z => by have z1 : (3 : Int) ≤ H12174 2 2 ∧ H12174 2 2 ≤ 3 := z; exact Int.le_antisymm z1.2 z1.1
          refine wp_of e17 c17_82 (rw_iaload (pc' := 83) (n := 11) (w12178.sh w12178.1.2.1 rfl) (by decide) (by decide) (by decide) rfl rfl ?_)
          rw [k12181]
          refine wp_of e17 c17_83 (rw_tsw (p1 := 156) ⟨by omega, by omega⟩ (by decide) ?_)
          refine wp_of e17 c17_156 (rw_aload_n (pc' := 157) (v := .ref r0) rfl rfl rfl ?_)
          refine wp_of e17 c17_157 (rw_aload_n (pc' := 158) (v := .ref r1) rfl rfl rfl ?_)
          have k12183 : H12174 r0 0 = H r0 0 := (f12179 r0 0 _ g0 rfl)
          have q12184 : H12174 r0 0 = (tk : Int) := k12183.trans qtk
          have k12185 : H12174 tk 0 = H tk 0 := (f12179 tk 0 _ gtk rfl)
          have q12186 : H12174 tk 0 = (rb : Int) := k12185.trans qrb
          refine wp_of e17 c17_158 (xc_V (pc' := 161) (r := r0) (as := [.ref r1]) (st := []) (lm_1_96) rfl rfl (Nat.le_of_ble_eq_true rfl) w12178 g0 sh_3 (by decide) rfl (by decide) (s_32 w12178 g0 g1 q12184 gtk q12186 grb) (fun R12187 T12188 H12189 p12190 => ?_))
          obtain ⟨e12191, w12193, f12194, z12195, e12192, b12196⟩ := p12190
          subst e12191
          subst e12192
          have f12197 := f12180.tr f12194 rfl
          show wp _ _ 17 161 [(2, .ref 18), (0, .ref r0), (1, .ref r1)] [vI z12195] _ H12189 _
          exact wp_zreturn e17 c17_161 rfl (by omega) ⟨rfl, w12193, f12197, z12195, rfl, ⟨by omega, by omega⟩⟩
        · refine wp_of e17 c17_34 (rw_aload_n (pc' := 35) (v := .ref 18) rfl rfl rfl ?_)
          refine wp_of e17 c17_35 (rw_gs (pc' := 38) (k := 16) rfl rfl rfl rfl ?_)
          refine wp_of e17 c17_38 (rw_acmp_eq (p1 := 48) (p2 := 41) (a := some 18) (b := some 16) rfl rfl (by decide) rfl (fun q => absurd q (by decide)) (fun q => ?_))
          refine wp_of e17 c17_41 (rw_aload_n (pc' := 42) (v := .ref 18) rfl rfl rfl ?_)
          refine wp_of e17 c17_42 (rw_gs (pc' := 45) (k := 18) rfl rfl rfl rfl ?_)
          refine wp_of e17 c17_45 (rw_acmp_ne (p1 := 52) (p2 := 48) (a := some 18) (b := some 18) rfl rfl (by decide) rfl (fun q => absurd q (by decide)) (fun q => ?_))
          refine wp_of e17 c17_48 (rw_iconst (pc' := 49) rfl ?_)
          refine wp_of e17 c17_49 (rw_goto (p1 := 53) (by decide) ?_)
          refine wp_of e17 c17_53 (rw_istore_n (pc' := 54) (z := 1) (L' := [(3, vI 1), (2, .ref 18), (0, .ref r0), (1, .ref r1)]) rfl rfl rfl ?_)
          refine wp_of e17 c17_54 (rw_aload_n (pc' := 55) (v := .ref r0) rfl rfl rfl ?_)
          refine wp_of e17 c17_55 (rw_iload_n (pc' := 56) (z := 1) rfl rfl ?_)
          refine wp_of e17 c17_56 (rw_if_eq (p1 := 63) (p2 := 59) (by decide) rfl ⟨by omega, by omega⟩ (fun c12198 => ?_) (fun c12198 => ?_))
          · exfalso
            omega
          · refine wp_of e17 c17_59 (rw_iconst (pc' := 60) rfl ?_)
            refine wp_of e17 c17_60 (rw_goto (p1 := 64) (by decide) ?_)
            refine wp_of e17 c17_64 (xc_V (pc' := 67) (r := r0) (as := [vI 3]) (st := []) (lm_1_47) rfl rfl (Nat.le_of_ble_eq_true rfl) hW g0 sh_3 (by decide) rfl (by decide) (s_20 hW g0 ⟨by omega, by omega⟩) (fun R12199 T12200 H12201 p12202 => ?_))
            obtain ⟨e12203, w12205, f12206, z12207, e12204, b12208⟩ := p12202
            subst e12203
            subst e12204
            have f12209 := f0.tr f12206 rfl
            show wp _ _ 17 67 [(3, vI 1), (2, .ref 18), (0, .ref r0), (1, .ref r1)] [vI z12207] _ H12201 _
            exact wp_zreturn e17 c17_67 rfl (by omega) ⟨rfl, w12205, f12209, z12207, rfl, ⟨by omega, by omega⟩⟩
      · exfalso
        omega
    · subst c12034
      show wp _ _ 17 4 [(0, .ref r0), (1, .ref r1)] [.ref 19] _ H _
      refine wp_of e17 c17_4 (rw_astore_n (pc' := 5) (v := .ref 19) (L' := [(2, .ref 19), (0, .ref r0), (1, .ref r1)]) rfl rfl rfl rfl ?_)
      refine wp_of e17 c17_5 (rw_aload_n (pc' := 6) (v := .ref 19) rfl rfl rfl ?_)
      refine wp_of e17 c17_6 (rw_ifnull_r (p1 := 16) (p2 := 9) (by decide) rfl ?_)
      refine wp_of e17 c17_9 (rw_aload_n (pc' := 10) (v := .ref 19) rfl rfl rfl ?_)
      have k12210 : H 19 1 = 3 := (hW.2 19 _ (hW.1.2.2 3 (by decide))).2.2 1 (by decide) |> fun z => by have z1 : (3 : Int) ≤ H 19 1 ∧ H 19 1 ≤ 3 := z; omega
      refine wp_of e17 c17_10 (rw_getI (pc' := 13) (n := 2) (e := _) (lf_1_58).choose_spec.1 (lf_1_58).choose_spec.2.1 (hW.sh (hW.1.2.2 3 (by decide)) rfl) (by decide) rfl rfl ?_)
      rw [k12210]
      refine wp_of e17 c17_13 (rw_if_ne (p1 := 22) (p2 := 16) (by decide) rfl ⟨by omega, by omega⟩ (fun c12211 => ?_) (fun c12211 => ?_))
      · refine wp_of e17 c17_22 (rw_aload_n (pc' := 23) (v := .ref r1) rfl rfl rfl ?_)
        refine wp_of e17 c17_23 (rw_aload_n (pc' := 24) (v := .ref 19) rfl rfl rfl ?_)
        refine wp_of e17 c17_24 (xc_V (pc' := 27) (r := r1) (as := [.ref 19]) (st := []) (lm_1_63) rfl rfl (Nat.le_of_ble_eq_true rfl) hW g1 sh_27 (by decide) rfl (by decide) (s_21_19 hW g1) (fun R12212 T12213 H12214 p12215 => ?_))
        obtain ⟨e12216, e12218, z12219, e12217, b12220⟩ := p12215
        subst e12216
        subst e12217
        subst e12218
        show wp _ _ 17 27 [(2, .ref 19), (0, .ref r0), (1, .ref r1)] [vI z12219] _ H _
        refine wp_of e17 c17_27 (rw_aload_n (pc' := 28) (v := .ref 19) rfl rfl rfl ?_)
        have k12221 : H 19 1 = 3 := (hW.2 19 _ (hW.1.2.2 3 (by decide))).2.2 1 (by decide) |> fun z => by have z1 : (3 : Int) ≤ H 19 1 ∧ H 19 1 ≤ 3 := z; omega
        refine wp_of e17 c17_28 (rw_getI (pc' := 31) (n := 2) (e := _) (lf_1_58).choose_spec.1 (lf_1_58).choose_spec.2.1 (hW.sh (hW.1.2.2 3 (by decide)) rfl) (by decide) rfl rfl ?_)
        rw [k12221]
        refine wp_of e17 c17_31 (rw_icmp_lt (p1 := 68) (p2 := 34) (by decide) rfl ⟨by omega, by omega⟩ ⟨by omega, by omega⟩ (fun c12222 => ?_) (fun c12222 => ?_))
        · refine wp_of e17 c17_68 (rw_aload_n (pc' := 69) (v := .ref r0) rfl rfl rfl ?_)
          refine wp_of e17 c17_69 (xg_K (pc' := 72) lf_1_12 hW g0 sh_3 (by decide) (by decide) rfl qtk rfl ?_)
          refine wp_of e17 c17_72 (xc_V (pc' := 75) (r := tk) (as := []) (st := []) (lm_1_74) rfl rfl (Nat.le_of_ble_eq_true rfl) hW gtk sh_4 (by decide) rfl (by decide) (s_16 hW gtk qrb grb) (fun R12223 T12224 H12225 p12226 => ?_))
          obtain ⟨e12227, w12229, f12230, e12228⟩ := p12226
          subst e12227
          subst e12228
          have f12231 := f0.tr f12230 rfl
          show wp _ _ 17 75 [(2, .ref 19), (0, .ref r0), (1, .ref r1)] [] _ H12225 _
          refine wp_of e17 c17_75 (rw_gs (pc' := 78) (k := 2) rfl rfl rfl rfl ?_)
          refine wp_of e17 c17_78 (rw_aload_n (pc' := 79) (v := .ref 19) rfl rfl rfl ?_)
          refine wp_of e17 c17_79 (rw_ord (pc' := 82) rfl rfl rfl (by decide) (Nat.le_of_ble_eq_true rfl) rfl ?_)
          show wp _ _ 17 82 [(2, .ref 19), (0, .ref r0), (1, .ref r1)] [vI 3, .ref 2] _ H12225 _
          have k12232 : H12225 2 (3 : Int).toNat = 4 := (w12229.2 2 _ w12229.1.2.1).2.2 3 (by decide) |> fun z => by have z1 : (4 : Int) ≤ H12225 2 3 ∧ H12225 2 3 ≤ 4 := z; exact Int.le_antisymm z1.2 z1.1
          refine wp_of e17 c17_82 (rw_iaload (pc' := 83) (n := 11) (w12229.sh w12229.1.2.1 rfl) (by decide) (by decide) (by decide) rfl rfl ?_)
          rw [k12232]
          refine wp_of e17 c17_83 (rw_tsw (p1 := 162) ⟨by omega, by omega⟩ (by decide) ?_)
          refine wp_of e17 c17_162 (rw_aload_n (pc' := 163) (v := .ref r0) rfl rfl rfl ?_)
          refine wp_of e17 c17_163 (rw_aload_n (pc' := 164) (v := .ref r1) rfl rfl rfl ?_)
          have k12234 : H12225 r0 0 = H r0 0 := (f12230 r0 0 _ g0 rfl)
          have q12235 : H12225 r0 0 = (tk : Int) := k12234.trans qtk
          have k12236 : H12225 tk 0 = H tk 0 := (f12230 tk 0 _ gtk rfl)
          have q12237 : H12225 tk 0 = (rb : Int) := k12236.trans qrb
          refine wp_of e17 c17_164 (xc_V (pc' := 167) (r := r0) (as := [.ref r1]) (st := []) (lm_1_99) rfl rfl (Nat.le_of_ble_eq_true rfl) w12229 g0 sh_3 (by decide) rfl (by decide) (s_34 w12229 g0 g1 q12235 gtk q12237 grb) (fun R12238 T12239 H12240 p12241 => ?_))
          obtain ⟨e12242, w12244, f12245, z12246, e12243, b12247⟩ := p12241
          subst e12242
          subst e12243
          have f12248 := f12231.tr f12245 rfl
          show wp _ _ 17 167 [(2, .ref 19), (0, .ref r0), (1, .ref r1)] [vI z12246] _ H12240 _
          exact wp_zreturn e17 c17_167 rfl (by omega) ⟨rfl, w12244, f12248, z12246, rfl, ⟨by omega, by omega⟩⟩
        · refine wp_of e17 c17_34 (rw_aload_n (pc' := 35) (v := .ref 19) rfl rfl rfl ?_)
          refine wp_of e17 c17_35 (rw_gs (pc' := 38) (k := 16) rfl rfl rfl rfl ?_)
          refine wp_of e17 c17_38 (rw_acmp_eq (p1 := 48) (p2 := 41) (a := some 19) (b := some 16) rfl rfl (by decide) rfl (fun q => absurd q (by decide)) (fun q => ?_))
          refine wp_of e17 c17_41 (rw_aload_n (pc' := 42) (v := .ref 19) rfl rfl rfl ?_)
          refine wp_of e17 c17_42 (rw_gs (pc' := 45) (k := 18) rfl rfl rfl rfl ?_)
          refine wp_of e17 c17_45 (rw_acmp_ne (p1 := 52) (p2 := 48) (a := some 19) (b := some 18) rfl rfl (by decide) rfl (fun q => ?_) (fun q => absurd q (by decide)))
          refine wp_of e17 c17_52 (rw_iconst (pc' := 53) rfl ?_)
          refine wp_of e17 c17_53 (rw_istore_n (pc' := 54) (z := 0) (L' := [(3, vI 0), (2, .ref 19), (0, .ref r0), (1, .ref r1)]) rfl rfl rfl ?_)
          refine wp_of e17 c17_54 (rw_aload_n (pc' := 55) (v := .ref r0) rfl rfl rfl ?_)
          refine wp_of e17 c17_55 (rw_iload_n (pc' := 56) (z := 0) rfl rfl ?_)
          refine wp_of e17 c17_56 (rw_if_eq (p1 := 63) (p2 := 59) (by decide) rfl ⟨by omega, by omega⟩ (fun c12249 => ?_) (fun c12249 => ?_))
          · refine wp_of e17 c17_63 (rw_iconst (pc' := 64) rfl ?_)
            refine wp_of e17 c17_64 (xc_V (pc' := 67) (r := r0) (as := [vI 5]) (st := []) (lm_1_47) rfl rfl (Nat.le_of_ble_eq_true rfl) hW g0 sh_3 (by decide) rfl (by decide) (s_20 hW g0 ⟨by omega, by omega⟩) (fun R12250 T12251 H12252 p12253 => ?_))
            obtain ⟨e12254, w12256, f12257, z12258, e12255, b12259⟩ := p12253
            subst e12254
            subst e12255
            have f12260 := f0.tr f12257 rfl
            show wp _ _ 17 67 [(3, vI 0), (2, .ref 19), (0, .ref r0), (1, .ref r1)] [vI z12258] _ H12252 _
            exact wp_zreturn e17 c17_67 rfl (by omega) ⟨rfl, w12256, f12260, z12258, rfl, ⟨by omega, by omega⟩⟩
          · exfalso
            omega
      · exfalso
        omega
    · subst c12034
      show wp _ _ 17 4 [(0, .ref r0), (1, .ref r1)] [.ref 20] _ H _
      refine wp_of e17 c17_4 (rw_astore_n (pc' := 5) (v := .ref 20) (L' := [(2, .ref 20), (0, .ref r0), (1, .ref r1)]) rfl rfl rfl rfl ?_)
      refine wp_of e17 c17_5 (rw_aload_n (pc' := 6) (v := .ref 20) rfl rfl rfl ?_)
      refine wp_of e17 c17_6 (rw_ifnull_r (p1 := 16) (p2 := 9) (by decide) rfl ?_)
      refine wp_of e17 c17_9 (rw_aload_n (pc' := 10) (v := .ref 20) rfl rfl rfl ?_)
      have k12261 : H 20 1 = 3 := (hW.2 20 _ (hW.1.2.2 4 (by decide))).2.2 1 (by decide) |> fun z => by have z1 : (3 : Int) ≤ H 20 1 ∧ H 20 1 ≤ 3 := z; omega
      refine wp_of e17 c17_10 (rw_getI (pc' := 13) (n := 2) (e := _) (lf_1_58).choose_spec.1 (lf_1_58).choose_spec.2.1 (hW.sh (hW.1.2.2 4 (by decide)) rfl) (by decide) rfl rfl ?_)
      rw [k12261]
      refine wp_of e17 c17_13 (rw_if_ne (p1 := 22) (p2 := 16) (by decide) rfl ⟨by omega, by omega⟩ (fun c12262 => ?_) (fun c12262 => ?_))
      · refine wp_of e17 c17_22 (rw_aload_n (pc' := 23) (v := .ref r1) rfl rfl rfl ?_)
        refine wp_of e17 c17_23 (rw_aload_n (pc' := 24) (v := .ref 20) rfl rfl rfl ?_)
        refine wp_of e17 c17_24 (xc_V (pc' := 27) (r := r1) (as := [.ref 20]) (st := []) (lm_1_63) rfl rfl (Nat.le_of_ble_eq_true rfl) hW g1 sh_27 (by decide) rfl (by decide) (s_21_20 hW g1) (fun R12263 T12264 H12265 p12266 => ?_))
        obtain ⟨e12267, e12269, z12271, e12268, b12272, p12270⟩ := p12266
        subst e12267
        subst e12268
        subst e12269
        show wp _ _ 17 27 [(2, .ref 20), (0, .ref r0), (1, .ref r1)] [vI z12271] _ H _
        refine wp_of e17 c17_27 (rw_aload_n (pc' := 28) (v := .ref 20) rfl rfl rfl ?_)
        have k12273 : H 20 1 = 3 := (hW.2 20 _ (hW.1.2.2 4 (by decide))).2.2 1 (by decide) |> fun z => by have z1 : (3 : Int) ≤ H 20 1 ∧ H 20 1 ≤ 3 := z; omega
        refine wp_of e17 c17_28 (rw_getI (pc' := 31) (n := 2) (e := _) (lf_1_58).choose_spec.1 (lf_1_58).choose_spec.2.1 (hW.sh (hW.1.2.2 4 (by decide)) rfl) (by decide) rfl rfl ?_)
        rw [k12273]
        refine wp_of e17 c17_31 (rw_icmp_lt (p1 := 68) (p2 := 34) (by decide) rfl ⟨by omega, by omega⟩ ⟨by omega, by omega⟩ (fun c12274 => ?_) (fun c12274 => ?_))
        · refine wp_of e17 c17_68 (rw_aload_n (pc' := 69) (v := .ref r0) rfl rfl rfl ?_)
          refine wp_of e17 c17_69 (xg_K (pc' := 72) lf_1_12 hW g0 sh_3 (by decide) (by decide) rfl qtk rfl ?_)
          refine wp_of e17 c17_72 (xc_V (pc' := 75) (r := tk) (as := []) (st := []) (lm_1_74) rfl rfl (Nat.le_of_ble_eq_true rfl) hW gtk sh_4 (by decide) rfl (by decide) (s_16 hW gtk qrb grb) (fun R12275 T12276 H12277 p12278 => ?_))
          obtain ⟨e12279, w12281, f12282, e12280⟩ := p12278
          subst e12279
          subst e12280
          have f12283 := f0.tr f12282 rfl
          show wp _ _ 17 75 [(2, .ref 20), (0, .ref r0), (1, .ref r1)] [] _ H12277 _
          refine wp_of e17 c17_75 (rw_gs (pc' := 78) (k := 2) rfl rfl rfl rfl ?_)
          refine wp_of e17 c17_78 (rw_aload_n (pc' := 79) (v := .ref 20) rfl rfl rfl ?_)
          refine wp_of e17 c17_79 (rw_ord (pc' := 82) rfl rfl rfl (by decide) (Nat.le_of_ble_eq_true rfl) rfl ?_)
          show wp _ _ 17 82 [(2, .ref 20), (0, .ref r0), (1, .ref r1)] [vI 4, .ref 2] _ H12277 _
          have k12284 : H12277 2 (4 : Int).toNat = 5 := (w12281.2 2 _ w12281.1.2.1).2.2 4 (by decide) |> fun z => by have z1 : (5 : Int) ≤ H12277 2 4 ∧ H12277 2 4 ≤ 5 := z; exact Int.le_antisymm z1.2 z1.1
          refine wp_of e17 c17_82 (rw_iaload (pc' := 83) (n := 11) (w12281.sh w12281.1.2.1 rfl) (by decide) (by decide) (by decide) rfl rfl ?_)
          rw [k12284]
          refine wp_of e17 c17_83 (rw_tsw (p1 := 168) ⟨by omega, by omega⟩ (by decide) ?_)
          refine wp_of e17 c17_168 (rw_aload_n (pc' := 169) (v := .ref r0) rfl rfl rfl ?_)
          refine wp_of e17 c17_169 (rw_aload_n (pc' := 170) (v := .ref r1) rfl rfl rfl ?_)
          have k12286 : H12277 r1 12 = H r1 12 := (f12282 r1 12 _ g1 rfl)
          have k12287 : H12277 r0 0 = H r0 0 := (f12282 r0 0 _ g0 rfl)
          have q12288 : H12277 r0 0 = (tk : Int) := k12287.trans qtk
          have k12289 : H12277 tk 0 = H tk 0 := (f12282 tk 0 _ gtk rfl)
          have q12290 : H12277 tk 0 = (rb : Int) := k12289.trans qrb
          refine wp_of e17 c17_170 (xc_V (pc' := 173) (r := r0) (as := [.ref r1]) (st := []) (lm_1_102) rfl rfl (Nat.le_of_ble_eq_true rfl) w12281 g0 sh_3 (by decide) rfl (by decide) (s_37 w12281 g0 g1 q12288 gtk q12290 grb (by omega)) (fun R12291 T12292 H12293 p12294 => ?_))
          obtain ⟨e12295, w12297, f12298, z12299, e12296, b12300⟩ := p12294
          subst e12295
          subst e12296
          have f12301 := f12283.tr f12298 rfl
          show wp _ _ 17 173 [(2, .ref 20), (0, .ref r0), (1, .ref r1)] [vI z12299] _ H12293 _
          exact wp_zreturn e17 c17_173 rfl (by omega) ⟨rfl, w12297, f12301, z12299, rfl, ⟨by omega, by omega⟩⟩
        · refine wp_of e17 c17_34 (rw_aload_n (pc' := 35) (v := .ref 20) rfl rfl rfl ?_)
          refine wp_of e17 c17_35 (rw_gs (pc' := 38) (k := 16) rfl rfl rfl rfl ?_)
          refine wp_of e17 c17_38 (rw_acmp_eq (p1 := 48) (p2 := 41) (a := some 20) (b := some 16) rfl rfl (by decide) rfl (fun q => absurd q (by decide)) (fun q => ?_))
          refine wp_of e17 c17_41 (rw_aload_n (pc' := 42) (v := .ref 20) rfl rfl rfl ?_)
          refine wp_of e17 c17_42 (rw_gs (pc' := 45) (k := 18) rfl rfl rfl rfl ?_)
          refine wp_of e17 c17_45 (rw_acmp_ne (p1 := 52) (p2 := 48) (a := some 20) (b := some 18) rfl rfl (by decide) rfl (fun q => ?_) (fun q => absurd q (by decide)))
          refine wp_of e17 c17_52 (rw_iconst (pc' := 53) rfl ?_)
          refine wp_of e17 c17_53 (rw_istore_n (pc' := 54) (z := 0) (L' := [(3, vI 0), (2, .ref 20), (0, .ref r0), (1, .ref r1)]) rfl rfl rfl ?_)
          refine wp_of e17 c17_54 (rw_aload_n (pc' := 55) (v := .ref r0) rfl rfl rfl ?_)
          refine wp_of e17 c17_55 (rw_iload_n (pc' := 56) (z := 0) rfl rfl ?_)
          refine wp_of e17 c17_56 (rw_if_eq (p1 := 63) (p2 := 59) (by decide) rfl ⟨by omega, by omega⟩ (fun c12302 => ?_) (fun c12302 => ?_))
          · refine wp_of e17 c17_63 (rw_iconst (pc' := 64) rfl ?_)
            refine wp_of e17 c17_64 (xc_V (pc' := 67) (r := r0) (as := [vI 5]) (st := []) (lm_1_47) rfl rfl (Nat.le_of_ble_eq_true rfl) hW g0 sh_3 (by decide) rfl (by decide) (s_20 hW g0 ⟨by omega, by omega⟩) (fun R12303 T12304 H12305 p12306 => ?_))
            obtain ⟨e12307, w12309, f12310, z12311, e12308, b12312⟩ := p12306
            subst e12307
            subst e12308
            have f12313 := f0.tr f12310 rfl
            show wp _ _ 17 67 [(3, vI 0), (2, .ref 20), (0, .ref r0), (1, .ref r1)] [vI z12311] _ H12305 _
            exact wp_zreturn e17 c17_67 rfl (by omega) ⟨rfl, w12309, f12313, z12311, rfl, ⟨by omega, by omega⟩⟩
          · exfalso
            omega
      · exfalso
        omega
    · subst c12034
      show wp _ _ 17 4 [(0, .ref r0), (1, .ref r1)] [.ref 21] _ H _
      refine wp_of e17 c17_4 (rw_astore_n (pc' := 5) (v := .ref 21) (L' := [(2, .ref 21), (0, .ref r0), (1, .ref r1)]) rfl rfl rfl rfl ?_)
      refine wp_of e17 c17_5 (rw_aload_n (pc' := 6) (v := .ref 21) rfl rfl rfl ?_)
      refine wp_of e17 c17_6 (rw_ifnull_r (p1 := 16) (p2 := 9) (by decide) rfl ?_)
      refine wp_of e17 c17_9 (rw_aload_n (pc' := 10) (v := .ref 21) rfl rfl rfl ?_)
      have k12314 : H 21 1 = 24 := (hW.2 21 _ (hW.1.2.2 5 (by decide))).2.2 1 (by decide) |> fun z => by have z1 : (24 : Int) ≤ H 21 1 ∧ H 21 1 ≤ 24 := z; omega
      refine wp_of e17 c17_10 (rw_getI (pc' := 13) (n := 2) (e := _) (lf_1_58).choose_spec.1 (lf_1_58).choose_spec.2.1 (hW.sh (hW.1.2.2 5 (by decide)) rfl) (by decide) rfl rfl ?_)
      rw [k12314]
      refine wp_of e17 c17_13 (rw_if_ne (p1 := 22) (p2 := 16) (by decide) rfl ⟨by omega, by omega⟩ (fun c12315 => ?_) (fun c12315 => ?_))
      · refine wp_of e17 c17_22 (rw_aload_n (pc' := 23) (v := .ref r1) rfl rfl rfl ?_)
        refine wp_of e17 c17_23 (rw_aload_n (pc' := 24) (v := .ref 21) rfl rfl rfl ?_)
        refine wp_of e17 c17_24 (xc_V (pc' := 27) (r := r1) (as := [.ref 21]) (st := []) (lm_1_63) rfl rfl (Nat.le_of_ble_eq_true rfl) hW g1 sh_27 (by decide) rfl (by decide) (s_21_21 hW g1) (fun R12316 T12317 H12318 p12319 => ?_))
        obtain ⟨e12320, e12322, z12323, e12321, b12324⟩ := p12319
        subst e12320
        subst e12321
        subst e12322
        show wp _ _ 17 27 [(2, .ref 21), (0, .ref r0), (1, .ref r1)] [vI z12323] _ H _
        refine wp_of e17 c17_27 (rw_aload_n (pc' := 28) (v := .ref 21) rfl rfl rfl ?_)
        have k12325 : H 21 1 = 24 := (hW.2 21 _ (hW.1.2.2 5 (by decide))).2.2 1 (by decide) |> fun z => by have z1 : (24 : Int) ≤ H 21 1 ∧ H 21 1 ≤ 24 := z; omega
        refine wp_of e17 c17_28 (rw_getI (pc' := 31) (n := 2) (e := _) (lf_1_58).choose_spec.1 (lf_1_58).choose_spec.2.1 (hW.sh (hW.1.2.2 5 (by decide)) rfl) (by decide) rfl rfl ?_)
        rw [k12325]
        refine wp_of e17 c17_31 (rw_icmp_lt (p1 := 68) (p2 := 34) (by decide) rfl ⟨by omega, by omega⟩ ⟨by omega, by omega⟩ (fun c12326 => ?_) (fun c12326 => ?_))
        · refine wp_of e17 c17_68 (rw_aload_n (pc' := 69) (v := .ref r0) rfl rfl rfl ?_)
          refine wp_of e17 c17_69 (xg_K (pc' := 72) lf_1_12 hW g0 sh_3 (by decide) (by decide) rfl qtk rfl ?_)
          refine wp_of e17 c17_72 (xc_V (pc' := 75) (r := tk) (as := []) (st := []) (lm_1_74) rfl rfl (Nat.le_of_ble_eq_true rfl) hW gtk sh_4 (by decide) rfl (by decide) (s_16 hW gtk qrb grb) (fun R12327 T12328 H12329 p12330 => ?_))
          obtain ⟨e12331, w12333, f12334, e12332⟩ := p12330
          subst e12331
          subst e12332
          have f12335 := f0.tr f12334 rfl
          show wp _ _ 17 75 [(2, .ref 21), (0, .ref r0), (1, .ref r1)] [] _ H12329 _
          refine wp_of e17 c17_75 (rw_gs (pc' := 78) (k := 2) rfl rfl rfl rfl ?_)
          refine wp_of e17 c17_78 (rw_aload_n (pc' := 79) (v := .ref 21) rfl rfl rfl ?_)
          refine wp_of e17 c17_79 (rw_ord (pc' := 82) rfl rfl rfl (by decide) (Nat.le_of_ble_eq_true rfl) rfl ?_)
          show wp _ _ 17 82 [(2, .ref 21), (0, .ref r0), (1, .ref r1)] [vI 5, .ref 2] _ H12329 _
          have k12336 : H12329 2 (5 : Int).toNat = 6 := (w12333.2 2 _ w12333.1.2.1).2.2 5 (by decide) |> fun z => by have z1 : (6 : Int) ≤ H12329 2 5 ∧ H12329 2 5 ≤ 6 := z; exact Int.le_antisymm z1.2 z1.1
          refine wp_of e17 c17_82 (rw_iaload (pc' := 83) (n := 11) (w12333.sh w12333.1.2.1 rfl) (by decide) (by decide) (by decide) rfl rfl ?_)
          rw [k12336]
          refine wp_of e17 c17_83 (rw_tsw (p1 := 174) ⟨by omega, by omega⟩ (by decide) ?_)
          refine wp_of e17 c17_174 (rw_aload_n (pc' := 175) (v := .ref r0) rfl rfl rfl ?_)
          refine wp_of e17 c17_175 (rw_aload_n (pc' := 176) (v := .ref r1) rfl rfl rfl ?_)
          have k12338 : H12329 r0 0 = H r0 0 := (f12334 r0 0 _ g0 rfl)
          have q12339 : H12329 r0 0 = (tk : Int) := k12338.trans qtk
          have k12340 : H12329 tk 0 = H tk 0 := (f12334 tk 0 _ gtk rfl)
          have q12341 : H12329 tk 0 = (rb : Int) := k12340.trans qrb
          refine wp_of e17 c17_176 (xc_V (pc' := 179) (r := r0) (as := [.ref r1]) (st := []) (lm_1_105) rfl rfl (Nat.le_of_ble_eq_true rfl) w12333 g0 sh_3 (by decide) rfl (by decide) (s_38 w12333 g0 g1 q12339 gtk q12341 grb) (fun R12342 T12343 H12344 p12345 => ?_))
          obtain ⟨e12346, w12348, f12349, z12350, e12347, b12351⟩ := p12345
          subst e12346
          subst e12347
          have f12352 := f12335.tr f12349 rfl
          show wp _ _ 17 179 [(2, .ref 21), (0, .ref r0), (1, .ref r1)] [vI z12350] _ H12344 _
          exact wp_zreturn e17 c17_179 rfl (by omega) ⟨rfl, w12348, f12352, z12350, rfl, ⟨by omega, by omega⟩⟩
        · refine wp_of e17 c17_34 (rw_aload_n (pc' := 35) (v := .ref 21) rfl rfl rfl ?_)
          refine wp_of e17 c17_35 (rw_gs (pc' := 38) (k := 16) rfl rfl rfl rfl ?_)
          refine wp_of e17 c17_38 (rw_acmp_eq (p1 := 48) (p2 := 41) (a := some 21) (b := some 16) rfl rfl (by decide) rfl (fun q => absurd q (by decide)) (fun q => ?_))
          refine wp_of e17 c17_41 (rw_aload_n (pc' := 42) (v := .ref 21) rfl rfl rfl ?_)
          refine wp_of e17 c17_42 (rw_gs (pc' := 45) (k := 18) rfl rfl rfl rfl ?_)
          refine wp_of e17 c17_45 (rw_acmp_ne (p1 := 52) (p2 := 48) (a := some 21) (b := some 18) rfl rfl (by decide) rfl (fun q => ?_) (fun q => absurd q (by decide)))
          refine wp_of e17 c17_52 (rw_iconst (pc' := 53) rfl ?_)
          refine wp_of e17 c17_53 (rw_istore_n (pc' := 54) (z := 0) (L' := [(3, vI 0), (2, .ref 21), (0, .ref r0), (1, .ref r1)]) rfl rfl rfl ?_)
          refine wp_of e17 c17_54 (rw_aload_n (pc' := 55) (v := .ref r0) rfl rfl rfl ?_)
          refine wp_of e17 c17_55 (rw_iload_n (pc' := 56) (z := 0) rfl rfl ?_)
          refine wp_of e17 c17_56 (rw_if_eq (p1 := 63) (p2 := 59) (by decide) rfl ⟨by omega, by omega⟩ (fun c12353 => ?_) (fun c12353 => ?_))
          · refine wp_of e17 c17_63 (rw_iconst (pc' := 64) rfl ?_)
            refine wp_of e17 c17_64 (xc_V (pc' := 67) (r := r0) (as := [vI 5]) (st := []) (lm_1_47) rfl rfl (Nat.le_of_ble_eq_true rfl) hW g0 sh_3 (by decide) rfl (by decide) (s_20 hW g0 ⟨by omega, by omega⟩) (fun R12354 T12355 H12356 p12357 => ?_))
            obtain ⟨e12358, w12360, f12361, z12362, e12359, b12363⟩ := p12357
            subst e12358
            subst e12359
            have f12364 := f0.tr f12361 rfl
            show wp _ _ 17 67 [(3, vI 0), (2, .ref 21), (0, .ref r0), (1, .ref r1)] [vI z12362] _ H12356 _
            exact wp_zreturn e17 c17_67 rfl (by omega) ⟨rfl, w12360, f12364, z12362, rfl, ⟨by omega, by omega⟩⟩
          · exfalso
            omega
      · exfalso
        omega
    · subst c12034
      show wp _ _ 17 4 [(0, .ref r0), (1, .ref r1)] [.ref 22] _ H _
      refine wp_of e17 c17_4 (rw_astore_n (pc' := 5) (v := .ref 22) (L' := [(2, .ref 22), (0, .ref r0), (1, .ref r1)]) rfl rfl rfl rfl ?_)
      refine wp_of e17 c17_5 (rw_aload_n (pc' := 6) (v := .ref 22) rfl rfl rfl ?_)
      refine wp_of e17 c17_6 (rw_ifnull_r (p1 := 16) (p2 := 9) (by decide) rfl ?_)
      refine wp_of e17 c17_9 (rw_aload_n (pc' := 10) (v := .ref 22) rfl rfl rfl ?_)
      have k12365 : H 22 1 = 4 := (hW.2 22 _ (hW.1.2.2 6 (by decide))).2.2 1 (by decide) |> fun z => by have z1 : (4 : Int) ≤ H 22 1 ∧ H 22 1 ≤ 4 := z; omega
      refine wp_of e17 c17_10 (rw_getI (pc' := 13) (n := 2) (e := _) (lf_1_58).choose_spec.1 (lf_1_58).choose_spec.2.1 (hW.sh (hW.1.2.2 6 (by decide)) rfl) (by decide) rfl rfl ?_)
      rw [k12365]
      refine wp_of e17 c17_13 (rw_if_ne (p1 := 22) (p2 := 16) (by decide) rfl ⟨by omega, by omega⟩ (fun c12366 => ?_) (fun c12366 => ?_))
      · refine wp_of e17 c17_22 (rw_aload_n (pc' := 23) (v := .ref r1) rfl rfl rfl ?_)
        refine wp_of e17 c17_23 (rw_aload_n (pc' := 24) (v := .ref 22) rfl rfl rfl ?_)
        refine wp_of e17 c17_24 (xc_V (pc' := 27) (r := r1) (as := [.ref 22]) (st := []) (lm_1_63) rfl rfl (Nat.le_of_ble_eq_true rfl) hW g1 sh_27 (by decide) rfl (by decide) (s_21_22 hW g1) (fun R12367 T12368 H12369 p12370 => ?_))
        obtain ⟨e12371, e12373, z12375, e12372, b12376, p12374⟩ := p12370
        subst e12371
        subst e12372
        subst e12373
        show wp _ _ 17 27 [(2, .ref 22), (0, .ref r0), (1, .ref r1)] [vI z12375] _ H _
        refine wp_of e17 c17_27 (rw_aload_n (pc' := 28) (v := .ref 22) rfl rfl rfl ?_)
        have k12377 : H 22 1 = 4 := (hW.2 22 _ (hW.1.2.2 6 (by decide))).2.2 1 (by decide) |> fun z => by have z1 : (4 : Int) ≤ H 22 1 ∧ H 22 1 ≤ 4 := z; omega
        refine wp_of e17 c17_28 (rw_getI (pc' := 31) (n := 2) (e := _) (lf_1_58).choose_spec.1 (lf_1_58).choose_spec.2.1 (hW.sh (hW.1.2.2 6 (by decide)) rfl) (by decide) rfl rfl ?_)
        rw [k12377]
        refine wp_of e17 c17_31 (rw_icmp_lt (p1 := 68) (p2 := 34) (by decide) rfl ⟨by omega, by omega⟩ ⟨by omega, by omega⟩ (fun c12378 => ?_) (fun c12378 => ?_))
        · refine wp_of e17 c17_68 (rw_aload_n (pc' := 69) (v := .ref r0) rfl rfl rfl ?_)
          refine wp_of e17 c17_69 (xg_K (pc' := 72) lf_1_12 hW g0 sh_3 (by decide) (by decide) rfl qtk rfl ?_)
          refine wp_of e17 c17_72 (xc_V (pc' := 75) (r := tk) (as := []) (st := []) (lm_1_74) rfl rfl (Nat.le_of_ble_eq_true rfl) hW gtk sh_4 (by decide) rfl (by decide) (s_16 hW gtk qrb grb) (fun R12379 T12380 H12381 p12382 => ?_))
          obtain ⟨e12383, w12385, f12386, e12384⟩ := p12382
          subst e12383
          subst e12384
          have f12387 := f0.tr f12386 rfl
          show wp _ _ 17 75 [(2, .ref 22), (0, .ref r0), (1, .ref r1)] [] _ H12381 _
          refine wp_of e17 c17_75 (rw_gs (pc' := 78) (k := 2) rfl rfl rfl rfl ?_)
          refine wp_of e17 c17_78 (rw_aload_n (pc' := 79) (v := .ref 22) rfl rfl rfl ?_)
          refine wp_of e17 c17_79 (rw_ord (pc' := 82) rfl rfl rfl (by decide) (Nat.le_of_ble_eq_true rfl) rfl ?_)
          show wp _ _ 17 82 [(2, .ref 22), (0, .ref r0), (1, .ref r1)] [vI 6, .ref 2] _ H12381 _
          have k12388 : H12381 2 (6 : Int).toNat = 7 := (w12385.2 2 _ w12385.1.2.1).2.2 6 (by decide) |> fun z => by have z1 : (7 : Int) ≤ H12381 2 6 ∧ H12381 2 6 ≤ 7 := z; exact Int.le_antisymm z1.2 z1.1
          refine wp_of e17 c17_82 (rw_iaload (pc' := 83) (n := 11) (w12385.sh w12385.1.2.1 rfl) (by decide) (by decide) (by decide) rfl rfl ?_)
          rw [k12388]
          refine wp_of e17 c17_83 (rw_tsw (p1 := 180) ⟨by omega, by omega⟩ (by decide) ?_)
          refine wp_of e17 c17_180 (rw_aload_n (pc' := 181) (v := .ref r0) rfl rfl rfl ?_)
          refine wp_of e17 c17_181 (rw_aload_n (pc' := 182) (v := .ref r1) rfl rfl rfl ?_)
          have k12390 : H12381 r1 13 = H r1 13 := (f12386 r1 13 _ g1 rfl)
          have k12391 : H12381 r0 0 = H r0 0 := (f12386 r0 0 _ g0 rfl)
          have q12392 : H12381 r0 0 = (tk : Int) := k12391.trans qtk
          have k12393 : H12381 tk 0 = H tk 0 := (f12386 tk 0 _ gtk rfl)
          have q12394 : H12381 tk 0 = (rb : Int) := k12393.trans qrb
          refine wp_of e17 c17_182 (xc_V (pc' := 185) (r := r0) (as := [.ref r1]) (st := []) (lm_1_108) rfl rfl (Nat.le_of_ble_eq_true rfl) w12385 g0 sh_3 (by decide) rfl (by decide) (s_42 w12385 g0 g1 q12392 gtk q12394 grb (by omega)) (fun R12395 T12396 H12397 p12398 => ?_))
          obtain ⟨e12399, w12401, f12402, z12403, e12400, b12404⟩ := p12398
          subst e12399
          subst e12400
          have f12405 := f12387.tr f12402 rfl
          show wp _ _ 17 185 [(2, .ref 22), (0, .ref r0), (1, .ref r1)] [vI z12403] _ H12397 _
          exact wp_zreturn e17 c17_185 rfl (by omega) ⟨rfl, w12401, f12405, z12403, rfl, ⟨by omega, by omega⟩⟩
        · refine wp_of e17 c17_34 (rw_aload_n (pc' := 35) (v := .ref 22) rfl rfl rfl ?_)
          refine wp_of e17 c17_35 (rw_gs (pc' := 38) (k := 16) rfl rfl rfl rfl ?_)
          refine wp_of e17 c17_38 (rw_acmp_eq (p1 := 48) (p2 := 41) (a := some 22) (b := some 16) rfl rfl (by decide) rfl (fun q => absurd q (by decide)) (fun q => ?_))
          refine wp_of e17 c17_41 (rw_aload_n (pc' := 42) (v := .ref 22) rfl rfl rfl ?_)
          refine wp_of e17 c17_42 (rw_gs (pc' := 45) (k := 18) rfl rfl rfl rfl ?_)
          refine wp_of e17 c17_45 (rw_acmp_ne (p1 := 52) (p2 := 48) (a := some 22) (b := some 18) rfl rfl (by decide) rfl (fun q => ?_) (fun q => absurd q (by decide)))
          refine wp_of e17 c17_52 (rw_iconst (pc' := 53) rfl ?_)
          refine wp_of e17 c17_53 (rw_istore_n (pc' := 54) (z := 0) (L' := [(3, vI 0), (2, .ref 22), (0, .ref r0), (1, .ref r1)]) rfl rfl rfl ?_)
          refine wp_of e17 c17_54 (rw_aload_n (pc' := 55) (v := .ref r0) rfl rfl rfl ?_)
          refine wp_of e17 c17_55 (rw_iload_n (pc' := 56) (z := 0) rfl rfl ?_)
          refine wp_of e17 c17_56 (rw_if_eq (p1 := 63) (p2 := 59) (by decide) rfl ⟨by omega, by omega⟩ (fun c12406 => ?_) (fun c12406 => ?_))
          · refine wp_of e17 c17_63 (rw_iconst (pc' := 64) rfl ?_)
            refine wp_of e17 c17_64 (xc_V (pc' := 67) (r := r0) (as := [vI 5]) (st := []) (lm_1_47) rfl rfl (Nat.le_of_ble_eq_true rfl) hW g0 sh_3 (by decide) rfl (by decide) (s_20 hW g0 ⟨by omega, by omega⟩) (fun R12407 T12408 H12409 p12410 => ?_))
            obtain ⟨e12411, w12413, f12414, z12415, e12412, b12416⟩ := p12410
            subst e12411
            subst e12412
            have f12417 := f0.tr f12414 rfl
            show wp _ _ 17 67 [(3, vI 0), (2, .ref 22), (0, .ref r0), (1, .ref r1)] [vI z12415] _ H12409 _
            exact wp_zreturn e17 c17_67 rfl (by omega) ⟨rfl, w12413, f12417, z12415, rfl, ⟨by omega, by omega⟩⟩
          · exfalso
            omega
      · exfalso
        omega
    · subst c12034
      show wp _ _ 17 4 [(0, .ref r0), (1, .ref r1)] [.ref 23] _ H _
      refine wp_of e17 c17_4 (rw_astore_n (pc' := 5) (v := .ref 23) (L' := [(2, .ref 23), (0, .ref r0), (1, .ref r1)]) rfl rfl rfl rfl ?_)
      refine wp_of e17 c17_5 (rw_aload_n (pc' := 6) (v := .ref 23) rfl rfl rfl ?_)
      refine wp_of e17 c17_6 (rw_ifnull_r (p1 := 16) (p2 := 9) (by decide) rfl ?_)
      refine wp_of e17 c17_9 (rw_aload_n (pc' := 10) (v := .ref 23) rfl rfl rfl ?_)
      have k12418 : H 23 1 = 6 := (hW.2 23 _ (hW.1.2.2 7 (by decide))).2.2 1 (by decide) |> fun z => by have z1 : (6 : Int) ≤ H 23 1 ∧ H 23 1 ≤ 6 := z; omega
      refine wp_of e17 c17_10 (rw_getI (pc' := 13) (n := 2) (e := _) (lf_1_58).choose_spec.1 (lf_1_58).choose_spec.2.1 (hW.sh (hW.1.2.2 7 (by decide)) rfl) (by decide) rfl rfl ?_)
      rw [k12418]
      refine wp_of e17 c17_13 (rw_if_ne (p1 := 22) (p2 := 16) (by decide) rfl ⟨by omega, by omega⟩ (fun c12419 => ?_) (fun c12419 => ?_))
      · refine wp_of e17 c17_22 (rw_aload_n (pc' := 23) (v := .ref r1) rfl rfl rfl ?_)
        refine wp_of e17 c17_23 (rw_aload_n (pc' := 24) (v := .ref 23) rfl rfl rfl ?_)
        refine wp_of e17 c17_24 (xc_V (pc' := 27) (r := r1) (as := [.ref 23]) (st := []) (lm_1_63) rfl rfl (Nat.le_of_ble_eq_true rfl) hW g1 sh_27 (by decide) rfl (by decide) (s_21_23 hW g1) (fun R12420 T12421 H12422 p12423 => ?_))
        obtain ⟨e12424, e12426, z12428, e12425, b12429, p12427⟩ := p12423
        subst e12424
        subst e12425
        subst e12426
        show wp _ _ 17 27 [(2, .ref 23), (0, .ref r0), (1, .ref r1)] [vI z12428] _ H _
        refine wp_of e17 c17_27 (rw_aload_n (pc' := 28) (v := .ref 23) rfl rfl rfl ?_)
        have k12430 : H 23 1 = 6 := (hW.2 23 _ (hW.1.2.2 7 (by decide))).2.2 1 (by decide) |> fun z => by have z1 : (6 : Int) ≤ H 23 1 ∧ H 23 1 ≤ 6 := z; omega
        refine wp_of e17 c17_28 (rw_getI (pc' := 31) (n := 2) (e := _) (lf_1_58).choose_spec.1 (lf_1_58).choose_spec.2.1 (hW.sh (hW.1.2.2 7 (by decide)) rfl) (by decide) rfl rfl ?_)
        rw [k12430]
        refine wp_of e17 c17_31 (rw_icmp_lt (p1 := 68) (p2 := 34) (by decide) rfl ⟨by omega, by omega⟩ ⟨by omega, by omega⟩ (fun c12431 => ?_) (fun c12431 => ?_))
        · refine wp_of e17 c17_68 (rw_aload_n (pc' := 69) (v := .ref r0) rfl rfl rfl ?_)
          refine wp_of e17 c17_69 (xg_K (pc' := 72) lf_1_12 hW g0 sh_3 (by decide) (by decide) rfl qtk rfl ?_)
          refine wp_of e17 c17_72 (xc_V (pc' := 75) (r := tk) (as := []) (st := []) (lm_1_74) rfl rfl (Nat.le_of_ble_eq_true rfl) hW gtk sh_4 (by decide) rfl (by decide) (s_16 hW gtk qrb grb) (fun R12432 T12433 H12434 p12435 => ?_))
          obtain ⟨e12436, w12438, f12439, e12437⟩ := p12435
          subst e12436
          subst e12437
          have f12440 := f0.tr f12439 rfl
          show wp _ _ 17 75 [(2, .ref 23), (0, .ref r0), (1, .ref r1)] [] _ H12434 _
          refine wp_of e17 c17_75 (rw_gs (pc' := 78) (k := 2) rfl rfl rfl rfl ?_)
          refine wp_of e17 c17_78 (rw_aload_n (pc' := 79) (v := .ref 23) rfl rfl rfl ?_)
          refine wp_of e17 c17_79 (rw_ord (pc' := 82) rfl rfl rfl (by decide) (Nat.le_of_ble_eq_true rfl) rfl ?_)
          show wp _ _ 17 82 [(2, .ref 23), (0, .ref r0), (1, .ref r1)] [vI 7, .ref 2] _ H12434 _
          have k12441 : H12434 2 (7 : Int).toNat = 8 := (w12438.2 2 _ w12438.1.2.1).2.2 7 (by decide) |> fun z => by have z1 : (8 : Int) ≤ H12434 2 7 ∧ H12434 2 7 ≤ 8 := z; exact Int.le_antisymm z1.2 z1.1
          refine wp_of e17 c17_82 (rw_iaload (pc' := 83) (n := 11) (w12438.sh w12438.1.2.1 rfl) (by decide) (by decide) (by decide) rfl rfl ?_)
          rw [k12441]
          refine wp_of e17 c17_83 (rw_tsw (p1 := 186) ⟨by omega, by omega⟩ (by decide) ?_)
          refine wp_of e17 c17_186 (rw_aload_n (pc' := 187) (v := .ref r0) rfl rfl rfl ?_)
          refine wp_of e17 c17_187 (rw_aload_n (pc' := 188) (v := .ref r1) rfl rfl rfl ?_)
          have k12443 : H12434 r1 14 = H r1 14 := (f12439 r1 14 _ g1 rfl)
          have k12444 : H12434 r0 0 = H r0 0 := (f12439 r0 0 _ g0 rfl)
          have q12445 : H12434 r0 0 = (tk : Int) := k12444.trans qtk
          have k12446 : H12434 tk 0 = H tk 0 := (f12439 tk 0 _ gtk rfl)
          have q12447 : H12434 tk 0 = (rb : Int) := k12446.trans qrb
          refine wp_of e17 c17_188 (xc_V (pc' := 191) (r := r0) (as := [.ref r1]) (st := []) (lm_1_111) rfl rfl (Nat.le_of_ble_eq_true rfl) w12438 g0 sh_3 (by decide) rfl (by decide) (s_43 w12438 g0 g1 q12445 gtk q12447 grb (by omega)) (fun R12448 T12449 H12450 p12451 => ?_))
          obtain ⟨e12452, w12454, f12455, z12456, e12453, b12457⟩ := p12451
          subst e12452
          subst e12453
          have f12458 := f12440.tr f12455 rfl
          show wp _ _ 17 191 [(2, .ref 23), (0, .ref r0), (1, .ref r1)] [vI z12456] _ H12450 _
          exact wp_zreturn e17 c17_191 rfl (by omega) ⟨rfl, w12454, f12458, z12456, rfl, ⟨by omega, by omega⟩⟩
        · refine wp_of e17 c17_34 (rw_aload_n (pc' := 35) (v := .ref 23) rfl rfl rfl ?_)
          refine wp_of e17 c17_35 (rw_gs (pc' := 38) (k := 16) rfl rfl rfl rfl ?_)
          refine wp_of e17 c17_38 (rw_acmp_eq (p1 := 48) (p2 := 41) (a := some 23) (b := some 16) rfl rfl (by decide) rfl (fun q => absurd q (by decide)) (fun q => ?_))
          refine wp_of e17 c17_41 (rw_aload_n (pc' := 42) (v := .ref 23) rfl rfl rfl ?_)
          refine wp_of e17 c17_42 (rw_gs (pc' := 45) (k := 18) rfl rfl rfl rfl ?_)
          refine wp_of e17 c17_45 (rw_acmp_ne (p1 := 52) (p2 := 48) (a := some 23) (b := some 18) rfl rfl (by decide) rfl (fun q => ?_) (fun q => absurd q (by decide)))
          refine wp_of e17 c17_52 (rw_iconst (pc' := 53) rfl ?_)
          refine wp_of e17 c17_53 (rw_istore_n (pc' := 54) (z := 0) (L' := [(3, vI 0), (2, .ref 23), (0, .ref r0), (1, .ref r1)]) rfl rfl rfl ?_)
          refine wp_of e17 c17_54 (rw_aload_n (pc' := 55) (v := .ref r0) rfl rfl rfl ?_)
          refine wp_of e17 c17_55 (rw_iload_n (pc' := 56) (z := 0) rfl rfl ?_)
          refine wp_of e17 c17_56 (rw_if_eq (p1 := 63) (p2 := 59) (by decide) rfl ⟨by omega, by omega⟩ (fun c12459 => ?_) (fun c12459 => ?_))
          · refine wp_of e17 c17_63 (rw_iconst (pc' := 64) rfl ?_)
            refine wp_of e17 c17_64 (xc_V (pc' := 67) (r := r0) (as := [vI 5]) (st := []) (lm_1_47) rfl rfl (Nat.le_of_ble_eq_true rfl) hW g0 sh_3 (by decide) rfl (by decide) (s_20 hW g0 ⟨by omega, by omega⟩) (fun R12460 T12461 H12462 p12463 => ?_))
            obtain ⟨e12464, w12466, f12467, z12468, e12465, b12469⟩ := p12463
            subst e12464
            subst e12465
            have f12470 := f0.tr f12467 rfl
            show wp _ _ 17 67 [(3, vI 0), (2, .ref 23), (0, .ref r0), (1, .ref r1)] [vI z12468] _ H12462 _
            exact wp_zreturn e17 c17_67 rfl (by omega) ⟨rfl, w12466, f12470, z12468, rfl, ⟨by omega, by omega⟩⟩
          · exfalso
            omega
      · exfalso
        omega
    · subst c12034
      show wp _ _ 17 4 [(0, .ref r0), (1, .ref r1)] [.ref 24] _ H _
      refine wp_of e17 c17_4 (rw_astore_n (pc' := 5) (v := .ref 24) (L' := [(2, .ref 24), (0, .ref r0), (1, .ref r1)]) rfl rfl rfl rfl ?_)
      refine wp_of e17 c17_5 (rw_aload_n (pc' := 6) (v := .ref 24) rfl rfl rfl ?_)
      refine wp_of e17 c17_6 (rw_ifnull_r (p1 := 16) (p2 := 9) (by decide) rfl ?_)
      refine wp_of e17 c17_9 (rw_aload_n (pc' := 10) (v := .ref 24) rfl rfl rfl ?_)
      have k12471 : H 24 1 = 0 := (hW.2 24 _ (hW.1.2.2 8 (by decide))).2.2 1 (by decide) |> fun z => by have z1 : (0 : Int) ≤ H 24 1 ∧ H 24 1 ≤ 0 := z; omega
      refine wp_of e17 c17_10 (rw_getI (pc' := 13) (n := 2) (e := _) (lf_1_58).choose_spec.1 (lf_1_58).choose_spec.2.1 (hW.sh (hW.1.2.2 8 (by decide)) rfl) (by decide) rfl rfl ?_)
      rw [k12471]
      refine wp_of e17 c17_13 (rw_if_ne (p1 := 22) (p2 := 16) (by decide) rfl ⟨by omega, by omega⟩ (fun c12472 => ?_) (fun c12472 => ?_))
      · exfalso
        omega
      · refine wp_of e17 c17_16 (rw_aload_n (pc' := 17) (v := .ref r0) rfl rfl rfl ?_)
        refine wp_of e17 c17_17 (rw_iconst (pc' := 18) rfl ?_)
        refine wp_of e17 c17_18 (xc_V (pc' := 21) (r := r0) (as := [vI 1]) (st := []) (lm_1_47) rfl rfl (Nat.le_of_ble_eq_true rfl) hW g0 sh_3 (by decide) rfl (by decide) (s_20 hW g0 ⟨by omega, by omega⟩) (fun R12473 T12474 H12475 p12476 => ?_))
        obtain ⟨e12477, w12479, f12480, z12481, e12478, b12482⟩ := p12476
        subst e12477
        subst e12478
        have f12483 := f0.tr f12480 rfl
        show wp _ _ 17 21 [(2, .ref 24), (0, .ref r0), (1, .ref r1)] [vI z12481] _ H12475 _
        exact wp_zreturn e17 c17_21 rfl (by omega) ⟨rfl, w12479, f12483, z12481, rfl, ⟨by omega, by omega⟩⟩
    · subst c12034
      show wp _ _ 17 4 [(0, .ref r0), (1, .ref r1)] [.ref 25] _ H _
      refine wp_of e17 c17_4 (rw_astore_n (pc' := 5) (v := .ref 25) (L' := [(2, .ref 25), (0, .ref r0), (1, .ref r1)]) rfl rfl rfl rfl ?_)
      refine wp_of e17 c17_5 (rw_aload_n (pc' := 6) (v := .ref 25) rfl rfl rfl ?_)
      refine wp_of e17 c17_6 (rw_ifnull_r (p1 := 16) (p2 := 9) (by decide) rfl ?_)
      refine wp_of e17 c17_9 (rw_aload_n (pc' := 10) (v := .ref 25) rfl rfl rfl ?_)
      have k12484 : H 25 1 = 0 := (hW.2 25 _ (hW.1.2.2 9 (by decide))).2.2 1 (by decide) |> fun z => by have z1 : (0 : Int) ≤ H 25 1 ∧ H 25 1 ≤ 0 := z; omega
      refine wp_of e17 c17_10 (rw_getI (pc' := 13) (n := 2) (e := _) (lf_1_58).choose_spec.1 (lf_1_58).choose_spec.2.1 (hW.sh (hW.1.2.2 9 (by decide)) rfl) (by decide) rfl rfl ?_)
      rw [k12484]
      refine wp_of e17 c17_13 (rw_if_ne (p1 := 22) (p2 := 16) (by decide) rfl ⟨by omega, by omega⟩ (fun c12485 => ?_) (fun c12485 => ?_))
      · exfalso
        omega
      · refine wp_of e17 c17_16 (rw_aload_n (pc' := 17) (v := .ref r0) rfl rfl rfl ?_)
        refine wp_of e17 c17_17 (rw_iconst (pc' := 18) rfl ?_)
        refine wp_of e17 c17_18 (xc_V (pc' := 21) (r := r0) (as := [vI 1]) (st := []) (lm_1_47) rfl rfl (Nat.le_of_ble_eq_true rfl) hW g0 sh_3 (by decide) rfl (by decide) (s_20 hW g0 ⟨by omega, by omega⟩) (fun R12486 T12487 H12488 p12489 => ?_))
        obtain ⟨e12490, w12492, f12493, z12494, e12491, b12495⟩ := p12489
        subst e12490
        subst e12491
        have f12496 := f0.tr f12493 rfl
        show wp _ _ 17 21 [(2, .ref 25), (0, .ref r0), (1, .ref r1)] [vI z12494] _ H12488 _
        exact wp_zreturn e17 c17_21 rfl (by omega) ⟨rfl, w12492, f12496, z12494, rfl, ⟨by omega, by omega⟩⟩
    · subst c12034
      show wp _ _ 17 4 [(0, .ref r0), (1, .ref r1)] [.ref 26] _ H _
      refine wp_of e17 c17_4 (rw_astore_n (pc' := 5) (v := .ref 26) (L' := [(2, .ref 26), (0, .ref r0), (1, .ref r1)]) rfl rfl rfl rfl ?_)
      refine wp_of e17 c17_5 (rw_aload_n (pc' := 6) (v := .ref 26) rfl rfl rfl ?_)
      refine wp_of e17 c17_6 (rw_ifnull_r (p1 := 16) (p2 := 9) (by decide) rfl ?_)
      refine wp_of e17 c17_9 (rw_aload_n (pc' := 10) (v := .ref 26) rfl rfl rfl ?_)
      have k12497 : H 26 1 = 0 := (hW.2 26 _ (hW.1.2.2 10 (by decide))).2.2 1 (by decide) |> fun z => by have z1 : (0 : Int) ≤ H 26 1 ∧ H 26 1 ≤ 0 := z; omega
      refine wp_of e17 c17_10 (rw_getI (pc' := 13) (n := 2) (e := _) (lf_1_58).choose_spec.1 (lf_1_58).choose_spec.2.1 (hW.sh (hW.1.2.2 10 (by decide)) rfl) (by decide) rfl rfl ?_)
      rw [k12497]
      refine wp_of e17 c17_13 (rw_if_ne (p1 := 22) (p2 := 16) (by decide) rfl ⟨by omega, by omega⟩ (fun c12498 => ?_) (fun c12498 => ?_))
      · exfalso
        omega
      · refine wp_of e17 c17_16 (rw_aload_n (pc' := 17) (v := .ref r0) rfl rfl rfl ?_)
        refine wp_of e17 c17_17 (rw_iconst (pc' := 18) rfl ?_)
        refine wp_of e17 c17_18 (xc_V (pc' := 21) (r := r0) (as := [vI 1]) (st := []) (lm_1_47) rfl rfl (Nat.le_of_ble_eq_true rfl) hW g0 sh_3 (by decide) rfl (by decide) (s_20 hW g0 ⟨by omega, by omega⟩) (fun R12499 T12500 H12501 p12502 => ?_))
        obtain ⟨e12503, w12505, f12506, z12507, e12504, b12508⟩ := p12502
        subst e12503
        subst e12504
        have f12509 := f0.tr f12506 rfl
        show wp _ _ 17 21 [(2, .ref 26), (0, .ref r0), (1, .ref r1)] [vI z12507] _ H12501 _
        exact wp_zreturn e17 c17_21 rfl (by omega) ⟨rfl, w12505, f12509, z12507, rfl, ⟨by omega, by omega⟩⟩
