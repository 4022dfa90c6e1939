/-! methods of the reference (own work, written by wip/gen2/sx.py) -/
/-! StrikeAwakeModel.likeliest(I)I -/
theorem e256 : wq_en 256 = some (9, 3, false, some FieldType.int) := rfl
theorem c256_0 : mc_cd 256 0 = some (.aload_n 0, 1) := by decide +kernel
theorem c256_1 : mc_cd 256 1 = some (.iconst 0, 1) := by decide +kernel
theorem c256_2 : mc_cd 256 2 = some (.putfield 48, 3) := by decide +kernel
theorem c256_5 : mc_cd 256 5 = some (.aload_n 0, 1) := by decide +kernel
theorem c256_6 : mc_cd 256 6 = some (.aload_n 0, 1) := by decide +kernel
theorem c256_7 : mc_cd 256 7 = some (.iload_n 1, 1) := by decide +kernel
theorem c256_8 : mc_cd 256 8 = some (.invokevirtual 364, 3) := by decide +kernel
theorem c256_11 : mc_cd 256 11 = some (.invokevirtual 447, 3) := by decide +kernel
theorem c256_14 : mc_cd 256 14 = some (.istore_n 2, 1) := by decide +kernel
theorem c256_15 : mc_cd 256 15 = some (.iload_n 2, 1) := by decide +kernel
theorem c256_16 : mc_cd 256 16 = some (.ifCond .le 9, 3) := by decide +kernel
theorem c256_19 : mc_cd 256 19 = some (.aload_n 0, 1) := by decide +kernel
theorem c256_20 : mc_cd 256 20 = some (.iload_n 2, 1) := by decide +kernel
theorem c256_21 : mc_cd 256 21 = some (.invokevirtual 54, 3) := by decide +kernel
theorem c256_24 : mc_cd 256 24 = some (.ireturn, 1) := by decide +kernel
theorem c256_25 : mc_cd 256 25 = some (.aload_n 0, 1) := by decide +kernel
theorem c256_26 : mc_cd 256 26 = some (.invokevirtual 452, 3) := by decide +kernel
theorem c256_29 : mc_cd 256 29 = some (.pop2, 1) := by decide +kernel
theorem c256_30 : mc_cd 256 30 = some (.aload_n 0, 1) := by decide +kernel
theorem c256_31 : mc_cd 256 31 = some (.aload_n 0, 1) := by decide +kernel
theorem c256_32 : mc_cd 256 32 = some (.getfield 39, 3) := by decide +kernel
theorem c256_35 : mc_cd 256 35 = some (.iload_n 1, 1) := by decide +kernel
theorem c256_36 : mc_cd 256 36 = some (.iaload, 1) := by decide +kernel
theorem c256_37 : mc_cd 256 37 = some (.invokevirtual 58, 3) := by decide +kernel
theorem c256_40 : mc_cd 256 40 = some (.ireturn, 1) := by decide +kernel
abbrev q_256 (r0 : Nat) (a1 : Int) (T : wq_T) (H : wq_H) : Option Value → wq_T → wq_H → Prop := fun r T' H' => T = T' ∧ WT T H' ∧ wfr [(42, 0), (42, 1), (42, 2), (42, 28), (42, 29), (51, 999), (52, 999)] T H H' ∧ ∃ z : Int, some (vI z) = r ∧ ((-2147483648) ≤ z ∧ z ≤ 2147483647) ∧ (wKI H' r0 = 1) ∧ (H' r0 2 = -1)
set_option maxHeartbeats 4000000 in
theorem s_256 {kt : Nat → Option mc_E} {T : wq_T} {H : wq_H} {r0 : Nat} {a1 : Int} (hW : WT T H) (g0 : T.2.2.2 r0 = some 42) (i1 : (-2147483648) ≤ a1 ∧ a1 ≤ 2147483647) (p0 : wKI H r0 = 1) : wpc kt 9 256 [.ref r0, vI a1] T H (q_256 r0 a1 T H) := by
  refine wp_enter e256 (Nat.le_of_ble_eq_true rfl) rfl ?_
  have f0 : wfr [(42, 0), (42, 1), (42, 2), (42, 28), (42, 29), (51, 999), (52, 999)] T H H := wfr.rf
  show wp _ _ 256 0 [(0, .ref r0), (1, vI a1)] [] _ H _
  refine wp_of e256 c256_0 (rw_aload_n (pc' := 1) (v := .ref r0) rfl rfl rfl ?_)
  refine wp_of e256 c256_1 (rw_iconst (pc' := 2) rfl ?_)
  refine wp_of e256 c256_2 (xp_I (pc' := 5) lf_9_48 hW g0 sh_42 (by decide) (by decide) ty_42_0 rfl rfl (by omega) (by omega) ⟨by omega, by omega⟩ rfl (fun H142926 e142927 w142928 => ?_))
  have f142929 := f0.put' e142927 g0 rfl
  have k142930 : H142926 r0 0 = 0 := wq_u_s e142927
  refine wp_of e256 c256_5 (rw_aload_n (pc' := 6) (v := .ref r0) rfl rfl rfl ?_)
  refine wp_of e256 c256_6 (rw_aload_n (pc' := 7) (v := .ref r0) rfl rfl rfl ?_)
  refine wp_of e256 c256_7 (rw_iload_n (pc' := 8) (z := a1) rfl rfl ?_)
  refine wp_of e256 c256_8 (xc_V (pc' := 11) (r := r0) (as := [vI a1]) (st := [.ref r0]) (lm_9_364) rfl rfl (Nat.le_of_ble_eq_true rfl) w142928 g0 sh_42 (by decide) rfl (by decide) (s_213 w142928 g0 ⟨by omega, by omega⟩) (fun R142931 T142932 H142933 p142934 => ?_))
  obtain ⟨e142935, e142937, z142939, e142936, b142940, p142938⟩ := p142934
  subst e142935
  subst e142936
  subst e142937
  show wp _ _ 256 11 [(0, .ref r0), (1, vI a1)] [vI z142939, .ref r0] _ H142926 _
  have k142941 : wKI H142926 r0 = wKI H r0 := (wKI_fr hW g0 ((wfr.rf (l := [(42, 0)])).put' e142927 g0 rfl) rfl)
  refine wp_of e256 c256_11 (xc_V (pc' := 14) (r := r0) (as := [vI z142939]) (st := []) (lm_9_447) rfl rfl (Nat.le_of_ble_eq_true rfl) w142928 g0 sh_42 (by decide) rfl (by decide) (s_253 w142928 g0 ⟨by omega, by omega⟩ (by omega) (by omega)) (fun R142942 T142943 H142944 p142945 => ?_))
  obtain ⟨e142946, w142948, f142949, z142954, e142947, b142955, p142950, p142951, p142952, p142953⟩ := p142945
  subst e142946
  subst e142947
  have f142956 := f142929.tr f142949 rfl
  show wp _ _ 256 14 [(0, .ref r0), (1, vI a1)] [vI z142954] _ H142944 _
  refine wp_of e256 c256_14 (rw_istore_n (pc' := 15) (z := z142954) (L' := [(2, vI z142954), (0, .ref r0), (1, vI a1)]) rfl rfl rfl ?_)
  refine wp_of e256 c256_15 (rw_iload_n (pc' := 16) (z := z142954) rfl rfl ?_)
  refine wp_of e256 c256_16 (rw_if_le (p1 := 25) (p2 := 19) (by decide) rfl ⟨by omega, by omega⟩ (fun c142957 => ?_) (fun c142957 => ?_))
  · refine wp_of e256 c256_25 (rw_aload_n (pc' := 26) (v := .ref r0) rfl rfl rfl ?_)
    have k142958 : H142944 r0 3 = H142926 r0 3 := (f142949 r0 3 _ g0 rfl)
    obtain ⟨r142959, q142960, g142961⟩ := (w142948.opt g0 (t' := 54) (n := 33) (j := 3) (p := 0) (q := 0) rfl (by decide) rfl).resolve_left (by omega)
    refine wp_of e256 c256_26 (xc_V (pc' := 29) (r := r0) (as := []) (st := []) (lm_9_452) rfl rfl (Nat.le_of_ble_eq_true rfl) w142948 g0 sh_42 (by decide) rfl (by decide) (s_257 w142948 g0 q142960 g142961 (by omega) (by omega)) (fun R142962 T142963 H142964 p142965 => ?_))
    obtain ⟨e142966, w142968, f142969, z142970, e142967, b142971⟩ := p142965
    subst e142966
    subst e142967
    have f142972 := f142956.tr f142969 rfl
    show wp _ _ 256 29 [(2, vI z142954), (0, .ref r0), (1, vI a1)] [vL z142970] _ H142964 _
    refine wp_of e256 c256_29 (rw_pop2 (pc' := 30) rfl rfl ?_)
    refine wp_of e256 c256_30 (rw_aload_n (pc' := 31) (v := .ref r0) rfl rfl rfl ?_)
    refine wp_of e256 c256_31 (rw_aload_n (pc' := 32) (v := .ref r0) rfl rfl rfl ?_)
    refine wp_of e256 c256_32 (xg_R (pc' := 35) lf_9_39 w142968 g0 sh_42 (by decide) (by decide) ty_42_27 rfl rfl (fun r142973 q142974 g142975 => ?_))
    refine wp_of e256 c256_35 (rw_iload_n (pc' := 36) (z := a1) rfl rfl ?_)
    refine wp_of e256 c256_36 (xa_I (so := 0) (pc' := 37) w142968 g142975 sh_51 (by decide) (ty_51 _) (by omega) (by omega) rfl (fun b142976 b142977 => ?_))
    refine wp_of e256 c256_37 (xc_V (pc' := 40) (r := r0) (as := [vI (H142964 r142973 (a1.toNat))]) (st := []) (lm_9_58) rfl rfl (Nat.le_of_ble_eq_true rfl) w142968 g0 sh_42 (by decide) rfl (by decide) (s_209 w142968 g0 ⟨by omega, by omega⟩) (fun R142978 T142979 H142980 p142981 => ?_))
    obtain ⟨e142982, w142984, f142985, z142987, e142983, b142988, p142986⟩ := p142981
    subst e142982
    subst e142983
    have f142989 := f142972.tr f142985 rfl
    show wp _ _ 256 40 [(2, vI z142954), (0, .ref r0), (1, vI a1)] [vI z142987] _ H142980 _
    have k142990 : wKI H142980 r0 = wKI H142944 r0 := ((wKI_fr w142968 g0 f142985 rfl).trans (wKI_fr w142948 g0 f142969 rfl))
    exact wp_ireturn e256 c256_40 rfl ⟨rfl, w142984, f142989, z142987, rfl, ⟨by omega, by omega⟩, by omega, by omega⟩
  · refine wp_of e256 c256_19 (rw_aload_n (pc' := 20) (v := .ref r0) rfl rfl rfl ?_)
    refine wp_of e256 c256_20 (rw_iload_n (pc' := 21) (z := z142954) rfl rfl ?_)
    refine wp_of e256 c256_21 (xc_V (pc' := 24) (r := r0) (as := [vI z142954]) (st := []) (lm_9_54) rfl rfl (Nat.le_of_ble_eq_true rfl) w142948 g0 sh_42 (by decide) rfl (by decide) (s_170 w142948 g0 ⟨by omega, by omega⟩) (fun R142991 T142992 H142993 p142994 => ?_))
    obtain ⟨e142995, w142997, f142998, z143000, e142996, b143001, p142999⟩ := p142994
    subst e142995
    subst e142996
    have f143002 := f142956.tr f142998 rfl
    show wp _ _ 256 24 [(2, vI z142954), (0, .ref r0), (1, vI a1)] [vI z143000] _ H142993 _
    have k143003 : wKI H142993 r0 = wKI H142944 r0 := (wKI_fr w142948 g0 f142998 rfl)
    exact wp_ireturn e256 c256_24 rfl ⟨rfl, w142997, f143002, z143000, rfl, ⟨by omega, by omega⟩, by omega, by omega⟩
/-! StrikeAwakeModel.greatest()J -/
theorem e258 : wq_en 258 = some (9, 2, false, some FieldType.long) := rfl
theorem c258_0 : mc_cd 258 0 = some (.aload_n 0, 1) := by decide +kernel
theorem c258_1 : mc_cd 258 1 = some (.iconst 0, 1) := by decide +kernel
theorem c258_2 : mc_cd 258 2 = some (.putfield 48, 3) := by decide +kernel
theorem c258_5 : mc_cd 258 5 = some (.aload_n 0, 1) := by decide +kernel
theorem c258_6 : mc_cd 258 6 = some (.aload_n 0, 1) := by decide +kernel
theorem c258_7 : mc_cd 258 7 = some (.getfield 337, 3) := by decide +kernel
theorem c258_10 : mc_cd 258 10 = some (.ifnull 7, 3) := by decide +kernel
theorem c258_13 : mc_cd 258 13 = some (.iconst 1, 1) := by decide +kernel
theorem c258_14 : mc_cd 258 14 = some (.goto 4, 3) := by decide +kernel
theorem c258_17 : mc_cd 258 17 = some (.iconst 0, 1) := by decide +kernel
theorem c258_18 : mc_cd 258 18 = some (.invokevirtual 447, 3) := by decide +kernel
theorem c258_21 : mc_cd 258 21 = some (.istore_n 1, 1) := by decide +kernel
theorem c258_22 : mc_cd 258 22 = some (.iload_n 1, 1) := by decide +kernel
theorem c258_23 : mc_cd 258 23 = some (.ifCond .le 12, 3) := by decide +kernel
theorem c258_26 : mc_cd 258 26 = some (.aload_n 0, 1) := by decide +kernel
theorem c258_27 : mc_cd 258 27 = some (.iload_n 1, 1) := by decide +kernel
theorem c258_28 : mc_cd 258 28 = some (.invokevirtual 54, 3) := by decide +kernel
theorem c258_31 : mc_cd 258 31 = some (.i2l, 1) := by decide +kernel
theorem c258_32 : mc_cd 258 32 = some (.goto 11, 3) := by decide +kernel
theorem c258_35 : mc_cd 258 35 = some (.aload_n 0, 1) := by decide +kernel
theorem c258_36 : mc_cd 258 36 = some (.aload_n 0, 1) := by decide +kernel
theorem c258_37 : mc_cd 258 37 = some (.invokevirtual 452, 3) := by decide +kernel
theorem c258_40 : mc_cd 258 40 = some (.invokevirtual 380, 3) := by decide +kernel
theorem c258_43 : mc_cd 258 43 = some (.lreturn, 1) := by decide +kernel
abbrev q_258 (r0 : Nat) (T : wq_T) (H : wq_H) : Option Value → wq_T → wq_H → Prop := fun r T' H' => T = T' ∧ WT T H' ∧ wfr [(42, 0), (42, 1), (42, 2), (42, 28), (42, 29), (51, 999), (52, 999)] T H H' ∧ ∃ z : Int, some (vL z) = r ∧ ((-9223372036854775808) ≤ z ∧ z ≤ 9223372036854775807) ∧ (wKI H' r0 = 1) ∧ (H' r0 2 = -1)
set_option maxHeartbeats 4000000 in
theorem s_258 {kt : Nat → Option mc_E} {T : wq_T} {H : wq_H} {r0 : Nat} (hW : WT T H) (g0 : T.2.2.2 r0 = some 42) (p0 : wKI H r0 = 1) : wpc kt 9 258 [.ref r0] T H (q_258 r0 T H) := by
  refine wp_enter e258 (Nat.le_of_ble_eq_true rfl) rfl ?_
  have f0 : wfr [(42, 0), (42, 1), (42, 2), (42, 28), (42, 29), (51, 999), (52, 999)] T H H := wfr.rf
  show wp _ _ 258 0 [(0, .ref r0)] [] _ H _
  refine wp_of e258 c258_0 (rw_aload_n (pc' := 1) (v := .ref r0) rfl rfl rfl ?_)
  refine wp_of e258 c258_1 (rw_iconst (pc' := 2) rfl ?_)
  refine wp_of e258 c258_2 (xp_I (pc' := 5) lf_9_48 hW g0 sh_42 (by decide) (by decide) ty_42_0 rfl rfl (by omega) (by omega) ⟨by omega, by omega⟩ rfl (fun H143098 e143099 w143100 => ?_))
  have f143101 := f0.put' e143099 g0 rfl
  have k143102 : H143098 r0 0 = 0 := wq_u_s e143099
  refine wp_of e258 c258_5 (rw_aload_n (pc' := 6) (v := .ref r0) rfl rfl rfl ?_)
  refine wp_of e258 c258_6 (rw_aload_n (pc' := 7) (v := .ref r0) rfl rfl rfl ?_)
  refine wp_of e258 c258_7 (xg_O (pc' := 10) lf_9_337 w143100 g0 sh_42 (by decide) (by decide) ty_42_3 rfl rfl (fun q143104 => ?_) (fun r143103 q143104 g143105 => ?_))
  · refine wp_of e258 c258_10 (rw_ifnull_n (p1 := 17) (p2 := 13) (by decide) rfl ?_)
    refine wp_of e258 c258_17 (rw_iconst (pc' := 18) rfl ?_)
    have k143106 : wKI H143098 r0 = wKI H r0 := (wKI_fr hW g0 ((wfr.rf (l := [(42, 0)])).put' e143099 g0 rfl) rfl)
    refine wp_of e258 c258_18 (xc_V (pc' := 21) (r := r0) (as := [vI 0]) (st := []) (lm_9_447) rfl rfl (Nat.le_of_ble_eq_true rfl) w143100 g0 sh_42 (by decide) rfl (by decide) (s_253 w143100 g0 ⟨by omega, by omega⟩ (by omega) (by omega)) (fun R143107 T143108 H143109 p143110 => ?_))
    obtain ⟨e143111, w143113, f143114, z143119, e143112, b143120, p143115, p143116, p143117, p143118⟩ := p143110
    subst e143111
    subst e143112
    have f143121 := f143101.tr f143114 rfl
    show wp _ _ 258 21 [(0, .ref r0)] [vI z143119] _ H143109 _
    refine wp_of e258 c258_21 (rw_istore_n (pc' := 22) (z := z143119) (L' := [(1, vI z143119), (0, .ref r0)]) rfl rfl rfl ?_)
    refine wp_of e258 c258_22 (rw_iload_n (pc' := 23) (z := z143119) rfl rfl ?_)
    refine wp_of e258 c258_23 (rw_if_le (p1 := 35) (p2 := 26) (by decide) rfl ⟨by omega, by omega⟩ (fun c143122 => ?_) (fun c143122 => ?_))
    · exfalso
      omega
    · refine wp_of e258 c258_26 (rw_aload_n (pc' := 27) (v := .ref r0) rfl rfl rfl ?_)
      refine wp_of e258 c258_27 (rw_iload_n (pc' := 28) (z := z143119) rfl rfl ?_)
      refine wp_of e258 c258_28 (xc_V (pc' := 31) (r := r0) (as := [vI z143119]) (st := []) (lm_9_54) rfl rfl (Nat.le_of_ble_eq_true rfl) w143113 g0 sh_42 (by decide) rfl (by decide) (s_170 w143113 g0 ⟨by omega, by omega⟩) (fun R143123 T143124 H143125 p143126 => ?_))
      obtain ⟨e143127, w143129, f143130, z143132, e143128, b143133, p143131⟩ := p143126
      subst e143127
      subst e143128
      have f143134 := f143121.tr f143130 rfl
      show wp _ _ 258 31 [(1, vI z143119), (0, .ref r0)] [vI z143132] _ H143125 _
      refine wp_of e258 c258_31 (rw_i2l (pc' := 32) rfl ⟨by omega, by omega⟩ ?_)
      refine wp_of e258 c258_32 (rw_goto (p1 := 43) (by decide) ?_)
      have k143135 : wKI H143125 r0 = wKI H143109 r0 := (wKI_fr w143113 g0 f143130 rfl)
      exact wp_lreturn e258 c258_43 rfl ⟨rfl, w143129, f143134, z143132, rfl, ⟨by omega, by omega⟩, by omega, by omega⟩
  · refine wp_of e258 c258_10 (rw_ifnull_r (p1 := 17) (p2 := 13) (by decide) rfl ?_)
    refine wp_of e258 c258_13 (rw_iconst (pc' := 14) rfl ?_)
    refine wp_of e258 c258_14 (rw_goto (p1 := 18) (by decide) ?_)
    have k143136 : wKI H143098 r0 = wKI H r0 := (wKI_fr hW g0 ((wfr.rf (l := [(42, 0)])).put' e143099 g0 rfl) rfl)
    refine wp_of e258 c258_18 (xc_V (pc' := 21) (r := r0) (as := [vI 1]) (st := []) (lm_9_447) rfl rfl (Nat.le_of_ble_eq_true rfl) w143100 g0 sh_42 (by decide) rfl (by decide) (s_253 w143100 g0 ⟨by omega, by omega⟩ (by omega) (by omega)) (fun R143137 T143138 H143139 p143140 => ?_))
    obtain ⟨e143141, w143143, f143144, z143149, e143142, b143150, p143145, p143146, p143147, p143148⟩ := p143140
    subst e143141
    subst e143142
    have f143151 := f143101.tr f143144 rfl
    show wp _ _ 258 21 [(0, .ref r0)] [vI z143149] _ H143139 _
    refine wp_of e258 c258_21 (rw_istore_n (pc' := 22) (z := z143149) (L' := [(1, vI z143149), (0, .ref r0)]) rfl rfl rfl ?_)
    refine wp_of e258 c258_22 (rw_iload_n (pc' := 23) (z := z143149) rfl rfl ?_)
    refine wp_of e258 c258_23 (rw_if_le (p1 := 35) (p2 := 26) (by decide) rfl ⟨by omega, by omega⟩ (fun c143152 => ?_) (fun c143152 => ?_))
    · refine wp_of e258 c258_35 (rw_aload_n (pc' := 36) (v := .ref r0) rfl rfl rfl ?_)
      refine wp_of e258 c258_36 (rw_aload_n (pc' := 37) (v := .ref r0) rfl rfl rfl ?_)
      have k143153 : H143139 r0 3 = H143098 r0 3 := (f143144 r0 3 _ g0 rfl)
      have q143154 : H143139 r0 3 = (r143103 : Int) := k143153.trans q143104
      refine wp_of e258 c258_37 (xc_V (pc' := 40) (r := r0) (as := []) (st := [.ref r0]) (lm_9_452) rfl rfl (Nat.le_of_ble_eq_true rfl) w143143 g0 sh_42 (by decide) rfl (by decide) (s_257 w143143 g0 q143154 g143105 (by omega) (by omega)) (fun R143155 T143156 H143157 p143158 => ?_))
      obtain ⟨e143159, w143161, f143162, z143163, e143160, b143164⟩ := p143158
      subst e143159
      subst e143160
      have f143165 := f143151.tr f143162 rfl
      show wp _ _ 258 40 [(1, vI z143149), (0, .ref r0)] [vL z143163, .ref r0] _ H143157 _
      refine wp_of e258 c258_40 (xc_V (pc' := 43) (r := r0) (as := [vL z143163]) (st := []) (lm_9_380) rfl rfl (Nat.le_of_ble_eq_true rfl) w143161 g0 sh_42 (by decide) rfl (by decide) (s_221 w143161 g0 ⟨by omega, by omega⟩) (fun R143166 T143167 H143168 p143169 => ?_))
      obtain ⟨e143170, w143172, f143173, z143175, e143171, b143176, p143174⟩ := p143169
      subst e143170
      subst e143171
      have f143177 := f143165.tr f143173 rfl
      show wp _ _ 258 43 [(1, vI z143149), (0, .ref r0)] [vL z143175] _ H143168 _
      have k143178 : wKI H143168 r0 = wKI H143139 r0 := ((wKI_fr w143161 g0 f143173 rfl).trans (wKI_fr w143143 g0 f143162 rfl))
      exact wp_lreturn e258 c258_43 rfl ⟨rfl, w143172, f143177, z143175, rfl, ⟨by omega, by omega⟩, by omega, by omega⟩
    · refine wp_of e258 c258_26 (rw_aload_n (pc' := 27) (v := .ref r0) rfl rfl rfl ?_)
      refine wp_of e258 c258_27 (rw_iload_n (pc' := 28) (z := z143149) rfl rfl ?_)
      refine wp_of e258 c258_28 (xc_V (pc' := 31) (r := r0) (as := [vI z143149]) (st := []) (lm_9_54) rfl rfl (Nat.le_of_ble_eq_true rfl) w143143 g0 sh_42 (by decide) rfl (by decide) (s_170 w143143 g0 ⟨by omega, by omega⟩) (fun R143179 T143180 H143181 p143182 => ?_))
      obtain ⟨e143183, w143185, f143186, z143188, e143184, b143189, p143187⟩ := p143182
      subst e143183
      subst e143184
      have f143190 := f143151.tr f143186 rfl
      show wp _ _ 258 31 [(1, vI z143149), (0, .ref r0)] [vI z143188] _ H143181 _
      refine wp_of e258 c258_31 (rw_i2l (pc' := 32) rfl ⟨by omega, by omega⟩ ?_)
      refine wp_of e258 c258_32 (rw_goto (p1 := 43) (by decide) ?_)
      have k143191 : wKI H143181 r0 = wKI H143139 r0 := (wKI_fr w143143 g0 f143186 rfl)
      exact wp_lreturn e258 c258_43 rfl ⟨rfl, w143185, f143190, z143188, rfl, ⟨by omega, by omega⟩, by omega, by omega⟩
/-! StrikeAwakeModel.together(II)I -/
theorem e259 : wq_en 259 = some (9, 6, false, some FieldType.int) := rfl
theorem c259_0 : mc_cd 259 0 = some (.aload_n 0, 1) := by decide +kernel
theorem c259_1 : mc_cd 259 1 = some (.iconst 0, 1) := by decide +kernel
theorem c259_2 : mc_cd 259 2 = some (.putfield 48, 3) := by decide +kernel
theorem c259_5 : mc_cd 259 5 = some (.aload_n 0, 1) := by decide +kernel
theorem c259_6 : mc_cd 259 6 = some (.aload_n 0, 1) := by decide +kernel
theorem c259_7 : mc_cd 259 7 = some (.iload_n 1, 1) := by decide +kernel
theorem c259_8 : mc_cd 259 8 = some (.invokevirtual 364, 3) := by decide +kernel
theorem c259_11 : mc_cd 259 11 = some (.ifCond .eq 20, 3) := by decide +kernel
theorem c259_14 : mc_cd 259 14 = some (.aload_n 0, 1) := by decide +kernel
theorem c259_15 : mc_cd 259 15 = some (.iload_n 2, 1) := by decide +kernel
theorem c259_16 : mc_cd 259 16 = some (.invokevirtual 364, 3) := by decide +kernel
theorem c259_19 : mc_cd 259 19 = some (.ifCond .eq 12, 3) := by decide +kernel
theorem c259_22 : mc_cd 259 22 = some (.iload_n 1, 1) := by decide +kernel
theorem c259_23 : mc_cd 259 23 = some (.iload_n 2, 1) := by decide +kernel
theorem c259_24 : mc_cd 259 24 = some (.if_icmp .eq 7, 3) := by decide +kernel
theorem c259_27 : mc_cd 259 27 = some (.iconst 1, 1) := by decide +kernel
theorem c259_28 : mc_cd 259 28 = some (.goto 4, 3) := by decide +kernel
theorem c259_31 : mc_cd 259 31 = some (.iconst 0, 1) := by decide +kernel
theorem c259_32 : mc_cd 259 32 = some (.invokevirtual 433, 3) := by decide +kernel
theorem c259_35 : mc_cd 259 35 = some (.istore_n 3, 1) := by decide +kernel
theorem c259_36 : mc_cd 259 36 = some (.iload_n 3, 1) := by decide +kernel
theorem c259_37 : mc_cd 259 37 = some (.ifCond .le 9, 3) := by decide +kernel
theorem c259_40 : mc_cd 259 40 = some (.aload_n 0, 1) := by decide +kernel
theorem c259_41 : mc_cd 259 41 = some (.iload_n 3, 1) := by decide +kernel
theorem c259_42 : mc_cd 259 42 = some (.invokevirtual 54, 3) := by decide +kernel
theorem c259_45 : mc_cd 259 45 = some (.ireturn, 1) := by decide +kernel
theorem c259_46 : mc_cd 259 46 = some (.iconst 0, 1) := by decide +kernel
theorem c259_47 : mc_cd 259 47 = some (.istore 4, 2) := by decide +kernel
theorem c259_49 : mc_cd 259 49 = some (.iconst 0, 1) := by decide +kernel
theorem c259_50 : mc_cd 259 50 = some (.istore 5, 2) := by decide +kernel
theorem c259_52 : mc_cd 259 52 = some (.iload 5, 2) := by decide +kernel
theorem c259_54 : mc_cd 259 54 = some (.aload_n 0, 1) := by decide +kernel
theorem c259_55 : mc_cd 259 55 = some (.getfield 422, 3) := by decide +kernel
theorem c259_58 : mc_cd 259 58 = some (.if_icmp .ge 58, 3) := by decide +kernel
theorem c259_61 : mc_cd 259 61 = some (.aload_n 0, 1) := by decide +kernel
theorem c259_62 : mc_cd 259 62 = some (.aload_n 0, 1) := by decide +kernel
theorem c259_63 : mc_cd 259 63 = some (.getfield 42, 3) := by decide +kernel
theorem c259_66 : mc_cd 259 66 = some (.iload 5, 2) := by decide +kernel
theorem c259_68 : mc_cd 259 68 = some (.iaload, 1) := by decide +kernel
theorem c259_69 : mc_cd 259 69 = some (.invokevirtual 425, 3) := by decide +kernel
theorem c259_72 : mc_cd 259 72 = some (.iload 4, 2) := by decide +kernel
theorem c259_74 : mc_cd 259 74 = some (.aload_n 0, 1) := by decide +kernel
theorem c259_75 : mc_cd 259 75 = some (.getfield 33, 3) := by decide +kernel
theorem c259_78 : mc_cd 259 78 = some (.bipush 40, 2) := by decide +kernel
theorem c259_80 : mc_cd 259 80 = some (.iload_n 1, 1) := by decide +kernel
theorem c259_81 : mc_cd 259 81 = some (.imul, 1) := by decide +kernel
theorem c259_82 : mc_cd 259 82 = some (.aload_n 0, 1) := by decide +kernel
theorem c259_83 : mc_cd 259 83 = some (.getfield 39, 3) := by decide +kernel
theorem c259_86 : mc_cd 259 86 = some (.iload_n 1, 1) := by decide +kernel
theorem c259_87 : mc_cd 259 87 = some (.iaload, 1) := by decide +kernel
theorem c259_88 : mc_cd 259 88 = some (.iadd, 1) := by decide +kernel
theorem c259_89 : mc_cd 259 89 = some (.iaload, 1) := by decide +kernel
theorem c259_90 : mc_cd 259 90 = some (.aload_n 0, 1) := by decide +kernel
theorem c259_91 : mc_cd 259 91 = some (.getfield 33, 3) := by decide +kernel
theorem c259_94 : mc_cd 259 94 = some (.bipush 40, 2) := by decide +kernel
theorem c259_96 : mc_cd 259 96 = some (.iload_n 2, 1) := by decide +kernel
theorem c259_97 : mc_cd 259 97 = some (.imul, 1) := by decide +kernel
theorem c259_98 : mc_cd 259 98 = some (.aload_n 0, 1) := by decide +kernel
theorem c259_99 : mc_cd 259 99 = some (.getfield 39, 3) := by decide +kernel
theorem c259_102 : mc_cd 259 102 = some (.iload_n 2, 1) := by decide +kernel
theorem c259_103 : mc_cd 259 103 = some (.iaload, 1) := by decide +kernel
theorem c259_104 : mc_cd 259 104 = some (.iadd, 1) := by decide +kernel
theorem c259_105 : mc_cd 259 105 = some (.iaload, 1) := by decide +kernel
theorem c259_106 : mc_cd 259 106 = some (.iand, 1) := by decide +kernel
theorem c259_107 : mc_cd 259 107 = some (.ior, 1) := by decide +kernel
theorem c259_108 : mc_cd 259 108 = some (.istore 4, 2) := by decide +kernel
theorem c259_110 : mc_cd 259 110 = some (.iinc 5 1, 3) := by decide +kernel
theorem c259_113 : mc_cd 259 113 = some (.goto (-61), 3) := by decide +kernel
theorem c259_116 : mc_cd 259 116 = some (.aload_n 0, 1) := by decide +kernel
theorem c259_117 : mc_cd 259 117 = some (.iload 4, 2) := by decide +kernel
theorem c259_119 : mc_cd 259 119 = some (.invokevirtual 58, 3) := by decide +kernel
theorem c259_122 : mc_cd 259 122 = some (.ireturn, 1) := by decide +kernel
abbrev q_259 (r0 : Nat) (a1 : Int) (a2 : Int) (T : wq_T) (H : wq_H) : Option Value → wq_T → wq_H → Prop := fun r T' H' => T = T' ∧ WT T H' ∧ wfr [(42, 0), (42, 1), (42, 2), (42, 28), (42, 29), (51, 999), (52, 999)] T H H' ∧ ∃ z : Int, some (vI z) = r ∧ ((-2147483648) ≤ z ∧ z ≤ 2147483647) ∧ (wKI H' r0 = 1) ∧ (H' r0 2 = -1)
set_option maxHeartbeats 4000000 in
theorem s_259 {kt : Nat → Option mc_E} {T : wq_T} {H : wq_H} {r0 : Nat} {a1 : Int} {a2 : Int} (hW : WT T H) (g0 : T.2.2.2 r0 = some 42) (i1 : (-2147483648) ≤ a1 ∧ a1 ≤ 2147483647) (i2 : (-2147483648) ≤ a2 ∧ a2 ≤ 2147483647) (p0 : wKI H r0 = 1) : wpc kt 8 259 [.ref r0, vI a1, vI a2] T H (q_259 r0 a1 a2 T H) := by
  refine wp_enter e259 (Nat.le_of_ble_eq_true rfl) rfl ?_
  have f0 : wfr [(42, 0), (42, 1), (42, 2), (42, 28), (42, 29), (51, 999), (52, 999)] T H H := wfr.rf
  show wp _ _ 259 0 [(0, .ref r0), (1, vI a1), (2, vI a2)] [] _ H _
  refine wp_of e259 c259_0 (rw_aload_n (pc' := 1) (v := .ref r0) rfl rfl rfl ?_)
  refine wp_of e259 c259_1 (rw_iconst (pc' := 2) rfl ?_)
  refine wp_of e259 c259_2 (xp_I (pc' := 5) lf_9_48 hW g0 sh_42 (by decide) (by decide) ty_42_0 rfl rfl (by omega) (by omega) ⟨by omega, by omega⟩ rfl (fun H143723 e143724 w143725 => ?_))
  have f143726 := f0.put' e143724 g0 rfl
  have k143727 : H143723 r0 0 = 0 := wq_u_s e143724
  refine wp_of e259 c259_5 (rw_aload_n (pc' := 6) (v := .ref r0) rfl rfl rfl ?_)
  refine wp_of e259 c259_6 (rw_aload_n (pc' := 7) (v := .ref r0) rfl rfl rfl ?_)
  refine wp_of e259 c259_7 (rw_iload_n (pc' := 8) (z := a1) rfl rfl ?_)
  refine wp_of e259 c259_8 (xc_V (pc' := 11) (r := r0) (as := [vI a1]) (st := [.ref r0]) (lm_9_364) rfl rfl (Nat.le_of_ble_eq_true rfl) w143725 g0 sh_42 (by decide) rfl (by decide) (s_213 w143725 g0 ⟨by omega, by omega⟩) (fun R143728 T143729 H143730 p143731 => ?_))
  obtain ⟨e143732, e143734, z143736, e143733, b143737, p143735⟩ := p143731
  subst e143732
  subst e143733
  subst e143734
  show wp _ _ 259 11 [(0, .ref r0), (1, vI a1), (2, vI a2)] [vI z143736, .ref r0] _ H143723 _
  refine wp_of e259 c259_11 (rw_if_eq (p1 := 31) (p2 := 14) (by decide) rfl ⟨by omega, by omega⟩ (fun c143738 => ?_) (fun c143738 => ?_))
  · refine wp_of e259 c259_31 (rw_iconst (pc' := 32) rfl ?_)
    have k143739 : wKI H143723 r0 = wKI H r0 := (wKI_fr hW g0 ((wfr.rf (l := [(42, 0)])).put' e143724 g0 rfl) rfl)
    refine wp_of e259 c259_32 (xc_V (pc' := 35) (r := r0) (as := [vI 0]) (st := []) (lm_9_433) rfl rfl (Nat.le_of_ble_eq_true rfl) w143725 g0 sh_42 (by decide) rfl (by decide) (s_241 w143725 g0 ⟨by omega, by omega⟩ (by omega) (by omega)) (fun R143740 T143741 H143742 p143743 => ?_))
    obtain ⟨e143744, w143746, f143747, z143752, e143745, b143753, p143748, p143749, p143750, p143751⟩ := p143743
    subst e143744
    subst e143745
    have f143754 := f143726.tr f143747 rfl
    show wp _ _ 259 35 [(0, .ref r0), (1, vI a1), (2, vI a2)] [vI z143752] _ H143742 _
    refine wp_of e259 c259_35 (rw_istore_n (pc' := 36) (z := z143752) (L' := [(3, vI z143752), (0, .ref r0), (1, vI a1), (2, vI a2)]) rfl rfl rfl ?_)
    refine wp_of e259 c259_36 (rw_iload_n (pc' := 37) (z := z143752) rfl rfl ?_)
    refine wp_of e259 c259_37 (rw_if_le (p1 := 46) (p2 := 40) (by decide) rfl ⟨by omega, by omega⟩ (fun c143755 => ?_) (fun c143755 => ?_))
    · exfalso
      omega
    · refine wp_of e259 c259_40 (rw_aload_n (pc' := 41) (v := .ref r0) rfl rfl rfl ?_)
      refine wp_of e259 c259_41 (rw_iload_n (pc' := 42) (z := z143752) rfl rfl ?_)
      refine wp_of e259 c259_42 (xc_V (pc' := 45) (r := r0) (as := [vI z143752]) (st := []) (lm_9_54) rfl rfl (Nat.le_of_ble_eq_true rfl) w143746 g0 sh_42 (by decide) rfl (by decide) (s_170 w143746 g0 ⟨by omega, by omega⟩) (fun R143756 T143757 H143758 p143759 => ?_))
      obtain ⟨e143760, w143762, f143763, z143765, e143761, b143766, p143764⟩ := p143759
      subst e143760
      subst e143761
      have f143767 := f143754.tr f143763 rfl
      show wp _ _ 259 45 [(3, vI z143752), (0, .ref r0), (1, vI a1), (2, vI a2)] [vI z143765] _ H143758 _
      have k143768 : wKI H143758 r0 = wKI H143742 r0 := (wKI_fr w143746 g0 f143763 rfl)
      exact wp_ireturn e259 c259_45 rfl ⟨rfl, w143762, f143767, z143765, rfl, ⟨by omega, by omega⟩, by omega, by omega⟩
  · refine wp_of e259 c259_14 (rw_aload_n (pc' := 15) (v := .ref r0) rfl rfl rfl ?_)
    refine wp_of e259 c259_15 (rw_iload_n (pc' := 16) (z := a2) rfl rfl ?_)
    refine wp_of e259 c259_16 (xc_V (pc' := 19) (r := r0) (as := [vI a2]) (st := [.ref r0]) (lm_9_364) rfl rfl (Nat.le_of_ble_eq_true rfl) w143725 g0 sh_42 (by decide) rfl (by decide) (s_213 w143725 g0 ⟨by omega, by omega⟩) (fun R143769 T143770 H143771 p143772 => ?_))
    obtain ⟨e143773, e143775, z143777, e143774, b143778, p143776⟩ := p143772
    subst e143773
    subst e143774
    subst e143775
    show wp _ _ 259 19 [(0, .ref r0), (1, vI a1), (2, vI a2)] [vI z143777, .ref r0] _ H143723 _
    refine wp_of e259 c259_19 (rw_if_eq (p1 := 31) (p2 := 22) (by decide) rfl ⟨by omega, by omega⟩ (fun c143779 => ?_) (fun c143779 => ?_))
    · refine wp_of e259 c259_31 (rw_iconst (pc' := 32) rfl ?_)
      have k143780 : wKI H143723 r0 = wKI H r0 := (wKI_fr hW g0 ((wfr.rf (l := [(42, 0)])).put' e143724 g0 rfl) rfl)
      refine wp_of e259 c259_32 (xc_V (pc' := 35) (r := r0) (as := [vI 0]) (st := []) (lm_9_433) rfl rfl (Nat.le_of_ble_eq_true rfl) w143725 g0 sh_42 (by decide) rfl (by decide) (s_241 w143725 g0 ⟨by omega, by omega⟩ (by omega) (by omega)) (fun R143781 T143782 H143783 p143784 => ?_))
      obtain ⟨e143785, w143787, f143788, z143793, e143786, b143794, p143789, p143790, p143791, p143792⟩ := p143784
      subst e143785
      subst e143786
      have f143795 := f143726.tr f143788 rfl
      show wp _ _ 259 35 [(0, .ref r0), (1, vI a1), (2, vI a2)] [vI z143793] _ H143783 _
      refine wp_of e259 c259_35 (rw_istore_n (pc' := 36) (z := z143793) (L' := [(3, vI z143793), (0, .ref r0), (1, vI a1), (2, vI a2)]) rfl rfl rfl ?_)
      refine wp_of e259 c259_36 (rw_iload_n (pc' := 37) (z := z143793) rfl rfl ?_)
      refine wp_of e259 c259_37 (rw_if_le (p1 := 46) (p2 := 40) (by decide) rfl ⟨by omega, by omega⟩ (fun c143796 => ?_) (fun c143796 => ?_))
      · exfalso
        omega
      · refine wp_of e259 c259_40 (rw_aload_n (pc' := 41) (v := .ref r0) rfl rfl rfl ?_)
        refine wp_of e259 c259_41 (rw_iload_n (pc' := 42) (z := z143793) rfl rfl ?_)
        refine wp_of e259 c259_42 (xc_V (pc' := 45) (r := r0) (as := [vI z143793]) (st := []) (lm_9_54) rfl rfl (Nat.le_of_ble_eq_true rfl) w143787 g0 sh_42 (by decide) rfl (by decide) (s_170 w143787 g0 ⟨by omega, by omega⟩) (fun R143797 T143798 H143799 p143800 => ?_))
        obtain ⟨e143801, w143803, f143804, z143806, e143802, b143807, p143805⟩ := p143800
        subst e143801
        subst e143802
        have f143808 := f143795.tr f143804 rfl
        show wp _ _ 259 45 [(3, vI z143793), (0, .ref r0), (1, vI a1), (2, vI a2)] [vI z143806] _ H143799 _
        have k143809 : wKI H143799 r0 = wKI H143783 r0 := (wKI_fr w143787 g0 f143804 rfl)
        exact wp_ireturn e259 c259_45 rfl ⟨rfl, w143803, f143808, z143806, rfl, ⟨by omega, by omega⟩, by omega, by omega⟩
    · refine wp_of e259 c259_22 (rw_iload_n (pc' := 23) (z := a1) rfl rfl ?_)
      refine wp_of e259 c259_23 (rw_iload_n (pc' := 24) (z := a2) rfl rfl ?_)
      refine wp_of e259 c259_24 (rw_icmp_eq (p1 := 31) (p2 := 27) (by decide) rfl ⟨by omega, by omega⟩ ⟨by omega, by omega⟩ (fun c143810 => ?_) (fun c143810 => ?_))
      · refine wp_of e259 c259_31 (rw_iconst (pc' := 32) rfl ?_)
        have k143811 : wKI H143723 r0 = wKI H r0 := (wKI_fr hW g0 ((wfr.rf (l := [(42, 0)])).put' e143724 g0 rfl) rfl)
        refine wp_of e259 c259_32 (xc_V (pc' := 35) (r := r0) (as := [vI 0]) (st := []) (lm_9_433) rfl rfl (Nat.le_of_ble_eq_true rfl) w143725 g0 sh_42 (by decide) rfl (by decide) (s_241 w143725 g0 ⟨by omega, by omega⟩ (by omega) (by omega)) (fun R143812 T143813 H143814 p143815 => ?_))
        obtain ⟨e143816, w143818, f143819, z143824, e143817, b143825, p143820, p143821, p143822, p143823⟩ := p143815
        subst e143816
        subst e143817
        have f143826 := f143726.tr f143819 rfl
        show wp _ _ 259 35 [(0, .ref r0), (1, vI a1), (2, vI a2)] [vI z143824] _ H143814 _
        refine wp_of e259 c259_35 (rw_istore_n (pc' := 36) (z := z143824) (L' := [(3, vI z143824), (0, .ref r0), (1, vI a1), (2, vI a2)]) rfl rfl rfl ?_)
        refine wp_of e259 c259_36 (rw_iload_n (pc' := 37) (z := z143824) rfl rfl ?_)
        refine wp_of e259 c259_37 (rw_if_le (p1 := 46) (p2 := 40) (by decide) rfl ⟨by omega, by omega⟩ (fun c143827 => ?_) (fun c143827 => ?_))
        · exfalso
          omega
        · refine wp_of e259 c259_40 (rw_aload_n (pc' := 41) (v := .ref r0) rfl rfl rfl ?_)
          refine wp_of e259 c259_41 (rw_iload_n (pc' := 42) (z := z143824) rfl rfl ?_)
          refine wp_of e259 c259_42 (xc_V (pc' := 45) (r := r0) (as := [vI z143824]) (st := []) (lm_9_54) rfl rfl (Nat.le_of_ble_eq_true rfl) w143818 g0 sh_42 (by decide) rfl (by decide) (s_170 w143818 g0 ⟨by omega, by omega⟩) (fun R143828 T143829 H143830 p143831 => ?_))
          obtain ⟨e143832, w143834, f143835, z143837, e143833, b143838, p143836⟩ := p143831
          subst e143832
          subst e143833
          have f143839 := f143826.tr f143835 rfl
          show wp _ _ 259 45 [(3, vI z143824), (0, .ref r0), (1, vI a1), (2, vI a2)] [vI z143837] _ H143830 _
          have k143840 : wKI H143830 r0 = wKI H143814 r0 := (wKI_fr w143818 g0 f143835 rfl)
          exact wp_ireturn e259 c259_45 rfl ⟨rfl, w143834, f143839, z143837, rfl, ⟨by omega, by omega⟩, by omega, by omega⟩
      · refine wp_of e259 c259_27 (rw_iconst (pc' := 28) rfl ?_)
        refine wp_of e259 c259_28 (rw_goto (p1 := 32) (by decide) ?_)
        have k143841 : wKI H143723 r0 = wKI H r0 := (wKI_fr hW g0 ((wfr.rf (l := [(42, 0)])).put' e143724 g0 rfl) rfl)
        refine wp_of e259 c259_32 (xc_V (pc' := 35) (r := r0) (as := [vI 1]) (st := []) (lm_9_433) rfl rfl (Nat.le_of_ble_eq_true rfl) w143725 g0 sh_42 (by decide) rfl (by decide) (s_241 w143725 g0 ⟨by omega, by omega⟩ (by omega) (by omega)) (fun R143842 T143843 H143844 p143845 => ?_))
        obtain ⟨e143846, w143848, f143849, z143854, e143847, b143855, p143850, p143851, p143852, p143853⟩ := p143845
        subst e143846
        subst e143847
        have f143856 := f143726.tr f143849 rfl
        show wp _ _ 259 35 [(0, .ref r0), (1, vI a1), (2, vI a2)] [vI z143854] _ H143844 _
        refine wp_of e259 c259_35 (rw_istore_n (pc' := 36) (z := z143854) (L' := [(3, vI z143854), (0, .ref r0), (1, vI a1), (2, vI a2)]) rfl rfl rfl ?_)
        refine wp_of e259 c259_36 (rw_iload_n (pc' := 37) (z := z143854) rfl rfl ?_)
        refine wp_of e259 c259_37 (rw_if_le (p1 := 46) (p2 := 40) (by decide) rfl ⟨by omega, by omega⟩ (fun c143857 => ?_) (fun c143857 => ?_))
        · refine wp_of e259 c259_46 (rw_iconst (pc' := 47) rfl ?_)
          refine wp_of e259 c259_47 (rw_istore (pc' := 49) (z := 0) (L' := [(4, vI 0), (3, vI z143854), (0, .ref r0), (1, vI a1), (2, vI a2)]) rfl rfl rfl ?_)
          refine wp_of e259 c259_49 (rw_iconst (pc' := 50) rfl ?_)
          refine wp_of e259 c259_50 (rw_istore (pc' := 52) (z := 0) (L' := [(5, vI 0), (4, vI 0), (3, vI z143854), (0, .ref r0), (1, vI a1), (2, vI a2)]) rfl rfl rfl ?_)
          have lp144186 : ∀ (n144187 : Nat) (v144189 : Int) (v144190 : Int) (H144191 : wq_H), WT T H144191 → wfr [(51, 999)] T H143844 H144191 → (0 ≤ v144189 ∧ v144189 ≤ 20000) → ((-2147483648) ≤ v144190 ∧ v144190 ≤ 2147483647) → (20000 - v144189).toNat = n144187 → wp kt 7 259 52 [(5, vI v144189), (4, vI v144190), (0, .ref r0), (1, vI a1), (2, vI a2)] [] T H144191 (q_259 r0 a1 a2 T H) := by
            intro n144187
            induction n144187 using Nat.strongRecOn with
            | _ n144187 ih144188 =>
              intro v144189 v144190 H144191 w144192 f144193 b144194 b144195 m144196
              have f144197 := f143856.tr f144193 rfl
              refine wp_of e259 c259_52 (rw_iload (pc' := 54) (z := v144189) rfl rfl ?_)
              refine wp_of e259 c259_54 (rw_aload_n (pc' := 55) (v := .ref r0) rfl rfl rfl ?_)
              have k144198 : H144191 r0 29 = H143844 r0 29 := (f144193 r0 29 _ g0 rfl)
              refine wp_of e259 c259_55 (xg_I (pc' := 58) lf_9_422 w144192 g0 sh_42 (by decide) (by decide) ty_42_29 rfl rfl (fun b144199 b144200 => ?_))
              refine wp_of e259 c259_58 (rw_icmp_ge (p1 := 116) (p2 := 61) (by decide) rfl ⟨by omega, by omega⟩ ⟨by omega, by omega⟩ (fun c144201 => ?_) (fun c144201 => ?_))
              · refine wp_of e259 c259_116 (rw_aload_n (pc' := 117) (v := .ref r0) rfl rfl rfl ?_)
                refine wp_of e259 c259_117 (rw_iload (pc' := 119) (z := v144190) rfl rfl ?_)
                refine wp_of e259 c259_119 (xc_V (pc' := 122) (r := r0) (as := [vI v144190]) (st := []) (lm_9_58) rfl rfl (Nat.le_of_ble_eq_true rfl) w144192 g0 sh_42 (by decide) rfl (by decide) (s_209 w144192 g0 ⟨by omega, by omega⟩) (fun R144202 T144203 H144204 p144205 => ?_))
                obtain ⟨e144206, w144208, f144209, z144211, e144207, b144212, p144210⟩ := p144205
                subst e144206
                subst e144207
                have f144213 := f144197.tr f144209 rfl
                show wp _ _ 259 122 [(5, vI v144189), (4, vI v144190), (0, .ref r0), (1, vI a1), (2, vI a2)] [vI z144211] _ H144204 _
                have k144214 : wKI H144204 r0 = wKI H143844 r0 := ((wKI_fr w144192 g0 f144209 rfl).trans (wKI_fr w143848 g0 f144193 rfl))
                exact wp_ireturn e259 c259_122 rfl ⟨rfl, w144208, f144213, z144211, rfl, ⟨by omega, by omega⟩, by omega, by omega⟩
              · refine wp_of e259 c259_61 (rw_aload_n (pc' := 62) (v := .ref r0) rfl rfl rfl ?_)
                refine wp_of e259 c259_62 (rw_aload_n (pc' := 63) (v := .ref r0) rfl rfl rfl ?_)
                refine wp_of e259 c259_63 (xg_R (pc' := 66) lf_9_42 w144192 g0 sh_42 (by decide) (by decide) ty_42_30 rfl rfl (fun r144215 q144216 g144217 => ?_))
                refine wp_of e259 c259_66 (rw_iload (pc' := 68) (z := v144189) rfl rfl ?_)
                refine wp_of e259 c259_68 (xa_I (so := 0) (pc' := 69) w144192 g144217 sh_52 (by decide) (ty_52 _) (by omega) (by omega) rfl (fun b144218 b144219 => ?_))
                have k144220 : wLM H144191 r0 = wLM H143844 r0 := (wLM_fr w143848 g0 f144193 rfl)
                have k144221 : H144191 r0 3 = H143723 r0 3 := ((f144193 r0 3 _ g0 rfl).trans (f143849 r0 3 _ g0 rfl))
                obtain ⟨r144222, q144223, g144224⟩ := (w144192.opt g0 (t' := 54) (n := 33) (j := 3) (p := 0) (q := 0) rfl (by decide) rfl).resolve_left (by omega)
                refine wp_of e259 c259_69 (xc_V (pc' := 72) (r := r0) (as := [vI (H144191 r144215 (v144189.toNat))]) (st := []) (lm_9_425) rfl rfl (Nat.le_of_ble_eq_true rfl) w144192 g0 sh_42 (by decide) rfl (by decide) (s_243 w144192 g0 ⟨by omega, by omega⟩ q144223 g144224 (by omega)) (fun R144225 T144226 H144227 p144228 => ?_))
                obtain ⟨e144229, w144231, f144232, e144230⟩ := p144228
                subst e144229
                subst e144230
                have f144233 := f144197.tr f144232 rfl
                have f144234 := f144193.tr f144232 rfl
                show wp _ _ 259 72 [(5, vI v144189), (4, vI v144190), (0, .ref r0), (1, vI a1), (2, vI a2)] [] _ H144227 _
                refine wp_of e259 c259_72 (rw_iload (pc' := 74) (z := v144190) rfl rfl ?_)
                refine wp_of e259 c259_74 (rw_aload_n (pc' := 75) (v := .ref r0) rfl rfl rfl ?_)
                refine wp_of e259 c259_75 (xg_R (pc' := 78) lf_9_33 w144231 g0 sh_42 (by decide) (by decide) ty_42_25 rfl rfl (fun r144235 q144236 g144237 => ?_))
                refine wp_of e259 c259_78 (rw_bipush (pc' := 80) (z := 40) rfl (by decide) ?_)
                refine wp_of e259 c259_80 (rw_iload_n (pc' := 81) (z := a1) rfl rfl ?_)
                refine wp_of e259 c259_81 (rw_imul (pc' := 82) rfl ?_)
                refine wp_of e259 c259_82 (rw_aload_n (pc' := 83) (v := .ref r0) rfl rfl rfl ?_)
                refine wp_of e259 c259_83 (xg_R (pc' := 86) lf_9_39 w144231 g0 sh_42 (by decide) (by decide) ty_42_27 rfl rfl (fun r144238 q144239 g144240 => ?_))
                refine wp_of e259 c259_86 (rw_iload_n (pc' := 87) (z := a1) rfl rfl ?_)
                refine wp_of e259 c259_87 (xa_I (so := 0) (pc' := 88) w144231 g144240 sh_51 (by decide) (ty_51 _) (by omega) (by omega) rfl (fun b144241 b144242 => ?_))
                refine wp_of e259 c259_88 (rw_iadd (pc' := 89) rfl ?_)
                refine wp_of e259 c259_89 (xa_I (so := 0) (pc' := 90) w144231 g144237 sh_49 (by decide) (ty_49 _) (by omega) (by omega) rfl (fun b144243 b144244 => ?_))
                refine wp_of e259 c259_90 (rw_aload_n (pc' := 91) (v := .ref r0) rfl rfl rfl ?_)
                refine wp_of e259 c259_91 (xg_K (pc' := 94) lf_9_33 w144231 g0 sh_42 (by decide) (by decide) rfl q144236 rfl ?_)
                refine wp_of e259 c259_94 (rw_bipush (pc' := 96) (z := 40) rfl (by decide) ?_)
                refine wp_of e259 c259_96 (rw_iload_n (pc' := 97) (z := a2) rfl rfl ?_)
                refine wp_of e259 c259_97 (rw_imul (pc' := 98) rfl ?_)
                refine wp_of e259 c259_98 (rw_aload_n (pc' := 99) (v := .ref r0) rfl rfl rfl ?_)
                refine wp_of e259 c259_99 (xg_K (pc' := 102) lf_9_39 w144231 g0 sh_42 (by decide) (by decide) rfl q144239 rfl ?_)
                refine wp_of e259 c259_102 (rw_iload_n (pc' := 103) (z := a2) rfl rfl ?_)
                refine wp_of e259 c259_103 (xa_I (so := 0) (pc' := 104) w144231 g144240 sh_51 (by decide) (ty_51 _) (by omega) (by omega) rfl (fun b144245 b144246 => ?_))
                refine wp_of e259 c259_104 (rw_iadd (pc' := 105) rfl ?_)
                refine wp_of e259 c259_105 (xa_I (so := 0) (pc' := 106) w144231 g144237 sh_49 (by decide) (ty_49 _) (by omega) (by omega) rfl (fun b144247 b144248 => ?_))
                refine wp_of e259 c259_106 (rw_iand (pc' := 107) rfl ?_)
                obtain ⟨v144249, e144250⟩ : ∃ x : Int, x = wq_and (H144227 r144235 (((40 * a1) + (H144227 r144238 (a1.toNat))).toNat)) (H144227 r144235 (((40 * a2) + (H144227 r144238 (a2.toNat))).toNat)) := ⟨_, rfl⟩
                rw [← e144250]
                have b144251 : -2147483648 ≤ v144249 ∧ v144249 ≤ 2147483647 := by
                  rw [e144250]
                  exact wI_and _ _
                refine wp_of e259 c259_107 (rw_ior (pc' := 108) rfl ?_)
                obtain ⟨v144252, e144253⟩ : ∃ x : Int, x = wq_or v144190 v144249 := ⟨_, rfl⟩
                rw [← e144253]
                have b144254 : -2147483648 ≤ v144252 ∧ v144252 ≤ 2147483647 := by
                  rw [e144253]
                  exact wI_or _ _
                refine wp_of e259 c259_108 (rw_istore (pc' := 110) (z := v144252) (L' := [(4, vI v144252), (5, vI v144189), (0, .ref r0), (1, vI a1), (2, vI a2)]) rfl rfl rfl ?_)
                refine wp_of e259 c259_110 (rw_iinc (pc' := 113) (z := v144189) (L' := [(5, vI (v144189 + 1)), (4, vI v144252), (0, .ref r0), (1, vI a1), (2, vI a2)]) rfl rfl rfl rfl ?_)
                refine wp_of e259 c259_113 (rw_goto (p1 := 52) (by decide) ?_)
                exact wp_lc (ks := [5, 4, 0, 1, 2]) (wl_c rfl (wl_c rfl (wl_c rfl (wl_c rfl (wl_c rfl wl_n))))) rfl (by decide) (ih144188 _ (by omega) (v144189 + 1) v144252 H144227 w144231 f144234 ⟨by omega, by omega⟩ ⟨by omega, by omega⟩ rfl)
          exact wp_lc (ks := [5, 4, 3, 0, 1, 2]) (wl_c rfl (wl_c rfl (wl_c rfl (wl_c rfl (wl_c rfl wl_n))))) rfl (by decide) (lp144186 _ 0 0 H143844 w143848 wfr.rf ⟨by omega, by omega⟩ ⟨by omega, by omega⟩ rfl)
        · refine wp_of e259 c259_40 (rw_aload_n (pc' := 41) (v := .ref r0) rfl rfl rfl ?_)
          refine wp_of e259 c259_41 (rw_iload_n (pc' := 42) (z := z143854) rfl rfl ?_)
          refine wp_of e259 c259_42 (xc_V (pc' := 45) (r := r0) (as := [vI z143854]) (st := []) (lm_9_54) rfl rfl (Nat.le_of_ble_eq_true rfl) w143848 g0 sh_42 (by decide) rfl (by decide) (s_170 w143848 g0 ⟨by omega, by omega⟩) (fun R144255 T144256 H144257 p144258 => ?_))
          obtain ⟨e144259, w144261, f144262, z144264, e144260, b144265, p144263⟩ := p144258
          subst e144259
          subst e144260
          have f144266 := f143856.tr f144262 rfl
          show wp _ _ 259 45 [(3, vI z143854), (0, .ref r0), (1, vI a1), (2, vI a2)] [vI z144264] _ H144257 _
          have k144267 : wKI H144257 r0 = wKI H143844 r0 := (wKI_fr w143848 g0 f144262 rfl)
          exact wp_ireturn e259 c259_45 rfl ⟨rfl, w144261, f144266, z144264, rfl, ⟨by omega, by omega⟩, by omega, by omega⟩
/-! StrikeAwakeModel.possible(I)J -/
theorem e260 : wq_en 260 = some (9, 6, false, some FieldType.long) := rfl
theorem c260_0 : mc_cd 260 0 = some (.aload_n 0, 1) := by decide +kernel
theorem c260_1 : mc_cd 260 1 = some (.iconst 0, 1) := by decide +kernel
theorem c260_2 : mc_cd 260 2 = some (.putfield 48, 3) := by decide +kernel
theorem c260_5 : mc_cd 260 5 = some (.aload_n 0, 1) := by decide +kernel
theorem c260_6 : mc_cd 260 6 = some (.aload_n 0, 1) := by decide +kernel
theorem c260_7 : mc_cd 260 7 = some (.iload_n 1, 1) := by decide +kernel
theorem c260_8 : mc_cd 260 8 = some (.invokevirtual 364, 3) := by decide +kernel
theorem c260_11 : mc_cd 260 11 = some (.invokevirtual 433, 3) := by decide +kernel
theorem c260_14 : mc_cd 260 14 = some (.istore_n 2, 1) := by decide +kernel
theorem c260_15 : mc_cd 260 15 = some (.iload_n 2, 1) := by decide +kernel
theorem c260_16 : mc_cd 260 16 = some (.ifCond .le 10, 3) := by decide +kernel
theorem c260_19 : mc_cd 260 19 = some (.aload_n 0, 1) := by decide +kernel
theorem c260_20 : mc_cd 260 20 = some (.iload_n 2, 1) := by decide +kernel
theorem c260_21 : mc_cd 260 21 = some (.invokevirtual 54, 3) := by decide +kernel
theorem c260_24 : mc_cd 260 24 = some (.i2l, 1) := by decide +kernel
theorem c260_25 : mc_cd 260 25 = some (.lreturn, 1) := by decide +kernel
theorem c260_26 : mc_cd 260 26 = some (.lconst 0, 1) := by decide +kernel
theorem c260_27 : mc_cd 260 27 = some (.lstore_n 3, 1) := by decide +kernel
theorem c260_28 : mc_cd 260 28 = some (.iconst 0, 1) := by decide +kernel
theorem c260_29 : mc_cd 260 29 = some (.istore 5, 2) := by decide +kernel
theorem c260_31 : mc_cd 260 31 = some (.iload 5, 2) := by decide +kernel
theorem c260_33 : mc_cd 260 33 = some (.aload_n 0, 1) := by decide +kernel
theorem c260_34 : mc_cd 260 34 = some (.getfield 422, 3) := by decide +kernel
theorem c260_37 : mc_cd 260 37 = some (.if_icmp .ge 31, 3) := by decide +kernel
theorem c260_40 : mc_cd 260 40 = some (.aload_n 0, 1) := by decide +kernel
theorem c260_41 : mc_cd 260 41 = some (.aload_n 0, 1) := by decide +kernel
theorem c260_42 : mc_cd 260 42 = some (.getfield 42, 3) := by decide +kernel
theorem c260_45 : mc_cd 260 45 = some (.iload 5, 2) := by decide +kernel
theorem c260_47 : mc_cd 260 47 = some (.iaload, 1) := by decide +kernel
theorem c260_48 : mc_cd 260 48 = some (.invokevirtual 425, 3) := by decide +kernel
theorem c260_51 : mc_cd 260 51 = some (.lload_n 3, 1) := by decide +kernel
theorem c260_52 : mc_cd 260 52 = some (.lconst 1, 1) := by decide +kernel
theorem c260_53 : mc_cd 260 53 = some (.aload_n 0, 1) := by decide +kernel
theorem c260_54 : mc_cd 260 54 = some (.getfield 39, 3) := by decide +kernel
theorem c260_57 : mc_cd 260 57 = some (.iload_n 1, 1) := by decide +kernel
theorem c260_58 : mc_cd 260 58 = some (.iaload, 1) := by decide +kernel
theorem c260_59 : mc_cd 260 59 = some (.lshl, 1) := by decide +kernel
theorem c260_60 : mc_cd 260 60 = some (.lor, 1) := by decide +kernel
theorem c260_61 : mc_cd 260 61 = some (.lstore_n 3, 1) := by decide +kernel
theorem c260_62 : mc_cd 260 62 = some (.iinc 5 1, 3) := by decide +kernel
theorem c260_65 : mc_cd 260 65 = some (.goto (-34), 3) := by decide +kernel
theorem c260_68 : mc_cd 260 68 = some (.aload_n 0, 1) := by decide +kernel
theorem c260_69 : mc_cd 260 69 = some (.lload_n 3, 1) := by decide +kernel
theorem c260_70 : mc_cd 260 70 = some (.invokevirtual 380, 3) := by decide +kernel
theorem c260_73 : mc_cd 260 73 = some (.lreturn, 1) := by decide +kernel
abbrev q_260 (r0 : Nat) (a1 : Int) (T : wq_T) (H : wq_H) : Option Value → wq_T → wq_H → Prop := fun r T' H' => T = T' ∧ WT T H' ∧ wfr [(42, 0), (42, 1), (42, 2), (42, 28), (42, 29), (51, 999), (52, 999)] T H H' ∧ ∃ z : Int, some (vL z) = r ∧ ((-9223372036854775808) ≤ z ∧ z ≤ 9223372036854775807) ∧ (wKI H' r0 = 1) ∧ (H' r0 2 = -1)
set_option maxHeartbeats 4000000 in
theorem s_260 {kt : Nat → Option mc_E} {T : wq_T} {H : wq_H} {r0 : Nat} {a1 : Int} (hW : WT T H) (g0 : T.2.2.2 r0 = some 42) (i1 : (-2147483648) ≤ a1 ∧ a1 ≤ 2147483647) (p0 : wKI H r0 = 1) : wpc kt 8 260 [.ref r0, vI a1] T H (q_260 r0 a1 T H) := by
  refine wp_enter e260 (Nat.le_of_ble_eq_true rfl) rfl ?_
  have f0 : wfr [(42, 0), (42, 1), (42, 2), (42, 28), (42, 29), (51, 999), (52, 999)] T H H := wfr.rf
  show wp _ _ 260 0 [(0, .ref r0), (1, vI a1)] [] _ H _
  refine wp_of e260 c260_0 (rw_aload_n (pc' := 1) (v := .ref r0) rfl rfl rfl ?_)
  refine wp_of e260 c260_1 (rw_iconst (pc' := 2) rfl ?_)
  refine wp_of e260 c260_2 (xp_I (pc' := 5) lf_9_48 hW g0 sh_42 (by decide) (by decide) ty_42_0 rfl rfl (by omega) (by omega) ⟨by omega, by omega⟩ rfl (fun H144615 e144616 w144617 => ?_))
  have f144618 := f0.put' e144616 g0 rfl
  have k144619 : H144615 r0 0 = 0 := wq_u_s e144616
  refine wp_of e260 c260_5 (rw_aload_n (pc' := 6) (v := .ref r0) rfl rfl rfl ?_)
  refine wp_of e260 c260_6 (rw_aload_n (pc' := 7) (v := .ref r0) rfl rfl rfl ?_)
  refine wp_of e260 c260_7 (rw_iload_n (pc' := 8) (z := a1) rfl rfl ?_)
  refine wp_of e260 c260_8 (xc_V (pc' := 11) (r := r0) (as := [vI a1]) (st := [.ref r0]) (lm_9_364) rfl rfl (Nat.le_of_ble_eq_true rfl) w144617 g0 sh_42 (by decide) rfl (by decide) (s_213 w144617 g0 ⟨by omega, by omega⟩) (fun R144620 T144621 H144622 p144623 => ?_))
  obtain ⟨e144624, e144626, z144628, e144625, b144629, p144627⟩ := p144623
  subst e144624
  subst e144625
  subst e144626
  show wp _ _ 260 11 [(0, .ref r0), (1, vI a1)] [vI z144628, .ref r0] _ H144615 _
  have k144630 : wKI H144615 r0 = wKI H r0 := (wKI_fr hW g0 ((wfr.rf (l := [(42, 0)])).put' e144616 g0 rfl) rfl)
  refine wp_of e260 c260_11 (xc_V (pc' := 14) (r := r0) (as := [vI z144628]) (st := []) (lm_9_433) rfl rfl (Nat.le_of_ble_eq_true rfl) w144617 g0 sh_42 (by decide) rfl (by decide) (s_241 w144617 g0 ⟨by omega, by omega⟩ (by omega) (by omega)) (fun R144631 T144632 H144633 p144634 => ?_))
  obtain ⟨e144635, w144637, f144638, z144643, e144636, b144644, p144639, p144640, p144641, p144642⟩ := p144634
  subst e144635
  subst e144636
  have f144645 := f144618.tr f144638 rfl
  show wp _ _ 260 14 [(0, .ref r0), (1, vI a1)] [vI z144643] _ H144633 _
  refine wp_of e260 c260_14 (rw_istore_n (pc' := 15) (z := z144643) (L' := [(2, vI z144643), (0, .ref r0), (1, vI a1)]) rfl rfl rfl ?_)
  refine wp_of e260 c260_15 (rw_iload_n (pc' := 16) (z := z144643) rfl rfl ?_)
  refine wp_of e260 c260_16 (rw_if_le (p1 := 26) (p2 := 19) (by decide) rfl ⟨by omega, by omega⟩ (fun c144646 => ?_) (fun c144646 => ?_))
  · refine wp_of e260 c260_26 (rw_lconst (pc' := 27) (z := 0) rfl rfl ?_)
    refine wp_of e260 c260_27 (rw_lstore_n (pc' := 28) (z := 0) (L' := [(3, vL 0), (2, vI z144643), (0, .ref r0), (1, vI a1)]) rfl rfl rfl ?_)
    refine wp_of e260 c260_28 (rw_iconst (pc' := 29) rfl ?_)
    refine wp_of e260 c260_29 (rw_istore (pc' := 31) (z := 0) (L' := [(5, vI 0), (3, vL 0), (2, vI z144643), (0, .ref r0), (1, vI a1)]) rfl rfl rfl ?_)
    have lp144903 : ∀ (n144904 : Nat) (v144906 : Int) (v144907 : Int) (H144908 : wq_H), WT T H144908 → wfr [(51, 999)] T H144633 H144908 → (0 ≤ v144906 ∧ v144906 ≤ 20000) → ((-9223372036854775808) ≤ v144907 ∧ v144907 ≤ 9223372036854775807) → (20000 - v144906).toNat = n144904 → wp kt 7 260 31 [(5, vI v144906), (3, vL v144907), (0, .ref r0), (1, vI a1)] [] T H144908 (q_260 r0 a1 T H) := by
      intro n144904
      induction n144904 using Nat.strongRecOn with
      | _ n144904 ih144905 =>
        intro v144906 v144907 H144908 w144909 f144910 b144911 b144912 m144913
        have f144914 := f144645.tr f144910 rfl
        refine wp_of e260 c260_31 (rw_iload (pc' := 33) (z := v144906) rfl rfl ?_)
        refine wp_of e260 c260_33 (rw_aload_n (pc' := 34) (v := .ref r0) rfl rfl rfl ?_)
        have k144915 : H144908 r0 29 = H144633 r0 29 := (f144910 r0 29 _ g0 rfl)
        refine wp_of e260 c260_34 (xg_I (pc' := 37) lf_9_422 w144909 g0 sh_42 (by decide) (by decide) ty_42_29 rfl rfl (fun b144916 b144917 => ?_))
        refine wp_of e260 c260_37 (rw_icmp_ge (p1 := 68) (p2 := 40) (by decide) rfl ⟨by omega, by omega⟩ ⟨by omega, by omega⟩ (fun c144918 => ?_) (fun c144918 => ?_))
        · refine wp_of e260 c260_68 (rw_aload_n (pc' := 69) (v := .ref r0) rfl rfl rfl ?_)
          refine wp_of e260 c260_69 (rw_lload_n (pc' := 70) (z := v144907) rfl rfl ?_)
          refine wp_of e260 c260_70 (xc_V (pc' := 73) (r := r0) (as := [vL v144907]) (st := []) (lm_9_380) rfl rfl (Nat.le_of_ble_eq_true rfl) w144909 g0 sh_42 (by decide) rfl (by decide) (s_221 w144909 g0 ⟨by omega, by omega⟩) (fun R144919 T144920 H144921 p144922 => ?_))
          obtain ⟨e144923, w144925, f144926, z144928, e144924, b144929, p144927⟩ := p144922
          subst e144923
          subst e144924
          have f144930 := f144914.tr f144926 rfl
          show wp _ _ 260 73 [(5, vI v144906), (3, vL v144907), (0, .ref r0), (1, vI a1)] [vL z144928] _ H144921 _
          have k144931 : wKI H144921 r0 = wKI H144633 r0 := ((wKI_fr w144909 g0 f144926 rfl).trans (wKI_fr w144637 g0 f144910 rfl))
          exact wp_lreturn e260 c260_73 rfl ⟨rfl, w144925, f144930, z144928, rfl, ⟨by omega, by omega⟩, by omega, by omega⟩
        · refine wp_of e260 c260_40 (rw_aload_n (pc' := 41) (v := .ref r0) rfl rfl rfl ?_)
          refine wp_of e260 c260_41 (rw_aload_n (pc' := 42) (v := .ref r0) rfl rfl rfl ?_)
          refine wp_of e260 c260_42 (xg_R (pc' := 45) lf_9_42 w144909 g0 sh_42 (by decide) (by decide) ty_42_30 rfl rfl (fun r144932 q144933 g144934 => ?_))
          refine wp_of e260 c260_45 (rw_iload (pc' := 47) (z := v144906) rfl rfl ?_)
          refine wp_of e260 c260_47 (xa_I (so := 0) (pc' := 48) w144909 g144934 sh_52 (by decide) (ty_52 _) (by omega) (by omega) rfl (fun b144935 b144936 => ?_))
          have k144937 : wLM H144908 r0 = wLM H144633 r0 := (wLM_fr w144637 g0 f144910 rfl)
          have k144938 : H144908 r0 3 = H144615 r0 3 := ((f144910 r0 3 _ g0 rfl).trans (f144638 r0 3 _ g0 rfl))
          obtain ⟨r144939, q144940, g144941⟩ := (w144909.opt g0 (t' := 54) (n := 33) (j := 3) (p := 0) (q := 0) rfl (by decide) rfl).resolve_left (by omega)
          refine wp_of e260 c260_48 (xc_V (pc' := 51) (r := r0) (as := [vI (H144908 r144932 (v144906.toNat))]) (st := []) (lm_9_425) rfl rfl (Nat.le_of_ble_eq_true rfl) w144909 g0 sh_42 (by decide) rfl (by decide) (s_243 w144909 g0 ⟨by omega, by omega⟩ q144940 g144941 (by omega)) (fun R144942 T144943 H144944 p144945 => ?_))
          obtain ⟨e144946, w144948, f144949, e144947⟩ := p144945
          subst e144946
          subst e144947
          have f144950 := f144914.tr f144949 rfl
          have f144951 := f144910.tr f144949 rfl
          show wp _ _ 260 51 [(5, vI v144906), (3, vL v144907), (0, .ref r0), (1, vI a1)] [] _ H144944 _
          refine wp_of e260 c260_51 (rw_lload_n (pc' := 52) (z := v144907) rfl rfl ?_)
          refine wp_of e260 c260_52 (rw_lconst (pc' := 53) (z := 1) rfl rfl ?_)
          refine wp_of e260 c260_53 (rw_aload_n (pc' := 54) (v := .ref r0) rfl rfl rfl ?_)
          refine wp_of e260 c260_54 (xg_R (pc' := 57) lf_9_39 w144948 g0 sh_42 (by decide) (by decide) ty_42_27 rfl rfl (fun r144952 q144953 g144954 => ?_))
          refine wp_of e260 c260_57 (rw_iload_n (pc' := 58) (z := a1) rfl rfl ?_)
          refine wp_of e260 c260_58 (xa_I (so := 0) (pc' := 59) w144948 g144954 sh_51 (by decide) (ty_51 _) (by omega) (by omega) rfl (fun b144955 b144956 => ?_))
          refine wp_of e260 c260_59 (rw_lshl (pc' := 60) rfl ?_)
          obtain ⟨v144957, e144958⟩ : ∃ x : Int, x = wl_shl 1 (H144944 r144952 (a1.toNat)) := ⟨_, rfl⟩
          rw [← e144958]
          have b144959 : -9223372036854775808 ≤ v144957 ∧ v144957 ≤ 9223372036854775807 := by
            rw [e144958]
            exact wL_shl _ _
          refine wp_of e260 c260_60 (rw_lor (pc' := 61) rfl ?_)
          obtain ⟨v144960, e144961⟩ : ∃ x : Int, x = wl_or v144907 v144957 := ⟨_, rfl⟩
          rw [← e144961]
          have b144962 : -9223372036854775808 ≤ v144960 ∧ v144960 ≤ 9223372036854775807 := by
            rw [e144961]
            exact wL_or _ _
          refine wp_of e260 c260_61 (rw_lstore_n (pc' := 62) (z := v144960) (L' := [(3, vL v144960), (5, vI v144906), (0, .ref r0), (1, vI a1)]) rfl rfl rfl ?_)
          refine wp_of e260 c260_62 (rw_iinc (pc' := 65) (z := v144906) (L' := [(5, vI (v144906 + 1)), (3, vL v144960), (0, .ref r0), (1, vI a1)]) rfl rfl rfl rfl ?_)
          refine wp_of e260 c260_65 (rw_goto (p1 := 31) (by decide) ?_)
          exact wp_lc (ks := [5, 3, 0, 1]) (wl_c rfl (wl_c rfl (wl_c rfl (wl_c rfl wl_n)))) rfl (by decide) (ih144905 _ (by omega) (v144906 + 1) v144960 H144944 w144948 f144951 ⟨by omega, by omega⟩ ⟨by omega, by omega⟩ rfl)
    exact wp_lc (ks := [5, 3, 2, 0, 1]) (wl_c rfl (wl_c rfl (wl_c rfl (wl_c rfl wl_n)))) rfl (by decide) (lp144903 _ 0 0 H144633 w144637 wfr.rf ⟨by omega, by omega⟩ ⟨by omega, by omega⟩ rfl)
  · refine wp_of e260 c260_19 (rw_aload_n (pc' := 20) (v := .ref r0) rfl rfl rfl ?_)
    refine wp_of e260 c260_20 (rw_iload_n (pc' := 21) (z := z144643) rfl rfl ?_)
    refine wp_of e260 c260_21 (xc_V (pc' := 24) (r := r0) (as := [vI z144643]) (st := []) (lm_9_54) rfl rfl (Nat.le_of_ble_eq_true rfl) w144637 g0 sh_42 (by decide) rfl (by decide) (s_170 w144637 g0 ⟨by omega, by omega⟩) (fun R144963 T144964 H144965 p144966 => ?_))
    obtain ⟨e144967, w144969, f144970, z144972, e144968, b144973, p144971⟩ := p144966
    subst e144967
    subst e144968
    have f144974 := f144645.tr f144970 rfl
    show wp _ _ 260 24 [(2, vI z144643), (0, .ref r0), (1, vI a1)] [vI z144972] _ H144965 _
    refine wp_of e260 c260_24 (rw_i2l (pc' := 25) rfl ⟨by omega, by omega⟩ ?_)
    have k144975 : wKI H144965 r0 = wKI H144633 r0 := (wKI_fr w144637 g0 f144970 rfl)
    exact wp_lreturn e260 c260_25 rfl ⟨rfl, w144969, f144974, z144972, rfl, ⟨by omega, by omega⟩, by omega, by omega⟩
/-! StrikeAwakeModel.awakeSet([II)I -/
theorem e262 : wq_en 262 = some (9, 5, false, some FieldType.int) := rfl
theorem c262_0 : mc_cd 262 0 = some (.iconst 0, 1) := by decide +kernel
theorem c262_1 : mc_cd 262 1 = some (.istore_n 3, 1) := by decide +kernel
theorem c262_2 : mc_cd 262 2 = some (.iconst 0, 1) := by decide +kernel
theorem c262_3 : mc_cd 262 3 = some (.istore 4, 2) := by decide +kernel
theorem c262_5 : mc_cd 262 5 = some (.iload 4, 2) := by decide +kernel
theorem c262_7 : mc_cd 262 7 = some (.aload_n 0, 1) := by decide +kernel
theorem c262_8 : mc_cd 262 8 = some (.getfield 337, 3) := by decide +kernel
theorem c262_11 : mc_cd 262 11 = some (.getfield 188, 3) := by decide +kernel
theorem c262_14 : mc_cd 262 14 = some (.if_icmp .ge 42, 3) := by decide +kernel
theorem c262_17 : mc_cd 262 17 = some (.iload_n 3, 1) := by decide +kernel
theorem c262_18 : mc_cd 262 18 = some (.aload_n 0, 1) := by decide +kernel
theorem c262_19 : mc_cd 262 19 = some (.getfield 33, 3) := by decide +kernel
theorem c262_22 : mc_cd 262 22 = some (.bipush 40, 2) := by decide +kernel
theorem c262_24 : mc_cd 262 24 = some (.iload 4, 2) := by decide +kernel
theorem c262_26 : mc_cd 262 26 = some (.imul, 1) := by decide +kernel
theorem c262_27 : mc_cd 262 27 = some (.aload_n 1, 1) := by decide +kernel
theorem c262_28 : mc_cd 262 28 = some (.iload 4, 2) := by decide +kernel
theorem c262_30 : mc_cd 262 30 = some (.iaload, 1) := by decide +kernel
theorem c262_31 : mc_cd 262 31 = some (.iadd, 1) := by decide +kernel
theorem c262_32 : mc_cd 262 32 = some (.iaload, 1) := by decide +kernel
theorem c262_33 : mc_cd 262 33 = some (.iload_n 2, 1) := by decide +kernel
theorem c262_34 : mc_cd 262 34 = some (.invokestatic 346, 3) := by decide +kernel
theorem c262_37 : mc_cd 262 37 = some (.ifCond .eq 10, 3) := by decide +kernel
theorem c262_40 : mc_cd 262 40 = some (.iconst 1, 1) := by decide +kernel
theorem c262_41 : mc_cd 262 41 = some (.iload 4, 2) := by decide +kernel
theorem c262_43 : mc_cd 262 43 = some (.ishl, 1) := by decide +kernel
theorem c262_44 : mc_cd 262 44 = some (.goto 4, 3) := by decide +kernel
theorem c262_47 : mc_cd 262 47 = some (.iconst 0, 1) := by decide +kernel
theorem c262_48 : mc_cd 262 48 = some (.ior, 1) := by decide +kernel
theorem c262_49 : mc_cd 262 49 = some (.istore_n 3, 1) := by decide +kernel
theorem c262_50 : mc_cd 262 50 = some (.iinc 4 1, 3) := by decide +kernel
theorem c262_53 : mc_cd 262 53 = some (.goto (-48), 3) := by decide +kernel
theorem c262_56 : mc_cd 262 56 = some (.iload_n 3, 1) := by decide +kernel
theorem c262_57 : mc_cd 262 57 = some (.ireturn, 1) := by decide +kernel
abbrev q_262_m_lot (r0 : Nat) (r1 : Nat) (a2 : Int) (pp : Nat) (T : wq_T) (H : wq_H) : Option Value → wq_T → wq_H → Prop := fun r T' H' => T = T' ∧ H = H' ∧ ∃ z : Int, some (vI z) = r ∧ ((-2147483648) ≤ z ∧ z ≤ 2147483647)
set_option maxHeartbeats 4000000 in
theorem s_262_m_lot {kt : Nat → Option mc_E} {T : wq_T} {H : wq_H} {r0 : Nat} {r1 : Nat} {a2 : Int} {pp : Nat} (hW : WT T H) (g0 : T.2.2.2 r0 = some 42) (g1 : T.2.2.2 r1 = some 51) (i2 : (-2147483648) ≤ a2 ∧ a2 ≤ 2147483647) (qpp : H r0 3 = (pp : Int)) (gpp : T.2.2.2 pp = some 54) : wpc kt 2 262 [.ref r0, .ref r1, vI a2] T H (q_262_m_lot r0 r1 a2 pp T H) := by
  refine wp_enter e262 (Nat.le_of_ble_eq_true rfl) rfl ?_
  show wp _ _ 262 0 [(0, .ref r0), (1, .ref r1), (2, vI a2)] [] _ H _
  refine wp_of e262 c262_0 (rw_iconst (pc' := 1) rfl ?_)
  refine wp_of e262 c262_1 (rw_istore_n (pc' := 2) (z := 0) (L' := [(3, vI 0), (0, .ref r0), (1, .ref r1), (2, vI a2)]) rfl rfl rfl ?_)
  refine wp_of e262 c262_2 (rw_iconst (pc' := 3) rfl ?_)
  refine wp_of e262 c262_3 (rw_istore (pc' := 5) (z := 0) (L' := [(4, vI 0), (3, vI 0), (0, .ref r0), (1, .ref r1), (2, vI a2)]) rfl rfl rfl ?_)
  have lp145395 : ∀ (n145396 : Nat) (v145398 : Int) (v145399 : Int), (0 ≤ v145398 ∧ v145398 ≤ 6) → (0 ≤ v145399 ∧ v145399 ≤ 16777215) → (6 - v145398).toNat = n145396 → wp kt 1 262 5 [(4, vI v145398), (3, vI v145399), (0, .ref r0), (1, .ref r1), (2, vI a2)] [] T H (q_262_m_lot r0 r1 a2 pp T H) := by
    intro n145396
    induction n145396 using Nat.strongRecOn with
    | _ n145396 ih145397 =>
      intro v145398 v145399 b145402 b145403 m145404
      refine wp_of e262 c262_5 (rw_iload (pc' := 7) (z := v145398) rfl rfl ?_)
      refine wp_of e262 c262_7 (rw_aload_n (pc' := 8) (v := .ref r0) rfl rfl rfl ?_)
      refine wp_of e262 c262_8 (xg_K (pc' := 11) lf_9_337 hW g0 sh_42 (by decide) (by decide) rfl qpp rfl ?_)
      refine wp_of e262 c262_11 (xg_I (pc' := 14) lf_9_188 hW gpp sh_54 (by decide) (by decide) ty_54_3 rfl rfl (fun b145405 b145406 => ?_))
      refine wp_of e262 c262_14 (rw_icmp_ge (p1 := 56) (p2 := 17) (by decide) rfl ⟨by omega, by omega⟩ ⟨by omega, by omega⟩ (fun c145407 => ?_) (fun c145407 => ?_))
      · refine wp_of e262 c262_56 (rw_iload_n (pc' := 57) (z := v145399) rfl rfl ?_)
        exact wp_ireturn e262 c262_57 rfl ⟨rfl, rfl, v145399, rfl, ⟨by omega, by omega⟩⟩
      · refine wp_of e262 c262_17 (rw_iload_n (pc' := 18) (z := v145399) rfl rfl ?_)
        refine wp_of e262 c262_18 (rw_aload_n (pc' := 19) (v := .ref r0) rfl rfl rfl ?_)
        refine wp_of e262 c262_19 (xg_R (pc' := 22) lf_9_33 hW g0 sh_42 (by decide) (by decide) ty_42_25 rfl rfl (fun r145408 q145409 g145410 => ?_))
        refine wp_of e262 c262_22 (rw_bipush (pc' := 24) (z := 40) rfl (by decide) ?_)
        refine wp_of e262 c262_24 (rw_iload (pc' := 26) (z := v145398) rfl rfl ?_)
        refine wp_of e262 c262_26 (rw_imul (pc' := 27) rfl ?_)
        refine wp_of e262 c262_27 (rw_aload_n (pc' := 28) (v := .ref r1) rfl rfl rfl ?_)
        refine wp_of e262 c262_28 (rw_iload (pc' := 30) (z := v145398) rfl rfl ?_)
        refine wp_of e262 c262_30 (xa_I (so := 0) (pc' := 31) hW g1 sh_51 (by decide) (ty_51 _) (by omega) (by omega) rfl (fun b145411 b145412 => ?_))
        refine wp_of e262 c262_31 (rw_iadd (pc' := 32) rfl ?_)
        refine wp_of e262 c262_32 (xa_I (so := 0) (pc' := 33) hW g145410 sh_49 (by decide) (ty_49 _) (by omega) (by omega) rfl (fun b145413 b145414 => ?_))
        refine wp_of e262 c262_33 (rw_iload_n (pc' := 34) (z := a2) rfl rfl ?_)
        refine wp_of e262 c262_34 (xc_S (pc' := 37) (as := [vI (H r145408 (((40 * v145398) + (H r1 (v145398.toNat))).toNat)), vI a2]) (st := [vI v145399]) (lm_9_346) rfl rfl (Nat.le_of_ble_eq_true rfl) rfl (by decide) (s_205 hW ⟨by omega, by omega⟩ ⟨by omega, by omega⟩) (fun R145415 T145416 H145417 p145418 => ?_))
        obtain ⟨e145419, e145421, z145422, e145420, b145423⟩ := p145418
        subst e145419
        subst e145420
        subst e145421
        show wp _ _ 262 37 [(4, vI v145398), (3, vI v145399), (0, .ref r0), (1, .ref r1), (2, vI a2)] [vI z145422, vI v145399] _ H _
        refine wp_of e262 c262_37 (rw_if_eq (p1 := 47) (p2 := 40) (by decide) rfl ⟨by omega, by omega⟩ (fun c145424 => ?_) (fun c145424 => ?_))
        · refine wp_of e262 c262_47 (rw_iconst (pc' := 48) rfl ?_)
          refine wp_of e262 c262_48 (rw_ior (pc' := 49) rfl ?_)
          obtain ⟨v145425, e145426⟩ : ∃ x : Int, x = wq_or v145399 0 := ⟨_, rfl⟩
          rw [← e145426]
          have b145427 : 0 ≤ v145425 ∧ v145425 ≤ 16777215 := by
            rw [e145426]
            exact wq_or_24 ⟨by omega, by omega⟩ ⟨by omega, by omega⟩
          refine wp_of e262 c262_49 (rw_istore_n (pc' := 50) (z := v145425) (L' := [(3, vI v145425), (4, vI v145398), (0, .ref r0), (1, .ref r1), (2, vI a2)]) rfl rfl rfl ?_)
          refine wp_of e262 c262_50 (rw_iinc (pc' := 53) (z := v145398) (L' := [(4, vI (v145398 + 1)), (3, vI v145425), (0, .ref r0), (1, .ref r1), (2, vI a2)]) rfl rfl rfl rfl ?_)
          refine wp_of e262 c262_53 (rw_goto (p1 := 5) (by decide) ?_)
          exact wp_lc (ks := [4, 3, 0, 1, 2]) (wl_c rfl (wl_c rfl (wl_c rfl (wl_c rfl (wl_c rfl wl_n))))) rfl (by decide) (ih145397 _ (by omega) (v145398 + 1) v145425 ⟨by omega, by omega⟩ ⟨by omega, by omega⟩ rfl)
        · refine wp_of e262 c262_40 (rw_iconst (pc' := 41) rfl ?_)
          refine wp_of e262 c262_41 (rw_iload (pc' := 43) (z := v145398) rfl rfl ?_)
          refine wp_of e262 c262_43 (rw_ishl (pc' := 44) rfl ?_)
          obtain ⟨v145428, e145429⟩ : ∃ x : Int, x = wq_shl 1 v145398 := ⟨_, rfl⟩
          rw [← e145429]
          have b145430 : 1 ≤ v145428 ∧ v145428 ≤ 64 := by
            rw [e145429]
            exact wq_shl1_6 ⟨by omega, by omega⟩
          refine wp_of e262 c262_44 (rw_goto (p1 := 48) (by decide) ?_)
          refine wp_of e262 c262_48 (rw_ior (pc' := 49) rfl ?_)
          obtain ⟨v145431, e145432⟩ : ∃ x : Int, x = wq_or v145399 v145428 := ⟨_, rfl⟩
          rw [← e145432]
          have b145433 : 0 ≤ v145431 ∧ v145431 ≤ 16777215 := by
            rw [e145432]
            exact wq_or_24 ⟨by omega, by omega⟩ ⟨by omega, by omega⟩
          refine wp_of e262 c262_49 (rw_istore_n (pc' := 50) (z := v145431) (L' := [(3, vI v145431), (4, vI v145398), (0, .ref r0), (1, .ref r1), (2, vI a2)]) rfl rfl rfl ?_)
          refine wp_of e262 c262_50 (rw_iinc (pc' := 53) (z := v145398) (L' := [(4, vI (v145398 + 1)), (3, vI v145431), (0, .ref r0), (1, .ref r1), (2, vI a2)]) rfl rfl rfl rfl ?_)
          refine wp_of e262 c262_53 (rw_goto (p1 := 5) (by decide) ?_)
          exact wp_lc (ks := [4, 3, 0, 1, 2]) (wl_c rfl (wl_c rfl (wl_c rfl (wl_c rfl (wl_c rfl wl_n))))) rfl (by decide) (ih145397 _ (by omega) (v145398 + 1) v145431 ⟨by omega, by omega⟩ ⟨by omega, by omega⟩ rfl)
  exact wp_lc (ks := [4, 3, 0, 1, 2]) (wl_c rfl (wl_c rfl (wl_c rfl (wl_c rfl (wl_c rfl wl_n))))) rfl (by decide) (lp145395 _ 0 0 ⟨by omega, by omega⟩ ⟨by omega, by omega⟩ rfl)

/-! StrikeAwakeModel.awakeSet([II)I -/
abbrev q_262_m_one (r0 : Nat) (r1 : Nat) (a2 : Int) (pp : Nat) (T : wq_T) (H : wq_H) : Option Value → wq_T → wq_H → Prop := fun r T' H' => T = T' ∧ H = H' ∧ ∃ z : Int, some (vI z) = r ∧ ((-2147483648) ≤ z ∧ z ≤ 2147483647)
set_option maxHeartbeats 4000000 in
theorem s_262_m_one {kt : Nat → Option mc_E} {T : wq_T} {H : wq_H} {r0 : Nat} {r1 : Nat} {a2 : Int} {pp : Nat} (hW : WT T H) (g0 : T.2.2.2 r0 = some 42) (g1 : T.2.2.2 r1 = some 53) (i2 : (-2147483648) ≤ a2 ∧ a2 ≤ 2147483647) (qpp : H r0 3 = (pp : Int)) (gpp : T.2.2.2 pp = some 54) : wpc kt 2 262 [.ref r0, .ref r1, vI a2] T H (q_262_m_one r0 r1 a2 pp T H) := by
  refine wp_enter e262 (Nat.le_of_ble_eq_true rfl) rfl ?_
  show wp _ _ 262 0 [(0, .ref r0), (1, .ref r1), (2, vI a2)] [] _ H _
  refine wp_of e262 c262_0 (rw_iconst (pc' := 1) rfl ?_)
  refine wp_of e262 c262_1 (rw_istore_n (pc' := 2) (z := 0) (L' := [(3, vI 0), (0, .ref r0), (1, .ref r1), (2, vI a2)]) rfl rfl rfl ?_)
  refine wp_of e262 c262_2 (rw_iconst (pc' := 3) rfl ?_)
  refine wp_of e262 c262_3 (rw_istore (pc' := 5) (z := 0) (L' := [(4, vI 0), (3, vI 0), (0, .ref r0), (1, .ref r1), (2, vI a2)]) rfl rfl rfl ?_)
  have lp145853 : ∀ (n145854 : Nat) (v145856 : Int) (v145857 : Int), (0 ≤ v145856 ∧ v145856 ≤ 6) → (0 ≤ v145857 ∧ v145857 ≤ 16777215) → (6 - v145856).toNat = n145854 → wp kt 1 262 5 [(4, vI v145856), (3, vI v145857), (0, .ref r0), (1, .ref r1), (2, vI a2)] [] T H (q_262_m_one r0 r1 a2 pp T H) := by
    intro n145854
    induction n145854 using Nat.strongRecOn with
    | _ n145854 ih145855 =>
      intro v145856 v145857 b145860 b145861 m145862
      refine wp_of e262 c262_5 (rw_iload (pc' := 7) (z := v145856) rfl rfl ?_)
      refine wp_of e262 c262_7 (rw_aload_n (pc' := 8) (v := .ref r0) rfl rfl rfl ?_)
      refine wp_of e262 c262_8 (xg_K (pc' := 11) lf_9_337 hW g0 sh_42 (by decide) (by decide) rfl qpp rfl ?_)
      refine wp_of e262 c262_11 (xg_I (pc' := 14) lf_9_188 hW gpp sh_54 (by decide) (by decide) ty_54_3 rfl rfl (fun b145863 b145864 => ?_))
      refine wp_of e262 c262_14 (rw_icmp_ge (p1 := 56) (p2 := 17) (by decide) rfl ⟨by omega, by omega⟩ ⟨by omega, by omega⟩ (fun c145865 => ?_) (fun c145865 => ?_))
      · refine wp_of e262 c262_56 (rw_iload_n (pc' := 57) (z := v145857) rfl rfl ?_)
        exact wp_ireturn e262 c262_57 rfl ⟨rfl, rfl, v145857, rfl, ⟨by omega, by omega⟩⟩
      · refine wp_of e262 c262_17 (rw_iload_n (pc' := 18) (z := v145857) rfl rfl ?_)
        refine wp_of e262 c262_18 (rw_aload_n (pc' := 19) (v := .ref r0) rfl rfl rfl ?_)
        refine wp_of e262 c262_19 (xg_R (pc' := 22) lf_9_33 hW g0 sh_42 (by decide) (by decide) ty_42_25 rfl rfl (fun r145866 q145867 g145868 => ?_))
        refine wp_of e262 c262_22 (rw_bipush (pc' := 24) (z := 40) rfl (by decide) ?_)
        refine wp_of e262 c262_24 (rw_iload (pc' := 26) (z := v145856) rfl rfl ?_)
        refine wp_of e262 c262_26 (rw_imul (pc' := 27) rfl ?_)
        refine wp_of e262 c262_27 (rw_aload_n (pc' := 28) (v := .ref r1) rfl rfl rfl ?_)
        refine wp_of e262 c262_28 (rw_iload (pc' := 30) (z := v145856) rfl rfl ?_)
        refine wp_of e262 c262_30 (xa_I (so := 0) (pc' := 31) hW g1 sh_53 (by decide) (ty_53 _) (by omega) (by omega) rfl (fun b145869 b145870 => ?_))
        refine wp_of e262 c262_31 (rw_iadd (pc' := 32) rfl ?_)
        refine wp_of e262 c262_32 (xa_I (so := 0) (pc' := 33) hW g145868 sh_49 (by decide) (ty_49 _) (by omega) (by omega) rfl (fun b145871 b145872 => ?_))
        refine wp_of e262 c262_33 (rw_iload_n (pc' := 34) (z := a2) rfl rfl ?_)
        refine wp_of e262 c262_34 (xc_S (pc' := 37) (as := [vI (H r145866 (((40 * v145856) + (H r1 (v145856.toNat))).toNat)), vI a2]) (st := [vI v145857]) (lm_9_346) rfl rfl (Nat.le_of_ble_eq_true rfl) rfl (by decide) (s_205 hW ⟨by omega, by omega⟩ ⟨by omega, by omega⟩) (fun R145873 T145874 H145875 p145876 => ?_))
        obtain ⟨e145877, e145879, z145880, e145878, b145881⟩ := p145876
        subst e145877
        subst e145878
        subst e145879
        show wp _ _ 262 37 [(4, vI v145856), (3, vI v145857), (0, .ref r0), (1, .ref r1), (2, vI a2)] [vI z145880, vI v145857] _ H _
        refine wp_of e262 c262_37 (rw_if_eq (p1 := 47) (p2 := 40) (by decide) rfl ⟨by omega, by omega⟩ (fun c145882 => ?_) (fun c145882 => ?_))
        · refine wp_of e262 c262_47 (rw_iconst (pc' := 48) rfl ?_)
          refine wp_of e262 c262_48 (rw_ior (pc' := 49) rfl ?_)
          obtain ⟨v145883, e145884⟩ : ∃ x : Int, x = wq_or v145857 0 := ⟨_, rfl⟩
          rw [← e145884]
          have b145885 : 0 ≤ v145883 ∧ v145883 ≤ 16777215 := by
            rw [e145884]
            exact wq_or_24 ⟨by omega, by omega⟩ ⟨by omega, by omega⟩
          refine wp_of e262 c262_49 (rw_istore_n (pc' := 50) (z := v145883) (L' := [(3, vI v145883), (4, vI v145856), (0, .ref r0), (1, .ref r1), (2, vI a2)]) rfl rfl rfl ?_)
          refine wp_of e262 c262_50 (rw_iinc (pc' := 53) (z := v145856) (L' := [(4, vI (v145856 + 1)), (3, vI v145883), (0, .ref r0), (1, .ref r1), (2, vI a2)]) rfl rfl rfl rfl ?_)
          refine wp_of e262 c262_53 (rw_goto (p1 := 5) (by decide) ?_)
          exact wp_lc (ks := [4, 3, 0, 1, 2]) (wl_c rfl (wl_c rfl (wl_c rfl (wl_c rfl (wl_c rfl wl_n))))) rfl (by decide) (ih145855 _ (by omega) (v145856 + 1) v145883 ⟨by omega, by omega⟩ ⟨by omega, by omega⟩ rfl)
        · refine wp_of e262 c262_40 (rw_iconst (pc' := 41) rfl ?_)
          refine wp_of e262 c262_41 (rw_iload (pc' := 43) (z := v145856) rfl rfl ?_)
          refine wp_of e262 c262_43 (rw_ishl (pc' := 44) rfl ?_)
          obtain ⟨v145886, e145887⟩ : ∃ x : Int, x = wq_shl 1 v145856 := ⟨_, rfl⟩
          rw [← e145887]
          have b145888 : 1 ≤ v145886 ∧ v145886 ≤ 64 := by
            rw [e145887]
            exact wq_shl1_6 ⟨by omega, by omega⟩
          refine wp_of e262 c262_44 (rw_goto (p1 := 48) (by decide) ?_)
          refine wp_of e262 c262_48 (rw_ior (pc' := 49) rfl ?_)
          obtain ⟨v145889, e145890⟩ : ∃ x : Int, x = wq_or v145857 v145886 := ⟨_, rfl⟩
          rw [← e145890]
          have b145891 : 0 ≤ v145889 ∧ v145889 ≤ 16777215 := by
            rw [e145890]
            exact wq_or_24 ⟨by omega, by omega⟩ ⟨by omega, by omega⟩
          refine wp_of e262 c262_49 (rw_istore_n (pc' := 50) (z := v145889) (L' := [(3, vI v145889), (4, vI v145856), (0, .ref r0), (1, .ref r1), (2, vI a2)]) rfl rfl rfl ?_)
          refine wp_of e262 c262_50 (rw_iinc (pc' := 53) (z := v145856) (L' := [(4, vI (v145856 + 1)), (3, vI v145889), (0, .ref r0), (1, .ref r1), (2, vI a2)]) rfl rfl rfl rfl ?_)
          refine wp_of e262 c262_53 (rw_goto (p1 := 5) (by decide) ?_)
          exact wp_lc (ks := [4, 3, 0, 1, 2]) (wl_c rfl (wl_c rfl (wl_c rfl (wl_c rfl (wl_c rfl wl_n))))) rfl (by decide) (ih145855 _ (by omega) (v145856 + 1) v145889 ⟨by omega, by omega⟩ ⟨by omega, by omega⟩ rfl)
  exact wp_lc (ks := [4, 3, 0, 1, 2]) (wl_c rfl (wl_c rfl (wl_c rfl (wl_c rfl (wl_c rfl wl_n))))) rfl (by decide) (lp145853 _ 0 0 ⟨by omega, by omega⟩ ⟨by omega, by omega⟩ rfl)
/-! StrikeAwakeModel.hiding(II)I -/
theorem e261 : wq_en 261 = some (9, 6, false, some FieldType.int) := rfl
theorem c261_0 : mc_cd 261 0 = some (.aload_n 0, 1) := by decide +kernel
theorem c261_1 : mc_cd 261 1 = some (.iconst 0, 1) := by decide +kernel
theorem c261_2 : mc_cd 261 2 = some (.putfield 48, 3) := by decide +kernel
theorem c261_5 : mc_cd 261 5 = some (.aload_n 0, 1) := by decide +kernel
theorem c261_6 : mc_cd 261 6 = some (.aload_n 0, 1) := by decide +kernel
theorem c261_7 : mc_cd 261 7 = some (.iload_n 1, 1) := by decide +kernel
theorem c261_8 : mc_cd 261 8 = some (.invokevirtual 364, 3) := by decide +kernel
theorem c261_11 : mc_cd 261 11 = some (.ifCond .eq 15, 3) := by decide +kernel
theorem c261_14 : mc_cd 261 14 = some (.aload_n 0, 1) := by decide +kernel
theorem c261_15 : mc_cd 261 15 = some (.iload_n 2, 1) := by decide +kernel
theorem c261_16 : mc_cd 261 16 = some (.invokevirtual 373, 3) := by decide +kernel
theorem c261_19 : mc_cd 261 19 = some (.ifCond .eq 7, 3) := by decide +kernel
theorem c261_22 : mc_cd 261 22 = some (.iconst 1, 1) := by decide +kernel
theorem c261_23 : mc_cd 261 23 = some (.goto 4, 3) := by decide +kernel
theorem c261_26 : mc_cd 261 26 = some (.iconst 0, 1) := by decide +kernel
theorem c261_27 : mc_cd 261 27 = some (.invokevirtual 433, 3) := by decide +kernel
theorem c261_30 : mc_cd 261 30 = some (.istore_n 3, 1) := by decide +kernel
theorem c261_31 : mc_cd 261 31 = some (.iload_n 3, 1) := by decide +kernel
theorem c261_32 : mc_cd 261 32 = some (.ifCond .le 9, 3) := by decide +kernel
theorem c261_35 : mc_cd 261 35 = some (.aload_n 0, 1) := by decide +kernel
theorem c261_36 : mc_cd 261 36 = some (.iload_n 3, 1) := by decide +kernel
theorem c261_37 : mc_cd 261 37 = some (.invokevirtual 54, 3) := by decide +kernel
theorem c261_40 : mc_cd 261 40 = some (.ireturn, 1) := by decide +kernel
theorem c261_41 : mc_cd 261 41 = some (.iconst 0, 1) := by decide +kernel
theorem c261_42 : mc_cd 261 42 = some (.istore 4, 2) := by decide +kernel
theorem c261_44 : mc_cd 261 44 = some (.iconst 0, 1) := by decide +kernel
theorem c261_45 : mc_cd 261 45 = some (.istore 5, 2) := by decide +kernel
theorem c261_47 : mc_cd 261 47 = some (.iload 5, 2) := by decide +kernel
theorem c261_49 : mc_cd 261 49 = some (.aload_n 0, 1) := by decide +kernel
theorem c261_50 : mc_cd 261 50 = some (.getfield 422, 3) := by decide +kernel
theorem c261_53 : mc_cd 261 53 = some (.if_icmp .ge 57, 3) := by decide +kernel
theorem c261_56 : mc_cd 261 56 = some (.aload_n 0, 1) := by decide +kernel
theorem c261_57 : mc_cd 261 57 = some (.aload_n 0, 1) := by decide +kernel
theorem c261_58 : mc_cd 261 58 = some (.getfield 42, 3) := by decide +kernel
theorem c261_61 : mc_cd 261 61 = some (.iload 5, 2) := by decide +kernel
theorem c261_63 : mc_cd 261 63 = some (.iaload, 1) := by decide +kernel
theorem c261_64 : mc_cd 261 64 = some (.invokevirtual 425, 3) := by decide +kernel
theorem c261_67 : mc_cd 261 67 = some (.aload_n 0, 1) := by decide +kernel
theorem c261_68 : mc_cd 261 68 = some (.getfield 30, 3) := by decide +kernel
theorem c261_71 : mc_cd 261 71 = some (.bipush 40, 2) := by decide +kernel
theorem c261_73 : mc_cd 261 73 = some (.iload_n 1, 1) := by decide +kernel
theorem c261_74 : mc_cd 261 74 = some (.imul, 1) := by decide +kernel
theorem c261_75 : mc_cd 261 75 = some (.aload_n 0, 1) := by decide +kernel
theorem c261_76 : mc_cd 261 76 = some (.getfield 39, 3) := by decide +kernel
theorem c261_79 : mc_cd 261 79 = some (.iload_n 1, 1) := by decide +kernel
theorem c261_80 : mc_cd 261 80 = some (.iaload, 1) := by decide +kernel
theorem c261_81 : mc_cd 261 81 = some (.iadd, 1) := by decide +kernel
theorem c261_82 : mc_cd 261 82 = some (.iaload, 1) := by decide +kernel
theorem c261_83 : mc_cd 261 83 = some (.iload_n 2, 1) := by decide +kernel
theorem c261_84 : mc_cd 261 84 = some (.invokestatic 346, 3) := by decide +kernel
theorem c261_87 : mc_cd 261 87 = some (.ifCond .eq 17, 3) := by decide +kernel
theorem c261_90 : mc_cd 261 90 = some (.iload 4, 2) := by decide +kernel
theorem c261_92 : mc_cd 261 92 = some (.aload_n 0, 1) := by decide +kernel
theorem c261_93 : mc_cd 261 93 = some (.aload_n 0, 1) := by decide +kernel
theorem c261_94 : mc_cd 261 94 = some (.getfield 39, 3) := by decide +kernel
theorem c261_97 : mc_cd 261 97 = some (.iload_n 2, 1) := by decide +kernel
theorem c261_98 : mc_cd 261 98 = some (.invokevirtual 455, 3) := by decide +kernel
theorem c261_101 : mc_cd 261 101 = some (.ior, 1) := by decide +kernel
theorem c261_102 : mc_cd 261 102 = some (.istore 4, 2) := by decide +kernel
theorem c261_104 : mc_cd 261 104 = some (.iinc 5 1, 3) := by decide +kernel
theorem c261_107 : mc_cd 261 107 = some (.goto (-60), 3) := by decide +kernel
theorem c261_110 : mc_cd 261 110 = some (.aload_n 0, 1) := by decide +kernel
theorem c261_111 : mc_cd 261 111 = some (.iload 4, 2) := by decide +kernel
theorem c261_113 : mc_cd 261 113 = some (.invokevirtual 58, 3) := by decide +kernel
theorem c261_116 : mc_cd 261 116 = some (.ireturn, 1) := by decide +kernel
abbrev q_261 (r0 : Nat) (a1 : Int) (a2 : Int) (T : wq_T) (H : wq_H) : Option Value → wq_T → wq_H → Prop := fun r T' H' => T = T' ∧ WT T H' ∧ wfr [(42, 0), (42, 1), (42, 2), (42, 28), (42, 29), (51, 999), (52, 999)] T H H' ∧ ∃ z : Int, some (vI z) = r ∧ ((-2147483648) ≤ z ∧ z ≤ 2147483647) ∧ (wKI H' r0 = 1) ∧ (H' r0 2 = -1)
set_option maxHeartbeats 4000000 in
theorem s_261 {kt : Nat → Option mc_E} {T : wq_T} {H : wq_H} {r0 : Nat} {a1 : Int} {a2 : Int} (hW : WT T H) (g0 : T.2.2.2 r0 = some 42) (i1 : (-2147483648) ≤ a1 ∧ a1 ≤ 2147483647) (i2 : (-2147483648) ≤ a2 ∧ a2 ≤ 2147483647) (p0 : wKI H r0 = 1) : wpc kt 8 261 [.ref r0, vI a1, vI a2] T H (q_261 r0 a1 a2 T H) := by
  refine wp_enter e261 (Nat.le_of_ble_eq_true rfl) rfl ?_
  have f0 : wfr [(42, 0), (42, 1), (42, 2), (42, 28), (42, 29), (51, 999), (52, 999)] T H H := wfr.rf
  show wp _ _ 261 0 [(0, .ref r0), (1, vI a1), (2, vI a2)] [] _ H _
  refine wp_of e261 c261_0 (rw_aload_n (pc' := 1) (v := .ref r0) rfl rfl rfl ?_)
  refine wp_of e261 c261_1 (rw_iconst (pc' := 2) rfl ?_)
  refine wp_of e261 c261_2 (xp_I (pc' := 5) lf_9_48 hW g0 sh_42 (by decide) (by decide) ty_42_0 rfl rfl (by omega) (by omega) ⟨by omega, by omega⟩ rfl (fun H146527 e146528 w146529 => ?_))
  have f146530 := f0.put' e146528 g0 rfl
  have k146531 : H146527 r0 0 = 0 := wq_u_s e146528
  refine wp_of e261 c261_5 (rw_aload_n (pc' := 6) (v := .ref r0) rfl rfl rfl ?_)
  refine wp_of e261 c261_6 (rw_aload_n (pc' := 7) (v := .ref r0) rfl rfl rfl ?_)
  refine wp_of e261 c261_7 (rw_iload_n (pc' := 8) (z := a1) rfl rfl ?_)
  refine wp_of e261 c261_8 (xc_V (pc' := 11) (r := r0) (as := [vI a1]) (st := [.ref r0]) (lm_9_364) rfl rfl (Nat.le_of_ble_eq_true rfl) w146529 g0 sh_42 (by decide) rfl (by decide) (s_213 w146529 g0 ⟨by omega, by omega⟩) (fun R146532 T146533 H146534 p146535 => ?_))
  obtain ⟨e146536, e146538, z146540, e146537, b146541, p146539⟩ := p146535
  subst e146536
  subst e146537
  subst e146538
  show wp _ _ 261 11 [(0, .ref r0), (1, vI a1), (2, vI a2)] [vI z146540, .ref r0] _ H146527 _
  refine wp_of e261 c261_11 (rw_if_eq (p1 := 26) (p2 := 14) (by decide) rfl ⟨by omega, by omega⟩ (fun c146542 => ?_) (fun c146542 => ?_))
  · refine wp_of e261 c261_26 (rw_iconst (pc' := 27) rfl ?_)
    have k146543 : wKI H146527 r0 = wKI H r0 := (wKI_fr hW g0 ((wfr.rf (l := [(42, 0)])).put' e146528 g0 rfl) rfl)
    refine wp_of e261 c261_27 (xc_V (pc' := 30) (r := r0) (as := [vI 0]) (st := []) (lm_9_433) rfl rfl (Nat.le_of_ble_eq_true rfl) w146529 g0 sh_42 (by decide) rfl (by decide) (s_241 w146529 g0 ⟨by omega, by omega⟩ (by omega) (by omega)) (fun R146544 T146545 H146546 p146547 => ?_))
    obtain ⟨e146548, w146550, f146551, z146556, e146549, b146557, p146552, p146553, p146554, p146555⟩ := p146547
    subst e146548
    subst e146549
    have f146558 := f146530.tr f146551 rfl
    show wp _ _ 261 30 [(0, .ref r0), (1, vI a1), (2, vI a2)] [vI z146556] _ H146546 _
    refine wp_of e261 c261_30 (rw_istore_n (pc' := 31) (z := z146556) (L' := [(3, vI z146556), (0, .ref r0), (1, vI a1), (2, vI a2)]) rfl rfl rfl ?_)
    refine wp_of e261 c261_31 (rw_iload_n (pc' := 32) (z := z146556) rfl rfl ?_)
    refine wp_of e261 c261_32 (rw_if_le (p1 := 41) (p2 := 35) (by decide) rfl ⟨by omega, by omega⟩ (fun c146559 => ?_) (fun c146559 => ?_))
    · exfalso
      omega
    · refine wp_of e261 c261_35 (rw_aload_n (pc' := 36) (v := .ref r0) rfl rfl rfl ?_)
      refine wp_of e261 c261_36 (rw_iload_n (pc' := 37) (z := z146556) rfl rfl ?_)
      refine wp_of e261 c261_37 (xc_V (pc' := 40) (r := r0) (as := [vI z146556]) (st := []) (lm_9_54) rfl rfl (Nat.le_of_ble_eq_true rfl) w146550 g0 sh_42 (by decide) rfl (by decide) (s_170 w146550 g0 ⟨by omega, by omega⟩) (fun R146560 T146561 H146562 p146563 => ?_))
      obtain ⟨e146564, w146566, f146567, z146569, e146565, b146570, p146568⟩ := p146563
      subst e146564
      subst e146565
      have f146571 := f146558.tr f146567 rfl
      show wp _ _ 261 40 [(3, vI z146556), (0, .ref r0), (1, vI a1), (2, vI a2)] [vI z146569] _ H146562 _
      have k146572 : wKI H146562 r0 = wKI H146546 r0 := (wKI_fr w146550 g0 f146567 rfl)
      exact wp_ireturn e261 c261_40 rfl ⟨rfl, w146566, f146571, z146569, rfl, ⟨by omega, by omega⟩, by omega, by omega⟩
  · refine wp_of e261 c261_14 (rw_aload_n (pc' := 15) (v := .ref r0) rfl rfl rfl ?_)
    refine wp_of e261 c261_15 (rw_iload_n (pc' := 16) (z := a2) rfl rfl ?_)
    refine wp_of e261 c261_16 (xc_V (pc' := 19) (r := r0) (as := [vI a2]) (st := [.ref r0]) (lm_9_373) rfl rfl (Nat.le_of_ble_eq_true rfl) w146529 g0 sh_42 (by decide) rfl (by decide) (s_218 w146529 g0 ⟨by omega, by omega⟩) (fun R146573 T146574 H146575 p146576 => ?_))
    obtain ⟨e146577, e146579, z146581, e146578, b146582, p146580⟩ := p146576
    subst e146577
    subst e146578
    subst e146579
    show wp _ _ 261 19 [(0, .ref r0), (1, vI a1), (2, vI a2)] [vI z146581, .ref r0] _ H146527 _
    refine wp_of e261 c261_19 (rw_if_eq (p1 := 26) (p2 := 22) (by decide) rfl ⟨by omega, by omega⟩ (fun c146583 => ?_) (fun c146583 => ?_))
    · refine wp_of e261 c261_26 (rw_iconst (pc' := 27) rfl ?_)
      have k146584 : wKI H146527 r0 = wKI H r0 := (wKI_fr hW g0 ((wfr.rf (l := [(42, 0)])).put' e146528 g0 rfl) rfl)
      refine wp_of e261 c261_27 (xc_V (pc' := 30) (r := r0) (as := [vI 0]) (st := []) (lm_9_433) rfl rfl (Nat.le_of_ble_eq_true rfl) w146529 g0 sh_42 (by decide) rfl (by decide) (s_241 w146529 g0 ⟨by omega, by omega⟩ (by omega) (by omega)) (fun R146585 T146586 H146587 p146588 => ?_))
      obtain ⟨e146589, w146591, f146592, z146597, e146590, b146598, p146593, p146594, p146595, p146596⟩ := p146588
      subst e146589
      subst e146590
      have f146599 := f146530.tr f146592 rfl
      show wp _ _ 261 30 [(0, .ref r0), (1, vI a1), (2, vI a2)] [vI z146597] _ H146587 _
      refine wp_of e261 c261_30 (rw_istore_n (pc' := 31) (z := z146597) (L' := [(3, vI z146597), (0, .ref r0), (1, vI a1), (2, vI a2)]) rfl rfl rfl ?_)
      refine wp_of e261 c261_31 (rw_iload_n (pc' := 32) (z := z146597) rfl rfl ?_)
      refine wp_of e261 c261_32 (rw_if_le (p1 := 41) (p2 := 35) (by decide) rfl ⟨by omega, by omega⟩ (fun c146600 => ?_) (fun c146600 => ?_))
      · exfalso
        omega
      · refine wp_of e261 c261_35 (rw_aload_n (pc' := 36) (v := .ref r0) rfl rfl rfl ?_)
        refine wp_of e261 c261_36 (rw_iload_n (pc' := 37) (z := z146597) rfl rfl ?_)
        refine wp_of e261 c261_37 (xc_V (pc' := 40) (r := r0) (as := [vI z146597]) (st := []) (lm_9_54) rfl rfl (Nat.le_of_ble_eq_true rfl) w146591 g0 sh_42 (by decide) rfl (by decide) (s_170 w146591 g0 ⟨by omega, by omega⟩) (fun R146601 T146602 H146603 p146604 => ?_))
        obtain ⟨e146605, w146607, f146608, z146610, e146606, b146611, p146609⟩ := p146604
        subst e146605
        subst e146606
        have f146612 := f146599.tr f146608 rfl
        show wp _ _ 261 40 [(3, vI z146597), (0, .ref r0), (1, vI a1), (2, vI a2)] [vI z146610] _ H146603 _
        have k146613 : wKI H146603 r0 = wKI H146587 r0 := (wKI_fr w146591 g0 f146608 rfl)
        exact wp_ireturn e261 c261_40 rfl ⟨rfl, w146607, f146612, z146610, rfl, ⟨by omega, by omega⟩, by omega, by omega⟩
    · refine wp_of e261 c261_22 (rw_iconst (pc' := 23) rfl ?_)
      refine wp_of e261 c261_23 (rw_goto (p1 := 27) (by decide) ?_)
      have k146614 : wKI H146527 r0 = wKI H r0 := (wKI_fr hW g0 ((wfr.rf (l := [(42, 0)])).put' e146528 g0 rfl) rfl)
      refine wp_of e261 c261_27 (xc_V (pc' := 30) (r := r0) (as := [vI 1]) (st := []) (lm_9_433) rfl rfl (Nat.le_of_ble_eq_true rfl) w146529 g0 sh_42 (by decide) rfl (by decide) (s_241 w146529 g0 ⟨by omega, by omega⟩ (by omega) (by omega)) (fun R146615 T146616 H146617 p146618 => ?_))
      obtain ⟨e146619, w146621, f146622, z146627, e146620, b146628, p146623, p146624, p146625, p146626⟩ := p146618
      subst e146619
      subst e146620
      have f146629 := f146530.tr f146622 rfl
      show wp _ _ 261 30 [(0, .ref r0), (1, vI a1), (2, vI a2)] [vI z146627] _ H146617 _
      refine wp_of e261 c261_30 (rw_istore_n (pc' := 31) (z := z146627) (L' := [(3, vI z146627), (0, .ref r0), (1, vI a1), (2, vI a2)]) rfl rfl rfl ?_)
      refine wp_of e261 c261_31 (rw_iload_n (pc' := 32) (z := z146627) rfl rfl ?_)
      refine wp_of e261 c261_32 (rw_if_le (p1 := 41) (p2 := 35) (by decide) rfl ⟨by omega, by omega⟩ (fun c146630 => ?_) (fun c146630 => ?_))
      · refine wp_of e261 c261_41 (rw_iconst (pc' := 42) rfl ?_)
        refine wp_of e261 c261_42 (rw_istore (pc' := 44) (z := 0) (L' := [(4, vI 0), (3, vI z146627), (0, .ref r0), (1, vI a1), (2, vI a2)]) rfl rfl rfl ?_)
        refine wp_of e261 c261_44 (rw_iconst (pc' := 45) rfl ?_)
        refine wp_of e261 c261_45 (rw_istore (pc' := 47) (z := 0) (L' := [(5, vI 0), (4, vI 0), (3, vI z146627), (0, .ref r0), (1, vI a1), (2, vI a2)]) rfl rfl rfl ?_)
        have lp147079 : ∀ (n147080 : Nat) (v147082 : Int) (v147083 : Int) (H147084 : wq_H), WT T H147084 → wfr [(51, 999)] T H146617 H147084 → (0 ≤ v147082 ∧ v147082 ≤ 20000) → ((-2147483648) ≤ v147083 ∧ v147083 ≤ 2147483647) → (20000 - v147082).toNat = n147080 → wp kt 7 261 47 [(5, vI v147082), (4, vI v147083), (0, .ref r0), (1, vI a1), (2, vI a2)] [] T H147084 (q_261 r0 a1 a2 T H) := by
          intro n147080
          induction n147080 using Nat.strongRecOn with
          | _ n147080 ih147081 =>
            intro v147082 v147083 H147084 w147085 f147086 b147087 b147088 m147089
            have f147090 := f146629.tr f147086 rfl
            refine wp_of e261 c261_47 (rw_iload (pc' := 49) (z := v147082) rfl rfl ?_)
            refine wp_of e261 c261_49 (rw_aload_n (pc' := 50) (v := .ref r0) rfl rfl rfl ?_)
            have k147091 : H147084 r0 29 = H146617 r0 29 := (f147086 r0 29 _ g0 rfl)
            refine wp_of e261 c261_50 (xg_I (pc' := 53) lf_9_422 w147085 g0 sh_42 (by decide) (by decide) ty_42_29 rfl rfl (fun b147092 b147093 => ?_))
            refine wp_of e261 c261_53 (rw_icmp_ge (p1 := 110) (p2 := 56) (by decide) rfl ⟨by omega, by omega⟩ ⟨by omega, by omega⟩ (fun c147094 => ?_) (fun c147094 => ?_))
            · refine wp_of e261 c261_110 (rw_aload_n (pc' := 111) (v := .ref r0) rfl rfl rfl ?_)
              refine wp_of e261 c261_111 (rw_iload (pc' := 113) (z := v147083) rfl rfl ?_)
              refine wp_of e261 c261_113 (xc_V (pc' := 116) (r := r0) (as := [vI v147083]) (st := []) (lm_9_58) rfl rfl (Nat.le_of_ble_eq_true rfl) w147085 g0 sh_42 (by decide) rfl (by decide) (s_209 w147085 g0 ⟨by omega, by omega⟩) (fun R147095 T147096 H147097 p147098 => ?_))
              obtain ⟨e147099, w147101, f147102, z147104, e147100, b147105, p147103⟩ := p147098
              subst e147099
              subst e147100
              have f147106 := f147090.tr f147102 rfl
              show wp _ _ 261 116 [(5, vI v147082), (4, vI v147083), (0, .ref r0), (1, vI a1), (2, vI a2)] [vI z147104] _ H147097 _
              have k147107 : wKI H147097 r0 = wKI H146617 r0 := ((wKI_fr w147085 g0 f147102 rfl).trans (wKI_fr w146621 g0 f147086 rfl))
              exact wp_ireturn e261 c261_116 rfl ⟨rfl, w147101, f147106, z147104, rfl, ⟨by omega, by omega⟩, by omega, by omega⟩
            · refine wp_of e261 c261_56 (rw_aload_n (pc' := 57) (v := .ref r0) rfl rfl rfl ?_)
              refine wp_of e261 c261_57 (rw_aload_n (pc' := 58) (v := .ref r0) rfl rfl rfl ?_)
              refine wp_of e261 c261_58 (xg_R (pc' := 61) lf_9_42 w147085 g0 sh_42 (by decide) (by decide) ty_42_30 rfl rfl (fun r147108 q147109 g147110 => ?_))
              refine wp_of e261 c261_61 (rw_iload (pc' := 63) (z := v147082) rfl rfl ?_)
              refine wp_of e261 c261_63 (xa_I (so := 0) (pc' := 64) w147085 g147110 sh_52 (by decide) (ty_52 _) (by omega) (by omega) rfl (fun b147111 b147112 => ?_))
              have k147113 : wLM H147084 r0 = wLM H146617 r0 := (wLM_fr w146621 g0 f147086 rfl)
              have k147114 : H147084 r0 3 = H146527 r0 3 := ((f147086 r0 3 _ g0 rfl).trans (f146622 r0 3 _ g0 rfl))
              obtain ⟨r147115, q147116, g147117⟩ := (w147085.opt g0 (t' := 54) (n := 33) (j := 3) (p := 0) (q := 0) rfl (by decide) rfl).resolve_left (by omega)
              refine wp_of e261 c261_64 (xc_V (pc' := 67) (r := r0) (as := [vI (H147084 r147108 (v147082.toNat))]) (st := []) (lm_9_425) rfl rfl (Nat.le_of_ble_eq_true rfl) w147085 g0 sh_42 (by decide) rfl (by decide) (s_243 w147085 g0 ⟨by omega, by omega⟩ q147116 g147117 (by omega)) (fun R147118 T147119 H147120 p147121 => ?_))
              obtain ⟨e147122, w147124, f147125, e147123⟩ := p147121
              subst e147122
              subst e147123
              have f147126 := f147090.tr f147125 rfl
              have f147127 := f147086.tr f147125 rfl
              show wp _ _ 261 67 [(5, vI v147082), (4, vI v147083), (0, .ref r0), (1, vI a1), (2, vI a2)] [] _ H147120 _
              refine wp_of e261 c261_67 (rw_aload_n (pc' := 68) (v := .ref r0) rfl rfl rfl ?_)
              refine wp_of e261 c261_68 (xg_R (pc' := 71) lf_9_30 w147124 g0 sh_42 (by decide) (by decide) ty_42_24 rfl rfl (fun r147128 q147129 g147130 => ?_))
              refine wp_of e261 c261_71 (rw_bipush (pc' := 73) (z := 40) rfl (by decide) ?_)
              refine wp_of e261 c261_73 (rw_iload_n (pc' := 74) (z := a1) rfl rfl ?_)
              refine wp_of e261 c261_74 (rw_imul (pc' := 75) rfl ?_)
              refine wp_of e261 c261_75 (rw_aload_n (pc' := 76) (v := .ref r0) rfl rfl rfl ?_)
              refine wp_of e261 c261_76 (xg_R (pc' := 79) lf_9_39 w147124 g0 sh_42 (by decide) (by decide) ty_42_27 rfl rfl (fun r147131 q147132 g147133 => ?_))
              refine wp_of e261 c261_79 (rw_iload_n (pc' := 80) (z := a1) rfl rfl ?_)
              refine wp_of e261 c261_80 (xa_I (so := 0) (pc' := 81) w147124 g147133 sh_51 (by decide) (ty_51 _) (by omega) (by omega) rfl (fun b147134 b147135 => ?_))
              refine wp_of e261 c261_81 (rw_iadd (pc' := 82) rfl ?_)
              refine wp_of e261 c261_82 (xa_I (so := 0) (pc' := 83) w147124 g147130 sh_48 (by decide) (ty_48 _) (by omega) (by omega) rfl (fun b147136 b147137 => ?_))
              refine wp_of e261 c261_83 (rw_iload_n (pc' := 84) (z := a2) rfl rfl ?_)
              refine wp_of e261 c261_84 (xc_S (pc' := 87) (as := [vI (H147120 r147128 (((40 * a1) + (H147120 r147131 (a1.toNat))).toNat)), vI a2]) (st := []) (lm_9_346) rfl rfl (Nat.le_of_ble_eq_true rfl) rfl (by decide) (s_205 w147124 ⟨by omega, by omega⟩ ⟨by omega, by omega⟩) (fun R147138 T147139 H147140 p147141 => ?_))
              obtain ⟨e147142, e147144, z147145, e147143, b147146⟩ := p147141
              subst e147142
              subst e147143
              subst e147144
              show wp _ _ 261 87 [(5, vI v147082), (4, vI v147083), (0, .ref r0), (1, vI a1), (2, vI a2)] [vI z147145] _ H147120 _
              refine wp_of e261 c261_87 (rw_if_eq (p1 := 104) (p2 := 90) (by decide) rfl ⟨by omega, by omega⟩ (fun c147147 => ?_) (fun c147147 => ?_))
              · refine wp_of e261 c261_104 (rw_iinc (pc' := 107) (z := v147082) (L' := [(5, vI (v147082 + 1)), (4, vI v147083), (0, .ref r0), (1, vI a1), (2, vI a2)]) rfl rfl rfl rfl ?_)
                refine wp_of e261 c261_107 (rw_goto (p1 := 47) (by decide) ?_)
                exact wp_lc (ks := [5, 4, 0, 1, 2]) (wl_c rfl (wl_c rfl (wl_c rfl (wl_c rfl (wl_c rfl wl_n))))) rfl (by decide) (ih147081 _ (by omega) (v147082 + 1) v147083 H147120 w147124 f147127 ⟨by omega, by omega⟩ ⟨by omega, by omega⟩ rfl)
              · refine wp_of e261 c261_90 (rw_iload (pc' := 92) (z := v147083) rfl rfl ?_)
                refine wp_of e261 c261_92 (rw_aload_n (pc' := 93) (v := .ref r0) rfl rfl rfl ?_)
                refine wp_of e261 c261_93 (rw_aload_n (pc' := 94) (v := .ref r0) rfl rfl rfl ?_)
                refine wp_of e261 c261_94 (xg_K (pc' := 97) lf_9_39 w147124 g0 sh_42 (by decide) (by decide) rfl q147132 rfl ?_)
                refine wp_of e261 c261_97 (rw_iload_n (pc' := 98) (z := a2) rfl rfl ?_)
                have k147148 : H147120 r0 3 = H147084 r0 3 := (f147125 r0 3 _ g0 rfl)
                have q147149 : H147120 r0 3 = (r147115 : Int) := k147148.trans q147116
                refine wp_of e261 c261_98 (xc_V (pc' := 101) (r := r0) (as := [.ref r147131, vI a2]) (st := [vI v147083]) (lm_9_455) rfl rfl (Nat.le_of_ble_eq_true rfl) w147124 g0 sh_42 (by decide) rfl (by decide) (s_262_m_lot w147124 g0 g147133 ⟨by omega, by omega⟩ q147149 g147117) (fun R147150 T147151 H147152 p147153 => ?_))
                obtain ⟨e147154, e147156, z147157, e147155, b147158⟩ := p147153
                subst e147154
                subst e147155
                subst e147156
                show wp _ _ 261 101 [(5, vI v147082), (4, vI v147083), (0, .ref r0), (1, vI a1), (2, vI a2)] [vI z147157, vI v147083] _ H147120 _
                refine wp_of e261 c261_101 (rw_ior (pc' := 102) rfl ?_)
                obtain ⟨v147159, e147160⟩ : ∃ x : Int, x = wq_or v147083 z147157 := ⟨_, rfl⟩
                rw [← e147160]
                have b147161 : -2147483648 ≤ v147159 ∧ v147159 ≤ 2147483647 := by
                  rw [e147160]
                  exact wI_or _ _
                refine wp_of e261 c261_102 (rw_istore (pc' := 104) (z := v147159) (L' := [(4, vI v147159), (5, vI v147082), (0, .ref r0), (1, vI a1), (2, vI a2)]) rfl rfl rfl ?_)
                refine wp_of e261 c261_104 (rw_iinc (pc' := 107) (z := v147082) (L' := [(5, vI (v147082 + 1)), (4, vI v147159), (0, .ref r0), (1, vI a1), (2, vI a2)]) rfl rfl rfl rfl ?_)
                refine wp_of e261 c261_107 (rw_goto (p1 := 47) (by decide) ?_)
                exact wp_lc (ks := [5, 4, 0, 1, 2]) (wl_c rfl (wl_c rfl (wl_c rfl (wl_c rfl (wl_c rfl wl_n))))) rfl (by decide) (ih147081 _ (by omega) (v147082 + 1) v147159 H147120 w147124 f147127 ⟨by omega, by omega⟩ ⟨by omega, by omega⟩ rfl)
        exact wp_lc (ks := [5, 4, 3, 0, 1, 2]) (wl_c rfl (wl_c rfl (wl_c rfl (wl_c rfl (wl_c rfl wl_n))))) rfl (by decide) (lp147079 _ 0 0 H146617 w146621 wfr.rf ⟨by omega, by omega⟩ ⟨by omega, by omega⟩ rfl)
      · refine wp_of e261 c261_35 (rw_aload_n (pc' := 36) (v := .ref r0) rfl rfl rfl ?_)
        refine wp_of e261 c261_36 (rw_iload_n (pc' := 37) (z := z146627) rfl rfl ?_)
        refine wp_of e261 c261_37 (xc_V (pc' := 40) (r := r0) (as := [vI z146627]) (st := []) (lm_9_54) rfl rfl (Nat.le_of_ble_eq_true rfl) w146621 g0 sh_42 (by decide) rfl (by decide) (s_170 w146621 g0 ⟨by omega, by omega⟩) (fun R147162 T147163 H147164 p147165 => ?_))
        obtain ⟨e147166, w147168, f147169, z147171, e147167, b147172, p147170⟩ := p147165
        subst e147166
        subst e147167
        have f147173 := f146629.tr f147169 rfl
        show wp _ _ 261 40 [(3, vI z146627), (0, .ref r0), (1, vI a1), (2, vI a2)] [vI z147171] _ H147164 _
        have k147174 : wKI H147164 r0 = wKI H146617 r0 := (wKI_fr w146621 g0 f147169 rfl)
        exact wp_ireturn e261 c261_40 rfl ⟨rfl, w147168, f147173, z147171, rfl, ⟨by omega, by omega⟩, by omega, by omega⟩
/-! StrikeAwakeModel.extreme(I[IZ)I -/
theorem e264 : wq_en 264 = some (9, 7, false, some FieldType.int) := rfl
theorem c264_0 : mc_cd 264 0 = some (.iconst 0, 1) := by decide +kernel
theorem c264_1 : mc_cd 264 1 = some (.istore 4, 2) := by decide +kernel
theorem c264_3 : mc_cd 264 3 = some (.iconst 0, 1) := by decide +kernel
theorem c264_4 : mc_cd 264 4 = some (.istore 5, 2) := by decide +kernel
theorem c264_6 : mc_cd 264 6 = some (.iload 5, 2) := by decide +kernel
theorem c264_8 : mc_cd 264 8 = some (.aload_n 0, 1) := by decide +kernel
theorem c264_9 : mc_cd 264 9 = some (.getfield 422, 3) := by decide +kernel
theorem c264_12 : mc_cd 264 12 = some (.if_icmp .ge 70, 3) := by decide +kernel
theorem c264_15 : mc_cd 264 15 = some (.aload_n 0, 1) := by decide +kernel
theorem c264_16 : mc_cd 264 16 = some (.aload_n 0, 1) := by decide +kernel
theorem c264_17 : mc_cd 264 17 = some (.getfield 42, 3) := by decide +kernel
theorem c264_20 : mc_cd 264 20 = some (.iload 5, 2) := by decide +kernel
theorem c264_22 : mc_cd 264 22 = some (.iaload, 1) := by decide +kernel
theorem c264_23 : mc_cd 264 23 = some (.invokevirtual 425, 3) := by decide +kernel
theorem c264_26 : mc_cd 264 26 = some (.aload_n 2, 1) := by decide +kernel
theorem c264_27 : mc_cd 264 27 = some (.bipush 40, 2) := by decide +kernel
theorem c264_29 : mc_cd 264 29 = some (.iload_n 1, 1) := by decide +kernel
theorem c264_30 : mc_cd 264 30 = some (.imul, 1) := by decide +kernel
theorem c264_31 : mc_cd 264 31 = some (.aload_n 0, 1) := by decide +kernel
theorem c264_32 : mc_cd 264 32 = some (.getfield 39, 3) := by decide +kernel
theorem c264_35 : mc_cd 264 35 = some (.iload_n 1, 1) := by decide +kernel
theorem c264_36 : mc_cd 264 36 = some (.iaload, 1) := by decide +kernel
theorem c264_37 : mc_cd 264 37 = some (.iadd, 1) := by decide +kernel
theorem c264_38 : mc_cd 264 38 = some (.iaload, 1) := by decide +kernel
theorem c264_39 : mc_cd 264 39 = some (.istore 6, 2) := by decide +kernel
theorem c264_41 : mc_cd 264 41 = some (.iload 5, 2) := by decide +kernel
theorem c264_43 : mc_cd 264 43 = some (.ifCond .eq 24, 3) := by decide +kernel
theorem c264_46 : mc_cd 264 46 = some (.iload_n 3, 1) := by decide +kernel
theorem c264_47 : mc_cd 264 47 = some (.ifCond .eq 13, 3) := by decide +kernel
theorem c264_50 : mc_cd 264 50 = some (.iload 6, 2) := by decide +kernel
theorem c264_52 : mc_cd 264 52 = some (.iload 4, 2) := by decide +kernel
theorem c264_54 : mc_cd 264 54 = some (.if_icmp .le 18, 3) := by decide +kernel
theorem c264_57 : mc_cd 264 57 = some (.goto 10, 3) := by decide +kernel
theorem c264_60 : mc_cd 264 60 = some (.iload 6, 2) := by decide +kernel
theorem c264_62 : mc_cd 264 62 = some (.iload 4, 2) := by decide +kernel
theorem c264_64 : mc_cd 264 64 = some (.if_icmp .ge 8, 3) := by decide +kernel
theorem c264_67 : mc_cd 264 67 = some (.iload 6, 2) := by decide +kernel
theorem c264_69 : mc_cd 264 69 = some (.goto 5, 3) := by decide +kernel
theorem c264_72 : mc_cd 264 72 = some (.iload 4, 2) := by decide +kernel
theorem c264_74 : mc_cd 264 74 = some (.istore 4, 2) := by decide +kernel
theorem c264_76 : mc_cd 264 76 = some (.iinc 5 1, 3) := by decide +kernel
theorem c264_79 : mc_cd 264 79 = some (.goto (-73), 3) := by decide +kernel
theorem c264_82 : mc_cd 264 82 = some (.iload 4, 2) := by decide +kernel
theorem c264_84 : mc_cd 264 84 = some (.ireturn, 1) := by decide +kernel
abbrev q_264_m_bed (r0 : Nat) (a1 : Int) (r2 : Nat) (a3 : Int) (pp : Nat) (T : wq_T) (H : wq_H) : Option Value → wq_T → wq_H → Prop := fun r T' H' => T = T' ∧ WT T H' ∧ wfr [(51, 999)] T H H' ∧ ∃ z : Int, some (vI z) = r ∧ ((-2147483648) ≤ z ∧ z ≤ 2147483647)
set_option maxHeartbeats 4000000 in
theorem s_264_m_bed {kt : Nat → Option mc_E} {T : wq_T} {H : wq_H} {r0 : Nat} {a1 : Int} {r2 : Nat} {a3 : Int} {pp : Nat} (hW : WT T H) (g0 : T.2.2.2 r0 = some 42) (i1 : 0 ≤ a1 ∧ a1 ≤ 5) (g2 : T.2.2.2 r2 = some 46) (i3 : 0 ≤ a3 ∧ a3 ≤ 1) (qpp : H r0 3 = (pp : Int)) (gpp : T.2.2.2 pp = some 54) (p0 : H r0 29 = 0 ∨ 0 < wLM H r0) : wpc kt 2 264 [.ref r0, vI a1, .ref r2, vI a3] T H (q_264_m_bed r0 a1 r2 a3 pp T H) := by
  refine wp_enter e264 (Nat.le_of_ble_eq_true rfl) rfl ?_
  have f0 : wfr [(51, 999)] T H H := wfr.rf
  show wp _ _ 264 0 [(0, .ref r0), (1, vI a1), (2, .ref r2), (3, vI a3)] [] _ H _
  have b147461 : 0 ≤ H r0 29 ∧ H r0 29 ≤ 20000 := hW.box g0 (n := 33) rfl (by decide) rfl
  refine wp_of e264 c264_0 (rw_iconst (pc' := 1) rfl ?_)
  refine wp_of e264 c264_1 (rw_istore (pc' := 3) (z := 0) (L' := [(4, vI 0), (0, .ref r0), (1, vI a1), (2, .ref r2), (3, vI a3)]) rfl rfl rfl ?_)
  refine wp_of e264 c264_3 (rw_iconst (pc' := 4) rfl ?_)
  refine wp_of e264 c264_4 (rw_istore (pc' := 6) (z := 0) (L' := [(5, vI 0), (4, vI 0), (0, .ref r0), (1, vI a1), (2, .ref r2), (3, vI a3)]) rfl rfl rfl ?_)
  have lp147715 : ∀ (n147716 : Nat) (v147718 : Int) (v147719 : Int) (H147720 : wq_H), WT T H147720 → wfr [(51, 999)] T H H147720 → (0 ≤ v147718 ∧ v147718 ≤ 20000) → (0 ≤ v147719 ∧ v147719 ≤ 30) → (20000 - v147718).toNat = n147716 → wp kt 1 264 6 [(5, vI v147718), (4, vI v147719), (0, .ref r0), (1, vI a1), (2, .ref r2), (3, vI a3)] [] T H147720 (q_264_m_bed r0 a1 r2 a3 pp T H) := by
    intro n147716
    induction n147716 using Nat.strongRecOn with
    | _ n147716 ih147717 =>
      intro v147718 v147719 H147720 w147721 f147722 b147723 b147724 m147725
      have f147726 := f0.tr f147722 rfl
      refine wp_of e264 c264_6 (rw_iload (pc' := 8) (z := v147718) rfl rfl ?_)
      refine wp_of e264 c264_8 (rw_aload_n (pc' := 9) (v := .ref r0) rfl rfl rfl ?_)
      have k147727 : H147720 r0 29 = H r0 29 := (f147722 r0 29 _ g0 rfl)
      refine wp_of e264 c264_9 (xg_I (pc' := 12) lf_9_422 w147721 g0 sh_42 (by decide) (by decide) ty_42_29 rfl rfl (fun b147728 b147729 => ?_))
      refine wp_of e264 c264_12 (rw_icmp_ge (p1 := 82) (p2 := 15) (by decide) rfl ⟨by omega, by omega⟩ ⟨by omega, by omega⟩ (fun c147730 => ?_) (fun c147730 => ?_))
      · refine wp_of e264 c264_82 (rw_iload (pc' := 84) (z := v147719) rfl rfl ?_)
        exact wp_ireturn e264 c264_84 rfl ⟨rfl, w147721, f147726, v147719, rfl, ⟨by omega, by omega⟩⟩
      · refine wp_of e264 c264_15 (rw_aload_n (pc' := 16) (v := .ref r0) rfl rfl rfl ?_)
        refine wp_of e264 c264_16 (rw_aload_n (pc' := 17) (v := .ref r0) rfl rfl rfl ?_)
        refine wp_of e264 c264_17 (xg_R (pc' := 20) lf_9_42 w147721 g0 sh_42 (by decide) (by decide) ty_42_30 rfl rfl (fun r147731 q147732 g147733 => ?_))
        refine wp_of e264 c264_20 (rw_iload (pc' := 22) (z := v147718) rfl rfl ?_)
        refine wp_of e264 c264_22 (xa_I (so := 0) (pc' := 23) w147721 g147733 sh_52 (by decide) (ty_52 _) (by omega) (by omega) rfl (fun b147734 b147735 => ?_))
        have k147736 : wLM H147720 r0 = wLM H r0 := (wLM_fr hW g0 f147722 rfl)
        have k147737 : H147720 r0 3 = H r0 3 := (f147722 r0 3 _ g0 rfl)
        have q147738 : H147720 r0 3 = (pp : Int) := k147737.trans qpp
        refine wp_of e264 c264_23 (xc_V (pc' := 26) (r := r0) (as := [vI (H147720 r147731 (v147718.toNat))]) (st := []) (lm_9_425) rfl rfl (Nat.le_of_ble_eq_true rfl) w147721 g0 sh_42 (by decide) rfl (by decide) (s_243 w147721 g0 ⟨by omega, by omega⟩ q147738 gpp (by omega)) (fun R147739 T147740 H147741 p147742 => ?_))
        obtain ⟨e147743, w147745, f147746, e147744⟩ := p147742
        subst e147743
        subst e147744
        have f147747 := f147726.tr f147746 rfl
        have f147748 := f147722.tr f147746 rfl
        show wp _ _ 264 26 [(5, vI v147718), (4, vI v147719), (0, .ref r0), (1, vI a1), (2, .ref r2), (3, vI a3)] [] _ H147741 _
        refine wp_of e264 c264_26 (rw_aload_n (pc' := 27) (v := .ref r2) rfl rfl rfl ?_)
        refine wp_of e264 c264_27 (rw_bipush (pc' := 29) (z := 40) rfl (by decide) ?_)
        refine wp_of e264 c264_29 (rw_iload_n (pc' := 30) (z := a1) rfl rfl ?_)
        refine wp_of e264 c264_30 (rw_imul (pc' := 31) rfl ?_)
        refine wp_of e264 c264_31 (rw_aload_n (pc' := 32) (v := .ref r0) rfl rfl rfl ?_)
        refine wp_of e264 c264_32 (xg_R (pc' := 35) lf_9_39 w147745 g0 sh_42 (by decide) (by decide) ty_42_27 rfl rfl (fun r147749 q147750 g147751 => ?_))
        refine wp_of e264 c264_35 (rw_iload_n (pc' := 36) (z := a1) rfl rfl ?_)
        refine wp_of e264 c264_36 (xa_I (so := 0) (pc' := 37) w147745 g147751 sh_51 (by decide) (ty_51 _) (by omega) (by omega) rfl (fun b147752 b147753 => ?_))
        refine wp_of e264 c264_37 (rw_iadd (pc' := 38) rfl ?_)
        refine wp_of e264 c264_38 (xa_I (so := 0) (pc' := 39) w147745 g2 sh_46 (by decide) (ty_46 _) (by omega) (by omega) rfl (fun b147754 b147755 => ?_))
        refine wp_of e264 c264_39 (rw_istore (pc' := 41) (z := H147741 r2 (((40 * a1) + (H147741 r147749 (a1.toNat))).toNat)) (L' := [(6, vI (H147741 r2 (((40 * a1) + (H147741 r147749 (a1.toNat))).toNat))), (5, vI v147718), (4, vI v147719), (0, .ref r0), (1, vI a1), (2, .ref r2), (3, vI a3)]) rfl rfl rfl ?_)
        refine wp_of e264 c264_41 (rw_iload (pc' := 43) (z := v147718) rfl rfl ?_)
        refine wp_of e264 c264_43 (rw_if_eq (p1 := 67) (p2 := 46) (by decide) rfl ⟨by omega, by omega⟩ (fun c147756 => ?_) (fun c147756 => ?_))
        · refine wp_of e264 c264_67 (rw_iload (pc' := 69) (z := H147741 r2 (((40 * a1) + (H147741 r147749 (a1.toNat))).toNat)) rfl rfl ?_)
          refine wp_of e264 c264_69 (rw_goto (p1 := 74) (by decide) ?_)
          refine wp_of e264 c264_74 (rw_istore (pc' := 76) (z := H147741 r2 (((40 * a1) + (H147741 r147749 (a1.toNat))).toNat)) (L' := [(4, vI (H147741 r2 (((40 * a1) + (H147741 r147749 (a1.toNat))).toNat))), (6, vI (H147741 r2 (((40 * a1) + (H147741 r147749 (a1.toNat))).toNat))), (5, vI v147718), (0, .ref r0), (1, vI a1), (2, .ref r2), (3, vI a3)]) rfl rfl rfl ?_)
          refine wp_of e264 c264_76 (rw_iinc (pc' := 79) (z := v147718) (L' := [(5, vI (v147718 + 1)), (4, vI (H147741 r2 (((40 * a1) + (H147741 r147749 (a1.toNat))).toNat))), (6, vI (H147741 r2 (((40 * a1) + (H147741 r147749 (a1.toNat))).toNat))), (0, .ref r0), (1, vI a1), (2, .ref r2), (3, vI a3)]) rfl rfl rfl rfl ?_)
          refine wp_of e264 c264_79 (rw_goto (p1 := 6) (by decide) ?_)
          exact wp_lc (ks := [5, 4, 6, 0, 1, 2, 3]) (wl_c rfl (wl_c rfl (wl_c rfl (wl_c rfl (wl_c rfl (wl_c rfl wl_n)))))) rfl (by decide) (ih147717 _ (by omega) (v147718 + 1) (H147741 r2 (((40 * a1) + (H147741 r147749 (a1.toNat))).toNat)) H147741 w147745 f147748 ⟨by omega, by omega⟩ ⟨by omega, by omega⟩ rfl)
        · refine wp_of e264 c264_46 (rw_iload_n (pc' := 47) (z := a3) rfl rfl ?_)
          refine wp_of e264 c264_47 (rw_if_eq (p1 := 60) (p2 := 50) (by decide) rfl ⟨by omega, by omega⟩ (fun c147757 => ?_) (fun c147757 => ?_))
          · refine wp_of e264 c264_60 (rw_iload (pc' := 62) (z := H147741 r2 (((40 * a1) + (H147741 r147749 (a1.toNat))).toNat)) rfl rfl ?_)
            refine wp_of e264 c264_62 (rw_iload (pc' := 64) (z := v147719) rfl rfl ?_)
            refine wp_of e264 c264_64 (rw_icmp_ge (p1 := 72) (p2 := 67) (by decide) rfl ⟨by omega, by omega⟩ ⟨by omega, by omega⟩ (fun c147758 => ?_) (fun c147758 => ?_))
            · refine wp_of e264 c264_72 (rw_iload (pc' := 74) (z := v147719) rfl rfl ?_)
              refine wp_of e264 c264_74 (rw_istore (pc' := 76) (z := v147719) (L' := [(4, vI v147719), (6, vI (H147741 r2 (((40 * a1) + (H147741 r147749 (a1.toNat))).toNat))), (5, vI v147718), (0, .ref r0), (1, vI a1), (2, .ref r2), (3, vI a3)]) rfl rfl rfl ?_)
              refine wp_of e264 c264_76 (rw_iinc (pc' := 79) (z := v147718) (L' := [(5, vI (v147718 + 1)), (4, vI v147719), (6, vI (H147741 r2 (((40 * a1) + (H147741 r147749 (a1.toNat))).toNat))), (0, .ref r0), (1, vI a1), (2, .ref r2), (3, vI a3)]) rfl rfl rfl rfl ?_)
              refine wp_of e264 c264_79 (rw_goto (p1 := 6) (by decide) ?_)
              exact wp_lc (ks := [5, 4, 6, 0, 1, 2, 3]) (wl_c rfl (wl_c rfl (wl_c rfl (wl_c rfl (wl_c rfl (wl_c rfl wl_n)))))) rfl (by decide) (ih147717 _ (by omega) (v147718 + 1) v147719 H147741 w147745 f147748 ⟨by omega, by omega⟩ ⟨by omega, by omega⟩ rfl)
            · refine wp_of e264 c264_67 (rw_iload (pc' := 69) (z := H147741 r2 (((40 * a1) + (H147741 r147749 (a1.toNat))).toNat)) rfl rfl ?_)
              refine wp_of e264 c264_69 (rw_goto (p1 := 74) (by decide) ?_)
              refine wp_of e264 c264_74 (rw_istore (pc' := 76) (z := H147741 r2 (((40 * a1) + (H147741 r147749 (a1.toNat))).toNat)) (L' := [(4, vI (H147741 r2 (((40 * a1) + (H147741 r147749 (a1.toNat))).toNat))), (6, vI (H147741 r2 (((40 * a1) + (H147741 r147749 (a1.toNat))).toNat))), (5, vI v147718), (0, .ref r0), (1, vI a1), (2, .ref r2), (3, vI a3)]) rfl rfl rfl ?_)
              refine wp_of e264 c264_76 (rw_iinc (pc' := 79) (z := v147718) (L' := [(5, vI (v147718 + 1)), (4, vI (H147741 r2 (((40 * a1) + (H147741 r147749 (a1.toNat))).toNat))), (6, vI (H147741 r2 (((40 * a1) + (H147741 r147749 (a1.toNat))).toNat))), (0, .ref r0), (1, vI a1), (2, .ref r2), (3, vI a3)]) rfl rfl rfl rfl ?_)
              refine wp_of e264 c264_79 (rw_goto (p1 := 6) (by decide) ?_)
              exact wp_lc (ks := [5, 4, 6, 0, 1, 2, 3]) (wl_c rfl (wl_c rfl (wl_c rfl (wl_c rfl (wl_c rfl (wl_c rfl wl_n)))))) rfl (by decide) (ih147717 _ (by omega) (v147718 + 1) (H147741 r2 (((40 * a1) + (H147741 r147749 (a1.toNat))).toNat)) H147741 w147745 f147748 ⟨by omega, by omega⟩ ⟨by omega, by omega⟩ rfl)
          · refine wp_of e264 c264_50 (rw_iload (pc' := 52) (z := H147741 r2 (((40 * a1) + (H147741 r147749 (a1.toNat))).toNat)) rfl rfl ?_)
            refine wp_of e264 c264_52 (rw_iload (pc' := 54) (z := v147719) rfl rfl ?_)
            refine wp_of e264 c264_54 (rw_icmp_le (p1 := 72) (p2 := 57) (by decide) rfl ⟨by omega, by omega⟩ ⟨by omega, by omega⟩ (fun c147759 => ?_) (fun c147759 => ?_))
            · refine wp_of e264 c264_72 (rw_iload (pc' := 74) (z := v147719) rfl rfl ?_)
              refine wp_of e264 c264_74 (rw_istore (pc' := 76) (z := v147719) (L' := [(4, vI v147719), (6, vI (H147741 r2 (((40 * a1) + (H147741 r147749 (a1.toNat))).toNat))), (5, vI v147718), (0, .ref r0), (1, vI a1), (2, .ref r2), (3, vI a3)]) rfl rfl rfl ?_)
              refine wp_of e264 c264_76 (rw_iinc (pc' := 79) (z := v147718) (L' := [(5, vI (v147718 + 1)), (4, vI v147719), (6, vI (H147741 r2 (((40 * a1) + (H147741 r147749 (a1.toNat))).toNat))), (0, .ref r0), (1, vI a1), (2, .ref r2), (3, vI a3)]) rfl rfl rfl rfl ?_)
              refine wp_of e264 c264_79 (rw_goto (p1 := 6) (by decide) ?_)
              exact wp_lc (ks := [5, 4, 6, 0, 1, 2, 3]) (wl_c rfl (wl_c rfl (wl_c rfl (wl_c rfl (wl_c rfl (wl_c rfl wl_n)))))) rfl (by decide) (ih147717 _ (by omega) (v147718 + 1) v147719 H147741 w147745 f147748 ⟨by omega, by omega⟩ ⟨by omega, by omega⟩ rfl)
            · refine wp_of e264 c264_57 (rw_goto (p1 := 67) (by decide) ?_)
              refine wp_of e264 c264_67 (rw_iload (pc' := 69) (z := H147741 r2 (((40 * a1) + (H147741 r147749 (a1.toNat))).toNat)) rfl rfl ?_)
              refine wp_of e264 c264_69 (rw_goto (p1 := 74) (by decide) ?_)
              refine wp_of e264 c264_74 (rw_istore (pc' := 76) (z := H147741 r2 (((40 * a1) + (H147741 r147749 (a1.toNat))).toNat)) (L' := [(4, vI (H147741 r2 (((40 * a1) + (H147741 r147749 (a1.toNat))).toNat))), (6, vI (H147741 r2 (((40 * a1) + (H147741 r147749 (a1.toNat))).toNat))), (5, vI v147718), (0, .ref r0), (1, vI a1), (2, .ref r2), (3, vI a3)]) rfl rfl rfl ?_)
              refine wp_of e264 c264_76 (rw_iinc (pc' := 79) (z := v147718) (L' := [(5, vI (v147718 + 1)), (4, vI (H147741 r2 (((40 * a1) + (H147741 r147749 (a1.toNat))).toNat))), (6, vI (H147741 r2 (((40 * a1) + (H147741 r147749 (a1.toNat))).toNat))), (0, .ref r0), (1, vI a1), (2, .ref r2), (3, vI a3)]) rfl rfl rfl rfl ?_)
              refine wp_of e264 c264_79 (rw_goto (p1 := 6) (by decide) ?_)
              exact wp_lc (ks := [5, 4, 6, 0, 1, 2, 3]) (wl_c rfl (wl_c rfl (wl_c rfl (wl_c rfl (wl_c rfl (wl_c rfl wl_n)))))) rfl (by decide) (ih147717 _ (by omega) (v147718 + 1) (H147741 r2 (((40 * a1) + (H147741 r147749 (a1.toNat))).toNat)) H147741 w147745 f147748 ⟨by omega, by omega⟩ ⟨by omega, by omega⟩ rfl)
  exact wp_lc (ks := [5, 4, 0, 1, 2, 3]) (wl_c rfl (wl_c rfl (wl_c rfl (wl_c rfl (wl_c rfl (wl_c rfl wl_n)))))) rfl (by decide) (lp147715 _ 0 0 H hW wfr.rf ⟨by omega, by omega⟩ ⟨by omega, by omega⟩ rfl)

/-! StrikeAwakeModel.extreme(I[IZ)I -/
abbrev q_264_m_length (r0 : Nat) (a1 : Int) (r2 : Nat) (a3 : Int) (pp : Nat) (T : wq_T) (H : wq_H) : Option Value → wq_T → wq_H → Prop := fun r T' H' => T = T' ∧ WT T H' ∧ wfr [(51, 999)] T H H' ∧ ∃ z : Int, some (vI z) = r ∧ ((-2147483648) ≤ z ∧ z ≤ 2147483647)
set_option maxHeartbeats 4000000 in
theorem s_264_m_length {kt : Nat → Option mc_E} {T : wq_T} {H : wq_H} {r0 : Nat} {a1 : Int} {r2 : Nat} {a3 : Int} {pp : Nat} (hW : WT T H) (g0 : T.2.2.2 r0 = some 42) (i1 : 0 ≤ a1 ∧ a1 ≤ 5) (g2 : T.2.2.2 r2 = some 47) (i3 : 0 ≤ a3 ∧ a3 ≤ 1) (qpp : H r0 3 = (pp : Int)) (gpp : T.2.2.2 pp = some 54) (p0 : H r0 29 = 0 ∨ 0 < wLM H r0) : wpc kt 2 264 [.ref r0, vI a1, .ref r2, vI a3] T H (q_264_m_length r0 a1 r2 a3 pp T H) := by
  refine wp_enter e264 (Nat.le_of_ble_eq_true rfl) rfl ?_
  have f0 : wfr [(51, 999)] T H H := wfr.rf
  show wp _ _ 264 0 [(0, .ref r0), (1, vI a1), (2, .ref r2), (3, vI a3)] [] _ H _
  have b148046 : 0 ≤ H r0 29 ∧ H r0 29 ≤ 20000 := hW.box g0 (n := 33) rfl (by decide) rfl
  refine wp_of e264 c264_0 (rw_iconst (pc' := 1) rfl ?_)
  refine wp_of e264 c264_1 (rw_istore (pc' := 3) (z := 0) (L' := [(4, vI 0), (0, .ref r0), (1, vI a1), (2, .ref r2), (3, vI a3)]) rfl rfl rfl ?_)
  refine wp_of e264 c264_3 (rw_iconst (pc' := 4) rfl ?_)
  refine wp_of e264 c264_4 (rw_istore (pc' := 6) (z := 0) (L' := [(5, vI 0), (4, vI 0), (0, .ref r0), (1, vI a1), (2, .ref r2), (3, vI a3)]) rfl rfl rfl ?_)
  have lp148300 : ∀ (n148301 : Nat) (v148303 : Int) (v148304 : Int) (H148305 : wq_H), WT T H148305 → wfr [(51, 999)] T H H148305 → (0 ≤ v148303 ∧ v148303 ≤ 20000) → (0 ≤ v148304 ∧ v148304 ≤ 16) → (20000 - v148303).toNat = n148301 → wp kt 1 264 6 [(5, vI v148303), (4, vI v148304), (0, .ref r0), (1, vI a1), (2, .ref r2), (3, vI a3)] [] T H148305 (q_264_m_length r0 a1 r2 a3 pp T H) := by
    intro n148301
    induction n148301 using Nat.strongRecOn with
    | _ n148301 ih148302 =>
      intro v148303 v148304 H148305 w148306 f148307 b148308 b148309 m148310
      have f148311 := f0.tr f148307 rfl
      refine wp_of e264 c264_6 (rw_iload (pc' := 8) (z := v148303) rfl rfl ?_)
      refine wp_of e264 c264_8 (rw_aload_n (pc' := 9) (v := .ref r0) rfl rfl rfl ?_)
      have k148312 : H148305 r0 29 = H r0 29 := (f148307 r0 29 _ g0 rfl)
      refine wp_of e264 c264_9 (xg_I (pc' := 12) lf_9_422 w148306 g0 sh_42 (by decide) (by decide) ty_42_29 rfl rfl (fun b148313 b148314 => ?_))
      refine wp_of e264 c264_12 (rw_icmp_ge (p1 := 82) (p2 := 15) (by decide) rfl ⟨by omega, by omega⟩ ⟨by omega, by omega⟩ (fun c148315 => ?_) (fun c148315 => ?_))
      · refine wp_of e264 c264_82 (rw_iload (pc' := 84) (z := v148304) rfl rfl ?_)
        exact wp_ireturn e264 c264_84 rfl ⟨rfl, w148306, f148311, v148304, rfl, ⟨by omega, by omega⟩⟩
      · refine wp_of e264 c264_15 (rw_aload_n (pc' := 16) (v := .ref r0) rfl rfl rfl ?_)
        refine wp_of e264 c264_16 (rw_aload_n (pc' := 17) (v := .ref r0) rfl rfl rfl ?_)
        refine wp_of e264 c264_17 (xg_R (pc' := 20) lf_9_42 w148306 g0 sh_42 (by decide) (by decide) ty_42_30 rfl rfl (fun r148316 q148317 g148318 => ?_))
        refine wp_of e264 c264_20 (rw_iload (pc' := 22) (z := v148303) rfl rfl ?_)
        refine wp_of e264 c264_22 (xa_I (so := 0) (pc' := 23) w148306 g148318 sh_52 (by decide) (ty_52 _) (by omega) (by omega) rfl (fun b148319 b148320 => ?_))
        have k148321 : wLM H148305 r0 = wLM H r0 := (wLM_fr hW g0 f148307 rfl)
        have k148322 : H148305 r0 3 = H r0 3 := (f148307 r0 3 _ g0 rfl)
        have q148323 : H148305 r0 3 = (pp : Int) := k148322.trans qpp
        refine wp_of e264 c264_23 (xc_V (pc' := 26) (r := r0) (as := [vI (H148305 r148316 (v148303.toNat))]) (st := []) (lm_9_425) rfl rfl (Nat.le_of_ble_eq_true rfl) w148306 g0 sh_42 (by decide) rfl (by decide) (s_243 w148306 g0 ⟨by omega, by omega⟩ q148323 gpp (by omega)) (fun R148324 T148325 H148326 p148327 => ?_))
        obtain ⟨e148328, w148330, f148331, e148329⟩ := p148327
        subst e148328
        subst e148329
        have f148332 := f148311.tr f148331 rfl
        have f148333 := f148307.tr f148331 rfl
        show wp _ _ 264 26 [(5, vI v148303), (4, vI v148304), (0, .ref r0), (1, vI a1), (2, .ref r2), (3, vI a3)] [] _ H148326 _
        refine wp_of e264 c264_26 (rw_aload_n (pc' := 27) (v := .ref r2) rfl rfl rfl ?_)
        refine wp_of e264 c264_27 (rw_bipush (pc' := 29) (z := 40) rfl (by decide) ?_)
        refine wp_of e264 c264_29 (rw_iload_n (pc' := 30) (z := a1) rfl rfl ?_)
        refine wp_of e264 c264_30 (rw_imul (pc' := 31) rfl ?_)
        refine wp_of e264 c264_31 (rw_aload_n (pc' := 32) (v := .ref r0) rfl rfl rfl ?_)
        refine wp_of e264 c264_32 (xg_R (pc' := 35) lf_9_39 w148330 g0 sh_42 (by decide) (by decide) ty_42_27 rfl rfl (fun r148334 q148335 g148336 => ?_))
        refine wp_of e264 c264_35 (rw_iload_n (pc' := 36) (z := a1) rfl rfl ?_)
        refine wp_of e264 c264_36 (xa_I (so := 0) (pc' := 37) w148330 g148336 sh_51 (by decide) (ty_51 _) (by omega) (by omega) rfl (fun b148337 b148338 => ?_))
        refine wp_of e264 c264_37 (rw_iadd (pc' := 38) rfl ?_)
        refine wp_of e264 c264_38 (xa_I (so := 0) (pc' := 39) w148330 g2 sh_47 (by decide) (ty_47 _) (by omega) (by omega) rfl (fun b148339 b148340 => ?_))
        refine wp_of e264 c264_39 (rw_istore (pc' := 41) (z := H148326 r2 (((40 * a1) + (H148326 r148334 (a1.toNat))).toNat)) (L' := [(6, vI (H148326 r2 (((40 * a1) + (H148326 r148334 (a1.toNat))).toNat))), (5, vI v148303), (4, vI v148304), (0, .ref r0), (1, vI a1), (2, .ref r2), (3, vI a3)]) rfl rfl rfl ?_)
        refine wp_of e264 c264_41 (rw_iload (pc' := 43) (z := v148303) rfl rfl ?_)
        refine wp_of e264 c264_43 (rw_if_eq (p1 := 67) (p2 := 46) (by decide) rfl ⟨by omega, by omega⟩ (fun c148341 => ?_) (fun c148341 => ?_))
        · refine wp_of e264 c264_67 (rw_iload (pc' := 69) (z := H148326 r2 (((40 * a1) + (H148326 r148334 (a1.toNat))).toNat)) rfl rfl ?_)
          refine wp_of e264 c264_69 (rw_goto (p1 := 74) (by decide) ?_)
          refine wp_of e264 c264_74 (rw_istore (pc' := 76) (z := H148326 r2 (((40 * a1) + (H148326 r148334 (a1.toNat))).toNat)) (L' := [(4, vI (H148326 r2 (((40 * a1) + (H148326 r148334 (a1.toNat))).toNat))), (6, vI (H148326 r2 (((40 * a1) + (H148326 r148334 (a1.toNat))).toNat))), (5, vI v148303), (0, .ref r0), (1, vI a1), (2, .ref r2), (3, vI a3)]) rfl rfl rfl ?_)
          refine wp_of e264 c264_76 (rw_iinc (pc' := 79) (z := v148303) (L' := [(5, vI (v148303 + 1)), (4, vI (H148326 r2 (((40 * a1) + (H148326 r148334 (a1.toNat))).toNat))), (6, vI (H148326 r2 (((40 * a1) + (H148326 r148334 (a1.toNat))).toNat))), (0, .ref r0), (1, vI a1), (2, .ref r2), (3, vI a3)]) rfl rfl rfl rfl ?_)
          refine wp_of e264 c264_79 (rw_goto (p1 := 6) (by decide) ?_)
          exact wp_lc (ks := [5, 4, 6, 0, 1, 2, 3]) (wl_c rfl (wl_c rfl (wl_c rfl (wl_c rfl (wl_c rfl (wl_c rfl wl_n)))))) rfl (by decide) (ih148302 _ (by omega) (v148303 + 1) (H148326 r2 (((40 * a1) + (H148326 r148334 (a1.toNat))).toNat)) H148326 w148330 f148333 ⟨by omega, by omega⟩ ⟨by omega, by omega⟩ rfl)
        · refine wp_of e264 c264_46 (rw_iload_n (pc' := 47) (z := a3) rfl rfl ?_)
          refine wp_of e264 c264_47 (rw_if_eq (p1 := 60) (p2 := 50) (by decide) rfl ⟨by omega, by omega⟩ (fun c148342 => ?_) (fun c148342 => ?_))
          · refine wp_of e264 c264_60 (rw_iload (pc' := 62) (z := H148326 r2 (((40 * a1) + (H148326 r148334 (a1.toNat))).toNat)) rfl rfl ?_)
            refine wp_of e264 c264_62 (rw_iload (pc' := 64) (z := v148304) rfl rfl ?_)
            refine wp_of e264 c264_64 (rw_icmp_ge (p1 := 72) (p2 := 67) (by decide) rfl ⟨by omega, by omega⟩ ⟨by omega, by omega⟩ (fun c148343 => ?_) (fun c148343 => ?_))
            · refine wp_of e264 c264_72 (rw_iload (pc' := 74) (z := v148304) rfl rfl ?_)
              refine wp_of e264 c264_74 (rw_istore (pc' := 76) (z := v148304) (L' := [(4, vI v148304), (6, vI (H148326 r2 (((40 * a1) + (H148326 r148334 (a1.toNat))).toNat))), (5, vI v148303), (0, .ref r0), (1, vI a1), (2, .ref r2), (3, vI a3)]) rfl rfl rfl ?_)
              refine wp_of e264 c264_76 (rw_iinc (pc' := 79) (z := v148303) (L' := [(5, vI (v148303 + 1)), (4, vI v148304), (6, vI (H148326 r2 (((40 * a1) + (H148326 r148334 (a1.toNat))).toNat))), (0, .ref r0), (1, vI a1), (2, .ref r2), (3, vI a3)]) rfl rfl rfl rfl ?_)
              refine wp_of e264 c264_79 (rw_goto (p1 := 6) (by decide) ?_)
              exact wp_lc (ks := [5, 4, 6, 0, 1, 2, 3]) (wl_c rfl (wl_c rfl (wl_c rfl (wl_c rfl (wl_c rfl (wl_c rfl wl_n)))))) rfl (by decide) (ih148302 _ (by omega) (v148303 + 1) v148304 H148326 w148330 f148333 ⟨by omega, by omega⟩ ⟨by omega, by omega⟩ rfl)
            · refine wp_of e264 c264_67 (rw_iload (pc' := 69) (z := H148326 r2 (((40 * a1) + (H148326 r148334 (a1.toNat))).toNat)) rfl rfl ?_)
              refine wp_of e264 c264_69 (rw_goto (p1 := 74) (by decide) ?_)
              refine wp_of e264 c264_74 (rw_istore (pc' := 76) (z := H148326 r2 (((40 * a1) + (H148326 r148334 (a1.toNat))).toNat)) (L' := [(4, vI (H148326 r2 (((40 * a1) + (H148326 r148334 (a1.toNat))).toNat))), (6, vI (H148326 r2 (((40 * a1) + (H148326 r148334 (a1.toNat))).toNat))), (5, vI v148303), (0, .ref r0), (1, vI a1), (2, .ref r2), (3, vI a3)]) rfl rfl rfl ?_)
              refine wp_of e264 c264_76 (rw_iinc (pc' := 79) (z := v148303) (L' := [(5, vI (v148303 + 1)), (4, vI (H148326 r2 (((40 * a1) + (H148326 r148334 (a1.toNat))).toNat))), (6, vI (H148326 r2 (((40 * a1) + (H148326 r148334 (a1.toNat))).toNat))), (0, .ref r0), (1, vI a1), (2, .ref r2), (3, vI a3)]) rfl rfl rfl rfl ?_)
              refine wp_of e264 c264_79 (rw_goto (p1 := 6) (by decide) ?_)
              exact wp_lc (ks := [5, 4, 6, 0, 1, 2, 3]) (wl_c rfl (wl_c rfl (wl_c rfl (wl_c rfl (wl_c rfl (wl_c rfl wl_n)))))) rfl (by decide) (ih148302 _ (by omega) (v148303 + 1) (H148326 r2 (((40 * a1) + (H148326 r148334 (a1.toNat))).toNat)) H148326 w148330 f148333 ⟨by omega, by omega⟩ ⟨by omega, by omega⟩ rfl)
          · refine wp_of e264 c264_50 (rw_iload (pc' := 52) (z := H148326 r2 (((40 * a1) + (H148326 r148334 (a1.toNat))).toNat)) rfl rfl ?_)
            refine wp_of e264 c264_52 (rw_iload (pc' := 54) (z := v148304) rfl rfl ?_)
            refine wp_of e264 c264_54 (rw_icmp_le (p1 := 72) (p2 := 57) (by decide) rfl ⟨by omega, by omega⟩ ⟨by omega, by omega⟩ (fun c148344 => ?_) (fun c148344 => ?_))
            · refine wp_of e264 c264_72 (rw_iload (pc' := 74) (z := v148304) rfl rfl ?_)
              refine wp_of e264 c264_74 (rw_istore (pc' := 76) (z := v148304) (L' := [(4, vI v148304), (6, vI (H148326 r2 (((40 * a1) + (H148326 r148334 (a1.toNat))).toNat))), (5, vI v148303), (0, .ref r0), (1, vI a1), (2, .ref r2), (3, vI a3)]) rfl rfl rfl ?_)
              refine wp_of e264 c264_76 (rw_iinc (pc' := 79) (z := v148303) (L' := [(5, vI (v148303 + 1)), (4, vI v148304), (6, vI (H148326 r2 (((40 * a1) + (H148326 r148334 (a1.toNat))).toNat))), (0, .ref r0), (1, vI a1), (2, .ref r2), (3, vI a3)]) rfl rfl rfl rfl ?_)
              refine wp_of e264 c264_79 (rw_goto (p1 := 6) (by decide) ?_)
              exact wp_lc (ks := [5, 4, 6, 0, 1, 2, 3]) (wl_c rfl (wl_c rfl (wl_c rfl (wl_c rfl (wl_c rfl (wl_c rfl wl_n)))))) rfl (by decide) (ih148302 _ (by omega) (v148303 + 1) v148304 H148326 w148330 f148333 ⟨by omega, by omega⟩ ⟨by omega, by omega⟩ rfl)
            · refine wp_of e264 c264_57 (rw_goto (p1 := 67) (by decide) ?_)
              refine wp_of e264 c264_67 (rw_iload (pc' := 69) (z := H148326 r2 (((40 * a1) + (H148326 r148334 (a1.toNat))).toNat)) rfl rfl ?_)
              refine wp_of e264 c264_69 (rw_goto (p1 := 74) (by decide) ?_)
              refine wp_of e264 c264_74 (rw_istore (pc' := 76) (z := H148326 r2 (((40 * a1) + (H148326 r148334 (a1.toNat))).toNat)) (L' := [(4, vI (H148326 r2 (((40 * a1) + (H148326 r148334 (a1.toNat))).toNat))), (6, vI (H148326 r2 (((40 * a1) + (H148326 r148334 (a1.toNat))).toNat))), (5, vI v148303), (0, .ref r0), (1, vI a1), (2, .ref r2), (3, vI a3)]) rfl rfl rfl ?_)
              refine wp_of e264 c264_76 (rw_iinc (pc' := 79) (z := v148303) (L' := [(5, vI (v148303 + 1)), (4, vI (H148326 r2 (((40 * a1) + (H148326 r148334 (a1.toNat))).toNat))), (6, vI (H148326 r2 (((40 * a1) + (H148326 r148334 (a1.toNat))).toNat))), (0, .ref r0), (1, vI a1), (2, .ref r2), (3, vI a3)]) rfl rfl rfl rfl ?_)
              refine wp_of e264 c264_79 (rw_goto (p1 := 6) (by decide) ?_)
              exact wp_lc (ks := [5, 4, 6, 0, 1, 2, 3]) (wl_c rfl (wl_c rfl (wl_c rfl (wl_c rfl (wl_c rfl (wl_c rfl wl_n)))))) rfl (by decide) (ih148302 _ (by omega) (v148303 + 1) (H148326 r2 (((40 * a1) + (H148326 r148334 (a1.toNat))).toNat)) H148326 w148330 f148333 ⟨by omega, by omega⟩ ⟨by omega, by omega⟩ rfl)
  exact wp_lc (ks := [5, 4, 0, 1, 2, 3]) (wl_c rfl (wl_c rfl (wl_c rfl (wl_c rfl (wl_c rfl (wl_c rfl wl_n)))))) rfl (by decide) (lp148300 _ 0 0 H hW wfr.rf ⟨by omega, by omega⟩ ⟨by omega, by omega⟩ rfl)
