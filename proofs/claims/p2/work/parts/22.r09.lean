/-! methods of the reference (own work, written by wip/gen2/sx.py) -/
/-! StrikeAwakeModel.bed(IZ)I -/
theorem e263 : wq_en 263 = some (9, 4, false, some FieldType.int) := rfl
theorem c263_0 : mc_cd 263 0 = some (.aload_n 0, 1) := by decide +kernel
theorem c263_1 : mc_cd 263 1 = some (.iconst 0, 1) := by decide +kernel
theorem c263_2 : mc_cd 263 2 = some (.putfield 48, 3) := by decide +kernel
theorem c263_5 : mc_cd 263 5 = some (.aload_n 0, 1) := by decide +kernel
theorem c263_6 : mc_cd 263 6 = some (.aload_n 0, 1) := by decide +kernel
theorem c263_7 : mc_cd 263 7 = some (.iload_n 1, 1) := by decide +kernel
theorem c263_8 : mc_cd 263 8 = some (.invokevirtual 364, 3) := by decide +kernel
theorem c263_11 : mc_cd 263 11 = some (.invokevirtual 447, 3) := by decide +kernel
theorem c263_14 : mc_cd 263 14 = some (.istore_n 3, 1) := by decide +kernel
theorem c263_15 : mc_cd 263 15 = some (.iload_n 3, 1) := by decide +kernel
theorem c263_16 : mc_cd 263 16 = some (.ifCond .le 11, 3) := by decide +kernel
theorem c263_19 : mc_cd 263 19 = some (.aload_n 0, 1) := by decide +kernel
theorem c263_20 : mc_cd 263 20 = some (.iload_n 3, 1) := by decide +kernel
theorem c263_21 : mc_cd 263 21 = some (.invokevirtual 54, 3) := by decide +kernel
theorem c263_24 : mc_cd 263 24 = some (.goto 17, 3) := by decide +kernel
theorem c263_27 : mc_cd 263 27 = some (.aload_n 0, 1) := by decide +kernel
theorem c263_28 : mc_cd 263 28 = some (.aload_n 0, 1) := by decide +kernel
theorem c263_29 : mc_cd 263 29 = some (.iload_n 1, 1) := by decide +kernel
theorem c263_30 : mc_cd 263 30 = some (.aload_n 0, 1) := by decide +kernel
theorem c263_31 : mc_cd 263 31 = some (.getfield 24, 3) := by decide +kernel
theorem c263_34 : mc_cd 263 34 = some (.iload_n 2, 1) := by decide +kernel
theorem c263_35 : mc_cd 263 35 = some (.invokevirtual 458, 3) := by decide +kernel
theorem c263_38 : mc_cd 263 38 = some (.invokevirtual 58, 3) := by decide +kernel
theorem c263_41 : mc_cd 263 41 = some (.ireturn, 1) := by decide +kernel
abbrev q_263 (r0 : Nat) (a1 : Int) (a2 : Int) (T : wq_T) (H : wq_H) : Option Value → wq_T → wq_H → Prop := fun r T' H' => T = T' ∧ WT T H' ∧ wfr [(42, 0), (42, 1), (42, 2), (42, 28), (42, 29), (51, 999), (52, 999)] T H H' ∧ ∃ z : Int, some (vI z) = r ∧ ((-2147483648) ≤ z ∧ z ≤ 2147483647) ∧ (wKI H' r0 = 1)
set_option maxHeartbeats 4000000 in
theorem s_263 {kt : Nat → Option mc_E} {T : wq_T} {H : wq_H} {r0 : Nat} {a1 : Int} {a2 : Int} (hW : WT T H) (g0 : T.2.2.2 r0 = some 42) (i1 : (-2147483648) ≤ a1 ∧ a1 ≤ 2147483647) (i2 : 0 ≤ a2 ∧ a2 ≤ 1) (p0 : wKI H r0 = 1) : wpc kt 9 263 [.ref r0, vI a1, vI a2] T H (q_263 r0 a1 a2 T H) := by
  refine wp_enter e263 (Nat.le_of_ble_eq_true rfl) rfl ?_
  have f0 : wfr [(42, 0), (42, 1), (42, 2), (42, 28), (42, 29), (51, 999), (52, 999)] T H H := wfr.rf
  show wp _ _ 263 0 [(0, .ref r0), (1, vI a1), (2, vI a2)] [] _ H _
  refine wp_of e263 c263_0 (rw_aload_n (pc' := 1) (v := .ref r0) rfl rfl rfl ?_)
  refine wp_of e263 c263_1 (rw_iconst (pc' := 2) rfl ?_)
  refine wp_of e263 c263_2 (xp_I (pc' := 5) lf_9_48 hW g0 sh_42 (by decide) (by decide) ty_42_0 rfl rfl (by omega) (by omega) ⟨by omega, by omega⟩ rfl (fun H144030 e144031 w144032 => ?_))
  have f144033 := f0.put' e144031 g0 rfl
  have k144034 : H144030 r0 0 = 0 := wq_u_s e144031
  refine wp_of e263 c263_5 (rw_aload_n (pc' := 6) (v := .ref r0) rfl rfl rfl ?_)
  refine wp_of e263 c263_6 (rw_aload_n (pc' := 7) (v := .ref r0) rfl rfl rfl ?_)
  refine wp_of e263 c263_7 (rw_iload_n (pc' := 8) (z := a1) rfl rfl ?_)
  refine wp_of e263 c263_8 (xc_V (pc' := 11) (r := r0) (as := [vI a1]) (st := [.ref r0]) (lm_9_364) rfl rfl (Nat.le_of_ble_eq_true rfl) w144032 g0 sh_42 (by decide) rfl (by decide) (s_213 w144032 g0 ⟨by omega, by omega⟩) (fun R144035 T144036 H144037 p144038 => ?_))
  obtain ⟨e144039, e144041, z144043, e144040, b144044, p144042⟩ := p144038
  subst e144039
  subst e144040
  subst e144041
  show wp _ _ 263 11 [(0, .ref r0), (1, vI a1), (2, vI a2)] [vI z144043, .ref r0] _ H144030 _
  have k144045 : wKI H144030 r0 = wKI H r0 := (wKI_fr hW g0 ((wfr.rf (l := [(42, 0)])).put' e144031 g0 rfl) rfl)
  refine wp_of e263 c263_11 (xc_V (pc' := 14) (r := r0) (as := [vI z144043]) (st := []) (lm_9_447) rfl rfl (Nat.le_of_ble_eq_true rfl) w144032 g0 sh_42 (by decide) rfl (by decide) (s_253 w144032 g0 ⟨by omega, by omega⟩ (by omega) (by omega)) (fun R144046 T144047 H144048 p144049 => ?_))
  obtain ⟨e144050, w144052, f144053, z144058, e144051, b144059, p144054, p144055, p144056, p144057⟩ := p144049
  subst e144050
  subst e144051
  have f144060 := f144033.tr f144053 rfl
  show wp _ _ 263 14 [(0, .ref r0), (1, vI a1), (2, vI a2)] [vI z144058] _ H144048 _
  refine wp_of e263 c263_14 (rw_istore_n (pc' := 15) (z := z144058) (L' := [(3, vI z144058), (0, .ref r0), (1, vI a1), (2, vI a2)]) rfl rfl rfl ?_)
  refine wp_of e263 c263_15 (rw_iload_n (pc' := 16) (z := z144058) rfl rfl ?_)
  refine wp_of e263 c263_16 (rw_if_le (p1 := 27) (p2 := 19) (by decide) rfl ⟨by omega, by omega⟩ (fun c144061 => ?_) (fun c144061 => ?_))
  · refine wp_of e263 c263_27 (rw_aload_n (pc' := 28) (v := .ref r0) rfl rfl rfl ?_)
    refine wp_of e263 c263_28 (rw_aload_n (pc' := 29) (v := .ref r0) rfl rfl rfl ?_)
    refine wp_of e263 c263_29 (rw_iload_n (pc' := 30) (z := a1) rfl rfl ?_)
    refine wp_of e263 c263_30 (rw_aload_n (pc' := 31) (v := .ref r0) rfl rfl rfl ?_)
    refine wp_of e263 c263_31 (xg_R (pc' := 34) lf_9_24 w144052 g0 sh_42 (by decide) (by decide) ty_42_22 rfl rfl (fun r144062 q144063 g144064 => ?_))
    refine wp_of e263 c263_34 (rw_iload_n (pc' := 35) (z := a2) rfl rfl ?_)
    have k144065 : H144048 r0 3 = H144030 r0 3 := (f144053 r0 3 _ g0 rfl)
    obtain ⟨r144066, q144067, g144068⟩ := (w144052.opt g0 (t' := 54) (n := 33) (j := 3) (p := 0) (q := 0) rfl (by decide) rfl).resolve_left (by omega)
    refine wp_of e263 c263_35 (xc_V (pc' := 38) (r := r0) (as := [vI a1, .ref r144062, vI a2]) (st := [.ref r0]) (lm_9_458) rfl rfl (Nat.le_of_ble_eq_true rfl) w144052 g0 sh_42 (by decide) rfl (by decide) (s_264_m_bed w144052 g0 ⟨by omega, by omega⟩ g144064 ⟨by omega, by omega⟩ q144067 g144068 (by omega)) (fun R144069 T144070 H144071 p144072 => ?_))
    obtain ⟨e144073, w144075, f144076, z144077, e144074, b144078⟩ := p144072
    subst e144073
    subst e144074
    have f144079 := f144060.tr f144076 rfl
    show wp _ _ 263 38 [(3, vI z144058), (0, .ref r0), (1, vI a1), (2, vI a2)] [vI z144077, .ref r0] _ H144071 _
    refine wp_of e263 c263_38 (xc_V (pc' := 41) (r := r0) (as := [vI z144077]) (st := []) (lm_9_58) rfl rfl (Nat.le_of_ble_eq_true rfl) w144075 g0 sh_42 (by decide) rfl (by decide) (s_209 w144075 g0 ⟨by omega, by omega⟩) (fun R144080 T144081 H144082 p144083 => ?_))
    obtain ⟨e144084, w144086, f144087, z144088, e144085, b144089⟩ := p144083
    subst e144084
    subst e144085
    have f144090 := f144079.tr f144087 rfl
    show wp _ _ 263 41 [(3, vI z144058), (0, .ref r0), (1, vI a1), (2, vI a2)] [vI z144088] _ H144082 _
    have k144091 : wKI H144082 r0 = wKI H144048 r0 := ((wKI_fr w144075 g0 f144087 rfl).trans (wKI_fr w144052 g0 f144076 rfl))
    exact wp_ireturn e263 c263_41 rfl ⟨rfl, w144086, f144090, z144088, rfl, ⟨by omega, by omega⟩, by omega⟩
  · refine wp_of e263 c263_19 (rw_aload_n (pc' := 20) (v := .ref r0) rfl rfl rfl ?_)
    refine wp_of e263 c263_20 (rw_iload_n (pc' := 21) (z := z144058) rfl rfl ?_)
    refine wp_of e263 c263_21 (xc_V (pc' := 24) (r := r0) (as := [vI z144058]) (st := []) (lm_9_54) rfl rfl (Nat.le_of_ble_eq_true rfl) w144052 g0 sh_42 (by decide) rfl (by decide) (s_170 w144052 g0 ⟨by omega, by omega⟩) (fun R144092 T144093 H144094 p144095 => ?_))
    obtain ⟨e144096, w144098, f144099, z144100, e144097, b144101⟩ := p144095
    subst e144096
    subst e144097
    have f144102 := f144060.tr f144099 rfl
    show wp _ _ 263 24 [(3, vI z144058), (0, .ref r0), (1, vI a1), (2, vI a2)] [vI z144100] _ H144094 _
    refine wp_of e263 c263_24 (rw_goto (p1 := 41) (by decide) ?_)
    have k144103 : wKI H144094 r0 = wKI H144048 r0 := (wKI_fr w144052 g0 f144099 rfl)
    exact wp_ireturn e263 c263_41 rfl ⟨rfl, w144098, f144102, z144100, rfl, ⟨by omega, by omega⟩, by omega⟩
/-! StrikeAwakeModel.sleeps(IZ)I -/
theorem e265 : wq_en 265 = some (9, 4, false, some FieldType.int) := rfl
theorem c265_0 : mc_cd 265 0 = some (.aload_n 0, 1) := by decide +kernel
theorem c265_1 : mc_cd 265 1 = some (.iconst 0, 1) := by decide +kernel
theorem c265_2 : mc_cd 265 2 = some (.putfield 48, 3) := by decide +kernel
theorem c265_5 : mc_cd 265 5 = some (.aload_n 0, 1) := by decide +kernel
theorem c265_6 : mc_cd 265 6 = some (.aload_n 0, 1) := by decide +kernel
theorem c265_7 : mc_cd 265 7 = some (.iload_n 1, 1) := by decide +kernel
theorem c265_8 : mc_cd 265 8 = some (.invokevirtual 364, 3) := by decide +kernel
theorem c265_11 : mc_cd 265 11 = some (.invokevirtual 447, 3) := by decide +kernel
theorem c265_14 : mc_cd 265 14 = some (.istore_n 3, 1) := by decide +kernel
theorem c265_15 : mc_cd 265 15 = some (.iload_n 3, 1) := by decide +kernel
theorem c265_16 : mc_cd 265 16 = some (.ifCond .le 11, 3) := by decide +kernel
theorem c265_19 : mc_cd 265 19 = some (.aload_n 0, 1) := by decide +kernel
theorem c265_20 : mc_cd 265 20 = some (.iload_n 3, 1) := by decide +kernel
theorem c265_21 : mc_cd 265 21 = some (.invokevirtual 54, 3) := by decide +kernel
theorem c265_24 : mc_cd 265 24 = some (.goto 17, 3) := by decide +kernel
theorem c265_27 : mc_cd 265 27 = some (.aload_n 0, 1) := by decide +kernel
theorem c265_28 : mc_cd 265 28 = some (.aload_n 0, 1) := by decide +kernel
theorem c265_29 : mc_cd 265 29 = some (.iload_n 1, 1) := by decide +kernel
theorem c265_30 : mc_cd 265 30 = some (.aload_n 0, 1) := by decide +kernel
theorem c265_31 : mc_cd 265 31 = some (.getfield 27, 3) := by decide +kernel
theorem c265_34 : mc_cd 265 34 = some (.iload_n 2, 1) := by decide +kernel
theorem c265_35 : mc_cd 265 35 = some (.invokevirtual 458, 3) := by decide +kernel
theorem c265_38 : mc_cd 265 38 = some (.invokevirtual 58, 3) := by decide +kernel
theorem c265_41 : mc_cd 265 41 = some (.ireturn, 1) := by decide +kernel
abbrev q_265 (r0 : Nat) (a1 : Int) (a2 : Int) (T : wq_T) (H : wq_H) : Option Value → wq_T → wq_H → Prop := fun r T' H' => T = T' ∧ WT T H' ∧ wfr [(42, 0), (42, 1), (42, 2), (42, 28), (42, 29), (51, 999), (52, 999)] T H H' ∧ ∃ z : Int, some (vI z) = r ∧ ((-2147483648) ≤ z ∧ z ≤ 2147483647) ∧ (wKI H' r0 = 1)
set_option maxHeartbeats 4000000 in
theorem s_265 {kt : Nat → Option mc_E} {T : wq_T} {H : wq_H} {r0 : Nat} {a1 : Int} {a2 : Int} (hW : WT T H) (g0 : T.2.2.2 r0 = some 42) (i1 : (-2147483648) ≤ a1 ∧ a1 ≤ 2147483647) (i2 : 0 ≤ a2 ∧ a2 ≤ 1) (p0 : wKI H r0 = 1) : wpc kt 9 265 [.ref r0, vI a1, vI a2] T H (q_265 r0 a1 a2 T H) := by
  refine wp_enter e265 (Nat.le_of_ble_eq_true rfl) rfl ?_
  have f0 : wfr [(42, 0), (42, 1), (42, 2), (42, 28), (42, 29), (51, 999), (52, 999)] T H H := wfr.rf
  show wp _ _ 265 0 [(0, .ref r0), (1, vI a1), (2, vI a2)] [] _ H _
  refine wp_of e265 c265_0 (rw_aload_n (pc' := 1) (v := .ref r0) rfl rfl rfl ?_)
  refine wp_of e265 c265_1 (rw_iconst (pc' := 2) rfl ?_)
  refine wp_of e265 c265_2 (xp_I (pc' := 5) lf_9_48 hW g0 sh_42 (by decide) (by decide) ty_42_0 rfl rfl (by omega) (by omega) ⟨by omega, by omega⟩ rfl (fun H144178 e144179 w144180 => ?_))
  have f144181 := f0.put' e144179 g0 rfl
  have k144182 : H144178 r0 0 = 0 := wq_u_s e144179
  refine wp_of e265 c265_5 (rw_aload_n (pc' := 6) (v := .ref r0) rfl rfl rfl ?_)
  refine wp_of e265 c265_6 (rw_aload_n (pc' := 7) (v := .ref r0) rfl rfl rfl ?_)
  refine wp_of e265 c265_7 (rw_iload_n (pc' := 8) (z := a1) rfl rfl ?_)
  refine wp_of e265 c265_8 (xc_V (pc' := 11) (r := r0) (as := [vI a1]) (st := [.ref r0]) (lm_9_364) rfl rfl (Nat.le_of_ble_eq_true rfl) w144180 g0 sh_42 (by decide) rfl (by decide) (s_213 w144180 g0 ⟨by omega, by omega⟩) (fun R144183 T144184 H144185 p144186 => ?_))
  obtain ⟨e144187, e144189, z144191, e144188, b144192, p144190⟩ := p144186
  subst e144187
  subst e144188
  subst e144189
  show wp _ _ 265 11 [(0, .ref r0), (1, vI a1), (2, vI a2)] [vI z144191, .ref r0] _ H144178 _
  have k144193 : wKI H144178 r0 = wKI H r0 := (wKI_fr hW g0 ((wfr.rf (l := [(42, 0)])).put' e144179 g0 rfl) rfl)
  refine wp_of e265 c265_11 (xc_V (pc' := 14) (r := r0) (as := [vI z144191]) (st := []) (lm_9_447) rfl rfl (Nat.le_of_ble_eq_true rfl) w144180 g0 sh_42 (by decide) rfl (by decide) (s_253 w144180 g0 ⟨by omega, by omega⟩ (by omega) (by omega)) (fun R144194 T144195 H144196 p144197 => ?_))
  obtain ⟨e144198, w144200, f144201, z144206, e144199, b144207, p144202, p144203, p144204, p144205⟩ := p144197
  subst e144198
  subst e144199
  have f144208 := f144181.tr f144201 rfl
  show wp _ _ 265 14 [(0, .ref r0), (1, vI a1), (2, vI a2)] [vI z144206] _ H144196 _
  refine wp_of e265 c265_14 (rw_istore_n (pc' := 15) (z := z144206) (L' := [(3, vI z144206), (0, .ref r0), (1, vI a1), (2, vI a2)]) rfl rfl rfl ?_)
  refine wp_of e265 c265_15 (rw_iload_n (pc' := 16) (z := z144206) rfl rfl ?_)
  refine wp_of e265 c265_16 (rw_if_le (p1 := 27) (p2 := 19) (by decide) rfl ⟨by omega, by omega⟩ (fun c144209 => ?_) (fun c144209 => ?_))
  · refine wp_of e265 c265_27 (rw_aload_n (pc' := 28) (v := .ref r0) rfl rfl rfl ?_)
    refine wp_of e265 c265_28 (rw_aload_n (pc' := 29) (v := .ref r0) rfl rfl rfl ?_)
    refine wp_of e265 c265_29 (rw_iload_n (pc' := 30) (z := a1) rfl rfl ?_)
    refine wp_of e265 c265_30 (rw_aload_n (pc' := 31) (v := .ref r0) rfl rfl rfl ?_)
    refine wp_of e265 c265_31 (xg_R (pc' := 34) lf_9_27 w144200 g0 sh_42 (by decide) (by decide) ty_42_23 rfl rfl (fun r144210 q144211 g144212 => ?_))
    refine wp_of e265 c265_34 (rw_iload_n (pc' := 35) (z := a2) rfl rfl ?_)
    have k144213 : H144196 r0 3 = H144178 r0 3 := (f144201 r0 3 _ g0 rfl)
    obtain ⟨r144214, q144215, g144216⟩ := (w144200.opt g0 (t' := 54) (n := 33) (j := 3) (p := 0) (q := 0) rfl (by decide) rfl).resolve_left (by omega)
    refine wp_of e265 c265_35 (xc_V (pc' := 38) (r := r0) (as := [vI a1, .ref r144210, vI a2]) (st := [.ref r0]) (lm_9_458) rfl rfl (Nat.le_of_ble_eq_true rfl) w144200 g0 sh_42 (by decide) rfl (by decide) (s_264_m_length w144200 g0 ⟨by omega, by omega⟩ g144212 ⟨by omega, by omega⟩ q144215 g144216 (by omega)) (fun R144217 T144218 H144219 p144220 => ?_))
    obtain ⟨e144221, w144223, f144224, z144225, e144222, b144226⟩ := p144220
    subst e144221
    subst e144222
    have f144227 := f144208.tr f144224 rfl
    show wp _ _ 265 38 [(3, vI z144206), (0, .ref r0), (1, vI a1), (2, vI a2)] [vI z144225, .ref r0] _ H144219 _
    refine wp_of e265 c265_38 (xc_V (pc' := 41) (r := r0) (as := [vI z144225]) (st := []) (lm_9_58) rfl rfl (Nat.le_of_ble_eq_true rfl) w144223 g0 sh_42 (by decide) rfl (by decide) (s_209 w144223 g0 ⟨by omega, by omega⟩) (fun R144228 T144229 H144230 p144231 => ?_))
    obtain ⟨e144232, w144234, f144235, z144236, e144233, b144237⟩ := p144231
    subst e144232
    subst e144233
    have f144238 := f144227.tr f144235 rfl
    show wp _ _ 265 41 [(3, vI z144206), (0, .ref r0), (1, vI a1), (2, vI a2)] [vI z144236] _ H144230 _
    have k144239 : wKI H144230 r0 = wKI H144196 r0 := ((wKI_fr w144223 g0 f144235 rfl).trans (wKI_fr w144200 g0 f144224 rfl))
    exact wp_ireturn e265 c265_41 rfl ⟨rfl, w144234, f144238, z144236, rfl, ⟨by omega, by omega⟩, by omega⟩
  · refine wp_of e265 c265_19 (rw_aload_n (pc' := 20) (v := .ref r0) rfl rfl rfl ?_)
    refine wp_of e265 c265_20 (rw_iload_n (pc' := 21) (z := z144206) rfl rfl ?_)
    refine wp_of e265 c265_21 (xc_V (pc' := 24) (r := r0) (as := [vI z144206]) (st := []) (lm_9_54) rfl rfl (Nat.le_of_ble_eq_true rfl) w144200 g0 sh_42 (by decide) rfl (by decide) (s_170 w144200 g0 ⟨by omega, by omega⟩) (fun R144240 T144241 H144242 p144243 => ?_))
    obtain ⟨e144244, w144246, f144247, z144248, e144245, b144249⟩ := p144243
    subst e144244
    subst e144245
    have f144250 := f144208.tr f144247 rfl
    show wp _ _ 265 24 [(3, vI z144206), (0, .ref r0), (1, vI a1), (2, vI a2)] [vI z144248] _ H144242 _
    refine wp_of e265 c265_24 (rw_goto (p1 := 41) (by decide) ?_)
    have k144251 : wKI H144242 r0 = wKI H144196 r0 := (wKI_fr w144200 g0 f144247 rfl)
    exact wp_ireturn e265 c265_41 rfl ⟨rfl, w144246, f144250, z144248, rfl, ⟨by omega, by omega⟩, by omega⟩
/-! StrikeAwakeModel.refusesAsking(Z)I -/
theorem e267 : wq_en 267 = some (9, 3, false, some FieldType.int) := rfl
theorem c267_0 : mc_cd 267 0 = some (.aload_n 0, 1) := by decide +kernel
theorem c267_1 : mc_cd 267 1 = some (.iload_n 1, 1) := by decide +kernel
theorem c267_2 : mc_cd 267 2 = some (.invokevirtual 447, 3) := by decide +kernel
theorem c267_5 : mc_cd 267 5 = some (.istore_n 2, 1) := by decide +kernel
theorem c267_6 : mc_cd 267 6 = some (.iload_n 2, 1) := by decide +kernel
theorem c267_7 : mc_cd 267 7 = some (.ifCond .ne 17, 3) := by decide +kernel
theorem c267_10 : mc_cd 267 10 = some (.aload_n 0, 1) := by decide +kernel
theorem c267_11 : mc_cd 267 11 = some (.getfield 422, 3) := by decide +kernel
theorem c267_14 : mc_cd 267 14 = some (.sipush 400, 3) := by decide +kernel
theorem c267_17 : mc_cd 267 17 = some (.if_icmp .le 7, 3) := by decide +kernel
theorem c267_20 : mc_cd 267 20 = some (.iconst 3, 1) := by decide +kernel
theorem c267_21 : mc_cd 267 21 = some (.goto 4, 3) := by decide +kernel
theorem c267_24 : mc_cd 267 24 = some (.iload_n 2, 1) := by decide +kernel
theorem c267_25 : mc_cd 267 25 = some (.ireturn, 1) := by decide +kernel
abbrev q_267 (r0 : Nat) (a1 : Int) (T : wq_T) (H : wq_H) : Option Value → wq_T → wq_H → Prop := fun r T' H' => T = T' ∧ WT T H' ∧ wfr [(42, 28), (42, 29), (51, 999), (52, 999)] T H H' ∧ ∃ z : Int, some (vI z) = r ∧ (0 ≤ z ∧ z ≤ 6) ∧ (z ≠ 0 ∨ a1 = 1) ∧ (z ≠ 0 ∨ wLM H' r0 ≤ 20000) ∧ (wKI H' r0 = 1) ∧ (z ≠ 0 ∨ (0 < H' r0 29 ∧ 0 < wLM H' r0))
set_option maxHeartbeats 4000000 in
theorem s_267 {kt : Nat → Option mc_E} {T : wq_T} {H : wq_H} {r0 : Nat} {a1 : Int} (hW : WT T H) (g0 : T.2.2.2 r0 = some 42) (i1 : 0 ≤ a1 ∧ a1 ≤ 1) (p0 : a1 = 0 ∨ H r0 3 ≠ -1) (p1 : wKI H r0 = 1) : wpc kt 9 267 [.ref r0, vI a1] T H (q_267 r0 a1 T H) := by
  refine wp_enter e267 (Nat.le_of_ble_eq_true rfl) rfl ?_
  have f0 : wfr [(42, 28), (42, 29), (51, 999), (52, 999)] T H H := wfr.rf
  show wp _ _ 267 0 [(0, .ref r0), (1, vI a1)] [] _ H _
  refine wp_of e267 c267_0 (rw_aload_n (pc' := 1) (v := .ref r0) rfl rfl rfl ?_)
  refine wp_of e267 c267_1 (rw_iload_n (pc' := 2) (z := a1) rfl rfl ?_)
  refine wp_of e267 c267_2 (xc_V (pc' := 5) (r := r0) (as := [vI a1]) (st := []) (lm_9_447) rfl rfl (Nat.le_of_ble_eq_true rfl) hW g0 sh_42 (by decide) rfl (by decide) (s_253 hW g0 ⟨by omega, by omega⟩ (by omega) (by omega)) (fun R144271 T144272 H144273 p144274 => ?_))
  obtain ⟨e144275, w144277, f144278, z144283, e144276, b144284, p144279, p144280, p144281, p144282⟩ := p144274
  subst e144275
  subst e144276
  have f144285 := f0.tr f144278 rfl
  show wp _ _ 267 5 [(0, .ref r0), (1, vI a1)] [vI z144283] _ H144273 _
  refine wp_of e267 c267_5 (rw_istore_n (pc' := 6) (z := z144283) (L' := [(2, vI z144283), (0, .ref r0), (1, vI a1)]) rfl rfl rfl ?_)
  refine wp_of e267 c267_6 (rw_iload_n (pc' := 7) (z := z144283) rfl rfl ?_)
  refine wp_of e267 c267_7 (rw_if_ne (p1 := 24) (p2 := 10) (by decide) rfl ⟨by omega, by omega⟩ (fun c144286 => ?_) (fun c144286 => ?_))
  · refine wp_of e267 c267_24 (rw_iload_n (pc' := 25) (z := z144283) rfl rfl ?_)
    exact wp_ireturn e267 c267_25 rfl ⟨rfl, w144277, f144285, z144283, rfl, ⟨by omega, by omega⟩, by omega, by omega, by omega, by omega⟩
  · refine wp_of e267 c267_10 (rw_aload_n (pc' := 11) (v := .ref r0) rfl rfl rfl ?_)
    refine wp_of e267 c267_11 (xg_I (pc' := 14) lf_9_422 w144277 g0 sh_42 (by decide) (by decide) ty_42_29 rfl rfl (fun b144287 b144288 => ?_))
    refine wp_of e267 c267_14 (rw_sipush (pc' := 17) (z := 400) rfl (by decide) ?_)
    refine wp_of e267 c267_17 (rw_icmp_le (p1 := 24) (p2 := 20) (by decide) rfl ⟨by omega, by omega⟩ ⟨by omega, by omega⟩ (fun c144289 => ?_) (fun c144289 => ?_))
    · refine wp_of e267 c267_24 (rw_iload_n (pc' := 25) (z := z144283) rfl rfl ?_)
      exact wp_ireturn e267 c267_25 rfl ⟨rfl, w144277, f144285, z144283, rfl, ⟨by omega, by omega⟩, by omega, by omega, by omega, by omega⟩
    · refine wp_of e267 c267_20 (rw_iconst (pc' := 21) rfl ?_)
      refine wp_of e267 c267_21 (rw_goto (p1 := 25) (by decide) ?_)
      exact wp_ireturn e267 c267_25 rfl ⟨rfl, w144277, f144285, 3, rfl, ⟨by omega, by omega⟩, by omega, by omega, by omega, by omega⟩
/-! StrikeAwakeModel.bits(I)I -/
theorem e269 : wq_en 269 = some (9, 3, false, some FieldType.int) := rfl
theorem c269_0 : mc_cd 269 0 = some (.iconst 0, 1) := by decide +kernel
theorem c269_1 : mc_cd 269 1 = some (.istore_n 1, 1) := by decide +kernel
theorem c269_2 : mc_cd 269 2 = some (.iload_n 0, 1) := by decide +kernel
theorem c269_3 : mc_cd 269 3 = some (.istore_n 2, 1) := by decide +kernel
theorem c269_4 : mc_cd 269 4 = some (.iload_n 2, 1) := by decide +kernel
theorem c269_5 : mc_cd 269 5 = some (.ifCond .eq 15, 3) := by decide +kernel
theorem c269_8 : mc_cd 269 8 = some (.iinc 1 1, 3) := by decide +kernel
theorem c269_11 : mc_cd 269 11 = some (.iload_n 2, 1) := by decide +kernel
theorem c269_12 : mc_cd 269 12 = some (.iload_n 2, 1) := by decide +kernel
theorem c269_13 : mc_cd 269 13 = some (.iconst 1, 1) := by decide +kernel
theorem c269_14 : mc_cd 269 14 = some (.isub, 1) := by decide +kernel
theorem c269_15 : mc_cd 269 15 = some (.iand, 1) := by decide +kernel
theorem c269_16 : mc_cd 269 16 = some (.istore_n 2, 1) := by decide +kernel
theorem c269_17 : mc_cd 269 17 = some (.goto (-13), 3) := by decide +kernel
theorem c269_20 : mc_cd 269 20 = some (.iload_n 1, 1) := by decide +kernel
theorem c269_21 : mc_cd 269 21 = some (.ireturn, 1) := by decide +kernel
abbrev q_269 (a0 : Int) (T : wq_T) (H : wq_H) : Option Value → wq_T → wq_H → Prop := fun r T' H' => T = T' ∧ H = H' ∧ ∃ z : Int, some (vI z) = r ∧ (0 ≤ z ∧ z ≤ 16777215)
set_option maxHeartbeats 4000000 in
theorem s_269 {kt : Nat → Option mc_E} {T : wq_T} {H : wq_H} {a0 : Int} (hW : WT T H) (i0 : 0 ≤ a0 ∧ a0 ≤ 16777215) : wpc kt 1 269 [vI a0] T H (q_269 a0 T H) := by
  refine wp_enter e269 (Nat.le_of_ble_eq_true rfl) rfl ?_
  show wp _ _ 269 0 [(0, vI a0)] [] _ H _
  refine wp_of e269 c269_0 (rw_iconst (pc' := 1) rfl ?_)
  refine wp_of e269 c269_1 (rw_istore_n (pc' := 2) (z := 0) (L' := [(1, vI 0), (0, vI a0)]) rfl rfl rfl ?_)
  refine wp_of e269 c269_2 (rw_iload_n (pc' := 3) (z := a0) rfl rfl ?_)
  refine wp_of e269 c269_3 (rw_istore_n (pc' := 4) (z := a0) (L' := [(2, vI a0), (1, vI 0), (0, vI a0)]) rfl rfl rfl ?_)
  have lp144342 : ∀ (n144343 : Nat) (v144345 : Int) (v144346 : Int), (0 ≤ v144345 ∧ v144345 ≤ 16777215) → (0 ≤ v144346 ∧ v144346 ≤ 16777215) → (v144346 + v144345 ≤ a0) → (v144345).toNat = n144343 → wp kt 0 269 4 [(2, vI v144345), (1, vI v144346)] [] T H (q_269 a0 T H) := by
    intro n144343
    induction n144343 using Nat.strongRecOn with
    | _ n144343 ih144344 =>
      intro v144345 v144346 b144349 b144350 x144351 m144352
      refine wp_of e269 c269_4 (rw_iload_n (pc' := 5) (z := v144345) rfl rfl ?_)
      refine wp_of e269 c269_5 (rw_if_eq (p1 := 20) (p2 := 8) (by decide) rfl ⟨by omega, by omega⟩ (fun c144353 => ?_) (fun c144353 => ?_))
      · refine wp_of e269 c269_20 (rw_iload_n (pc' := 21) (z := v144346) rfl rfl ?_)
        exact wp_ireturn e269 c269_21 rfl ⟨rfl, rfl, v144346, rfl, ⟨by omega, by omega⟩⟩
      · refine wp_of e269 c269_8 (rw_iinc (pc' := 11) (z := v144346) (L' := [(1, vI (v144346 + 1)), (2, vI v144345)]) rfl rfl rfl rfl ?_)
        refine wp_of e269 c269_11 (rw_iload_n (pc' := 12) (z := v144345) rfl rfl ?_)
        refine wp_of e269 c269_12 (rw_iload_n (pc' := 13) (z := v144345) rfl rfl ?_)
        refine wp_of e269 c269_13 (rw_iconst (pc' := 14) rfl ?_)
        refine wp_of e269 c269_14 (rw_isub (pc' := 15) rfl ?_)
        refine wp_of e269 c269_15 (rw_iand (pc' := 16) rfl ?_)
        obtain ⟨v144354, e144355⟩ : ∃ x : Int, x = wq_and v144345 (v144345 - 1) := ⟨_, rfl⟩
        rw [← e144355]
        have b144356 : 0 ≤ v144354 ∧ v144354 ≤ (v144345 - 1) := by
          rw [e144355]
          exact wq_and_b _ (by omega) (by omega)
        refine wp_of e269 c269_16 (rw_istore_n (pc' := 17) (z := v144354) (L' := [(2, vI v144354), (1, vI (v144346 + 1))]) rfl rfl rfl ?_)
        refine wp_of e269 c269_17 (rw_goto (p1 := 4) (by decide) ?_)
        exact wp_lc (ks := [2, 1]) (wl_c rfl (wl_c rfl wl_n)) rfl (by decide) (ih144344 _ (by omega) v144354 (v144346 + 1) ⟨by omega, by omega⟩ ⟨by omega, by omega⟩ (by omega) rfl)
  exact wp_lc (ks := [2, 1, 0]) (wl_c rfl (wl_c rfl wl_n)) rfl (by decide) (lp144342 _ a0 0 ⟨by omega, by omega⟩ ⟨by omega, by omega⟩ (by omega) rfl)
/-! StrikeAwakeModel.tells(II)Z -/
theorem e270 : wq_en 270 = some (9, 7, false, some FieldType.boolean) := rfl
theorem c270_0 : mc_cd 270 0 = some (.iconst 0, 1) := by decide +kernel
theorem c270_1 : mc_cd 270 1 = some (.istore_n 3, 1) := by decide +kernel
theorem c270_2 : mc_cd 270 2 = some (.iload_n 3, 1) := by decide +kernel
theorem c270_3 : mc_cd 270 3 = some (.aload_n 0, 1) := by decide +kernel
theorem c270_4 : mc_cd 270 4 = some (.getfield 422, 3) := by decide +kernel
theorem c270_7 : mc_cd 270 7 = some (.if_icmp .ge 175, 3) := by decide +kernel
theorem c270_10 : mc_cd 270 10 = some (.aload_n 0, 1) := by decide +kernel
theorem c270_11 : mc_cd 270 11 = some (.aload_n 0, 1) := by decide +kernel
theorem c270_12 : mc_cd 270 12 = some (.getfield 42, 3) := by decide +kernel
theorem c270_15 : mc_cd 270 15 = some (.iload_n 3, 1) := by decide +kernel
theorem c270_16 : mc_cd 270 16 = some (.iaload, 1) := by decide +kernel
theorem c270_17 : mc_cd 270 17 = some (.invokevirtual 425, 3) := by decide +kernel
theorem c270_20 : mc_cd 270 20 = some (.iconst 0, 1) := by decide +kernel
theorem c270_21 : mc_cd 270 21 = some (.istore 4, 2) := by decide +kernel
theorem c270_23 : mc_cd 270 23 = some (.iload 4, 2) := by decide +kernel
theorem c270_25 : mc_cd 270 25 = some (.aload_n 0, 1) := by decide +kernel
theorem c270_26 : mc_cd 270 26 = some (.getfield 337, 3) := by decide +kernel
theorem c270_29 : mc_cd 270 29 = some (.getfield 188, 3) := by decide +kernel
theorem c270_32 : mc_cd 270 32 = some (.if_icmp .ge 23, 3) := by decide +kernel
theorem c270_35 : mc_cd 270 35 = some (.aload_n 0, 1) := by decide +kernel
theorem c270_36 : mc_cd 270 36 = some (.getfield 45, 3) := by decide +kernel
theorem c270_39 : mc_cd 270 39 = some (.iload 4, 2) := by decide +kernel
theorem c270_41 : mc_cd 270 41 = some (.aload_n 0, 1) := by decide +kernel
theorem c270_42 : mc_cd 270 42 = some (.getfield 39, 3) := by decide +kernel
theorem c270_45 : mc_cd 270 45 = some (.iload 4, 2) := by decide +kernel
theorem c270_47 : mc_cd 270 47 = some (.iaload, 1) := by decide +kernel
theorem c270_48 : mc_cd 270 48 = some (.iastore, 1) := by decide +kernel
theorem c270_49 : mc_cd 270 49 = some (.iinc 4 1, 3) := by decide +kernel
theorem c270_52 : mc_cd 270 52 = some (.goto (-29), 3) := by decide +kernel
theorem c270_55 : mc_cd 270 55 = some (.iconst 0, 1) := by decide +kernel
theorem c270_56 : mc_cd 270 56 = some (.istore 4, 2) := by decide +kernel
theorem c270_58 : mc_cd 270 58 = some (.iload 4, 2) := by decide +kernel
theorem c270_60 : mc_cd 270 60 = some (.iload_n 3, 1) := by decide +kernel
theorem c270_61 : mc_cd 270 61 = some (.if_icmp .ge 115, 3) := by decide +kernel
theorem c270_64 : mc_cd 270 64 = some (.aload_n 0, 1) := by decide +kernel
theorem c270_65 : mc_cd 270 65 = some (.aload_n 0, 1) := by decide +kernel
theorem c270_66 : mc_cd 270 66 = some (.getfield 42, 3) := by decide +kernel
theorem c270_69 : mc_cd 270 69 = some (.iload 4, 2) := by decide +kernel
theorem c270_71 : mc_cd 270 71 = some (.iaload, 1) := by decide +kernel
theorem c270_72 : mc_cd 270 72 = some (.invokevirtual 425, 3) := by decide +kernel
theorem c270_75 : mc_cd 270 75 = some (.iconst 1, 1) := by decide +kernel
theorem c270_76 : mc_cd 270 76 = some (.istore 5, 2) := by decide +kernel
theorem c270_78 : mc_cd 270 78 = some (.iconst 0, 1) := by decide +kernel
theorem c270_79 : mc_cd 270 79 = some (.istore 6, 2) := by decide +kernel
theorem c270_81 : mc_cd 270 81 = some (.iload 6, 2) := by decide +kernel
theorem c270_83 : mc_cd 270 83 = some (.aload_n 0, 1) := by decide +kernel
theorem c270_84 : mc_cd 270 84 = some (.getfield 337, 3) := by decide +kernel
theorem c270_87 : mc_cd 270 87 = some (.getfield 188, 3) := by decide +kernel
theorem c270_90 : mc_cd 270 90 = some (.if_icmp .ge 47, 3) := by decide +kernel
theorem c270_93 : mc_cd 270 93 = some (.iload 5, 2) := by decide +kernel
theorem c270_95 : mc_cd 270 95 = some (.ifCond .eq 33, 3) := by decide +kernel
theorem c270_98 : mc_cd 270 98 = some (.iload_n 1, 1) := by decide +kernel
theorem c270_99 : mc_cd 270 99 = some (.iload 6, 2) := by decide +kernel
theorem c270_101 : mc_cd 270 101 = some (.invokestatic 346, 3) := by decide +kernel
theorem c270_104 : mc_cd 270 104 = some (.ifCond .eq 20, 3) := by decide +kernel
theorem c270_107 : mc_cd 270 107 = some (.aload_n 0, 1) := by decide +kernel
theorem c270_108 : mc_cd 270 108 = some (.getfield 39, 3) := by decide +kernel
theorem c270_111 : mc_cd 270 111 = some (.iload 6, 2) := by decide +kernel
theorem c270_113 : mc_cd 270 113 = some (.iaload, 1) := by decide +kernel
theorem c270_114 : mc_cd 270 114 = some (.aload_n 0, 1) := by decide +kernel
theorem c270_115 : mc_cd 270 115 = some (.getfield 45, 3) := by decide +kernel
theorem c270_118 : mc_cd 270 118 = some (.iload 6, 2) := by decide +kernel
theorem c270_120 : mc_cd 270 120 = some (.iaload, 1) := by decide +kernel
theorem c270_121 : mc_cd 270 121 = some (.if_icmp .ne 7, 3) := by decide +kernel
theorem c270_124 : mc_cd 270 124 = some (.iconst 1, 1) := by decide +kernel
theorem c270_125 : mc_cd 270 125 = some (.goto 4, 3) := by decide +kernel
theorem c270_128 : mc_cd 270 128 = some (.iconst 0, 1) := by decide +kernel
theorem c270_129 : mc_cd 270 129 = some (.istore 5, 2) := by decide +kernel
theorem c270_131 : mc_cd 270 131 = some (.iinc 6 1, 3) := by decide +kernel
theorem c270_134 : mc_cd 270 134 = some (.goto (-53), 3) := by decide +kernel
theorem c270_137 : mc_cd 270 137 = some (.iload 5, 2) := by decide +kernel
theorem c270_139 : mc_cd 270 139 = some (.ifCond .eq 31, 3) := by decide +kernel
theorem c270_142 : mc_cd 270 142 = some (.iload_n 2, 1) := by decide +kernel
theorem c270_143 : mc_cd 270 143 = some (.iconst (-1), 1) := by decide +kernel
theorem c270_144 : mc_cd 270 144 = some (.if_icmp .eq 24, 3) := by decide +kernel
theorem c270_147 : mc_cd 270 147 = some (.aload_n 0, 1) := by decide +kernel
theorem c270_148 : mc_cd 270 148 = some (.aload_n 0, 1) := by decide +kernel
theorem c270_149 : mc_cd 270 149 = some (.getfield 39, 3) := by decide +kernel
theorem c270_152 : mc_cd 270 152 = some (.iload_n 2, 1) := by decide +kernel
theorem c270_153 : mc_cd 270 153 = some (.invokevirtual 455, 3) := by decide +kernel
theorem c270_156 : mc_cd 270 156 = some (.aload_n 0, 1) := by decide +kernel
theorem c270_157 : mc_cd 270 157 = some (.aload_n 0, 1) := by decide +kernel
theorem c270_158 : mc_cd 270 158 = some (.getfield 45, 3) := by decide +kernel
theorem c270_161 : mc_cd 270 161 = some (.iload_n 2, 1) := by decide +kernel
theorem c270_162 : mc_cd 270 162 = some (.invokevirtual 455, 3) := by decide +kernel
theorem c270_165 : mc_cd 270 165 = some (.if_icmp .eq 5, 3) := by decide +kernel
theorem c270_168 : mc_cd 270 168 = some (.iconst 0, 1) := by decide +kernel
theorem c270_169 : mc_cd 270 169 = some (.ireturn, 1) := by decide +kernel
theorem c270_170 : mc_cd 270 170 = some (.iinc 4 1, 3) := by decide +kernel
theorem c270_173 : mc_cd 270 173 = some (.goto (-115), 3) := by decide +kernel
theorem c270_176 : mc_cd 270 176 = some (.iinc 3 1, 3) := by decide +kernel
theorem c270_179 : mc_cd 270 179 = some (.goto (-177), 3) := by decide +kernel
theorem c270_182 : mc_cd 270 182 = some (.iconst 1, 1) := by decide +kernel
theorem c270_183 : mc_cd 270 183 = some (.ireturn, 1) := by decide +kernel
abbrev q_270 (r0 : Nat) (a1 : Int) (a2 : Int) (pp : Nat) (T : wq_T) (H : wq_H) : Option Value → wq_T → wq_H → Prop := fun r T' H' => T = T' ∧ WT T H' ∧ wfr [(51, 999), (53, 999)] T H H' ∧ ∃ z : Int, some (vI z) = r ∧ (0 ≤ z ∧ z ≤ 1)
set_option maxHeartbeats 4000000 in
theorem s_270 {kt : Nat → Option mc_E} {T : wq_T} {H : wq_H} {r0 : Nat} {a1 : Int} {a2 : Int} {pp : Nat} (hW : WT T H) (g0 : T.2.2.2 r0 = some 42) (i1 : (-2147483648) ≤ a1 ∧ a1 ≤ 2147483647) (i2 : (-2147483648) ≤ a2 ∧ a2 ≤ 2147483647) (qpp : H r0 3 = (pp : Int)) (gpp : T.2.2.2 pp = some 54) (p0 : H r0 29 = 0 ∨ 0 < wLM H r0) : wpc kt 3 270 [.ref r0, vI a1, vI a2] T H (q_270 r0 a1 a2 pp T H) := by
  refine wp_enter e270 (Nat.le_of_ble_eq_true rfl) rfl ?_
  have f0 : wfr [(51, 999), (53, 999)] T H H := wfr.rf
  show wp _ _ 270 0 [(0, .ref r0), (1, vI a1), (2, vI a2)] [] _ H _
  refine wp_of e270 c270_0 (rw_iconst (pc' := 1) rfl ?_)
  refine wp_of e270 c270_1 (rw_istore_n (pc' := 2) (z := 0) (L' := [(3, vI 0), (0, .ref r0), (1, vI a1), (2, vI a2)]) rfl rfl rfl ?_)
  have lp172082 : ∀ (n172083 : Nat) (v172085 : Int) (H172086 : wq_H), WT T H172086 → wfr [(51, 999), (53, 999)] T H H172086 → (0 ≤ v172085 ∧ v172085 ≤ 20000) → (20000 - v172085).toNat = n172083 → wp kt 2 270 2 [(3, vI v172085), (0, .ref r0), (1, vI a1), (2, vI a2)] [] T H172086 (q_270 r0 a1 a2 pp T H) := by
    intro n172083
    induction n172083 using Nat.strongRecOn with
    | _ n172083 ih172084 =>
      intro v172085 H172086 w172087 f172088 b172089 m172090
      have f172091 := f0.tr f172088 rfl
      refine wp_of e270 c270_2 (rw_iload_n (pc' := 3) (z := v172085) rfl rfl ?_)
      refine wp_of e270 c270_3 (rw_aload_n (pc' := 4) (v := .ref r0) rfl rfl rfl ?_)
      have k172092 : H172086 r0 29 = H r0 29 := (f172088 r0 29 _ g0 rfl)
      refine wp_of e270 c270_4 (xg_I (pc' := 7) lf_9_422 w172087 g0 sh_42 (by decide) (by decide) ty_42_29 rfl rfl (fun b172093 b172094 => ?_))
      refine wp_of e270 c270_7 (rw_icmp_ge (p1 := 182) (p2 := 10) (by decide) rfl ⟨by omega, by omega⟩ ⟨by omega, by omega⟩ (fun c172095 => ?_) (fun c172095 => ?_))
      · refine wp_of e270 c270_182 (rw_iconst (pc' := 183) rfl ?_)
        exact wp_zreturn e270 c270_183 rfl (by omega) ⟨rfl, w172087, f172091, 1, rfl, ⟨by omega, by omega⟩⟩
      · refine wp_of e270 c270_10 (rw_aload_n (pc' := 11) (v := .ref r0) rfl rfl rfl ?_)
        refine wp_of e270 c270_11 (rw_aload_n (pc' := 12) (v := .ref r0) rfl rfl rfl ?_)
        refine wp_of e270 c270_12 (xg_R (pc' := 15) lf_9_42 w172087 g0 sh_42 (by decide) (by decide) ty_42_30 rfl rfl (fun r172096 q172097 g172098 => ?_))
        refine wp_of e270 c270_15 (rw_iload_n (pc' := 16) (z := v172085) rfl rfl ?_)
        refine wp_of e270 c270_16 (xa_I (so := 0) (pc' := 17) w172087 g172098 sh_52 (by decide) (ty_52 _) (by omega) (by omega) rfl (fun b172099 b172100 => ?_))
        have k172101 : wLM H172086 r0 = wLM H r0 := (wLM_fr hW g0 f172088 rfl)
        have k172102 : H172086 r0 3 = H r0 3 := (f172088 r0 3 _ g0 rfl)
        have q172103 : H172086 r0 3 = (pp : Int) := k172102.trans qpp
        refine wp_of e270 c270_17 (xc_V (pc' := 20) (r := r0) (as := [vI (H172086 r172096 (v172085.toNat))]) (st := []) (lm_9_425) rfl rfl (Nat.le_of_ble_eq_true rfl) w172087 g0 sh_42 (by decide) rfl (by decide) (s_243 w172087 g0 ⟨by omega, by omega⟩ q172103 gpp (by omega)) (fun R172104 T172105 H172106 p172107 => ?_))
        obtain ⟨e172108, w172110, f172111, e172109⟩ := p172107
        subst e172108
        subst e172109
        have f172112 := f172091.tr f172111 rfl
        have f172113 := f172088.tr f172111 rfl
        show wp _ _ 270 20 [(3, vI v172085), (0, .ref r0), (1, vI a1), (2, vI a2)] [] _ H172106 _
        refine wp_of e270 c270_20 (rw_iconst (pc' := 21) rfl ?_)
        refine wp_of e270 c270_21 (rw_istore (pc' := 23) (z := 0) (L' := [(4, vI 0), (3, vI v172085), (0, .ref r0), (1, vI a1), (2, vI a2)]) rfl rfl rfl ?_)
        have lp172240 : ∀ (n172241 : Nat) (v172243 : Int) (H172244 : wq_H), WT T H172244 → wfr [(53, 999)] T H172106 H172244 → (0 ≤ v172243 ∧ v172243 ≤ 6) → (6 - v172243).toNat = n172241 → wp kt 2 270 23 [(4, vI v172243), (3, vI v172085), (0, .ref r0), (1, vI a1), (2, vI a2)] [] T H172244 (q_270 r0 a1 a2 pp T H) := by
          intro n172241
          induction n172241 using Nat.strongRecOn with
          | _ n172241 ih172242 =>
            intro v172243 H172244 w172245 f172246 b172247 m172248
            have f172249 := f172112.tr f172246 rfl
            have f172250 := f172113.tr f172246 rfl
            refine wp_of e270 c270_23 (rw_iload (pc' := 25) (z := v172243) rfl rfl ?_)
            refine wp_of e270 c270_25 (rw_aload_n (pc' := 26) (v := .ref r0) rfl rfl rfl ?_)
            have k172251 : H172244 r0 3 = H172086 r0 3 := ((f172246 r0 3 _ g0 rfl).trans (f172111 r0 3 _ g0 rfl))
            have q172252 : H172244 r0 3 = (pp : Int) := k172251.trans q172103
            refine wp_of e270 c270_26 (xg_K (pc' := 29) lf_9_337 w172245 g0 sh_42 (by decide) (by decide) rfl q172252 rfl ?_)
            refine wp_of e270 c270_29 (xg_I (pc' := 32) lf_9_188 w172245 gpp sh_54 (by decide) (by decide) ty_54_3 rfl rfl (fun b172253 b172254 => ?_))
            refine wp_of e270 c270_32 (rw_icmp_ge (p1 := 55) (p2 := 35) (by decide) rfl ⟨by omega, by omega⟩ ⟨by omega, by omega⟩ (fun c172255 => ?_) (fun c172255 => ?_))
            · refine wp_of e270 c270_55 (rw_iconst (pc' := 56) rfl ?_)
              refine wp_of e270 c270_56 (rw_istore (pc' := 58) (z := 0) (L' := [(4, vI 0), (3, vI v172085), (0, .ref r0), (1, vI a1), (2, vI a2)]) rfl rfl rfl ?_)
              have lp174416 : ∀ (n174417 : Nat) (v174419 : Int) (H174420 : wq_H), WT T H174420 → wfr [(51, 999)] T H172244 H174420 → (0 ≤ v174419 ∧ v174419 ≤ 19999) → (19999 - v174419).toNat = n174417 → wp kt 2 270 58 [(4, vI v174419), (3, vI v172085), (0, .ref r0), (1, vI a1), (2, vI a2)] [] T H174420 (q_270 r0 a1 a2 pp T H) := by
                intro n174417
                induction n174417 using Nat.strongRecOn with
                | _ n174417 ih174418 =>
                  intro v174419 H174420 w174421 f174422 b174423 m174424
                  have f174425 := f172249.tr f174422 rfl
                  have f174426 := f172250.tr f174422 rfl
                  refine wp_of e270 c270_58 (rw_iload (pc' := 60) (z := v174419) rfl rfl ?_)
                  refine wp_of e270 c270_60 (rw_iload_n (pc' := 61) (z := v172085) rfl rfl ?_)
                  refine wp_of e270 c270_61 (rw_icmp_ge (p1 := 176) (p2 := 64) (by decide) rfl ⟨by omega, by omega⟩ ⟨by omega, by omega⟩ (fun c174427 => ?_) (fun c174427 => ?_))
                  · refine wp_of e270 c270_176 (rw_iinc (pc' := 179) (z := v172085) (L' := [(3, vI (v172085 + 1)), (4, vI v174419), (0, .ref r0), (1, vI a1), (2, vI a2)]) rfl rfl rfl rfl ?_)
                    refine wp_of e270 c270_179 (rw_goto (p1 := 2) (by decide) ?_)
                    exact wp_lc (ks := [3, 4, 0, 1, 2]) (wl_c rfl (wl_c rfl (wl_c rfl (wl_c rfl wl_n)))) rfl (by decide) (ih172084 _ (by omega) (v172085 + 1) H174420 w174421 f174426 ⟨by omega, by omega⟩ rfl)
                  · refine wp_of e270 c270_64 (rw_aload_n (pc' := 65) (v := .ref r0) rfl rfl rfl ?_)
                    refine wp_of e270 c270_65 (rw_aload_n (pc' := 66) (v := .ref r0) rfl rfl rfl ?_)
                    have k174428 : H174420 r0 30 = H172086 r0 30 := ((f174422 r0 30 _ g0 rfl).trans ((f172246 r0 30 _ g0 rfl).trans (f172111 r0 30 _ g0 rfl)))
                    have q174429 : H174420 r0 30 = (r172096 : Int) := k174428.trans q172097
                    refine wp_of e270 c270_66 (xg_K (pc' := 69) lf_9_42 w174421 g0 sh_42 (by decide) (by decide) rfl q174429 rfl ?_)
                    refine wp_of e270 c270_69 (rw_iload (pc' := 71) (z := v174419) rfl rfl ?_)
                    refine wp_of e270 c270_71 (xa_I (so := 0) (pc' := 72) w174421 g172098 sh_52 (by decide) (ty_52 _) (by omega) (by omega) rfl (fun b174430 b174431 => ?_))
                    have k174432 : wLM H174420 r0 = wLM H172086 r0 := ((wLM_fr w172245 g0 f174422 rfl).trans ((wLM_fr w172110 g0 f172246 rfl).trans (wLM_fr w172087 g0 f172111 rfl)))
                    have k174433 : H174420 r0 3 = H172244 r0 3 := (f174422 r0 3 _ g0 rfl)
                    have q174434 : H174420 r0 3 = (pp : Int) := k174433.trans q172252
                    refine wp_of e270 c270_72 (xc_V (pc' := 75) (r := r0) (as := [vI (H174420 r172096 (v174419.toNat))]) (st := []) (lm_9_425) rfl rfl (Nat.le_of_ble_eq_true rfl) w174421 g0 sh_42 (by decide) rfl (by decide) (s_243 w174421 g0 ⟨by omega, by omega⟩ q174434 gpp (by omega)) (fun R174435 T174436 H174437 p174438 => ?_))
                    obtain ⟨e174439, w174441, f174442, e174440⟩ := p174438
                    subst e174439
                    subst e174440
                    have f174443 := f174425.tr f174442 rfl
                    have f174444 := f174426.tr f174442 rfl
                    have f174445 := f174422.tr f174442 rfl
                    show wp _ _ 270 75 [(4, vI v174419), (3, vI v172085), (0, .ref r0), (1, vI a1), (2, vI a2)] [] _ H174437 _
                    refine wp_of e270 c270_75 (rw_iconst (pc' := 76) rfl ?_)
                    refine wp_of e270 c270_76 (rw_istore (pc' := 78) (z := 1) (L' := [(5, vI 1), (4, vI v174419), (3, vI v172085), (0, .ref r0), (1, vI a1), (2, vI a2)]) rfl rfl rfl ?_)
                    refine wp_of e270 c270_78 (rw_iconst (pc' := 79) rfl ?_)
                    refine wp_of e270 c270_79 (rw_istore (pc' := 81) (z := 0) (L' := [(6, vI 0), (5, vI 1), (4, vI v174419), (3, vI v172085), (0, .ref r0), (1, vI a1), (2, vI a2)]) rfl rfl rfl ?_)
                    have lp174642 : ∀ (n174643 : Nat) (v174645 : Int) (v174646 : Int), (0 ≤ v174645 ∧ v174645 ≤ 6) → (0 ≤ v174646 ∧ v174646 ≤ 1) → (6 - v174645).toNat = n174643 → wp kt 2 270 81 [(6, vI v174645), (5, vI v174646), (4, vI v174419), (3, vI v172085), (0, .ref r0), (1, vI a1), (2, vI a2)] [] T H174437 (q_270 r0 a1 a2 pp T H) := by
                      intro n174643
                      induction n174643 using Nat.strongRecOn with
                      | _ n174643 ih174644 =>
                        intro v174645 v174646 b174649 b174650 m174651
                        refine wp_of e270 c270_81 (rw_iload (pc' := 83) (z := v174645) rfl rfl ?_)
                        refine wp_of e270 c270_83 (rw_aload_n (pc' := 84) (v := .ref r0) rfl rfl rfl ?_)
                        have k174652 : H174437 r0 3 = H174420 r0 3 := (f174442 r0 3 _ g0 rfl)
                        have q174653 : H174437 r0 3 = (pp : Int) := k174652.trans q174434
                        refine wp_of e270 c270_84 (xg_K (pc' := 87) lf_9_337 w174441 g0 sh_42 (by decide) (by decide) rfl q174653 rfl ?_)
                        have k174654 : H174437 pp 3 = H172244 pp 3 := ((f174442 pp 3 _ gpp rfl).trans (f174422 pp 3 _ gpp rfl))
                        refine wp_of e270 c270_87 (xg_I (pc' := 90) lf_9_188 w174441 gpp sh_54 (by decide) (by decide) ty_54_3 rfl rfl (fun b174655 b174656 => ?_))
                        refine wp_of e270 c270_90 (rw_icmp_ge (p1 := 137) (p2 := 93) (by decide) rfl ⟨by omega, by omega⟩ ⟨by omega, by omega⟩ (fun c174657 => ?_) (fun c174657 => ?_))
                        · refine wp_of e270 c270_137 (rw_iload (pc' := 139) (z := v174646) rfl rfl ?_)
                          refine wp_of e270 c270_139 (rw_if_eq (p1 := 170) (p2 := 142) (by decide) rfl ⟨by omega, by omega⟩ (fun c174658 => ?_) (fun c174658 => ?_))
                          · refine wp_of e270 c270_170 (rw_iinc (pc' := 173) (z := v174419) (L' := [(4, vI (v174419 + 1)), (6, vI v174645), (5, vI v174646), (3, vI v172085), (0, .ref r0), (1, vI a1), (2, vI a2)]) rfl rfl rfl rfl ?_)
                            refine wp_of e270 c270_173 (rw_goto (p1 := 58) (by decide) ?_)
                            exact wp_lc (ks := [4, 6, 5, 3, 0, 1, 2]) (wl_c rfl (wl_c rfl (wl_c rfl (wl_c rfl (wl_c rfl wl_n))))) rfl (by decide) (ih174418 _ (by omega) (v174419 + 1) H174437 w174441 f174445 ⟨by omega, by omega⟩ rfl)
                          · refine wp_of e270 c270_142 (rw_iload_n (pc' := 143) (z := a2) rfl rfl ?_)
                            refine wp_of e270 c270_143 (rw_iconst (pc' := 144) rfl ?_)
                            refine wp_of e270 c270_144 (rw_icmp_eq (p1 := 168) (p2 := 147) (by decide) rfl ⟨by omega, by omega⟩ ⟨by omega, by omega⟩ (fun c174659 => ?_) (fun c174659 => ?_))
                            · refine wp_of e270 c270_168 (rw_iconst (pc' := 169) rfl ?_)
                              exact wp_zreturn e270 c270_169 rfl (by omega) ⟨rfl, w174441, f174443, 0, rfl, ⟨by omega, by omega⟩⟩
                            · refine wp_of e270 c270_147 (rw_aload_n (pc' := 148) (v := .ref r0) rfl rfl rfl ?_)
                              refine wp_of e270 c270_148 (rw_aload_n (pc' := 149) (v := .ref r0) rfl rfl rfl ?_)
                              refine wp_of e270 c270_149 (xg_R (pc' := 152) lf_9_39 w174441 g0 sh_42 (by decide) (by decide) ty_42_27 rfl rfl (fun r174660 q174661 g174662 => ?_))
                              refine wp_of e270 c270_152 (rw_iload_n (pc' := 153) (z := a2) rfl rfl ?_)
                              refine wp_of e270 c270_153 (xc_V (pc' := 156) (r := r0) (as := [.ref r174660, vI a2]) (st := []) (lm_9_455) rfl rfl (Nat.le_of_ble_eq_true rfl) w174441 g0 sh_42 (by decide) rfl (by decide) (s_262_m_lot w174441 g0 g174662 ⟨by omega, by omega⟩ q174653 gpp) (fun R174663 T174664 H174665 p174666 => ?_))
                              obtain ⟨e174667, e174669, z174670, e174668, b174671⟩ := p174666
                              subst e174667
                              subst e174668
                              subst e174669
                              show wp _ _ 270 156 [(6, vI v174645), (5, vI v174646), (4, vI v174419), (3, vI v172085), (0, .ref r0), (1, vI a1), (2, vI a2)] [vI z174670] _ H174437 _
                              refine wp_of e270 c270_156 (rw_aload_n (pc' := 157) (v := .ref r0) rfl rfl rfl ?_)
                              refine wp_of e270 c270_157 (rw_aload_n (pc' := 158) (v := .ref r0) rfl rfl rfl ?_)
                              refine wp_of e270 c270_158 (xg_R (pc' := 161) lf_9_45 w174441 g0 sh_42 (by decide) (by decide) ty_42_31 rfl rfl (fun r174672 q174673 g174674 => ?_))
                              refine wp_of e270 c270_161 (rw_iload_n (pc' := 162) (z := a2) rfl rfl ?_)
                              refine wp_of e270 c270_162 (xc_V (pc' := 165) (r := r0) (as := [.ref r174672, vI a2]) (st := [vI z174670]) (lm_9_455) rfl rfl (Nat.le_of_ble_eq_true rfl) w174441 g0 sh_42 (by decide) rfl (by decide) (s_262_m_one w174441 g0 g174674 ⟨by omega, by omega⟩ q174653 gpp) (fun R174675 T174676 H174677 p174678 => ?_))
                              obtain ⟨e174679, e174681, z174682, e174680, b174683⟩ := p174678
                              subst e174679
                              subst e174680
                              subst e174681
                              show wp _ _ 270 165 [(6, vI v174645), (5, vI v174646), (4, vI v174419), (3, vI v172085), (0, .ref r0), (1, vI a1), (2, vI a2)] [vI z174682, vI z174670] _ H174437 _
                              refine wp_of e270 c270_165 (rw_icmp_eq (p1 := 170) (p2 := 168) (by decide) rfl ⟨by omega, by omega⟩ ⟨by omega, by omega⟩ (fun c174684 => ?_) (fun c174684 => ?_))
                              · refine wp_of e270 c270_170 (rw_iinc (pc' := 173) (z := v174419) (L' := [(4, vI (v174419 + 1)), (6, vI v174645), (5, vI v174646), (3, vI v172085), (0, .ref r0), (1, vI a1), (2, vI a2)]) rfl rfl rfl rfl ?_)
                                refine wp_of e270 c270_173 (rw_goto (p1 := 58) (by decide) ?_)
                                exact wp_lc (ks := [4, 6, 5, 3, 0, 1, 2]) (wl_c rfl (wl_c rfl (wl_c rfl (wl_c rfl (wl_c rfl wl_n))))) rfl (by decide) (ih174418 _ (by omega) (v174419 + 1) H174437 w174441 f174445 ⟨by omega, by omega⟩ rfl)
                              · refine wp_of e270 c270_168 (rw_iconst (pc' := 169) rfl ?_)
                                exact wp_zreturn e270 c270_169 rfl (by omega) ⟨rfl, w174441, f174443, 0, rfl, ⟨by omega, by omega⟩⟩
                        · refine wp_of e270 c270_93 (rw_iload (pc' := 95) (z := v174646) rfl rfl ?_)
                          refine wp_of e270 c270_95 (rw_if_eq (p1 := 128) (p2 := 98) (by decide) rfl ⟨by omega, by omega⟩ (fun c174685 => ?_) (fun c174685 => ?_))
                          · refine wp_of e270 c270_128 (rw_iconst (pc' := 129) rfl ?_)
                            refine wp_of e270 c270_129 (rw_istore (pc' := 131) (z := 0) (L' := [(5, vI 0), (6, vI v174645), (4, vI v174419), (3, vI v172085), (0, .ref r0), (1, vI a1), (2, vI a2)]) rfl rfl rfl ?_)
                            refine wp_of e270 c270_131 (rw_iinc (pc' := 134) (z := v174645) (L' := [(6, vI (v174645 + 1)), (5, vI 0), (4, vI v174419), (3, vI v172085), (0, .ref r0), (1, vI a1), (2, vI a2)]) rfl rfl rfl rfl ?_)
                            refine wp_of e270 c270_134 (rw_goto (p1 := 81) (by decide) ?_)
                            exact wp_lc (ks := [6, 5, 4, 3, 0, 1, 2]) (wl_c rfl (wl_c rfl (wl_c rfl (wl_c rfl (wl_c rfl (wl_c rfl (wl_c rfl wl_n))))))) rfl (by decide) (ih174644 _ (by omega) (v174645 + 1) 0 ⟨by omega, by omega⟩ ⟨by omega, by omega⟩ rfl)
                          · refine wp_of e270 c270_98 (rw_iload_n (pc' := 99) (z := a1) rfl rfl ?_)
                            refine wp_of e270 c270_99 (rw_iload (pc' := 101) (z := v174645) rfl rfl ?_)
                            refine wp_of e270 c270_101 (xc_S (pc' := 104) (as := [vI a1, vI v174645]) (st := []) (lm_9_346) rfl rfl (Nat.le_of_ble_eq_true rfl) rfl (by decide) (s_205 w174441 ⟨by omega, by omega⟩ ⟨by omega, by omega⟩) (fun R174686 T174687 H174688 p174689 => ?_))
                            obtain ⟨e174690, e174692, z174693, e174691, b174694⟩ := p174689
                            subst e174690
                            subst e174691
                            subst e174692
                            show wp _ _ 270 104 [(6, vI v174645), (5, vI v174646), (4, vI v174419), (3, vI v172085), (0, .ref r0), (1, vI a1), (2, vI a2)] [vI z174693] _ H174437 _
                            refine wp_of e270 c270_104 (rw_if_eq (p1 := 124) (p2 := 107) (by decide) rfl ⟨by omega, by omega⟩ (fun c174695 => ?_) (fun c174695 => ?_))
                            · refine wp_of e270 c270_124 (rw_iconst (pc' := 125) rfl ?_)
                              refine wp_of e270 c270_125 (rw_goto (p1 := 129) (by decide) ?_)
                              refine wp_of e270 c270_129 (rw_istore (pc' := 131) (z := 1) (L' := [(5, vI 1), (6, vI v174645), (4, vI v174419), (3, vI v172085), (0, .ref r0), (1, vI a1), (2, vI a2)]) rfl rfl rfl ?_)
                              refine wp_of e270 c270_131 (rw_iinc (pc' := 134) (z := v174645) (L' := [(6, vI (v174645 + 1)), (5, vI 1), (4, vI v174419), (3, vI v172085), (0, .ref r0), (1, vI a1), (2, vI a2)]) rfl rfl rfl rfl ?_)
                              refine wp_of e270 c270_134 (rw_goto (p1 := 81) (by decide) ?_)
                              exact wp_lc (ks := [6, 5, 4, 3, 0, 1, 2]) (wl_c rfl (wl_c rfl (wl_c rfl (wl_c rfl (wl_c rfl (wl_c rfl (wl_c rfl wl_n))))))) rfl (by decide) (ih174644 _ (by omega) (v174645 + 1) 1 ⟨by omega, by omega⟩ ⟨by omega, by omega⟩ rfl)
                            · refine wp_of e270 c270_107 (rw_aload_n (pc' := 108) (v := .ref r0) rfl rfl rfl ?_)
                              refine wp_of e270 c270_108 (xg_R (pc' := 111) lf_9_39 w174441 g0 sh_42 (by decide) (by decide) ty_42_27 rfl rfl (fun r174696 q174697 g174698 => ?_))
                              refine wp_of e270 c270_111 (rw_iload (pc' := 113) (z := v174645) rfl rfl ?_)
                              refine wp_of e270 c270_113 (xa_I (so := 0) (pc' := 114) w174441 g174698 sh_51 (by decide) (ty_51 _) (by omega) (by omega) rfl (fun b174699 b174700 => ?_))
                              refine wp_of e270 c270_114 (rw_aload_n (pc' := 115) (v := .ref r0) rfl rfl rfl ?_)
                              refine wp_of e270 c270_115 (xg_R (pc' := 118) lf_9_45 w174441 g0 sh_42 (by decide) (by decide) ty_42_31 rfl rfl (fun r174701 q174702 g174703 => ?_))
                              refine wp_of e270 c270_118 (rw_iload (pc' := 120) (z := v174645) rfl rfl ?_)
                              refine wp_of e270 c270_120 (xa_I (so := 0) (pc' := 121) w174441 g174703 sh_53 (by decide) (ty_53 _) (by omega) (by omega) rfl (fun b174704 b174705 => ?_))
                              refine wp_of e270 c270_121 (rw_icmp_ne (p1 := 128) (p2 := 124) (by decide) rfl ⟨by omega, by omega⟩ ⟨by omega, by omega⟩ (fun c174706 => ?_) (fun c174706 => ?_))
                              · refine wp_of e270 c270_128 (rw_iconst (pc' := 129) rfl ?_)
                                refine wp_of e270 c270_129 (rw_istore (pc' := 131) (z := 0) (L' := [(5, vI 0), (6, vI v174645), (4, vI v174419), (3, vI v172085), (0, .ref r0), (1, vI a1), (2, vI a2)]) rfl rfl rfl ?_)
                                refine wp_of e270 c270_131 (rw_iinc (pc' := 134) (z := v174645) (L' := [(6, vI (v174645 + 1)), (5, vI 0), (4, vI v174419), (3, vI v172085), (0, .ref r0), (1, vI a1), (2, vI a2)]) rfl rfl rfl rfl ?_)
                                refine wp_of e270 c270_134 (rw_goto (p1 := 81) (by decide) ?_)
                                exact wp_lc (ks := [6, 5, 4, 3, 0, 1, 2]) (wl_c rfl (wl_c rfl (wl_c rfl (wl_c rfl (wl_c rfl (wl_c rfl (wl_c rfl wl_n))))))) rfl (by decide) (ih174644 _ (by omega) (v174645 + 1) 0 ⟨by omega, by omega⟩ ⟨by omega, by omega⟩ rfl)
                              · refine wp_of e270 c270_124 (rw_iconst (pc' := 125) rfl ?_)
                                refine wp_of e270 c270_125 (rw_goto (p1 := 129) (by decide) ?_)
                                refine wp_of e270 c270_129 (rw_istore (pc' := 131) (z := 1) (L' := [(5, vI 1), (6, vI v174645), (4, vI v174419), (3, vI v172085), (0, .ref r0), (1, vI a1), (2, vI a2)]) rfl rfl rfl ?_)
                                refine wp_of e270 c270_131 (rw_iinc (pc' := 134) (z := v174645) (L' := [(6, vI (v174645 + 1)), (5, vI 1), (4, vI v174419), (3, vI v172085), (0, .ref r0), (1, vI a1), (2, vI a2)]) rfl rfl rfl rfl ?_)
                                refine wp_of e270 c270_134 (rw_goto (p1 := 81) (by decide) ?_)
                                exact wp_lc (ks := [6, 5, 4, 3, 0, 1, 2]) (wl_c rfl (wl_c rfl (wl_c rfl (wl_c rfl (wl_c rfl (wl_c rfl (wl_c rfl wl_n))))))) rfl (by decide) (ih174644 _ (by omega) (v174645 + 1) 1 ⟨by omega, by omega⟩ ⟨by omega, by omega⟩ rfl)
                    exact wp_lc (ks := [6, 5, 4, 3, 0, 1, 2]) (wl_c rfl (wl_c rfl (wl_c rfl (wl_c rfl (wl_c rfl (wl_c rfl (wl_c rfl wl_n))))))) rfl (by decide) (lp174642 _ 0 1 ⟨by omega, by omega⟩ ⟨by omega, by omega⟩ rfl)
              exact wp_lc (ks := [4, 3, 0, 1, 2]) (wl_c rfl (wl_c rfl (wl_c rfl (wl_c rfl (wl_c rfl wl_n))))) rfl (by decide) (lp174416 _ 0 H172244 w172245 wfr.rf ⟨by omega, by omega⟩ rfl)
            · refine wp_of e270 c270_35 (rw_aload_n (pc' := 36) (v := .ref r0) rfl rfl rfl ?_)
              refine wp_of e270 c270_36 (xg_R (pc' := 39) lf_9_45 w172245 g0 sh_42 (by decide) (by decide) ty_42_31 rfl rfl (fun r174707 q174708 g174709 => ?_))
              refine wp_of e270 c270_39 (rw_iload (pc' := 41) (z := v172243) rfl rfl ?_)
              refine wp_of e270 c270_41 (rw_aload_n (pc' := 42) (v := .ref r0) rfl rfl rfl ?_)
              refine wp_of e270 c270_42 (xg_R (pc' := 45) lf_9_39 w172245 g0 sh_42 (by decide) (by decide) ty_42_27 rfl rfl (fun r174710 q174711 g174712 => ?_))
              refine wp_of e270 c270_45 (rw_iload (pc' := 47) (z := v172243) rfl rfl ?_)
              refine wp_of e270 c270_47 (xa_I (so := 0) (pc' := 48) w172245 g174712 sh_51 (by decide) (ty_51 _) (by omega) (by omega) rfl (fun b174713 b174714 => ?_))
              refine wp_of e270 c270_48 (xs_I (pc' := 49) w172245 g174709 (by decide) sh_53 (by decide) (ty_53 _) (by omega) (by omega) ⟨by omega, by omega⟩ (by omega) (by omega) rfl (fun H174715 e174716 w174717 => ?_))
              have f174718 := f172249.put' e174716 g174709 rfl
              have f174719 := f172250.put' e174716 g174709 rfl
              have f174720 := f172246.put' e174716 g174709 rfl
              refine wp_of e270 c270_49 (rw_iinc (pc' := 52) (z := v172243) (L' := [(4, vI (v172243 + 1)), (3, vI v172085), (0, .ref r0), (1, vI a1), (2, vI a2)]) rfl rfl rfl rfl ?_)
              refine wp_of e270 c270_52 (rw_goto (p1 := 23) (by decide) ?_)
              exact wp_lc (ks := [4, 3, 0, 1, 2]) (wl_c rfl (wl_c rfl (wl_c rfl (wl_c rfl (wl_c rfl wl_n))))) rfl (by decide) (ih172242 _ (by omega) (v172243 + 1) H174715 w174717 f174720 ⟨by omega, by omega⟩ rfl)
        exact wp_lc (ks := [4, 3, 0, 1, 2]) (wl_c rfl (wl_c rfl (wl_c rfl (wl_c rfl (wl_c rfl wl_n))))) rfl (by decide) (lp172240 _ 0 H172106 w172110 wfr.rf ⟨by omega, by omega⟩ rfl)
  exact wp_lc (ks := [3, 0, 1, 2]) (wl_c rfl (wl_c rfl (wl_c rfl (wl_c rfl wl_n)))) rfl (by decide) (lp172082 _ 0 H hW wfr.rf ⟨by omega, by omega⟩ rfl)
/-! StrikeAwakeModel.asked(I)I -/
theorem e268 : wq_en 268 = some (9, 4, false, some FieldType.int) := rfl
theorem c268_0 : mc_cd 268 0 = some (.iconst (-1), 1) := by decide +kernel
theorem c268_1 : mc_cd 268 1 = some (.istore_n 2, 1) := by decide +kernel
theorem c268_2 : mc_cd 268 2 = some (.iconst 0, 1) := by decide +kernel
theorem c268_3 : mc_cd 268 3 = some (.istore_n 3, 1) := by decide +kernel
theorem c268_4 : mc_cd 268 4 = some (.iload_n 3, 1) := by decide +kernel
theorem c268_5 : mc_cd 268 5 = some (.iconst 1, 1) := by decide +kernel
theorem c268_6 : mc_cd 268 6 = some (.aload_n 0, 1) := by decide +kernel
theorem c268_7 : mc_cd 268 7 = some (.getfield 337, 3) := by decide +kernel
theorem c268_10 : mc_cd 268 10 = some (.getfield 188, 3) := by decide +kernel
theorem c268_13 : mc_cd 268 13 = some (.ishl, 1) := by decide +kernel
theorem c268_14 : mc_cd 268 14 = some (.if_icmp .ge 39, 3) := by decide +kernel
theorem c268_17 : mc_cd 268 17 = some (.iload_n 2, 1) := by decide +kernel
theorem c268_18 : mc_cd 268 18 = some (.iconst (-1), 1) := by decide +kernel
theorem c268_19 : mc_cd 268 19 = some (.if_icmp .eq 17, 3) := by decide +kernel
theorem c268_22 : mc_cd 268 22 = some (.iload_n 3, 1) := by decide +kernel
theorem c268_23 : mc_cd 268 23 = some (.invokestatic 462, 3) := by decide +kernel
theorem c268_26 : mc_cd 268 26 = some (.iload_n 2, 1) := by decide +kernel
theorem c268_27 : mc_cd 268 27 = some (.invokestatic 462, 3) := by decide +kernel
theorem c268_30 : mc_cd 268 30 = some (.if_icmp .lt 6, 3) := by decide +kernel
theorem c268_33 : mc_cd 268 33 = some (.goto 14, 3) := by decide +kernel
theorem c268_36 : mc_cd 268 36 = some (.aload_n 0, 1) := by decide +kernel
theorem c268_37 : mc_cd 268 37 = some (.iload_n 3, 1) := by decide +kernel
theorem c268_38 : mc_cd 268 38 = some (.iload_n 1, 1) := by decide +kernel
theorem c268_39 : mc_cd 268 39 = some (.invokevirtual 465, 3) := by decide +kernel
theorem c268_42 : mc_cd 268 42 = some (.ifCond .eq 5, 3) := by decide +kernel
theorem c268_45 : mc_cd 268 45 = some (.iload_n 3, 1) := by decide +kernel
theorem c268_46 : mc_cd 268 46 = some (.istore_n 2, 1) := by decide +kernel
theorem c268_47 : mc_cd 268 47 = some (.iinc 3 1, 3) := by decide +kernel
theorem c268_50 : mc_cd 268 50 = some (.goto (-46), 3) := by decide +kernel
theorem c268_53 : mc_cd 268 53 = some (.iload_n 2, 1) := by decide +kernel
theorem c268_54 : mc_cd 268 54 = some (.ireturn, 1) := by decide +kernel
abbrev q_268 (r0 : Nat) (a1 : Int) (pp : Nat) (T : wq_T) (H : wq_H) : Option Value → wq_T → wq_H → Prop := fun r T' H' => T = T' ∧ WT T H' ∧ wfr [(51, 999), (53, 999)] T H H' ∧ ∃ z : Int, some (vI z) = r ∧ ((-2147483648) ≤ z ∧ z ≤ 2147483647)
set_option maxHeartbeats 4000000 in
theorem s_268 {kt : Nat → Option mc_E} {T : wq_T} {H : wq_H} {r0 : Nat} {a1 : Int} {pp : Nat} (hW : WT T H) (g0 : T.2.2.2 r0 = some 42) (i1 : (-2147483648) ≤ a1 ∧ a1 ≤ 2147483647) (qpp : H r0 3 = (pp : Int)) (gpp : T.2.2.2 pp = some 54) (p0 : H r0 29 = 0 ∨ 0 < wLM H r0) : wpc kt 4 268 [.ref r0, vI a1] T H (q_268 r0 a1 pp T H) := by
  refine wp_enter e268 (Nat.le_of_ble_eq_true rfl) rfl ?_
  have f0 : wfr [(51, 999), (53, 999)] T H H := wfr.rf
  show wp _ _ 268 0 [(0, .ref r0), (1, vI a1)] [] _ H _
  refine wp_of e268 c268_0 (rw_iconst (pc' := 1) rfl ?_)
  refine wp_of e268 c268_1 (rw_istore_n (pc' := 2) (z := -1) (L' := [(2, vI (-1)), (0, .ref r0), (1, vI a1)]) rfl rfl rfl ?_)
  refine wp_of e268 c268_2 (rw_iconst (pc' := 3) rfl ?_)
  refine wp_of e268 c268_3 (rw_istore_n (pc' := 4) (z := 0) (L' := [(3, vI 0), (2, vI (-1)), (0, .ref r0), (1, vI a1)]) rfl rfl rfl ?_)
  have lp175591 : ∀ (n175592 : Nat) (v175594 : Int) (v175595 : Int) (H175596 : wq_H), WT T H175596 → wfr [(51, 999), (53, 999)] T H H175596 → (0 ≤ v175594 ∧ v175594 ≤ 64) → ((-1) ≤ v175595 ∧ v175595 ≤ 2147483647) → (64 - v175594).toNat = n175592 → wp kt 3 268 4 [(3, vI v175594), (2, vI v175595), (0, .ref r0), (1, vI a1)] [] T H175596 (q_268 r0 a1 pp T H) := by
    intro n175592
    induction n175592 using Nat.strongRecOn with
    | _ n175592 ih175593 =>
      intro v175594 v175595 H175596 w175597 f175598 b175599 b175600 m175601
      have f175602 := f0.tr f175598 rfl
      refine wp_of e268 c268_4 (rw_iload_n (pc' := 5) (z := v175594) rfl rfl ?_)
      refine wp_of e268 c268_5 (rw_iconst (pc' := 6) rfl ?_)
      refine wp_of e268 c268_6 (rw_aload_n (pc' := 7) (v := .ref r0) rfl rfl rfl ?_)
      have k175603 : H175596 r0 3 = H r0 3 := (f175598 r0 3 _ g0 rfl)
      have q175604 : H175596 r0 3 = (pp : Int) := k175603.trans qpp
      refine wp_of e268 c268_7 (xg_K (pc' := 10) lf_9_337 w175597 g0 sh_42 (by decide) (by decide) rfl q175604 rfl ?_)
      refine wp_of e268 c268_10 (xg_I (pc' := 13) lf_9_188 w175597 gpp sh_54 (by decide) (by decide) ty_54_3 rfl rfl (fun b175605 b175606 => ?_))
      refine wp_of e268 c268_13 (rw_ishl (pc' := 14) rfl ?_)
      obtain ⟨v175607, e175608⟩ : ∃ x : Int, x = wq_shl 1 (H175596 pp 3) := ⟨_, rfl⟩
      rw [← e175608]
      have b175609 : 1 ≤ v175607 ∧ v175607 ≤ 64 := by
        rw [e175608]
        exact wq_shl1_6 ⟨by omega, by omega⟩
      refine wp_of e268 c268_14 (rw_icmp_ge (p1 := 53) (p2 := 17) (by decide) rfl ⟨by omega, by omega⟩ ⟨by omega, by omega⟩ (fun c175610 => ?_) (fun c175610 => ?_))
      · refine wp_of e268 c268_53 (rw_iload_n (pc' := 54) (z := v175595) rfl rfl ?_)
        exact wp_ireturn e268 c268_54 rfl ⟨rfl, w175597, f175602, v175595, rfl, ⟨by omega, by omega⟩⟩
      · refine wp_of e268 c268_17 (rw_iload_n (pc' := 18) (z := v175595) rfl rfl ?_)
        refine wp_of e268 c268_18 (rw_iconst (pc' := 19) rfl ?_)
        refine wp_of e268 c268_19 (rw_icmp_eq (p1 := 36) (p2 := 22) (by decide) rfl ⟨by omega, by omega⟩ ⟨by omega, by omega⟩ (fun c175611 => ?_) (fun c175611 => ?_))
        · refine wp_of e268 c268_36 (rw_aload_n (pc' := 37) (v := .ref r0) rfl rfl rfl ?_)
          refine wp_of e268 c268_37 (rw_iload_n (pc' := 38) (z := v175594) rfl rfl ?_)
          refine wp_of e268 c268_38 (rw_iload_n (pc' := 39) (z := a1) rfl rfl ?_)
          have k175612 : H175596 r0 29 = H r0 29 := (f175598 r0 29 _ g0 rfl)
          have k175613 : wLM H175596 r0 = wLM H r0 := (wLM_fr hW g0 f175598 rfl)
          refine wp_of e268 c268_39 (xc_V (pc' := 42) (r := r0) (as := [vI v175594, vI a1]) (st := []) (lm_9_465) rfl rfl (Nat.le_of_ble_eq_true rfl) w175597 g0 sh_42 (by decide) rfl (by decide) (s_270 w175597 g0 ⟨by omega, by omega⟩ ⟨by omega, by omega⟩ q175604 gpp (by omega)) (fun R175614 T175615 H175616 p175617 => ?_))
          obtain ⟨e175618, w175620, f175621, z175622, e175619, b175623⟩ := p175617
          subst e175618
          subst e175619
          have f175624 := f175602.tr f175621 rfl
          have f175625 := f175598.tr f175621 rfl
          show wp _ _ 268 42 [(3, vI v175594), (2, vI v175595), (0, .ref r0), (1, vI a1)] [vI z175622] _ H175616 _
          refine wp_of e268 c268_42 (rw_if_eq (p1 := 47) (p2 := 45) (by decide) rfl ⟨by omega, by omega⟩ (fun c175626 => ?_) (fun c175626 => ?_))
          · refine wp_of e268 c268_47 (rw_iinc (pc' := 50) (z := v175594) (L' := [(3, vI (v175594 + 1)), (2, vI v175595), (0, .ref r0), (1, vI a1)]) rfl rfl rfl rfl ?_)
            refine wp_of e268 c268_50 (rw_goto (p1 := 4) (by decide) ?_)
            exact wp_lc (ks := [3, 2, 0, 1]) (wl_c rfl (wl_c rfl (wl_c rfl (wl_c rfl wl_n)))) rfl (by decide) (ih175593 _ (by omega) (v175594 + 1) v175595 H175616 w175620 f175625 ⟨by omega, by omega⟩ ⟨by omega, by omega⟩ rfl)
          · refine wp_of e268 c268_45 (rw_iload_n (pc' := 46) (z := v175594) rfl rfl ?_)
            refine wp_of e268 c268_46 (rw_istore_n (pc' := 47) (z := v175594) (L' := [(2, vI v175594), (3, vI v175594), (0, .ref r0), (1, vI a1)]) rfl rfl rfl ?_)
            refine wp_of e268 c268_47 (rw_iinc (pc' := 50) (z := v175594) (L' := [(3, vI (v175594 + 1)), (2, vI v175594), (0, .ref r0), (1, vI a1)]) rfl rfl rfl rfl ?_)
            refine wp_of e268 c268_50 (rw_goto (p1 := 4) (by decide) ?_)
            exact wp_lc (ks := [3, 2, 0, 1]) (wl_c rfl (wl_c rfl (wl_c rfl (wl_c rfl wl_n)))) rfl (by decide) (ih175593 _ (by omega) (v175594 + 1) v175594 H175616 w175620 f175625 ⟨by omega, by omega⟩ ⟨by omega, by omega⟩ rfl)
        · refine wp_of e268 c268_22 (rw_iload_n (pc' := 23) (z := v175594) rfl rfl ?_)
          refine wp_of e268 c268_23 (xc_S (pc' := 26) (as := [vI v175594]) (st := []) (lm_9_462) rfl rfl (Nat.le_of_ble_eq_true rfl) rfl (by decide) (s_269 w175597 ⟨by omega, by omega⟩) (fun R175627 T175628 H175629 p175630 => ?_))
          obtain ⟨e175631, e175633, z175634, e175632, b175635⟩ := p175630
          subst e175631
          subst e175632
          subst e175633
          show wp _ _ 268 26 [(3, vI v175594), (2, vI v175595), (0, .ref r0), (1, vI a1)] [vI z175634] _ H175596 _
          refine wp_of e268 c268_26 (rw_iload_n (pc' := 27) (z := v175595) rfl rfl ?_)
          refine wp_of e268 c268_27 (xc_S (pc' := 30) (as := [vI v175595]) (st := [vI z175634]) (lm_9_462) rfl rfl (Nat.le_of_ble_eq_true rfl) rfl (by decide) (s_269 w175597 ⟨by omega, by omega⟩) (fun R175636 T175637 H175638 p175639 => ?_))
          obtain ⟨e175640, e175642, z175643, e175641, b175644⟩ := p175639
          subst e175640
          subst e175641
          subst e175642
          show wp _ _ 268 30 [(3, vI v175594), (2, vI v175595), (0, .ref r0), (1, vI a1)] [vI z175643, vI z175634] _ H175596 _
          refine wp_of e268 c268_30 (rw_icmp_lt (p1 := 36) (p2 := 33) (by decide) rfl ⟨by omega, by omega⟩ ⟨by omega, by omega⟩ (fun c175645 => ?_) (fun c175645 => ?_))
          · refine wp_of e268 c268_36 (rw_aload_n (pc' := 37) (v := .ref r0) rfl rfl rfl ?_)
            refine wp_of e268 c268_37 (rw_iload_n (pc' := 38) (z := v175594) rfl rfl ?_)
            refine wp_of e268 c268_38 (rw_iload_n (pc' := 39) (z := a1) rfl rfl ?_)
            have k175646 : H175596 r0 29 = H r0 29 := (f175598 r0 29 _ g0 rfl)
            have k175647 : wLM H175596 r0 = wLM H r0 := (wLM_fr hW g0 f175598 rfl)
            refine wp_of e268 c268_39 (xc_V (pc' := 42) (r := r0) (as := [vI v175594, vI a1]) (st := []) (lm_9_465) rfl rfl (Nat.le_of_ble_eq_true rfl) w175597 g0 sh_42 (by decide) rfl (by decide) (s_270 w175597 g0 ⟨by omega, by omega⟩ ⟨by omega, by omega⟩ q175604 gpp (by omega)) (fun R175648 T175649 H175650 p175651 => ?_))
            obtain ⟨e175652, w175654, f175655, z175656, e175653, b175657⟩ := p175651
            subst e175652
            subst e175653
            have f175658 := f175602.tr f175655 rfl
            have f175659 := f175598.tr f175655 rfl
            show wp _ _ 268 42 [(3, vI v175594), (2, vI v175595), (0, .ref r0), (1, vI a1)] [vI z175656] _ H175650 _
            refine wp_of e268 c268_42 (rw_if_eq (p1 := 47) (p2 := 45) (by decide) rfl ⟨by omega, by omega⟩ (fun c175660 => ?_) (fun c175660 => ?_))
            · refine wp_of e268 c268_47 (rw_iinc (pc' := 50) (z := v175594) (L' := [(3, vI (v175594 + 1)), (2, vI v175595), (0, .ref r0), (1, vI a1)]) rfl rfl rfl rfl ?_)
              refine wp_of e268 c268_50 (rw_goto (p1 := 4) (by decide) ?_)
              exact wp_lc (ks := [3, 2, 0, 1]) (wl_c rfl (wl_c rfl (wl_c rfl (wl_c rfl wl_n)))) rfl (by decide) (ih175593 _ (by omega) (v175594 + 1) v175595 H175650 w175654 f175659 ⟨by omega, by omega⟩ ⟨by omega, by omega⟩ rfl)
            · refine wp_of e268 c268_45 (rw_iload_n (pc' := 46) (z := v175594) rfl rfl ?_)
              refine wp_of e268 c268_46 (rw_istore_n (pc' := 47) (z := v175594) (L' := [(2, vI v175594), (3, vI v175594), (0, .ref r0), (1, vI a1)]) rfl rfl rfl ?_)
              refine wp_of e268 c268_47 (rw_iinc (pc' := 50) (z := v175594) (L' := [(3, vI (v175594 + 1)), (2, vI v175594), (0, .ref r0), (1, vI a1)]) rfl rfl rfl rfl ?_)
              refine wp_of e268 c268_50 (rw_goto (p1 := 4) (by decide) ?_)
              exact wp_lc (ks := [3, 2, 0, 1]) (wl_c rfl (wl_c rfl (wl_c rfl (wl_c rfl wl_n)))) rfl (by decide) (ih175593 _ (by omega) (v175594 + 1) v175594 H175650 w175654 f175659 ⟨by omega, by omega⟩ ⟨by omega, by omega⟩ rfl)
          · refine wp_of e268 c268_33 (rw_goto (p1 := 47) (by decide) ?_)
            refine wp_of e268 c268_47 (rw_iinc (pc' := 50) (z := v175594) (L' := [(3, vI (v175594 + 1)), (2, vI v175595), (0, .ref r0), (1, vI a1)]) rfl rfl rfl rfl ?_)
            refine wp_of e268 c268_50 (rw_goto (p1 := 4) (by decide) ?_)
            exact wp_lc (ks := [3, 2, 0, 1]) (wl_c rfl (wl_c rfl (wl_c rfl (wl_c rfl wl_n)))) rfl (by decide) (ih175593 _ (by omega) (v175594 + 1) v175595 H175596 w175597 f175598 ⟨by omega, by omega⟩ ⟨by omega, by omega⟩ rfl)
  exact wp_lc (ks := [3, 2, 0, 1]) (wl_c rfl (wl_c rfl (wl_c rfl (wl_c rfl wl_n)))) rfl (by decide) (lp175591 _ 0 (-1) H hW wfr.rf ⟨by omega, by omega⟩ ⟨by omega, by omega⟩ rfl)
/-! StrikeAwakeModel.ask()I -/
theorem e266 : wq_en 266 = some (9, 2, false, some FieldType.int) := rfl
theorem c266_0 : mc_cd 266 0 = some (.aload_n 0, 1) := by decide +kernel
theorem c266_1 : mc_cd 266 1 = some (.iconst 0, 1) := by decide +kernel
theorem c266_2 : mc_cd 266 2 = some (.putfield 48, 3) := by decide +kernel
theorem c266_5 : mc_cd 266 5 = some (.aload_n 0, 1) := by decide +kernel
theorem c266_6 : mc_cd 266 6 = some (.aload_n 0, 1) := by decide +kernel
theorem c266_7 : mc_cd 266 7 = some (.getfield 337, 3) := by decide +kernel
theorem c266_10 : mc_cd 266 10 = some (.ifnull 7, 3) := by decide +kernel
theorem c266_13 : mc_cd 266 13 = some (.iconst 1, 1) := by decide +kernel
theorem c266_14 : mc_cd 266 14 = some (.goto 4, 3) := by decide +kernel
theorem c266_17 : mc_cd 266 17 = some (.iconst 0, 1) := by decide +kernel
theorem c266_18 : mc_cd 266 18 = some (.invokevirtual 467, 3) := by decide +kernel
theorem c266_21 : mc_cd 266 21 = some (.istore_n 1, 1) := by decide +kernel
theorem c266_22 : mc_cd 266 22 = some (.iload_n 1, 1) := by decide +kernel
theorem c266_23 : mc_cd 266 23 = some (.ifCond .le 11, 3) := by decide +kernel
theorem c266_26 : mc_cd 266 26 = some (.aload_n 0, 1) := by decide +kernel
theorem c266_27 : mc_cd 266 27 = some (.iload_n 1, 1) := by decide +kernel
theorem c266_28 : mc_cd 266 28 = some (.invokevirtual 54, 3) := by decide +kernel
theorem c266_31 : mc_cd 266 31 = some (.goto 12, 3) := by decide +kernel
theorem c266_34 : mc_cd 266 34 = some (.aload_n 0, 1) := by decide +kernel
theorem c266_35 : mc_cd 266 35 = some (.aload_n 0, 1) := by decide +kernel
theorem c266_36 : mc_cd 266 36 = some (.iconst (-1), 1) := by decide +kernel
theorem c266_37 : mc_cd 266 37 = some (.invokevirtual 470, 3) := by decide +kernel
theorem c266_40 : mc_cd 266 40 = some (.invokevirtual 58, 3) := by decide +kernel
theorem c266_43 : mc_cd 266 43 = some (.ireturn, 1) := by decide +kernel
abbrev q_266 (r0 : Nat) (T : wq_T) (H : wq_H) : Option Value → wq_T → wq_H → Prop := fun r T' H' => T = T' ∧ WT T H' ∧ wfr [(42, 0), (42, 1), (42, 2), (42, 28), (42, 29), (51, 999), (53, 999), (52, 999)] T H H' ∧ ∃ z : Int, some (vI z) = r ∧ ((-2147483648) ≤ z ∧ z ≤ 2147483647) ∧ (wKI H' r0 = 1)
set_option maxHeartbeats 4000000 in
theorem s_266 {kt : Nat → Option mc_E} {T : wq_T} {H : wq_H} {r0 : Nat} (hW : WT T H) (g0 : T.2.2.2 r0 = some 42) (p0 : wKI H r0 = 1) : wpc kt 10 266 [.ref r0] T H (q_266 r0 T H) := by
  refine wp_enter e266 (Nat.le_of_ble_eq_true rfl) rfl ?_
  have f0 : wfr [(42, 0), (42, 1), (42, 2), (42, 28), (42, 29), (51, 999), (53, 999), (52, 999)] T H H := wfr.rf
  show wp _ _ 266 0 [(0, .ref r0)] [] _ H _
  refine wp_of e266 c266_0 (rw_aload_n (pc' := 1) (v := .ref r0) rfl rfl rfl ?_)
  refine wp_of e266 c266_1 (rw_iconst (pc' := 2) rfl ?_)
  refine wp_of e266 c266_2 (xp_I (pc' := 5) lf_9_48 hW g0 sh_42 (by decide) (by decide) ty_42_0 rfl rfl (by omega) (by omega) ⟨by omega, by omega⟩ rfl (fun H175752 e175753 w175754 => ?_))
  have f175755 := f0.put' e175753 g0 rfl
  have k175756 : H175752 r0 0 = 0 := wq_u_s e175753
  refine wp_of e266 c266_5 (rw_aload_n (pc' := 6) (v := .ref r0) rfl rfl rfl ?_)
  refine wp_of e266 c266_6 (rw_aload_n (pc' := 7) (v := .ref r0) rfl rfl rfl ?_)
  refine wp_of e266 c266_7 (xg_O (pc' := 10) lf_9_337 w175754 g0 sh_42 (by decide) (by decide) ty_42_3 rfl rfl (fun q175758 => ?_) (fun r175757 q175758 g175759 => ?_))
  · refine wp_of e266 c266_10 (rw_ifnull_n (p1 := 17) (p2 := 13) (by decide) rfl ?_)
    refine wp_of e266 c266_17 (rw_iconst (pc' := 18) rfl ?_)
    have k175760 : wKI H175752 r0 = wKI H r0 := (wKI_fr hW g0 ((wfr.rf (l := [(42, 0)])).put' e175753 g0 rfl) rfl)
    refine wp_of e266 c266_18 (xc_V (pc' := 21) (r := r0) (as := [vI 0]) (st := []) (lm_9_467) rfl rfl (Nat.le_of_ble_eq_true rfl) w175754 g0 sh_42 (by decide) rfl (by decide) (s_267 w175754 g0 ⟨by omega, by omega⟩ (by omega) (by omega)) (fun R175761 T175762 H175763 p175764 => ?_))
    obtain ⟨e175765, w175767, f175768, z175773, e175766, b175774, p175769, p175770, p175771, p175772⟩ := p175764
    subst e175765
    subst e175766
    have f175775 := f175755.tr f175768 rfl
    show wp _ _ 266 21 [(0, .ref r0)] [vI z175773] _ H175763 _
    refine wp_of e266 c266_21 (rw_istore_n (pc' := 22) (z := z175773) (L' := [(1, vI z175773), (0, .ref r0)]) rfl rfl rfl ?_)
    refine wp_of e266 c266_22 (rw_iload_n (pc' := 23) (z := z175773) rfl rfl ?_)
    refine wp_of e266 c266_23 (rw_if_le (p1 := 34) (p2 := 26) (by decide) rfl ⟨by omega, by omega⟩ (fun c175776 => ?_) (fun c175776 => ?_))
    · exfalso
      omega
    · refine wp_of e266 c266_26 (rw_aload_n (pc' := 27) (v := .ref r0) rfl rfl rfl ?_)
      refine wp_of e266 c266_27 (rw_iload_n (pc' := 28) (z := z175773) rfl rfl ?_)
      refine wp_of e266 c266_28 (xc_V (pc' := 31) (r := r0) (as := [vI z175773]) (st := []) (lm_9_54) rfl rfl (Nat.le_of_ble_eq_true rfl) w175767 g0 sh_42 (by decide) rfl (by decide) (s_170 w175767 g0 ⟨by omega, by omega⟩) (fun R175777 T175778 H175779 p175780 => ?_))
      obtain ⟨e175781, w175783, f175784, z175785, e175782, b175786⟩ := p175780
      subst e175781
      subst e175782
      have f175787 := f175775.tr f175784 rfl
      show wp _ _ 266 31 [(1, vI z175773), (0, .ref r0)] [vI z175785] _ H175779 _
      refine wp_of e266 c266_31 (rw_goto (p1 := 43) (by decide) ?_)
      have k175788 : wKI H175779 r0 = wKI H175763 r0 := (wKI_fr w175767 g0 f175784 rfl)
      exact wp_ireturn e266 c266_43 rfl ⟨rfl, w175783, f175787, z175785, rfl, ⟨by omega, by omega⟩, by omega⟩
  · refine wp_of e266 c266_10 (rw_ifnull_r (p1 := 17) (p2 := 13) (by decide) rfl ?_)
    refine wp_of e266 c266_13 (rw_iconst (pc' := 14) rfl ?_)
    refine wp_of e266 c266_14 (rw_goto (p1 := 18) (by decide) ?_)
    have k175789 : wKI H175752 r0 = wKI H r0 := (wKI_fr hW g0 ((wfr.rf (l := [(42, 0)])).put' e175753 g0 rfl) rfl)
    refine wp_of e266 c266_18 (xc_V (pc' := 21) (r := r0) (as := [vI 1]) (st := []) (lm_9_467) rfl rfl (Nat.le_of_ble_eq_true rfl) w175754 g0 sh_42 (by decide) rfl (by decide) (s_267 w175754 g0 ⟨by omega, by omega⟩ (by omega) (by omega)) (fun R175790 T175791 H175792 p175793 => ?_))
    obtain ⟨e175794, w175796, f175797, z175802, e175795, b175803, p175798, p175799, p175800, p175801⟩ := p175793
    subst e175794
    subst e175795
    have f175804 := f175755.tr f175797 rfl
    show wp _ _ 266 21 [(0, .ref r0)] [vI z175802] _ H175792 _
    refine wp_of e266 c266_21 (rw_istore_n (pc' := 22) (z := z175802) (L' := [(1, vI z175802), (0, .ref r0)]) rfl rfl rfl ?_)
    refine wp_of e266 c266_22 (rw_iload_n (pc' := 23) (z := z175802) rfl rfl ?_)
    refine wp_of e266 c266_23 (rw_if_le (p1 := 34) (p2 := 26) (by decide) rfl ⟨by omega, by omega⟩ (fun c175805 => ?_) (fun c175805 => ?_))
    · refine wp_of e266 c266_34 (rw_aload_n (pc' := 35) (v := .ref r0) rfl rfl rfl ?_)
      refine wp_of e266 c266_35 (rw_aload_n (pc' := 36) (v := .ref r0) rfl rfl rfl ?_)
      refine wp_of e266 c266_36 (rw_iconst (pc' := 37) rfl ?_)
      have k175806 : H175792 r0 3 = H175752 r0 3 := (f175797 r0 3 _ g0 rfl)
      have q175807 : H175792 r0 3 = (r175757 : Int) := k175806.trans q175758
      refine wp_of e266 c266_37 (xc_V (pc' := 40) (r := r0) (as := [vI (-1)]) (st := [.ref r0]) (lm_9_470) rfl rfl (Nat.le_of_ble_eq_true rfl) w175796 g0 sh_42 (by decide) rfl (by decide) (s_268 w175796 g0 ⟨by omega, by omega⟩ q175807 g175759 (by omega)) (fun R175808 T175809 H175810 p175811 => ?_))
      obtain ⟨e175812, w175814, f175815, z175816, e175813, b175817⟩ := p175811
      subst e175812
      subst e175813
      have f175818 := f175804.tr f175815 rfl
      show wp _ _ 266 40 [(1, vI z175802), (0, .ref r0)] [vI z175816, .ref r0] _ H175810 _
      refine wp_of e266 c266_40 (xc_V (pc' := 43) (r := r0) (as := [vI z175816]) (st := []) (lm_9_58) rfl rfl (Nat.le_of_ble_eq_true rfl) w175814 g0 sh_42 (by decide) rfl (by decide) (s_209 w175814 g0 ⟨by omega, by omega⟩) (fun R175819 T175820 H175821 p175822 => ?_))
      obtain ⟨e175823, w175825, f175826, z175827, e175824, b175828⟩ := p175822
      subst e175823
      subst e175824
      have f175829 := f175818.tr f175826 rfl
      show wp _ _ 266 43 [(1, vI z175802), (0, .ref r0)] [vI z175827] _ H175821 _
      have k175830 : wKI H175821 r0 = wKI H175792 r0 := ((wKI_fr w175814 g0 f175826 rfl).trans (wKI_fr w175796 g0 f175815 rfl))
      exact wp_ireturn e266 c266_43 rfl ⟨rfl, w175825, f175829, z175827, rfl, ⟨by omega, by omega⟩, by omega⟩
    · refine wp_of e266 c266_26 (rw_aload_n (pc' := 27) (v := .ref r0) rfl rfl rfl ?_)
      refine wp_of e266 c266_27 (rw_iload_n (pc' := 28) (z := z175802) rfl rfl ?_)
      refine wp_of e266 c266_28 (xc_V (pc' := 31) (r := r0) (as := [vI z175802]) (st := []) (lm_9_54) rfl rfl (Nat.le_of_ble_eq_true rfl) w175796 g0 sh_42 (by decide) rfl (by decide) (s_170 w175796 g0 ⟨by omega, by omega⟩) (fun R175831 T175832 H175833 p175834 => ?_))
      obtain ⟨e175835, w175837, f175838, z175839, e175836, b175840⟩ := p175834
      subst e175835
      subst e175836
      have f175841 := f175804.tr f175838 rfl
      show wp _ _ 266 31 [(1, vI z175802), (0, .ref r0)] [vI z175839] _ H175833 _
      refine wp_of e266 c266_31 (rw_goto (p1 := 43) (by decide) ?_)
      have k175842 : wKI H175833 r0 = wKI H175792 r0 := (wKI_fr w175796 g0 f175838 rfl)
      exact wp_ireturn e266 c266_43 rfl ⟨rfl, w175837, f175841, z175839, rfl, ⟨by omega, by omega⟩, by omega⟩
/-! StrikeAwakeModel.askFor(I)I -/
theorem e271 : wq_en 271 = some (9, 3, false, some FieldType.int) := rfl
theorem c271_0 : mc_cd 271 0 = some (.aload_n 0, 1) := by decide +kernel
theorem c271_1 : mc_cd 271 1 = some (.iconst 0, 1) := by decide +kernel
theorem c271_2 : mc_cd 271 2 = some (.putfield 48, 3) := by decide +kernel
theorem c271_5 : mc_cd 271 5 = some (.aload_n 0, 1) := by decide +kernel
theorem c271_6 : mc_cd 271 6 = some (.aload_n 0, 1) := by decide +kernel
theorem c271_7 : mc_cd 271 7 = some (.iload_n 1, 1) := by decide +kernel
theorem c271_8 : mc_cd 271 8 = some (.invokevirtual 373, 3) := by decide +kernel
theorem c271_11 : mc_cd 271 11 = some (.invokevirtual 467, 3) := by decide +kernel
theorem c271_14 : mc_cd 271 14 = some (.istore_n 2, 1) := by decide +kernel
theorem c271_15 : mc_cd 271 15 = some (.iload_n 2, 1) := by decide +kernel
theorem c271_16 : mc_cd 271 16 = some (.ifCond .le 11, 3) := by decide +kernel
theorem c271_19 : mc_cd 271 19 = some (.aload_n 0, 1) := by decide +kernel
theorem c271_20 : mc_cd 271 20 = some (.iload_n 2, 1) := by decide +kernel
theorem c271_21 : mc_cd 271 21 = some (.invokevirtual 54, 3) := by decide +kernel
theorem c271_24 : mc_cd 271 24 = some (.goto 12, 3) := by decide +kernel
theorem c271_27 : mc_cd 271 27 = some (.aload_n 0, 1) := by decide +kernel
theorem c271_28 : mc_cd 271 28 = some (.aload_n 0, 1) := by decide +kernel
theorem c271_29 : mc_cd 271 29 = some (.iload_n 1, 1) := by decide +kernel
theorem c271_30 : mc_cd 271 30 = some (.invokevirtual 470, 3) := by decide +kernel
theorem c271_33 : mc_cd 271 33 = some (.invokevirtual 58, 3) := by decide +kernel
theorem c271_36 : mc_cd 271 36 = some (.ireturn, 1) := by decide +kernel
abbrev q_271 (r0 : Nat) (a1 : Int) (T : wq_T) (H : wq_H) : Option Value → wq_T → wq_H → Prop := fun r T' H' => T = T' ∧ WT T H' ∧ wfr [(42, 0), (42, 1), (42, 2), (42, 28), (42, 29), (51, 999), (53, 999), (52, 999)] T H H' ∧ ∃ z : Int, some (vI z) = r ∧ ((-2147483648) ≤ z ∧ z ≤ 2147483647) ∧ (wKI H' r0 = 1)
set_option maxHeartbeats 4000000 in
theorem s_271 {kt : Nat → Option mc_E} {T : wq_T} {H : wq_H} {r0 : Nat} {a1 : Int} (hW : WT T H) (g0 : T.2.2.2 r0 = some 42) (i1 : (-2147483648) ≤ a1 ∧ a1 ≤ 2147483647) (p0 : wKI H r0 = 1) : wpc kt 10 271 [.ref r0, vI a1] T H (q_271 r0 a1 T H) := by
  refine wp_enter e271 (Nat.le_of_ble_eq_true rfl) rfl ?_
  have f0 : wfr [(42, 0), (42, 1), (42, 2), (42, 28), (42, 29), (51, 999), (53, 999), (52, 999)] T H H := wfr.rf
  show wp _ _ 271 0 [(0, .ref r0), (1, vI a1)] [] _ H _
  refine wp_of e271 c271_0 (rw_aload_n (pc' := 1) (v := .ref r0) rfl rfl rfl ?_)
  refine wp_of e271 c271_1 (rw_iconst (pc' := 2) rfl ?_)
  refine wp_of e271 c271_2 (xp_I (pc' := 5) lf_9_48 hW g0 sh_42 (by decide) (by decide) ty_42_0 rfl rfl (by omega) (by omega) ⟨by omega, by omega⟩ rfl (fun H175914 e175915 w175916 => ?_))
  have f175917 := f0.put' e175915 g0 rfl
  have k175918 : H175914 r0 0 = 0 := wq_u_s e175915
  refine wp_of e271 c271_5 (rw_aload_n (pc' := 6) (v := .ref r0) rfl rfl rfl ?_)
  refine wp_of e271 c271_6 (rw_aload_n (pc' := 7) (v := .ref r0) rfl rfl rfl ?_)
  refine wp_of e271 c271_7 (rw_iload_n (pc' := 8) (z := a1) rfl rfl ?_)
  refine wp_of e271 c271_8 (xc_V (pc' := 11) (r := r0) (as := [vI a1]) (st := [.ref r0]) (lm_9_373) rfl rfl (Nat.le_of_ble_eq_true rfl) w175916 g0 sh_42 (by decide) rfl (by decide) (s_218 w175916 g0 ⟨by omega, by omega⟩) (fun R175919 T175920 H175921 p175922 => ?_))
  obtain ⟨e175923, e175925, z175927, e175924, b175928, p175926⟩ := p175922
  subst e175923
  subst e175924
  subst e175925
  show wp _ _ 271 11 [(0, .ref r0), (1, vI a1)] [vI z175927, .ref r0] _ H175914 _
  have k175929 : wKI H175914 r0 = wKI H r0 := (wKI_fr hW g0 ((wfr.rf (l := [(42, 0)])).put' e175915 g0 rfl) rfl)
  refine wp_of e271 c271_11 (xc_V (pc' := 14) (r := r0) (as := [vI z175927]) (st := []) (lm_9_467) rfl rfl (Nat.le_of_ble_eq_true rfl) w175916 g0 sh_42 (by decide) rfl (by decide) (s_267 w175916 g0 ⟨by omega, by omega⟩ (by omega) (by omega)) (fun R175930 T175931 H175932 p175933 => ?_))
  obtain ⟨e175934, w175936, f175937, z175942, e175935, b175943, p175938, p175939, p175940, p175941⟩ := p175933
  subst e175934
  subst e175935
  have f175944 := f175917.tr f175937 rfl
  show wp _ _ 271 14 [(0, .ref r0), (1, vI a1)] [vI z175942] _ H175932 _
  refine wp_of e271 c271_14 (rw_istore_n (pc' := 15) (z := z175942) (L' := [(2, vI z175942), (0, .ref r0), (1, vI a1)]) rfl rfl rfl ?_)
  refine wp_of e271 c271_15 (rw_iload_n (pc' := 16) (z := z175942) rfl rfl ?_)
  refine wp_of e271 c271_16 (rw_if_le (p1 := 27) (p2 := 19) (by decide) rfl ⟨by omega, by omega⟩ (fun c175945 => ?_) (fun c175945 => ?_))
  · refine wp_of e271 c271_27 (rw_aload_n (pc' := 28) (v := .ref r0) rfl rfl rfl ?_)
    refine wp_of e271 c271_28 (rw_aload_n (pc' := 29) (v := .ref r0) rfl rfl rfl ?_)
    refine wp_of e271 c271_29 (rw_iload_n (pc' := 30) (z := a1) rfl rfl ?_)
    have k175946 : H175932 r0 3 = H175914 r0 3 := (f175937 r0 3 _ g0 rfl)
    obtain ⟨r175947, q175948, g175949⟩ := (w175936.opt g0 (t' := 54) (n := 33) (j := 3) (p := 0) (q := 0) rfl (by decide) rfl).resolve_left (by omega)
    refine wp_of e271 c271_30 (xc_V (pc' := 33) (r := r0) (as := [vI a1]) (st := [.ref r0]) (lm_9_470) rfl rfl (Nat.le_of_ble_eq_true rfl) w175936 g0 sh_42 (by decide) rfl (by decide) (s_268 w175936 g0 ⟨by omega, by omega⟩ q175948 g175949 (by omega)) (fun R175950 T175951 H175952 p175953 => ?_))
    obtain ⟨e175954, w175956, f175957, z175958, e175955, b175959⟩ := p175953
    subst e175954
    subst e175955
    have f175960 := f175944.tr f175957 rfl
    show wp _ _ 271 33 [(2, vI z175942), (0, .ref r0), (1, vI a1)] [vI z175958, .ref r0] _ H175952 _
    refine wp_of e271 c271_33 (xc_V (pc' := 36) (r := r0) (as := [vI z175958]) (st := []) (lm_9_58) rfl rfl (Nat.le_of_ble_eq_true rfl) w175956 g0 sh_42 (by decide) rfl (by decide) (s_209 w175956 g0 ⟨by omega, by omega⟩) (fun R175961 T175962 H175963 p175964 => ?_))
    obtain ⟨e175965, w175967, f175968, z175969, e175966, b175970⟩ := p175964
    subst e175965
    subst e175966
    have f175971 := f175960.tr f175968 rfl
    show wp _ _ 271 36 [(2, vI z175942), (0, .ref r0), (1, vI a1)] [vI z175969] _ H175963 _
    have k175972 : wKI H175963 r0 = wKI H175932 r0 := ((wKI_fr w175956 g0 f175968 rfl).trans (wKI_fr w175936 g0 f175957 rfl))
    exact wp_ireturn e271 c271_36 rfl ⟨rfl, w175967, f175971, z175969, rfl, ⟨by omega, by omega⟩, by omega⟩
  · refine wp_of e271 c271_19 (rw_aload_n (pc' := 20) (v := .ref r0) rfl rfl rfl ?_)
    refine wp_of e271 c271_20 (rw_iload_n (pc' := 21) (z := z175942) rfl rfl ?_)
    refine wp_of e271 c271_21 (xc_V (pc' := 24) (r := r0) (as := [vI z175942]) (st := []) (lm_9_54) rfl rfl (Nat.le_of_ble_eq_true rfl) w175936 g0 sh_42 (by decide) rfl (by decide) (s_170 w175936 g0 ⟨by omega, by omega⟩) (fun R175973 T175974 H175975 p175976 => ?_))
    obtain ⟨e175977, w175979, f175980, z175981, e175978, b175982⟩ := p175976
    subst e175977
    subst e175978
    have f175983 := f175944.tr f175980 rfl
    show wp _ _ 271 24 [(2, vI z175942), (0, .ref r0), (1, vI a1)] [vI z175981] _ H175975 _
    refine wp_of e271 c271_24 (rw_goto (p1 := 36) (by decide) ?_)
    have k175984 : wKI H175975 r0 = wKI H175932 r0 := (wKI_fr w175936 g0 f175980 rfl)
    exact wp_ireturn e271 c271_36 rfl ⟨rfl, w175979, f175983, z175981, rfl, ⟨by omega, by omega⟩, by omega⟩
/-! StrikeAwakeModel.isTold(I)Z -/
theorem e273 : wq_en 273 = some (9, 2, false, some FieldType.boolean) := rfl
theorem c273_0 : mc_cd 273 0 = some (.aload_n 0, 1) := by decide +kernel
theorem c273_1 : mc_cd 273 1 = some (.getfield 337, 3) := by decide +kernel
theorem c273_4 : mc_cd 273 4 = some (.ifnull 22, 3) := by decide +kernel
theorem c273_7 : mc_cd 273 7 = some (.iload_n 1, 1) := by decide +kernel
theorem c273_8 : mc_cd 273 8 = some (.ifCond .lt 18, 3) := by decide +kernel
theorem c273_11 : mc_cd 273 11 = some (.iload_n 1, 1) := by decide +kernel
theorem c273_12 : mc_cd 273 12 = some (.aload_n 0, 1) := by decide +kernel
theorem c273_13 : mc_cd 273 13 = some (.getfield 337, 3) := by decide +kernel
theorem c273_16 : mc_cd 273 16 = some (.getfield 306, 3) := by decide +kernel
theorem c273_19 : mc_cd 273 19 = some (.if_icmp .ge 7, 3) := by decide +kernel
theorem c273_22 : mc_cd 273 22 = some (.iconst 1, 1) := by decide +kernel
theorem c273_23 : mc_cd 273 23 = some (.goto 4, 3) := by decide +kernel
theorem c273_26 : mc_cd 273 26 = some (.iconst 0, 1) := by decide +kernel
theorem c273_27 : mc_cd 273 27 = some (.ireturn, 1) := by decide +kernel
abbrev q_273 (r0 : Nat) (a1 : Int) (T : wq_T) (H : wq_H) : Option Value → wq_T → wq_H → Prop := fun r T' H' => T = T' ∧ H = H' ∧ ∃ z : Int, some (vI z) = r ∧ (0 ≤ z ∧ z ≤ 1) ∧ (z = 0 ∨ (H r0 3 ≠ -1 ∧ 0 ≤ a1 ∧ a1 ≤ 3))
set_option maxHeartbeats 4000000 in
theorem s_273 {kt : Nat → Option mc_E} {T : wq_T} {H : wq_H} {r0 : Nat} {a1 : Int} (hW : WT T H) (g0 : T.2.2.2 r0 = some 42) (i1 : (-2147483648) ≤ a1 ∧ a1 ≤ 2147483647) : wpc kt 1 273 [.ref r0, vI a1] T H (q_273 r0 a1 T H) := by
  refine wp_enter e273 (Nat.le_of_ble_eq_true rfl) rfl ?_
  show wp _ _ 273 0 [(0, .ref r0), (1, vI a1)] [] _ H _
  refine wp_of e273 c273_0 (rw_aload_n (pc' := 1) (v := .ref r0) rfl rfl rfl ?_)
  refine wp_of e273 c273_1 (xg_O (pc' := 4) lf_9_337 hW g0 sh_42 (by decide) (by decide) ty_42_3 rfl rfl (fun q175993 => ?_) (fun r175992 q175993 g175994 => ?_))
  · refine wp_of e273 c273_4 (rw_ifnull_n (p1 := 26) (p2 := 7) (by decide) rfl ?_)
    refine wp_of e273 c273_26 (rw_iconst (pc' := 27) rfl ?_)
    exact wp_zreturn e273 c273_27 rfl (by omega) ⟨rfl, rfl, 0, rfl, ⟨by omega, by omega⟩, by omega⟩
  · refine wp_of e273 c273_4 (rw_ifnull_r (p1 := 26) (p2 := 7) (by decide) rfl ?_)
    refine wp_of e273 c273_7 (rw_iload_n (pc' := 8) (z := a1) rfl rfl ?_)
    refine wp_of e273 c273_8 (rw_if_lt (p1 := 26) (p2 := 11) (by decide) rfl ⟨by omega, by omega⟩ (fun c175995 => ?_) (fun c175995 => ?_))
    · refine wp_of e273 c273_26 (rw_iconst (pc' := 27) rfl ?_)
      exact wp_zreturn e273 c273_27 rfl (by omega) ⟨rfl, rfl, 0, rfl, ⟨by omega, by omega⟩, by omega⟩
    · refine wp_of e273 c273_11 (rw_iload_n (pc' := 12) (z := a1) rfl rfl ?_)
      refine wp_of e273 c273_12 (rw_aload_n (pc' := 13) (v := .ref r0) rfl rfl rfl ?_)
      refine wp_of e273 c273_13 (xg_K (pc' := 16) lf_9_337 hW g0 sh_42 (by decide) (by decide) rfl q175993 rfl ?_)
      refine wp_of e273 c273_16 (xg_I (pc' := 19) lf_9_306 hW g175994 sh_54 (by decide) (by decide) ty_54_6 rfl rfl (fun b175996 b175997 => ?_))
      refine wp_of e273 c273_19 (rw_icmp_ge (p1 := 26) (p2 := 22) (by decide) rfl ⟨by omega, by omega⟩ ⟨by omega, by omega⟩ (fun c175998 => ?_) (fun c175998 => ?_))
      · refine wp_of e273 c273_26 (rw_iconst (pc' := 27) rfl ?_)
        exact wp_zreturn e273 c273_27 rfl (by omega) ⟨rfl, rfl, 0, rfl, ⟨by omega, by omega⟩, by omega⟩
      · refine wp_of e273 c273_22 (rw_iconst (pc' := 23) rfl ?_)
        refine wp_of e273 c273_23 (rw_goto (p1 := 27) (by decide) ?_)
        exact wp_zreturn e273 c273_27 rfl (by omega) ⟨rfl, rfl, 1, rfl, ⟨by omega, by omega⟩, by omega⟩
/-! StrikeAwakeModel.barsOf(I)I -/
theorem e274 : wq_en 274 = some (9, 7, false, some FieldType.int) := rfl
theorem c274_0 : mc_cd 274 0 = some (.aload_n 0, 1) := by decide +kernel
theorem c274_1 : mc_cd 274 1 = some (.getfield 337, 3) := by decide +kernel
theorem c274_4 : mc_cd 274 4 = some (.getfield 312, 3) := by decide +kernel
theorem c274_7 : mc_cd 274 7 = some (.iload_n 1, 1) := by decide +kernel
theorem c274_8 : mc_cd 274 8 = some (.iaload, 1) := by decide +kernel
theorem c274_9 : mc_cd 274 9 = some (.istore_n 2, 1) := by decide +kernel
theorem c274_10 : mc_cd 274 10 = some (.aload_n 0, 1) := by decide +kernel
theorem c274_11 : mc_cd 274 11 = some (.getfield 337, 3) := by decide +kernel
theorem c274_14 : mc_cd 274 14 = some (.getfield 315, 3) := by decide +kernel
theorem c274_17 : mc_cd 274 17 = some (.iload_n 1, 1) := by decide +kernel
theorem c274_18 : mc_cd 274 18 = some (.iaload, 1) := by decide +kernel
theorem c274_19 : mc_cd 274 19 = some (.aload_n 0, 1) := by decide +kernel
theorem c274_20 : mc_cd 274 20 = some (.getfield 343, 3) := by decide +kernel
theorem c274_23 : mc_cd 274 23 = some (.iand, 1) := by decide +kernel
theorem c274_24 : mc_cd 274 24 = some (.istore_n 3, 1) := by decide +kernel
theorem c274_25 : mc_cd 274 25 = some (.sipush (-1000), 3) := by decide +kernel
theorem c274_28 : mc_cd 274 28 = some (.istore 4, 2) := by decide +kernel
theorem c274_30 : mc_cd 274 30 = some (.iconst 0, 1) := by decide +kernel
theorem c274_31 : mc_cd 274 31 = some (.istore 5, 2) := by decide +kernel
theorem c274_33 : mc_cd 274 33 = some (.iload 5, 2) := by decide +kernel
theorem c274_35 : mc_cd 274 35 = some (.i2l, 1) := by decide +kernel
theorem c274_36 : mc_cd 274 36 = some (.aload_n 0, 1) := by decide +kernel
theorem c274_37 : mc_cd 274 37 = some (.invokevirtual 376, 3) := by decide +kernel
theorem c274_40 : mc_cd 274 40 = some (.lcmp, 1) := by decide +kernel
theorem c274_41 : mc_cd 274 41 = some (.ifCond .ge 82, 3) := by decide +kernel
theorem c274_44 : mc_cd 274 44 = some (.aload_n 0, 1) := by decide +kernel
theorem c274_45 : mc_cd 274 45 = some (.iload 5, 2) := by decide +kernel
theorem c274_47 : mc_cd 274 47 = some (.invokevirtual 425, 3) := by decide +kernel
theorem c274_50 : mc_cd 274 50 = some (.iload_n 3, 1) := by decide +kernel
theorem c274_51 : mc_cd 274 51 = some (.aload_n 0, 1) := by decide +kernel
theorem c274_52 : mc_cd 274 52 = some (.getfield 30, 3) := by decide +kernel
theorem c274_55 : mc_cd 274 55 = some (.bipush 40, 2) := by decide +kernel
theorem c274_57 : mc_cd 274 57 = some (.iload_n 2, 1) := by decide +kernel
theorem c274_58 : mc_cd 274 58 = some (.imul, 1) := by decide +kernel
theorem c274_59 : mc_cd 274 59 = some (.aload_n 0, 1) := by decide +kernel
theorem c274_60 : mc_cd 274 60 = some (.getfield 39, 3) := by decide +kernel
theorem c274_63 : mc_cd 274 63 = some (.iload_n 2, 1) := by decide +kernel
theorem c274_64 : mc_cd 274 64 = some (.iaload, 1) := by decide +kernel
theorem c274_65 : mc_cd 274 65 = some (.iadd, 1) := by decide +kernel
theorem c274_66 : mc_cd 274 66 = some (.iaload, 1) := by decide +kernel
theorem c274_67 : mc_cd 274 67 = some (.iconst (-1), 1) := by decide +kernel
theorem c274_68 : mc_cd 274 68 = some (.ixor, 1) := by decide +kernel
theorem c274_69 : mc_cd 274 69 = some (.iand, 1) := by decide +kernel
theorem c274_70 : mc_cd 274 70 = some (.ifCond .ne 47, 3) := by decide +kernel
theorem c274_73 : mc_cd 274 73 = some (.aload_n 0, 1) := by decide +kernel
theorem c274_74 : mc_cd 274 74 = some (.aload_n 0, 1) := by decide +kernel
theorem c274_75 : mc_cd 274 75 = some (.getfield 39, 3) := by decide +kernel
theorem c274_78 : mc_cd 274 78 = some (.invokevirtual 393, 3) := by decide +kernel
theorem c274_81 : mc_cd 274 81 = some (.ifCond .eq 6, 3) := by decide +kernel
theorem c274_84 : mc_cd 274 84 = some (.goto 33, 3) := by decide +kernel
theorem c274_87 : mc_cd 274 87 = some (.aload_n 0, 1) := by decide +kernel
theorem c274_88 : mc_cd 274 88 = some (.aload_n 0, 1) := by decide +kernel
theorem c274_89 : mc_cd 274 89 = some (.getfield 39, 3) := by decide +kernel
theorem c274_92 : mc_cd 274 92 = some (.aload_n 0, 1) := by decide +kernel
theorem c274_93 : mc_cd 274 93 = some (.getfield 343, 3) := by decide +kernel
theorem c274_96 : mc_cd 274 96 = some (.invokevirtual 397, 3) := by decide +kernel
theorem c274_99 : mc_cd 274 99 = some (.istore 6, 2) := by decide +kernel
theorem c274_101 : mc_cd 274 101 = some (.iload 6, 2) := by decide +kernel
theorem c274_103 : mc_cd 274 103 = some (.iload 4, 2) := by decide +kernel
theorem c274_105 : mc_cd 274 105 = some (.if_icmp .le 8, 3) := by decide +kernel
theorem c274_108 : mc_cd 274 108 = some (.iload 6, 2) := by decide +kernel
theorem c274_110 : mc_cd 274 110 = some (.goto 5, 3) := by decide +kernel
theorem c274_113 : mc_cd 274 113 = some (.iload 4, 2) := by decide +kernel
theorem c274_115 : mc_cd 274 115 = some (.istore 4, 2) := by decide +kernel
theorem c274_117 : mc_cd 274 117 = some (.iinc 5 1, 3) := by decide +kernel
theorem c274_120 : mc_cd 274 120 = some (.goto (-87), 3) := by decide +kernel
theorem c274_123 : mc_cd 274 123 = some (.iload 4, 2) := by decide +kernel
theorem c274_125 : mc_cd 274 125 = some (.ireturn, 1) := by decide +kernel
abbrev q_274 (r0 : Nat) (a1 : Int) (pp : Nat) (T : wq_T) (H : wq_H) : Option Value → wq_T → wq_H → Prop := fun r T' H' => T = T' ∧ WT T H' ∧ wfr [(51, 999)] T H H' ∧ ∃ z : Int, some (vI z) = r ∧ ((-2147483648) ≤ z ∧ z ≤ 2147483647)
set_option maxHeartbeats 4000000 in
theorem s_274 {kt : Nat → Option mc_E} {T : wq_T} {H : wq_H} {r0 : Nat} {a1 : Int} {pp : Nat} (hW : WT T H) (g0 : T.2.2.2 r0 = some 42) (i1 : 0 ≤ a1 ∧ a1 ≤ 3) (qpp : H r0 3 = (pp : Int)) (gpp : T.2.2.2 pp = some 54) (p0 : wLM H r0 ≤ 20000) : wpc kt 5 274 [.ref r0, vI a1] T H (q_274 r0 a1 pp T H) := by
  refine wp_enter e274 (Nat.le_of_ble_eq_true rfl) rfl ?_
  have f0 : wfr [(51, 999)] T H H := wfr.rf
  show wp _ _ 274 0 [(0, .ref r0), (1, vI a1)] [] _ H _
  refine wp_of e274 c274_0 (rw_aload_n (pc' := 1) (v := .ref r0) rfl rfl rfl ?_)
  refine wp_of e274 c274_1 (xg_K (pc' := 4) lf_9_337 hW g0 sh_42 (by decide) (by decide) rfl qpp rfl ?_)
  refine wp_of e274 c274_4 (xg_R (pc' := 7) lf_9_312 hW gpp sh_54 (by decide) (by decide) ty_54_22 rfl rfl (fun r176590 q176591 g176592 => ?_))
  refine wp_of e274 c274_7 (rw_iload_n (pc' := 8) (z := a1) rfl rfl ?_)
  refine wp_of e274 c274_8 (xa_I (so := 0) (pc' := 9) hW g176592 sh_68 (by decide) (ty_68 _) (by omega) (by omega) rfl (fun b176593 b176594 => ?_))
  refine wp_of e274 c274_9 (rw_istore_n (pc' := 10) (z := H r176590 (a1.toNat)) (L' := [(2, vI (H r176590 (a1.toNat))), (0, .ref r0), (1, vI a1)]) rfl rfl rfl ?_)
  refine wp_of e274 c274_10 (rw_aload_n (pc' := 11) (v := .ref r0) rfl rfl rfl ?_)
  refine wp_of e274 c274_11 (xg_K (pc' := 14) lf_9_337 hW g0 sh_42 (by decide) (by decide) rfl qpp rfl ?_)
  refine wp_of e274 c274_14 (xg_R (pc' := 17) lf_9_315 hW gpp sh_54 (by decide) (by decide) ty_54_23 rfl rfl (fun r176595 q176596 g176597 => ?_))
  refine wp_of e274 c274_17 (rw_iload_n (pc' := 18) (z := a1) rfl rfl ?_)
  refine wp_of e274 c274_18 (xa_I (so := 0) (pc' := 19) hW g176597 sh_69 (by decide) (ty_69 _) (by omega) (by omega) rfl (fun b176598 b176599 => ?_))
  refine wp_of e274 c274_19 (rw_aload_n (pc' := 20) (v := .ref r0) rfl rfl rfl ?_)
  refine wp_of e274 c274_20 (xg_I (pc' := 23) lf_9_343 hW g0 sh_42 (by decide) (by decide) ty_42_19 rfl rfl (fun b176600 b176601 => ?_))
  refine wp_of e274 c274_23 (rw_iand (pc' := 24) rfl ?_)
  obtain ⟨v176602, e176603⟩ : ∃ x : Int, x = wq_and (H r176595 (a1.toNat)) (H r0 19) := ⟨_, rfl⟩
  rw [← e176603]
  have b176604 : -2147483648 ≤ v176602 ∧ v176602 ≤ 2147483647 := by
    rw [e176603]
    exact wI_and _ _
  refine wp_of e274 c274_24 (rw_istore_n (pc' := 25) (z := v176602) (L' := [(3, vI v176602), (2, vI (H r176590 (a1.toNat))), (0, .ref r0), (1, vI a1)]) rfl rfl rfl ?_)
  refine wp_of e274 c274_25 (rw_sipush (pc' := 28) (z := -1000) rfl (by decide) ?_)
  refine wp_of e274 c274_28 (rw_istore (pc' := 30) (z := -1000) (L' := [(4, vI (-1000)), (3, vI v176602), (2, vI (H r176590 (a1.toNat))), (0, .ref r0), (1, vI a1)]) rfl rfl rfl ?_)
  refine wp_of e274 c274_30 (rw_iconst (pc' := 31) rfl ?_)
  refine wp_of e274 c274_31 (rw_istore (pc' := 33) (z := 0) (L' := [(5, vI 0), (4, vI (-1000)), (3, vI v176602), (2, vI (H r176590 (a1.toNat))), (0, .ref r0), (1, vI a1)]) rfl rfl rfl ?_)
  have lp177117 : ∀ (n177118 : Nat) (v177120 : Int) (v177121 : Int) (H177122 : wq_H), WT T H177122 → wfr [(51, 999)] T H H177122 → (0 ≤ v177120 ∧ v177120 ≤ 20000) → ((-1000) ≤ v177121 ∧ v177121 ≤ 24) → (20000 - v177120).toNat = n177118 → wp kt 4 274 33 [(5, vI v177120), (4, vI v177121), (3, vI v176602), (2, vI (H r176590 (a1.toNat))), (0, .ref r0)] [] T H177122 (q_274 r0 a1 pp T H) := by
    intro n177118
    induction n177118 using Nat.strongRecOn with
    | _ n177118 ih177119 =>
      intro v177120 v177121 H177122 w177123 f177124 b177125 b177126 m177127
      have f177128 := f0.tr f177124 rfl
      refine wp_of e274 c274_33 (rw_iload (pc' := 35) (z := v177120) rfl rfl ?_)
      refine wp_of e274 c274_35 (rw_i2l (pc' := 36) rfl ⟨by omega, by omega⟩ ?_)
      refine wp_of e274 c274_36 (rw_aload_n (pc' := 37) (v := .ref r0) rfl rfl rfl ?_)
      have k177129 : wLM H177122 r0 = wLM H r0 := (wLM_fr hW g0 f177124 rfl)
      have k177130 : H177122 r0 3 = H r0 3 := (f177124 r0 3 _ g0 rfl)
      have q177131 : H177122 r0 3 = (pp : Int) := k177130.trans qpp
      refine wp_of e274 c274_37 (xc_V (pc' := 40) (r := r0) (as := []) (st := [vL v177120]) (lm_9_376) rfl rfl (Nat.le_of_ble_eq_true rfl) w177123 g0 sh_42 (by decide) rfl (by decide) (s_220 w177123 g0 q177131 gpp) (fun R177132 T177133 H177134 p177135 => ?_))
      obtain ⟨e177136, e177138, z177140, e177137, b177141, p177139⟩ := p177135
      subst e177136
      subst e177137
      subst e177138
      show wp _ _ 274 40 [(5, vI v177120), (4, vI v177121), (3, vI v176602), (2, vI (H r176590 (a1.toNat))), (0, .ref r0)] [vL z177140, vL v177120] _ H177122 _
      refine wp_of e274 c274_40 (rw_lcmp (pc' := 41) rfl ⟨by omega, by omega⟩ ⟨by omega, by omega⟩ ?_)
      have b177142 := wq_cmp_b v177120 z177140
      refine wp_of e274 c274_41 (rw_if_ge (p1 := 123) (p2 := 44) (by decide) rfl ⟨by omega, by omega⟩ (fun c177143 => ?_) (fun c177143 => ?_))
      · refine wp_of e274 c274_123 (rw_iload (pc' := 125) (z := v177121) rfl rfl ?_)
        exact wp_ireturn e274 c274_125 rfl ⟨rfl, w177123, f177128, v177121, rfl, ⟨by omega, by omega⟩⟩
      · refine wp_of e274 c274_44 (rw_aload_n (pc' := 45) (v := .ref r0) rfl rfl rfl ?_)
        refine wp_of e274 c274_45 (rw_iload (pc' := 47) (z := v177120) rfl rfl ?_)
        refine wp_of e274 c274_47 (xc_V (pc' := 50) (r := r0) (as := [vI v177120]) (st := []) (lm_9_425) rfl rfl (Nat.le_of_ble_eq_true rfl) w177123 g0 sh_42 (by decide) rfl (by decide) (s_243 w177123 g0 ⟨by omega, by omega⟩ q177131 gpp (by omega)) (fun R177144 T177145 H177146 p177147 => ?_))
        obtain ⟨e177148, w177150, f177151, e177149⟩ := p177147
        subst e177148
        subst e177149
        have f177152 := f177128.tr f177151 rfl
        have f177153 := f177124.tr f177151 rfl
        show wp _ _ 274 50 [(5, vI v177120), (4, vI v177121), (3, vI v176602), (2, vI (H r176590 (a1.toNat))), (0, .ref r0)] [] _ H177146 _
        refine wp_of e274 c274_50 (rw_iload_n (pc' := 51) (z := v176602) rfl rfl ?_)
        refine wp_of e274 c274_51 (rw_aload_n (pc' := 52) (v := .ref r0) rfl rfl rfl ?_)
        refine wp_of e274 c274_52 (xg_R (pc' := 55) lf_9_30 w177150 g0 sh_42 (by decide) (by decide) ty_42_24 rfl rfl (fun r177154 q177155 g177156 => ?_))
        refine wp_of e274 c274_55 (rw_bipush (pc' := 57) (z := 40) rfl (by decide) ?_)
        refine wp_of e274 c274_57 (rw_iload_n (pc' := 58) (z := H r176590 (a1.toNat)) rfl rfl ?_)
        refine wp_of e274 c274_58 (rw_imul (pc' := 59) rfl ?_)
        refine wp_of e274 c274_59 (rw_aload_n (pc' := 60) (v := .ref r0) rfl rfl rfl ?_)
        refine wp_of e274 c274_60 (xg_R (pc' := 63) lf_9_39 w177150 g0 sh_42 (by decide) (by decide) ty_42_27 rfl rfl (fun r177157 q177158 g177159 => ?_))
        refine wp_of e274 c274_63 (rw_iload_n (pc' := 64) (z := H r176590 (a1.toNat)) rfl rfl ?_)
        refine wp_of e274 c274_64 (xa_I (so := 0) (pc' := 65) w177150 g177159 sh_51 (by decide) (ty_51 _) (by omega) (by omega) rfl (fun b177160 b177161 => ?_))
        refine wp_of e274 c274_65 (rw_iadd (pc' := 66) rfl ?_)
        refine wp_of e274 c274_66 (xa_I (so := 0) (pc' := 67) w177150 g177156 sh_48 (by decide) (ty_48 _) (by omega) (by omega) rfl (fun b177162 b177163 => ?_))
        refine wp_of e274 c274_67 (rw_iconst (pc' := 68) rfl ?_)
        refine wp_of e274 c274_68 (rw_ixor (pc' := 69) rfl ?_)
        obtain ⟨v177164, e177165⟩ : ∃ x : Int, x = wq_xor (H177146 r177154 (((40 * (H r176590 (a1.toNat))) + (H177146 r177157 ((H r176590 (a1.toNat)).toNat))).toNat)) (-1) := ⟨_, rfl⟩
        rw [← e177165]
        have b177166 : -2147483648 ≤ v177164 ∧ v177164 ≤ 2147483647 := by
          rw [e177165]
          exact wI_xor _ _
        refine wp_of e274 c274_69 (rw_iand (pc' := 70) rfl ?_)
        obtain ⟨v177167, e177168⟩ : ∃ x : Int, x = wq_and v176602 v177164 := ⟨_, rfl⟩
        rw [← e177168]
        have b177169 : -2147483648 ≤ v177167 ∧ v177167 ≤ 2147483647 := by
          rw [e177168]
          exact wI_and _ _
        refine wp_of e274 c274_70 (rw_if_ne (p1 := 117) (p2 := 73) (by decide) rfl ⟨by omega, by omega⟩ (fun c177170 => ?_) (fun c177170 => ?_))
        · refine wp_of e274 c274_117 (rw_iinc (pc' := 120) (z := v177120) (L' := [(5, vI (v177120 + 1)), (4, vI v177121), (3, vI v176602), (2, vI (H r176590 (a1.toNat))), (0, .ref r0)]) rfl rfl rfl rfl ?_)
          refine wp_of e274 c274_120 (rw_goto (p1 := 33) (by decide) ?_)
          exact wp_lc (ks := [5, 4, 3, 2, 0]) (wl_c rfl (wl_c rfl (wl_c rfl (wl_c rfl (wl_c rfl wl_n))))) rfl (by decide) (ih177119 _ (by omega) (v177120 + 1) v177121 H177146 w177150 f177153 ⟨by omega, by omega⟩ ⟨by omega, by omega⟩ rfl)
        · refine wp_of e274 c274_73 (rw_aload_n (pc' := 74) (v := .ref r0) rfl rfl rfl ?_)
          refine wp_of e274 c274_74 (rw_aload_n (pc' := 75) (v := .ref r0) rfl rfl rfl ?_)
          refine wp_of e274 c274_75 (xg_K (pc' := 78) lf_9_39 w177150 g0 sh_42 (by decide) (by decide) rfl q177158 rfl ?_)
          have k177171 : H177146 r0 3 = H177122 r0 3 := (f177151 r0 3 _ g0 rfl)
          have q177172 : H177146 r0 3 = (pp : Int) := k177171.trans q177131
          refine wp_of e274 c274_78 (xc_V (pc' := 81) (r := r0) (as := [.ref r177157]) (st := []) (lm_9_393) rfl rfl (Nat.le_of_ble_eq_true rfl) w177150 g0 sh_42 (by decide) rfl (by decide) (s_235_m_lot w177150 g0 g177159 q177172 gpp) (fun R177173 T177174 H177175 p177176 => ?_))
          obtain ⟨e177177, e177179, z177180, e177178, b177181⟩ := p177176
          subst e177177
          subst e177178
          subst e177179
          show wp _ _ 274 81 [(5, vI v177120), (4, vI v177121), (3, vI v176602), (2, vI (H r176590 (a1.toNat))), (0, .ref r0)] [vI z177180] _ H177146 _
          refine wp_of e274 c274_81 (rw_if_eq (p1 := 87) (p2 := 84) (by decide) rfl ⟨by omega, by omega⟩ (fun c177182 => ?_) (fun c177182 => ?_))
          · refine wp_of e274 c274_87 (rw_aload_n (pc' := 88) (v := .ref r0) rfl rfl rfl ?_)
            refine wp_of e274 c274_88 (rw_aload_n (pc' := 89) (v := .ref r0) rfl rfl rfl ?_)
            refine wp_of e274 c274_89 (xg_K (pc' := 92) lf_9_39 w177150 g0 sh_42 (by decide) (by decide) rfl q177158 rfl ?_)
            refine wp_of e274 c274_92 (rw_aload_n (pc' := 93) (v := .ref r0) rfl rfl rfl ?_)
            have k177183 : H177146 r0 19 = H r0 19 := ((f177151 r0 19 _ g0 rfl).trans (f177124 r0 19 _ g0 rfl))
            refine wp_of e274 c274_93 (xg_I (pc' := 96) lf_9_343 w177150 g0 sh_42 (by decide) (by decide) ty_42_19 rfl rfl (fun b177184 b177185 => ?_))
            refine wp_of e274 c274_96 (xc_V (pc' := 99) (r := r0) (as := [.ref r177157, vI (H177146 r0 19)]) (st := []) (lm_9_397) rfl rfl (Nat.le_of_ble_eq_true rfl) w177150 g0 sh_42 (by decide) rfl (by decide) (s_239_m_lot w177150 g0 g177159 ⟨by omega, by omega⟩ q177172 gpp) (fun R177186 T177187 H177188 p177189 => ?_))
            obtain ⟨e177190, e177192, z177193, e177191, b177194⟩ := p177189
            subst e177190
            subst e177191
            subst e177192
            show wp _ _ 274 99 [(5, vI v177120), (4, vI v177121), (3, vI v176602), (2, vI (H r176590 (a1.toNat))), (0, .ref r0)] [vI z177193] _ H177146 _
            refine wp_of e274 c274_99 (rw_istore (pc' := 101) (z := z177193) (L' := [(6, vI z177193), (5, vI v177120), (4, vI v177121), (3, vI v176602), (2, vI (H r176590 (a1.toNat))), (0, .ref r0)]) rfl rfl rfl ?_)
            refine wp_of e274 c274_101 (rw_iload (pc' := 103) (z := z177193) rfl rfl ?_)
            refine wp_of e274 c274_103 (rw_iload (pc' := 105) (z := v177121) rfl rfl ?_)
            refine wp_of e274 c274_105 (rw_icmp_le (p1 := 113) (p2 := 108) (by decide) rfl ⟨by omega, by omega⟩ ⟨by omega, by omega⟩ (fun c177195 => ?_) (fun c177195 => ?_))
            · refine wp_of e274 c274_113 (rw_iload (pc' := 115) (z := v177121) rfl rfl ?_)
              refine wp_of e274 c274_115 (rw_istore (pc' := 117) (z := v177121) (L' := [(4, vI v177121), (6, vI z177193), (5, vI v177120), (3, vI v176602), (2, vI (H r176590 (a1.toNat))), (0, .ref r0)]) rfl rfl rfl ?_)
              refine wp_of e274 c274_117 (rw_iinc (pc' := 120) (z := v177120) (L' := [(5, vI (v177120 + 1)), (4, vI v177121), (6, vI z177193), (3, vI v176602), (2, vI (H r176590 (a1.toNat))), (0, .ref r0)]) rfl rfl rfl rfl ?_)
              refine wp_of e274 c274_120 (rw_goto (p1 := 33) (by decide) ?_)
              exact wp_lc (ks := [5, 4, 6, 3, 2, 0]) (wl_c rfl (wl_c rfl (wl_c rfl (wl_c rfl (wl_c rfl wl_n))))) rfl (by decide) (ih177119 _ (by omega) (v177120 + 1) v177121 H177146 w177150 f177153 ⟨by omega, by omega⟩ ⟨by omega, by omega⟩ rfl)
            · refine wp_of e274 c274_108 (rw_iload (pc' := 110) (z := z177193) rfl rfl ?_)
              refine wp_of e274 c274_110 (rw_goto (p1 := 115) (by decide) ?_)
              refine wp_of e274 c274_115 (rw_istore (pc' := 117) (z := z177193) (L' := [(4, vI z177193), (6, vI z177193), (5, vI v177120), (3, vI v176602), (2, vI (H r176590 (a1.toNat))), (0, .ref r0)]) rfl rfl rfl ?_)
              refine wp_of e274 c274_117 (rw_iinc (pc' := 120) (z := v177120) (L' := [(5, vI (v177120 + 1)), (4, vI z177193), (6, vI z177193), (3, vI v176602), (2, vI (H r176590 (a1.toNat))), (0, .ref r0)]) rfl rfl rfl rfl ?_)
              refine wp_of e274 c274_120 (rw_goto (p1 := 33) (by decide) ?_)
              exact wp_lc (ks := [5, 4, 6, 3, 2, 0]) (wl_c rfl (wl_c rfl (wl_c rfl (wl_c rfl (wl_c rfl wl_n))))) rfl (by decide) (ih177119 _ (by omega) (v177120 + 1) z177193 H177146 w177150 f177153 ⟨by omega, by omega⟩ ⟨by omega, by omega⟩ rfl)
          · refine wp_of e274 c274_84 (rw_goto (p1 := 117) (by decide) ?_)
            refine wp_of e274 c274_117 (rw_iinc (pc' := 120) (z := v177120) (L' := [(5, vI (v177120 + 1)), (4, vI v177121), (3, vI v176602), (2, vI (H r176590 (a1.toNat))), (0, .ref r0)]) rfl rfl rfl rfl ?_)
            refine wp_of e274 c274_120 (rw_goto (p1 := 33) (by decide) ?_)
            exact wp_lc (ks := [5, 4, 3, 2, 0]) (wl_c rfl (wl_c rfl (wl_c rfl (wl_c rfl (wl_c rfl wl_n))))) rfl (by decide) (ih177119 _ (by omega) (v177120 + 1) v177121 H177146 w177150 f177153 ⟨by omega, by omega⟩ ⟨by omega, by omega⟩ rfl)
  exact wp_lc (ks := [5, 4, 3, 2, 0, 1]) (wl_c rfl (wl_c rfl (wl_c rfl (wl_c rfl (wl_c rfl wl_n))))) rfl (by decide) (lp177117 _ 0 (-1000) H hW wfr.rf ⟨by omega, by omega⟩ ⟨by omega, by omega⟩ rfl)
