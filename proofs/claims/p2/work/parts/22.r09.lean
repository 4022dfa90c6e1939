/-! methods of the reference (own work, written by wip/gen2/sx.py) -/
/-! StrikeAwakeModel.bed(IZ)I -/
theorem e263 : wq_en 263 = some (9, 4, false, some FieldType.int) := rfl
theorem c263_0 : mc_cd 263 0 = some (.aload_n 0, 1) := by decide +kernel
theorem c263_1 : mc_cd 263 1 = some (.iconst 0, 1) := by decide +kernel
theorem c263_2 : mc_cd 263 2 = some (.putfield 48, 3) := by decide +kernel
theorem c263_5 : mc_cd 263 5 = some (.aload_n 0, 1) := by decide +kernel
theorem c263_6 : mc_cd 263 6 = some (.aload_n 0, 1) := by decide +kernel
theorem c263_7 : mc_cd 263 7 = some (.iload_n 1, 1) := by decide +kernel
theorem c263_8 : mc_cd 263 8 = some (.invokevirtual 364, 3) := by decide +kernel
theorem c263_11 : mc_cd 263 11 = some (.invokevirtual 447, 3) := by decide +kernel
theorem c263_14 : mc_cd 263 14 = some (.istore_n 3, 1) := by decide +kernel
theorem c263_15 : mc_cd 263 15 = some (.iload_n 3, 1) := by decide +kernel
theorem c263_16 : mc_cd 263 16 = some (.ifCond .le 11, 3) := by decide +kernel
theorem c263_19 : mc_cd 263 19 = some (.aload_n 0, 1) := by decide +kernel
theorem c263_20 : mc_cd 263 20 = some (.iload_n 3, 1) := by decide +kernel
theorem c263_21 : mc_cd 263 21 = some (.invokevirtual 54, 3) := by decide +kernel
theorem c263_24 : mc_cd 263 24 = some (.goto 17, 3) := by decide +kernel
theorem c263_27 : mc_cd 263 27 = some (.aload_n 0, 1) := by decide +kernel
theorem c263_28 : mc_cd 263 28 = some (.aload_n 0, 1) := by decide +kernel
theorem c263_29 : mc_cd 263 29 = some (.iload_n 1, 1) := by decide +kernel
theorem c263_30 : mc_cd 263 30 = some (.aload_n 0, 1) := by decide +kernel
theorem c263_31 : mc_cd 263 31 = some (.getfield 24, 3) := by decide +kernel
theorem c263_34 : mc_cd 263 34 = some (.iload_n 2, 1) := by decide +kernel
theorem c263_35 : mc_cd 263 35 = some (.invokevirtual 458, 3) := by decide +kernel
theorem c263_38 : mc_cd 263 38 = some (.invokevirtual 58, 3) := by decide +kernel
theorem c263_41 : mc_cd 263 41 = some (.ireturn, 1) := by decide +kernel
abbrev q_263 (r0 : Nat) (a1 : Int) (a2 : Int) (T : wq_T) (H : wq_H) : Option Value → wq_T → wq_H → Prop := fun r T' H' => T = T' ∧ WT T H' ∧ wfr [(42, 0), (42, 1), (42, 2), (42, 28), (42, 29), (51, 999), (52, 999)] T H H' ∧ ∃ z : Int, some (vI z) = r ∧ ((-2147483648) ≤ z ∧ z ≤ 2147483647) ∧ (wKI H' r0 = 1)
set_option maxHeartbeats 4000000 in
theorem s_263 {kt : Nat → Option mc_E} {T : wq_T} {H : wq_H} {r0 : Nat} {a1 : Int} {a2 : Int} (hW : WT T H) (g0 : T.2.2.2 r0 = some 42) (i1 : (-2147483648) ≤ a1 ∧ a1 ≤ 2147483647) (i2 : 0 ≤ a2 ∧ a2 ≤ 1) (p0 : wKI H r0 = 1) : wpc kt 9 263 [.ref r0, vI a1, vI a2] T H (q_263 r0 a1 a2 T H) := by
  refine wp_enter e263 (Nat.le_of_ble_eq_true rfl) rfl ?_
  have f0 : wfr [(42, 0), (42, 1), (42, 2), (42, 28), (42, 29), (51, 999), (52, 999)] T H H := wfr.rf
  show wp _ _ 263 0 [(0, .ref r0), (1, vI a1), (2, vI a2)] [] _ H _
  refine wp_of e263 c263_0 (rw_aload_n (pc' := 1) (v := .ref r0) rfl rfl rfl ?_)
  refine wp_of e263 c263_1 (rw_iconst (pc' := 2) rfl ?_)
  refine wp_of e263 c263_2 (xp_I (pc' := 5) lf_9_48 hW g0 sh_42 (by decide) (by decide) ty_42_0 rfl rfl (by omega) (by omega) ⟨by omega, by omega⟩ rfl (fun H144224 e144225 w144226 => ?_))
  have f144227 := f0.put' e144225 g0 rfl
  have k144228 : H144224 r0 0 = 0 := wq_u_s e144225
  refine wp_of e263 c263_5 (rw_aload_n (pc' := 6) (v := .ref r0) rfl rfl rfl ?_)
  refine wp_of e263 c263_6 (rw_aload_n (pc' := 7) (v := .ref r0) rfl rfl rfl ?_)
  refine wp_of e263 c263_7 (rw_iload_n (pc' := 8) (z := a1) rfl rfl ?_)
  refine wp_of e263 c263_8 (xc_V (pc' := 11) (r := r0) (as := [vI a1]) (st := [.ref r0]) (lm_9_364) rfl rfl (Nat.le_of_ble_eq_true rfl) w144226 g0 sh_42 (by decide) rfl (by decide) (s_213 w144226 g0 ⟨by omega, by omega⟩) (fun R144229 T144230 H144231 p144232 => ?_))
  obtain ⟨e144233, e144235, z144237, e144234, b144238, p144236⟩ := p144232
  subst e144233
  subst e144234
  subst e144235
  show wp _ _ 263 11 [(0, .ref r0), (1, vI a1), (2, vI a2)] [vI z144237, .ref r0] _ H144224 _
  have k144239 : wKI H144224 r0 = wKI H r0 := (wKI_fr hW g0 ((wfr.rf (l := [(42, 0)])).put' e144225 g0 rfl) rfl)
  refine wp_of e263 c263_11 (xc_V (pc' := 14) (r := r0) (as := [vI z144237]) (st := []) (lm_9_447) rfl rfl (Nat.le_of_ble_eq_true rfl) w144226 g0 sh_42 (by decide) rfl (by decide) (s_253 w144226 g0 ⟨by omega, by omega⟩ (by omega) (by omega)) (fun R144240 T144241 H144242 p144243 => ?_))
  obtain ⟨e144244, w144246, f144247, z144252, e144245, b144253, p144248, p144249, p144250, p144251⟩ := p144243
  subst e144244
  subst e144245
  have f144254 := f144227.tr f144247 rfl
  show wp _ _ 263 14 [(0, .ref r0), (1, vI a1), (2, vI a2)] [vI z144252] _ H144242 _
  refine wp_of e263 c263_14 (rw_istore_n (pc' := 15) (z := z144252) (L' := [(3, vI z144252), (0, .ref r0), (1, vI a1), (2, vI a2)]) rfl rfl rfl ?_)
  refine wp_of e263 c263_15 (rw_iload_n (pc' := 16) (z := z144252) rfl rfl ?_)
  refine wp_of e263 c263_16 (rw_if_le (p1 := 27) (p2 := 19) (by decide) rfl ⟨by omega, by omega⟩ (fun c144255 => ?_) (fun c144255 => ?_))
  · refine wp_of e263 c263_27 (rw_aload_n (pc' := 28) (v := .ref r0) rfl rfl rfl ?_)
    refine wp_of e263 c263_28 (rw_aload_n (pc' := 29) (v := .ref r0) rfl rfl rfl ?_)
    refine wp_of e263 c263_29 (rw_iload_n (pc' := 30) (z := a1) rfl rfl ?_)
    refine wp_of e263 c263_30 (rw_aload_n (pc' := 31) (v := .ref r0) rfl rfl rfl ?_)
    refine wp_of e263 c263_31 (xg_R (pc' := 34) lf_9_24 w144246 g0 sh_42 (by decide) (by decide) ty_42_22 rfl rfl (fun r144256 q144257 g144258 => ?_))
    refine wp_of e263 c263_34 (rw_iload_n (pc' := 35) (z := a2) rfl rfl ?_)
    have k144259 : H144242 r0 3 = H144224 r0 3 := (f144247 r0 3 _ g0 rfl)
    obtain ⟨r144260, q144261, g144262⟩ := (w144246.opt g0 (t' := 54) (n := 33) (j := 3) (p := 0) (q := 0) rfl (by decide) rfl).resolve_left (by omega)
    refine wp_of e263 c263_35 (xc_V (pc' := 38) (r := r0) (as := [vI a1, .ref r144256, vI a2]) (st := [.ref r0]) (lm_9_458) rfl rfl (Nat.le_of_ble_eq_true rfl) w144246 g0 sh_42 (by decide) rfl (by decide) (s_264_m_bed w144246 g0 ⟨by omega, by omega⟩ g144258 ⟨by omega, by omega⟩ q144261 g144262 (by omega)) (fun R144263 T144264 H144265 p144266 => ?_))
    obtain ⟨e144267, w144269, f144270, z144271, e144268, b144272⟩ := p144266
    subst e144267
    subst e144268
    have f144273 := f144254.tr f144270 rfl
    show wp _ _ 263 38 [(3, vI z144252), (0, .ref r0), (1, vI a1), (2, vI a2)] [vI z144271, .ref r0] _ H144265 _
    refine wp_of e263 c263_38 (xc_V (pc' := 41) (r := r0) (as := [vI z144271]) (st := []) (lm_9_58) rfl rfl (Nat.le_of_ble_eq_true rfl) w144269 g0 sh_42 (by decide) rfl (by decide) (s_209 w144269 g0 ⟨by omega, by omega⟩) (fun R144274 T144275 H144276 p144277 => ?_))
    obtain ⟨e144278, w144280, f144281, z144282, e144279, b144283⟩ := p144277
    subst e144278
    subst e144279
    have f144284 := f144273.tr f144281 rfl
    show wp _ _ 263 41 [(3, vI z144252), (0, .ref r0), (1, vI a1), (2, vI a2)] [vI z144282] _ H144276 _
    have k144285 : wKI H144276 r0 = wKI H144242 r0 := ((wKI_fr w144269 g0 f144281 rfl).trans (wKI_fr w144246 g0 f144270 rfl))
    exact wp_ireturn e263 c263_41 rfl ⟨rfl, w144280, f144284, z144282, rfl, ⟨by omega, by omega⟩, by omega⟩
  · refine wp_of e263 c263_19 (rw_aload_n (pc' := 20) (v := .ref r0) rfl rfl rfl ?_)
    refine wp_of e263 c263_20 (rw_iload_n (pc' := 21) (z := z144252) rfl rfl ?_)
    refine wp_of e263 c263_21 (xc_V (pc' := 24) (r := r0) (as := [vI z144252]) (st := []) (lm_9_54) rfl rfl (Nat.le_of_ble_eq_true rfl) w144246 g0 sh_42 (by decide) rfl (by decide) (s_170 w144246 g0 ⟨by omega, by omega⟩) (fun R144286 T144287 H144288 p144289 => ?_))
    obtain ⟨e144290, w144292, f144293, z144294, e144291, b144295⟩ := p144289
    subst e144290
    subst e144291
    have f144296 := f144254.tr f144293 rfl
    show wp _ _ 263 24 [(3, vI z144252), (0, .ref r0), (1, vI a1), (2, vI a2)] [vI z144294] _ H144288 _
    refine wp_of e263 c263_24 (rw_goto (p1 := 41) (by decide) ?_)
    have k144297 : wKI H144288 r0 = wKI H144242 r0 := (wKI_fr w144246 g0 f144293 rfl)
    exact wp_ireturn e263 c263_41 rfl ⟨rfl, w144292, f144296, z144294, rfl, ⟨by omega, by omega⟩, by omega⟩
/-! StrikeAwakeModel.sleeps(IZ)I -/
theorem e265 : wq_en 265 = some (9, 4, false, some FieldType.int) := rfl
theorem c265_0 : mc_cd 265 0 = some (.aload_n 0, 1) := by decide +kernel
theorem c265_1 : mc_cd 265 1 = some (.iconst 0, 1) := by decide +kernel
theorem c265_2 : mc_cd 265 2 = some (.putfield 48, 3) := by decide +kernel
theorem c265_5 : mc_cd 265 5 = some (.aload_n 0, 1) := by decide +kernel
theorem c265_6 : mc_cd 265 6 = some (.aload_n 0, 1) := by decide +kernel
theorem c265_7 : mc_cd 265 7 = some (.iload_n 1, 1) := by decide +kernel
theorem c265_8 : mc_cd 265 8 = some (.invokevirtual 364, 3) := by decide +kernel
theorem c265_11 : mc_cd 265 11 = some (.invokevirtual 447, 3) := by decide +kernel
theorem c265_14 : mc_cd 265 14 = some (.istore_n 3, 1) := by decide +kernel
theorem c265_15 : mc_cd 265 15 = some (.iload_n 3, 1) := by decide +kernel
theorem c265_16 : mc_cd 265 16 = some (.ifCond .le 11, 3) := by decide +kernel
theorem c265_19 : mc_cd 265 19 = some (.aload_n 0, 1) := by decide +kernel
theorem c265_20 : mc_cd 265 20 = some (.iload_n 3, 1) := by decide +kernel
theorem c265_21 : mc_cd 265 21 = some (.invokevirtual 54, 3) := by decide +kernel
theorem c265_24 : mc_cd 265 24 = some (.goto 17, 3) := by decide +kernel
theorem c265_27 : mc_cd 265 27 = some (.aload_n 0, 1) := by decide +kernel
theorem c265_28 : mc_cd 265 28 = some (.aload_n 0, 1) := by decide +kernel
theorem c265_29 : mc_cd 265 29 = some (.iload_n 1, 1) := by decide +kernel
theorem c265_30 : mc_cd 265 30 = some (.aload_n 0, 1) := by decide +kernel
theorem c265_31 : mc_cd 265 31 = some (.getfield 27, 3) := by decide +kernel
theorem c265_34 : mc_cd 265 34 = some (.iload_n 2, 1) := by decide +kernel
theorem c265_35 : mc_cd 265 35 = some (.invokevirtual 458, 3) := by decide +kernel
theorem c265_38 : mc_cd 265 38 = some (.invokevirtual 58, 3) := by decide +kernel
theorem c265_41 : mc_cd 265 41 = some (.ireturn, 1) := by decide +kernel
abbrev q_265 (r0 : Nat) (a1 : Int) (a2 : Int) (T : wq_T) (H : wq_H) : Option Value → wq_T → wq_H → Prop := fun r T' H' => T = T' ∧ WT T H' ∧ wfr [(42, 0), (42, 1), (42, 2), (42, 28), (42, 29), (51, 999), (52, 999)] T H H' ∧ ∃ z : Int, some (vI z) = r ∧ ((-2147483648) ≤ z ∧ z ≤ 2147483647) ∧ (wKI H' r0 = 1)
set_option maxHeartbeats 4000000 in
theorem s_265 {kt : Nat → Option mc_E} {T : wq_T} {H : wq_H} {r0 : Nat} {a1 : Int} {a2 : Int} (hW : WT T H) (g0 : T.2.2.2 r0 = some 42) (i1 : (-2147483648) ≤ a1 ∧ a1 ≤ 2147483647) (i2 : 0 ≤ a2 ∧ a2 ≤ 1) (p0 : wKI H r0 = 1) : wpc kt 9 265 [.ref r0, vI a1, vI a2] T H (q_265 r0 a1 a2 T H) := by
  refine wp_enter e265 (Nat.le_of_ble_eq_true rfl) rfl ?_
  have f0 : wfr [(42, 0), (42, 1), (42, 2), (42, 28), (42, 29), (51, 999), (52, 999)] T H H := wfr.rf
  show wp _ _ 265 0 [(0, .ref r0), (1, vI a1), (2, vI a2)] [] _ H _
  refine wp_of e265 c265_0 (rw_aload_n (pc' := 1) (v := .ref r0) rfl rfl rfl ?_)
  refine wp_of e265 c265_1 (rw_iconst (pc' := 2) rfl ?_)
  refine wp_of e265 c265_2 (xp_I (pc' := 5) lf_9_48 hW g0 sh_42 (by decide) (by decide) ty_42_0 rfl rfl (by omega) (by omega) ⟨by omega, by omega⟩ rfl (fun H144372 e144373 w144374 => ?_))
  have f144375 := f0.put' e144373 g0 rfl
  have k144376 : H144372 r0 0 = 0 := wq_u_s e144373
  refine wp_of e265 c265_5 (rw_aload_n (pc' := 6) (v := .ref r0) rfl rfl rfl ?_)
  refine wp_of e265 c265_6 (rw_aload_n (pc' := 7) (v := .ref r0) rfl rfl rfl ?_)
  refine wp_of e265 c265_7 (rw_iload_n (pc' := 8) (z := a1) rfl rfl ?_)
  refine wp_of e265 c265_8 (xc_V (pc' := 11) (r := r0) (as := [vI a1]) (st := [.ref r0]) (lm_9_364) rfl rfl (Nat.le_of_ble_eq_true rfl) w144374 g0 sh_42 (by decide) rfl (by decide) (s_213 w144374 g0 ⟨by omega, by omega⟩) (fun R144377 T144378 H144379 p144380 => ?_))
  obtain ⟨e144381, e144383, z144385, e144382, b144386, p144384⟩ := p144380
  subst e144381
  subst e144382
  subst e144383
  show wp _ _ 265 11 [(0, .ref r0), (1, vI a1), (2, vI a2)] [vI z144385, .ref r0] _ H144372 _
  have k144387 : wKI H144372 r0 = wKI H r0 := (wKI_fr hW g0 ((wfr.rf (l := [(42, 0)])).put' e144373 g0 rfl) rfl)
  refine wp_of e265 c265_11 (xc_V (pc' := 14) (r := r0) (as := [vI z144385]) (st := []) (lm_9_447) rfl rfl (Nat.le_of_ble_eq_true rfl) w144374 g0 sh_42 (by decide) rfl (by decide) (s_253 w144374 g0 ⟨by omega, by omega⟩ (by omega) (by omega)) (fun R144388 T144389 H144390 p144391 => ?_))
  obtain ⟨e144392, w144394, f144395, z144400, e144393, b144401, p144396, p144397, p144398, p144399⟩ := p144391
  subst e144392
  subst e144393
  have f144402 := f144375.tr f144395 rfl
  show wp _ _ 265 14 [(0, .ref r0), (1, vI a1), (2, vI a2)] [vI z144400] _ H144390 _
  refine wp_of e265 c265_14 (rw_istore_n (pc' := 15) (z := z144400) (L' := [(3, vI z144400), (0, .ref r0), (1, vI a1), (2, vI a2)]) rfl rfl rfl ?_)
  refine wp_of e265 c265_15 (rw_iload_n (pc' := 16) (z := z144400) rfl rfl ?_)
  refine wp_of e265 c265_16 (rw_if_le (p1 := 27) (p2 := 19) (by decide) rfl ⟨by omega, by omega⟩ (fun c144403 => ?_) (fun c144403 => ?_))
  · refine wp_of e265 c265_27 (rw_aload_n (pc' := 28) (v := .ref r0) rfl rfl rfl ?_)
    refine wp_of e265 c265_28 (rw_aload_n (pc' := 29) (v := .ref r0) rfl rfl rfl ?_)
    refine wp_of e265 c265_29 (rw_iload_n (pc' := 30) (z := a1) rfl rfl ?_)
    refine wp_of e265 c265_30 (rw_aload_n (pc' := 31) (v := .ref r0) rfl rfl rfl ?_)
    refine wp_of e265 c265_31 (xg_R (pc' := 34) lf_9_27 w144394 g0 sh_42 (by decide) (by decide) ty_42_23 rfl rfl (fun r144404 q144405 g144406 => ?_))
    refine wp_of e265 c265_34 (rw_iload_n (pc' := 35) (z := a2) rfl rfl ?_)
    have k144407 : H144390 r0 3 = H144372 r0 3 := (f144395 r0 3 _ g0 rfl)
    obtain ⟨r144408, q144409, g144410⟩ := (w144394.opt g0 (t' := 54) (n := 33) (j := 3) (p := 0) (q := 0) rfl (by decide) rfl).resolve_left (by omega)
    refine wp_of e265 c265_35 (xc_V (pc' := 38) (r := r0) (as := [vI a1, .ref r144404, vI a2]) (st := [.ref r0]) (lm_9_458) rfl rfl (Nat.le_of_ble_eq_true rfl) w144394 g0 sh_42 (by decide) rfl (by decide) (s_264_m_length w144394 g0 ⟨by omega, by omega⟩ g144406 ⟨by omega, by omega⟩ q144409 g144410 (by omega)) (fun R144411 T144412 H144413 p144414 => ?_))
    obtain ⟨e144415, w144417, f144418, z144419, e144416, b144420⟩ := p144414
    subst e144415
    subst e144416
    have f144421 := f144402.tr f144418 rfl
    show wp _ _ 265 38 [(3, vI z144400), (0, .ref r0), (1, vI a1), (2, vI a2)] [vI z144419, .ref r0] _ H144413 _
    refine wp_of e265 c265_38 (xc_V (pc' := 41) (r := r0) (as := [vI z144419]) (st := []) (lm_9_58) rfl rfl (Nat.le_of_ble_eq_true rfl) w144417 g0 sh_42 (by decide) rfl (by decide) (s_209 w144417 g0 ⟨by omega, by omega⟩) (fun R144422 T144423 H144424 p144425 => ?_))
    obtain ⟨e144426, w144428, f144429, z144430, e144427, b144431⟩ := p144425
    subst e144426
    subst e144427
    have f144432 := f144421.tr f144429 rfl
    show wp _ _ 265 41 [(3, vI z144400), (0, .ref r0), (1, vI a1), (2, vI a2)] [vI z144430] _ H144424 _
    have k144433 : wKI H144424 r0 = wKI H144390 r0 := ((wKI_fr w144417 g0 f144429 rfl).trans (wKI_fr w144394 g0 f144418 rfl))
    exact wp_ireturn e265 c265_41 rfl ⟨rfl, w144428, f144432, z144430, rfl, ⟨by omega, by omega⟩, by omega⟩
  · refine wp_of e265 c265_19 (rw_aload_n (pc' := 20) (v := .ref r0) rfl rfl rfl ?_)
    refine wp_of e265 c265_20 (rw_iload_n (pc' := 21) (z := z144400) rfl rfl ?_)
    refine wp_of e265 c265_21 (xc_V (pc' := 24) (r := r0) (as := [vI z144400]) (st := []) (lm_9_54) rfl rfl (Nat.le_of_ble_eq_true rfl) w144394 g0 sh_42 (by decide) rfl (by decide) (s_170 w144394 g0 ⟨by omega, by omega⟩) (fun R144434 T144435 H144436 p144437 => ?_))
    obtain ⟨e144438, w144440, f144441, z144442, e144439, b144443⟩ := p144437
    subst e144438
    subst e144439
    have f144444 := f144402.tr f144441 rfl
    show wp _ _ 265 24 [(3, vI z144400), (0, .ref r0), (1, vI a1), (2, vI a2)] [vI z144442] _ H144436 _
    refine wp_of e265 c265_24 (rw_goto (p1 := 41) (by decide) ?_)
    have k144445 : wKI H144436 r0 = wKI H144390 r0 := (wKI_fr w144394 g0 f144441 rfl)
    exact wp_ireturn e265 c265_41 rfl ⟨rfl, w144440, f144444, z144442, rfl, ⟨by omega, by omega⟩, by omega⟩
/-! StrikeAwakeModel.refusesAsking(Z)I -/
theorem e267 : wq_en 267 = some (9, 3, false, some FieldType.int) := rfl
theorem c267_0 : mc_cd 267 0 = some (.aload_n 0, 1) := by decide +kernel
theorem c267_1 : mc_cd 267 1 = some (.iload_n 1, 1) := by decide +kernel
theorem c267_2 : mc_cd 267 2 = some (.invokevirtual 447, 3) := by decide +kernel
theorem c267_5 : mc_cd 267 5 = some (.istore_n 2, 1) := by decide +kernel
theorem c267_6 : mc_cd 267 6 = some (.iload_n 2, 1) := by decide +kernel
theorem c267_7 : mc_cd 267 7 = some (.ifCond .ne 17, 3) := by decide +kernel
theorem c267_10 : mc_cd 267 10 = some (.aload_n 0, 1) := by decide +kernel
theorem c267_11 : mc_cd 267 11 = some (.getfield 422, 3) := by decide +kernel
theorem c267_14 : mc_cd 267 14 = some (.sipush 400, 3) := by decide +kernel
theorem c267_17 : mc_cd 267 17 = some (.if_icmp .le 7, 3) := by decide +kernel
theorem c267_20 : mc_cd 267 20 = some (.iconst 3, 1) := by decide +kernel
theorem c267_21 : mc_cd 267 21 = some (.goto 4, 3) := by decide +kernel
theorem c267_24 : mc_cd 267 24 = some (.iload_n 2, 1) := by decide +kernel
theorem c267_25 : mc_cd 267 25 = some (.ireturn, 1) := by decide +kernel
abbrev q_267 (r0 : Nat) (a1 : Int) (T : wq_T) (H : wq_H) : Option Value → wq_T → wq_H → Prop := fun r T' H' => T = T' ∧ WT T H' ∧ wfr [(42, 28), (42, 29), (51, 999), (52, 999)] T H H' ∧ ∃ z : Int, some (vI z) = r ∧ (0 ≤ z ∧ z ≤ 6) ∧ (z ≠ 0 ∨ a1 = 1) ∧ (z ≠ 0 ∨ wLM H' r0 ≤ 20000) ∧ (wKI H' r0 = 1) ∧ (z ≠ 0 ∨ (0 < H' r0 29 ∧ 0 < wLM H' r0))
set_option maxHeartbeats 4000000 in
theorem s_267 {kt : Nat → Option mc_E} {T : wq_T} {H : wq_H} {r0 : Nat} {a1 : Int} (hW : WT T H) (g0 : T.2.2.2 r0 = some 42) (i1 : 0 ≤ a1 ∧ a1 ≤ 1) (p0 : a1 = 0 ∨ H r0 3 ≠ -1) (p1 : wKI H r0 = 1) : wpc kt 9 267 [.ref r0, vI a1] T H (q_267 r0 a1 T H) := by
  refine wp_enter e267 (Nat.le_of_ble_eq_true rfl) rfl ?_
  have f0 : wfr [(42, 28), (42, 29), (51, 999), (52, 999)] T H H := wfr.rf
  show wp _ _ 267 0 [(0, .ref r0), (1, vI a1)] [] _ H _
  refine wp_of e267 c267_0 (rw_aload_n (pc' := 1) (v := .ref r0) rfl rfl rfl ?_)
  refine wp_of e267 c267_1 (rw_iload_n (pc' := 2) (z := a1) rfl rfl ?_)
  refine wp_of e267 c267_2 (xc_V (pc' := 5) (r := r0) (as := [vI a1]) (st := []) (lm_9_447) rfl rfl (Nat.le_of_ble_eq_true rfl) hW g0 sh_42 (by decide) rfl (by decide) (s_253 hW g0 ⟨by omega, by omega⟩ (by omega) (by omega)) (fun R144465 T144466 H144467 p144468 => ?_))
  obtain ⟨e144469, w144471, f144472, z144477, e144470, b144478, p144473, p144474, p144475, p144476⟩ := p144468
  subst e144469
  subst e144470
  have f144479 := f0.tr f144472 rfl
  show wp _ _ 267 5 [(0, .ref r0), (1, vI a1)] [vI z144477] _ H144467 _
  refine wp_of e267 c267_5 (rw_istore_n (pc' := 6) (z := z144477) (L' := [(2, vI z144477), (0, .ref r0), (1, vI a1)]) rfl rfl rfl ?_)
  refine wp_of e267 c267_6 (rw_iload_n (pc' := 7) (z := z144477) rfl rfl ?_)
  refine wp_of e267 c267_7 (rw_if_ne (p1 := 24) (p2 := 10) (by decide) rfl ⟨by omega, by omega⟩ (fun c144480 => ?_) (fun c144480 => ?_))
  · refine wp_of e267 c267_24 (rw_iload_n (pc' := 25) (z := z144477) rfl rfl ?_)
    exact wp_ireturn e267 c267_25 rfl ⟨rfl, w144471, f144479, z144477, rfl, ⟨by omega, by omega⟩, by omega, by omega, by omega, by omega⟩
  · refine wp_of e267 c267_10 (rw_aload_n (pc' := 11) (v := .ref r0) rfl rfl rfl ?_)
    refine wp_of e267 c267_11 (xg_I (pc' := 14) lf_9_422 w144471 g0 sh_42 (by decide) (by decide) ty_42_29 rfl rfl (fun b144481 b144482 => ?_))
    refine wp_of e267 c267_14 (rw_sipush (pc' := 17) (z := 400) rfl (by decide) ?_)
    refine wp_of e267 c267_17 (rw_icmp_le (p1 := 24) (p2 := 20) (by decide) rfl ⟨by omega, by omega⟩ ⟨by omega, by omega⟩ (fun c144483 => ?_) (fun c144483 => ?_))
    · refine wp_of e267 c267_24 (rw_iload_n (pc' := 25) (z := z144477) rfl rfl ?_)
      exact wp_ireturn e267 c267_25 rfl ⟨rfl, w144471, f144479, z144477, rfl, ⟨by omega, by omega⟩, by omega, by omega, by omega, by omega⟩
    · refine wp_of e267 c267_20 (rw_iconst (pc' := 21) rfl ?_)
      refine wp_of e267 c267_21 (rw_goto (p1 := 25) (by decide) ?_)
      exact wp_ireturn e267 c267_25 rfl ⟨rfl, w144471, f144479, 3, rfl, ⟨by omega, by omega⟩, by omega, by omega, by omega, by omega⟩
/-! StrikeAwakeModel.bits(I)I -/
theorem e269 : wq_en 269 = some (9, 3, false, some FieldType.int) := rfl
theorem c269_0 : mc_cd 269 0 = some (.iconst 0, 1) := by decide +kernel
theorem c269_1 : mc_cd 269 1 = some (.istore_n 1, 1) := by decide +kernel
theorem c269_2 : mc_cd 269 2 = some (.iload_n 0, 1) := by decide +kernel
theorem c269_3 : mc_cd 269 3 = some (.istore_n 2, 1) := by decide +kernel
theorem c269_4 : mc_cd 269 4 = some (.iload_n 2, 1) := by decide +kernel
theorem c269_5 : mc_cd 269 5 = some (.ifCond .eq 15, 3) := by decide +kernel
theorem c269_8 : mc_cd 269 8 = some (.iinc 1 1, 3) := by decide +kernel
theorem c269_11 : mc_cd 269 11 = some (.iload_n 2, 1) := by decide +kernel
theorem c269_12 : mc_cd 269 12 = some (.iload_n 2, 1) := by decide +kernel
theorem c269_13 : mc_cd 269 13 = some (.iconst 1, 1) := by decide +kernel
theorem c269_14 : mc_cd 269 14 = some (.isub, 1) := by decide +kernel
theorem c269_15 : mc_cd 269 15 = some (.iand, 1) := by decide +kernel
theorem c269_16 : mc_cd 269 16 = some (.istore_n 2, 1) := by decide +kernel
theorem c269_17 : mc_cd 269 17 = some (.goto (-13), 3) := by decide +kernel
theorem c269_20 : mc_cd 269 20 = some (.iload_n 1, 1) := by decide +kernel
theorem c269_21 : mc_cd 269 21 = some (.ireturn, 1) := by decide +kernel
abbrev q_269 (a0 : Int) (T : wq_T) (H : wq_H) : Option Value → wq_T → wq_H → Prop := fun r T' H' => T = T' ∧ H = H' ∧ ∃ z : Int, some (vI z) = r ∧ (0 ≤ z ∧ z ≤ 16777215)
set_option maxHeartbeats 4000000 in
theorem s_269 {kt : Nat → Option mc_E} {T : wq_T} {H : wq_H} {a0 : Int} (hW : WT T H) (i0 : 0 ≤ a0 ∧ a0 ≤ 16777215) : wpc kt 1 269 [vI a0] T H (q_269 a0 T H) := by
  refine wp_enter e269 (Nat.le_of_ble_eq_true rfl) rfl ?_
  show wp _ _ 269 0 [(0, vI a0)] [] _ H _
  refine wp_of e269 c269_0 (rw_iconst (pc' := 1) rfl ?_)
  refine wp_of e269 c269_1 (rw_istore_n (pc' := 2) (z := 0) (L' := [(1, vI 0), (0, vI a0)]) rfl rfl rfl ?_)
  refine wp_of e269 c269_2 (rw_iload_n (pc' := 3) (z := a0) rfl rfl ?_)
  refine wp_of e269 c269_3 (rw_istore_n (pc' := 4) (z := a0) (L' := [(2, vI a0), (1, vI 0), (0, vI a0)]) rfl rfl rfl ?_)
  have lp144536 : ∀ (n144537 : Nat) (v144539 : Int) (v144540 : Int), (0 ≤ v144539 ∧ v144539 ≤ 16777215) → (0 ≤ v144540 ∧ v144540 ≤ 16777215) → (v144540 + v144539 ≤ a0) → (v144539).toNat = n144537 → wp kt 0 269 4 [(2, vI v144539), (1, vI v144540)] [] T H (q_269 a0 T H) := by
    intro n144537
    induction n144537 using Nat.strongRecOn with
    | _ n144537 ih144538 =>
      intro v144539 v144540 b144543 b144544 x144545 m144546
      refine wp_of e269 c269_4 (rw_iload_n (pc' := 5) (z := v144539) rfl rfl ?_)
      refine wp_of e269 c269_5 (rw_if_eq (p1 := 20) (p2 := 8) (by decide) rfl ⟨by omega, by omega⟩ (fun c144547 => ?_) (fun c144547 => ?_))
      · refine wp_of e269 c269_20 (rw_iload_n (pc' := 21) (z := v144540) rfl rfl ?_)
        exact wp_ireturn e269 c269_21 rfl ⟨rfl, rfl, v144540, rfl, ⟨by omega, by omega⟩⟩
      · refine wp_of e269 c269_8 (rw_iinc (pc' := 11) (z := v144540) (L' := [(1, vI (v144540 + 1)), (2, vI v144539)]) rfl rfl rfl rfl ?_)
        refine wp_of e269 c269_11 (rw_iload_n (pc' := 12) (z := v144539) rfl rfl ?_)
        refine wp_of e269 c269_12 (rw_iload_n (pc' := 13) (z := v144539) rfl rfl ?_)
        refine wp_of e269 c269_13 (rw_iconst (pc' := 14) rfl ?_)
        refine wp_of e269 c269_14 (rw_isub (pc' := 15) rfl ?_)
        refine wp_of e269 c269_15 (rw_iand (pc' := 16) rfl ?_)
        obtain ⟨v144548, e144549⟩ : ∃ x : Int, x = wq_and v144539 (v144539 - 1) := ⟨_, rfl⟩
        rw [← e144549]
        have b144550 : 0 ≤ v144548 ∧ v144548 ≤ (v144539 - 1) := by
          rw [e144549]
          exact wq_and_b _ (by omega) (by omega)
        refine wp_of e269 c269_16 (rw_istore_n (pc' := 17) (z := v144548) (L' := [(2, vI v144548), (1, vI (v144540 + 1))]) rfl rfl rfl ?_)
        refine wp_of e269 c269_17 (rw_goto (p1 := 4) (by decide) ?_)
        exact wp_lc (ks := [2, 1]) (wl_c rfl (wl_c rfl wl_n)) rfl (by decide) (ih144538 _ (by omega) v144548 (v144540 + 1) ⟨by omega, by omega⟩ ⟨by omega, by omega⟩ (by omega) rfl)
  exact wp_lc (ks := [2, 1, 0]) (wl_c rfl (wl_c rfl wl_n)) rfl (by decide) (lp144536 _ a0 0 ⟨by omega, by omega⟩ ⟨by omega, by omega⟩ (by omega) rfl)
/-! StrikeAwakeModel.tells(II)Z -/
theorem e270 : wq_en 270 = some (9, 7, false, some FieldType.boolean) := rfl
theorem c270_0 : mc_cd 270 0 = some (.iconst 0, 1) := by decide +kernel
theorem c270_1 : mc_cd 270 1 = some (.istore_n 3, 1) := by decide +kernel
theorem c270_2 : mc_cd 270 2 = some (.iload_n 3, 1) := by decide +kernel
theorem c270_3 : mc_cd 270 3 = some (.aload_n 0, 1) := by decide +kernel
theorem c270_4 : mc_cd 270 4 = some (.getfield 422, 3) := by decide +kernel
theorem c270_7 : mc_cd 270 7 = some (.if_icmp .ge 175, 3) := by decide +kernel
theorem c270_10 : mc_cd 270 10 = some (.aload_n 0, 1) := by decide +kernel
theorem c270_11 : mc_cd 270 11 = some (.aload_n 0, 1) := by decide +kernel
theorem c270_12 : mc_cd 270 12 = some (.getfield 42, 3) := by decide +kernel
theorem c270_15 : mc_cd 270 15 = some (.iload_n 3, 1) := by decide +kernel
theorem c270_16 : mc_cd 270 16 = some (.iaload, 1) := by decide +kernel
theorem c270_17 : mc_cd 270 17 = some (.invokevirtual 425, 3) := by decide +kernel
theorem c270_20 : mc_cd 270 20 = some (.iconst 0, 1) := by decide +kernel
theorem c270_21 : mc_cd 270 21 = some (.istore 4, 2) := by decide +kernel
theorem c270_23 : mc_cd 270 23 = some (.iload 4, 2) := by decide +kernel
theorem c270_25 : mc_cd 270 25 = some (.aload_n 0, 1) := by decide +kernel
theorem c270_26 : mc_cd 270 26 = some (.getfield 337, 3) := by decide +kernel
theorem c270_29 : mc_cd 270 29 = some (.getfield 188, 3) := by decide +kernel
theorem c270_32 : mc_cd 270 32 = some (.if_icmp .ge 23, 3) := by decide +kernel
theorem c270_35 : mc_cd 270 35 = some (.aload_n 0, 1) := by decide +kernel
theorem c270_36 : mc_cd 270 36 = some (.getfield 45, 3) := by decide +kernel
theorem c270_39 : mc_cd 270 39 = some (.iload 4, 2) := by decide +kernel
theorem c270_41 : mc_cd 270 41 = some (.aload_n 0, 1) := by decide +kernel
theorem c270_42 : mc_cd 270 42 = some (.getfield 39, 3) := by decide +kernel
theorem c270_45 : mc_cd 270 45 = some (.iload 4, 2) := by decide +kernel
theorem c270_47 : mc_cd 270 47 = some (.iaload, 1) := by decide +kernel
theorem c270_48 : mc_cd 270 48 = some (.iastore, 1) := by decide +kernel
theorem c270_49 : mc_cd 270 49 = some (.iinc 4 1, 3) := by decide +kernel
theorem c270_52 : mc_cd 270 52 = some (.goto (-29), 3) := by decide +kernel
theorem c270_55 : mc_cd 270 55 = some (.iconst 0, 1) := by decide +kernel
theorem c270_56 : mc_cd 270 56 = some (.istore 4, 2) := by decide +kernel
theorem c270_58 : mc_cd 270 58 = some (.iload 4, 2) := by decide +kernel
theorem c270_60 : mc_cd 270 60 = some (.iload_n 3, 1) := by decide +kernel
theorem c270_61 : mc_cd 270 61 = some (.if_icmp .ge 115, 3) := by decide +kernel
theorem c270_64 : mc_cd 270 64 = some (.aload_n 0, 1) := by decide +kernel
theorem c270_65 : mc_cd 270 65 = some (.aload_n 0, 1) := by decide +kernel
theorem c270_66 : mc_cd 270 66 = some (.getfield 42, 3) := by decide +kernel
theorem c270_69 : mc_cd 270 69 = some (.iload 4, 2) := by decide +kernel
theorem c270_71 : mc_cd 270 71 = some (.iaload, 1) := by decide +kernel
theorem c270_72 : mc_cd 270 72 = some (.invokevirtual 425, 3) := by decide +kernel
theorem c270_75 : mc_cd 270 75 = some (.iconst 1, 1) := by decide +kernel
theorem c270_76 : mc_cd 270 76 = some (.istore 5, 2) := by decide +kernel
theorem c270_78 : mc_cd 270 78 = some (.iconst 0, 1) := by decide +kernel
theorem c270_79 : mc_cd 270 79 = some (.istore 6, 2) := by decide +kernel
theorem c270_81 : mc_cd 270 81 = some (.iload 6, 2) := by decide +kernel
theorem c270_83 : mc_cd 270 83 = some (.aload_n 0, 1) := by decide +kernel
theorem c270_84 : mc_cd 270 84 = some (.getfield 337, 3) := by decide +kernel
theorem c270_87 : mc_cd 270 87 = some (.getfield 188, 3) := by decide +kernel
theorem c270_90 : mc_cd 270 90 = some (.if_icmp .ge 47, 3) := by decide +kernel
theorem c270_93 : mc_cd 270 93 = some (.iload 5, 2) := by decide +kernel
theorem c270_95 : mc_cd 270 95 = some (.ifCond .eq 33, 3) := by decide +kernel
theorem c270_98 : mc_cd 270 98 = some (.iload_n 1, 1) := by decide +kernel
theorem c270_99 : mc_cd 270 99 = some (.iload 6, 2) := by decide +kernel
theorem c270_101 : mc_cd 270 101 = some (.invokestatic 346, 3) := by decide +kernel
theorem c270_104 : mc_cd 270 104 = some (.ifCond .eq 20, 3) := by decide +kernel
theorem c270_107 : mc_cd 270 107 = some (.aload_n 0, 1) := by decide +kernel
theorem c270_108 : mc_cd 270 108 = some (.getfield 39, 3) := by decide +kernel
theorem c270_111 : mc_cd 270 111 = some (.iload 6, 2) := by decide +kernel
theorem c270_113 : mc_cd 270 113 = some (.iaload, 1) := by decide +kernel
theorem c270_114 : mc_cd 270 114 = some (.aload_n 0, 1) := by decide +kernel
theorem c270_115 : mc_cd 270 115 = some (.getfield 45, 3) := by decide +kernel
theorem c270_118 : mc_cd 270 118 = some (.iload 6, 2) := by decide +kernel
theorem c270_120 : mc_cd 270 120 = some (.iaload, 1) := by decide +kernel
theorem c270_121 : mc_cd 270 121 = some (.if_icmp .ne 7, 3) := by decide +kernel
theorem c270_124 : mc_cd 270 124 = some (.iconst 1, 1) := by decide +kernel
theorem c270_125 : mc_cd 270 125 = some (.goto 4, 3) := by decide +kernel
theorem c270_128 : mc_cd 270 128 = some (.iconst 0, 1) := by decide +kernel
theorem c270_129 : mc_cd 270 129 = some (.istore 5, 2) := by decide +kernel
theorem c270_131 : mc_cd 270 131 = some (.iinc 6 1, 3) := by decide +kernel
theorem c270_134 : mc_cd 270 134 = some (.goto (-53), 3) := by decide +kernel
theorem c270_137 : mc_cd 270 137 = some (.iload 5, 2) := by decide +kernel
theorem c270_139 : mc_cd 270 139 = some (.ifCond .eq 31, 3) := by decide +kernel
theorem c270_142 : mc_cd 270 142 = some (.iload_n 2, 1) := by decide +kernel
theorem c270_143 : mc_cd 270 143 = some (.iconst (-1), 1) := by decide +kernel
theorem c270_144 : mc_cd 270 144 = some (.if_icmp .eq 24, 3) := by decide +kernel
theorem c270_147 : mc_cd 270 147 = some (.aload_n 0, 1) := by decide +kernel
theorem c270_148 : mc_cd 270 148 = some (.aload_n 0, 1) := by decide +kernel
theorem c270_149 : mc_cd 270 149 = some (.getfield 39, 3) := by decide +kernel
theorem c270_152 : mc_cd 270 152 = some (.iload_n 2, 1) := by decide +kernel
theorem c270_153 : mc_cd 270 153 = some (.invokevirtual 455, 3) := by decide +kernel
theorem c270_156 : mc_cd 270 156 = some (.aload_n 0, 1) := by decide +kernel
theorem c270_157 : mc_cd 270 157 = some (.aload_n 0, 1) := by decide +kernel
theorem c270_158 : mc_cd 270 158 = some (.getfield 45, 3) := by decide +kernel
theorem c270_161 : mc_cd 270 161 = some (.iload_n 2, 1) := by decide +kernel
theorem c270_162 : mc_cd 270 162 = some (.invokevirtual 455, 3) := by decide +kernel
theorem c270_165 : mc_cd 270 165 = some (.if_icmp .eq 5, 3) := by decide +kernel
theorem c270_168 : mc_cd 270 168 = some (.iconst 0, 1) := by decide +kernel
theorem c270_169 : mc_cd 270 169 = some (.ireturn, 1) := by decide +kernel
theorem c270_170 : mc_cd 270 170 = some (.iinc 4 1, 3) := by decide +kernel
theorem c270_173 : mc_cd 270 173 = some (.goto (-115), 3) := by decide +kernel
theorem c270_176 : mc_cd 270 176 = some (.iinc 3 1, 3) := by decide +kernel
theorem c270_179 : mc_cd 270 179 = some (.goto (-177), 3) := by decide +kernel
theorem c270_182 : mc_cd 270 182 = some (.iconst 1, 1) := by decide +kernel
theorem c270_183 : mc_cd 270 183 = some (.ireturn, 1) := by decide +kernel
abbrev q_270 (r0 : Nat) (a1 : Int) (a2 : Int) (pp : Nat) (T : wq_T) (H : wq_H) : Option Value → wq_T → wq_H → Prop := fun r T' H' => T = T' ∧ WT T H' ∧ wfr [(51, 999), (53, 999)] T H H' ∧ ∃ z : Int, some (vI z) = r ∧ (0 ≤ z ∧ z ≤ 1)
set_option maxHeartbeats 4000000 in
theorem s_270 {kt : Nat → Option mc_E} {T : wq_T} {H : wq_H} {r0 : Nat} {a1 : Int} {a2 : Int} {pp : Nat} (hW : WT T H) (g0 : T.2.2.2 r0 = some 42) (i1 : (-2147483648) ≤ a1 ∧ a1 ≤ 2147483647) (i2 : (-2147483648) ≤ a2 ∧ a2 ≤ 2147483647) (qpp : H r0 3 = (pp : Int)) (gpp : T.2.2.2 pp = some 54) (p0 : H r0 29 = 0 ∨ 0 < wLM H r0) : wpc kt 3 270 [.ref r0, vI a1, vI a2] T H (q_270 r0 a1 a2 pp T H) := by
  refine wp_enter e270 (Nat.le_of_ble_eq_true rfl) rfl ?_
  have f0 : wfr [(51, 999), (53, 999)] T H H := wfr.rf
  show wp _ _ 270 0 [(0, .ref r0), (1, vI a1), (2, vI a2)] [] _ H _
  have b159704 : 0 ≤ H r0 29 ∧ H r0 29 ≤ 20000 := hW.box g0 (n := 33) rfl (by decide) rfl
  refine wp_of e270 c270_0 (rw_iconst (pc' := 1) rfl ?_)
  refine wp_of e270 c270_1 (rw_istore_n (pc' := 2) (z := 0) (L' := [(3, vI 0), (0, .ref r0), (1, vI a1), (2, vI a2)]) rfl rfl rfl ?_)
  have lp172277 : ∀ (n172278 : Nat) (v172280 : Int) (H172281 : wq_H), WT T H172281 → wfr [(51, 999), (53, 999)] T H H172281 → (0 ≤ v172280 ∧ v172280 ≤ 20000) → (20000 - v172280).toNat = n172278 → wp kt 2 270 2 [(3, vI v172280), (0, .ref r0), (1, vI a1), (2, vI a2)] [] T H172281 (q_270 r0 a1 a2 pp T H) := by
    intro n172278
    induction n172278 using Nat.strongRecOn with
    | _ n172278 ih172279 =>
      intro v172280 H172281 w172282 f172283 b172284 m172285
      have f172286 := f0.tr f172283 rfl
      refine wp_of e270 c270_2 (rw_iload_n (pc' := 3) (z := v172280) rfl rfl ?_)
      refine wp_of e270 c270_3 (rw_aload_n (pc' := 4) (v := .ref r0) rfl rfl rfl ?_)
      have k172287 : H172281 r0 29 = H r0 29 := (f172283 r0 29 _ g0 rfl)
      refine wp_of e270 c270_4 (xg_I (pc' := 7) lf_9_422 w172282 g0 sh_42 (by decide) (by decide) ty_42_29 rfl rfl (fun b172288 b172289 => ?_))
      refine wp_of e270 c270_7 (rw_icmp_ge (p1 := 182) (p2 := 10) (by decide) rfl ⟨by omega, by omega⟩ ⟨by omega, by omega⟩ (fun c172290 => ?_) (fun c172290 => ?_))
      · refine wp_of e270 c270_182 (rw_iconst (pc' := 183) rfl ?_)
        exact wp_zreturn e270 c270_183 rfl (by omega) ⟨rfl, w172282, f172286, 1, rfl, ⟨by omega, by omega⟩⟩
      · refine wp_of e270 c270_10 (rw_aload_n (pc' := 11) (v := .ref r0) rfl rfl rfl ?_)
        refine wp_of e270 c270_11 (rw_aload_n (pc' := 12) (v := .ref r0) rfl rfl rfl ?_)
        refine wp_of e270 c270_12 (xg_R (pc' := 15) lf_9_42 w172282 g0 sh_42 (by decide) (by decide) ty_42_30 rfl rfl (fun r172291 q172292 g172293 => ?_))
        refine wp_of e270 c270_15 (rw_iload_n (pc' := 16) (z := v172280) rfl rfl ?_)
        refine wp_of e270 c270_16 (xa_I (so := 0) (pc' := 17) w172282 g172293 sh_52 (by decide) (ty_52 _) (by omega) (by omega) rfl (fun b172294 b172295 => ?_))
        have k172296 : wLM H172281 r0 = wLM H r0 := (wLM_fr hW g0 f172283 rfl)
        have k172297 : H172281 r0 3 = H r0 3 := (f172283 r0 3 _ g0 rfl)
        have q172298 : H172281 r0 3 = (pp : Int) := k172297.trans qpp
        refine wp_of e270 c270_17 (xc_V (pc' := 20) (r := r0) (as := [vI (H172281 r172291 (v172280.toNat))]) (st := []) (lm_9_425) rfl rfl (Nat.le_of_ble_eq_true rfl) w172282 g0 sh_42 (by decide) rfl (by decide) (s_243 w172282 g0 ⟨by omega, by omega⟩ q172298 gpp (by omega)) (fun R172299 T172300 H172301 p172302 => ?_))
        obtain ⟨e172303, w172305, f172306, e172304⟩ := p172302
        subst e172303
        subst e172304
        have f172307 := f172286.tr f172306 rfl
        have f172308 := f172283.tr f172306 rfl
        show wp _ _ 270 20 [(3, vI v172280), (0, .ref r0), (1, vI a1), (2, vI a2)] [] _ H172301 _
        refine wp_of e270 c270_20 (rw_iconst (pc' := 21) rfl ?_)
        refine wp_of e270 c270_21 (rw_istore (pc' := 23) (z := 0) (L' := [(4, vI 0), (3, vI v172280), (0, .ref r0), (1, vI a1), (2, vI a2)]) rfl rfl rfl ?_)
        have lp172435 : ∀ (n172436 : Nat) (v172438 : Int) (H172439 : wq_H), WT T H172439 → wfr [(53, 999)] T H172301 H172439 → (0 ≤ v172438 ∧ v172438 ≤ 6) → (6 - v172438).toNat = n172436 → wp kt 2 270 23 [(4, vI v172438), (3, vI v172280), (0, .ref r0), (1, vI a1), (2, vI a2)] [] T H172439 (q_270 r0 a1 a2 pp T H) := by
          intro n172436
          induction n172436 using Nat.strongRecOn with
          | _ n172436 ih172437 =>
            intro v172438 H172439 w172440 f172441 b172442 m172443
            have f172444 := f172307.tr f172441 rfl
            have f172445 := f172308.tr f172441 rfl
            refine wp_of e270 c270_23 (rw_iload (pc' := 25) (z := v172438) rfl rfl ?_)
            refine wp_of e270 c270_25 (rw_aload_n (pc' := 26) (v := .ref r0) rfl rfl rfl ?_)
            have k172446 : H172439 r0 3 = H172281 r0 3 := ((f172441 r0 3 _ g0 rfl).trans (f172306 r0 3 _ g0 rfl))
            have q172447 : H172439 r0 3 = (pp : Int) := k172446.trans q172298
            refine wp_of e270 c270_26 (xg_K (pc' := 29) lf_9_337 w172440 g0 sh_42 (by decide) (by decide) rfl q172447 rfl ?_)
            refine wp_of e270 c270_29 (xg_I (pc' := 32) lf_9_188 w172440 gpp sh_54 (by decide) (by decide) ty_54_3 rfl rfl (fun b172448 b172449 => ?_))
            refine wp_of e270 c270_32 (rw_icmp_ge (p1 := 55) (p2 := 35) (by decide) rfl ⟨by omega, by omega⟩ ⟨by omega, by omega⟩ (fun c172450 => ?_) (fun c172450 => ?_))
            · refine wp_of e270 c270_55 (rw_iconst (pc' := 56) rfl ?_)
              refine wp_of e270 c270_56 (rw_istore (pc' := 58) (z := 0) (L' := [(4, vI 0), (3, vI v172280), (0, .ref r0), (1, vI a1), (2, vI a2)]) rfl rfl rfl ?_)
              have lp174611 : ∀ (n174612 : Nat) (v174614 : Int) (H174615 : wq_H), WT T H174615 → wfr [(51, 999)] T H172439 H174615 → (0 ≤ v174614 ∧ v174614 ≤ 19999) → (19999 - v174614).toNat = n174612 → wp kt 2 270 58 [(4, vI v174614), (3, vI v172280), (0, .ref r0), (1, vI a1), (2, vI a2)] [] T H174615 (q_270 r0 a1 a2 pp T H) := by
                intro n174612
                induction n174612 using Nat.strongRecOn with
                | _ n174612 ih174613 =>
                  intro v174614 H174615 w174616 f174617 b174618 m174619
                  have f174620 := f172444.tr f174617 rfl
                  have f174621 := f172445.tr f174617 rfl
                  refine wp_of e270 c270_58 (rw_iload (pc' := 60) (z := v174614) rfl rfl ?_)
                  refine wp_of e270 c270_60 (rw_iload_n (pc' := 61) (z := v172280) rfl rfl ?_)
                  refine wp_of e270 c270_61 (rw_icmp_ge (p1 := 176) (p2 := 64) (by decide) rfl ⟨by omega, by omega⟩ ⟨by omega, by omega⟩ (fun c174622 => ?_) (fun c174622 => ?_))
                  · refine wp_of e270 c270_176 (rw_iinc (pc' := 179) (z := v172280) (L' := [(3, vI (v172280 + 1)), (4, vI v174614), (0, .ref r0), (1, vI a1), (2, vI a2)]) rfl rfl rfl rfl ?_)
                    refine wp_of e270 c270_179 (rw_goto (p1 := 2) (by decide) ?_)
                    exact wp_lc (ks := [3, 4, 0, 1, 2]) (wl_c rfl (wl_c rfl (wl_c rfl (wl_c rfl wl_n)))) rfl (by decide) (ih172279 _ (by omega) (v172280 + 1) H174615 w174616 f174621 ⟨by omega, by omega⟩ rfl)
                  · refine wp_of e270 c270_64 (rw_aload_n (pc' := 65) (v := .ref r0) rfl rfl rfl ?_)
                    refine wp_of e270 c270_65 (rw_aload_n (pc' := 66) (v := .ref r0) rfl rfl rfl ?_)
                    have k174623 : H174615 r0 30 = H172281 r0 30 := ((f174617 r0 30 _ g0 rfl).trans ((f172441 r0 30 _ g0 rfl).trans (f172306 r0 30 _ g0 rfl)))
                    have q174624 : H174615 r0 30 = (r172291 : Int) := k174623.trans q172292
                    refine wp_of e270 c270_66 (xg_K (pc' := 69) lf_9_42 w174616 g0 sh_42 (by decide) (by decide) rfl q174624 rfl ?_)
                    refine wp_of e270 c270_69 (rw_iload (pc' := 71) (z := v174614) rfl rfl ?_)
                    refine wp_of e270 c270_71 (xa_I (so := 0) (pc' := 72) w174616 g172293 sh_52 (by decide) (ty_52 _) (by omega) (by omega) rfl (fun b174625 b174626 => ?_))
                    have k174627 : wLM H174615 r0 = wLM H172281 r0 := ((wLM_fr w172440 g0 f174617 rfl).trans ((wLM_fr w172305 g0 f172441 rfl).trans (wLM_fr w172282 g0 f172306 rfl)))
                    have k174628 : H174615 r0 3 = H172439 r0 3 := (f174617 r0 3 _ g0 rfl)
                    have q174629 : H174615 r0 3 = (pp : Int) := k174628.trans q172447
                    refine wp_of e270 c270_72 (xc_V (pc' := 75) (r := r0) (as := [vI (H174615 r172291 (v174614.toNat))]) (st := []) (lm_9_425) rfl rfl (Nat.le_of_ble_eq_true rfl) w174616 g0 sh_42 (by decide) rfl (by decide) (s_243 w174616 g0 ⟨by omega, by omega⟩ q174629 gpp (by omega)) (fun R174630 T174631 H174632 p174633 => ?_))
                    obtain ⟨e174634, w174636, f174637, e174635⟩ := p174633
                    subst e174634
                    subst e174635
                    have f174638 := f174620.tr f174637 rfl
                    have f174639 := f174621.tr f174637 rfl
                    have f174640 := f174617.tr f174637 rfl
                    show wp _ _ 270 75 [(4, vI v174614), (3, vI v172280), (0, .ref r0), (1, vI a1), (2, vI a2)] [] _ H174632 _
                    refine wp_of e270 c270_75 (rw_iconst (pc' := 76) rfl ?_)
                    refine wp_of e270 c270_76 (rw_istore (pc' := 78) (z := 1) (L' := [(5, vI 1), (4, vI v174614), (3, vI v172280), (0, .ref r0), (1, vI a1), (2, vI a2)]) rfl rfl rfl ?_)
                    refine wp_of e270 c270_78 (rw_iconst (pc' := 79) rfl ?_)
                    refine wp_of e270 c270_79 (rw_istore (pc' := 81) (z := 0) (L' := [(6, vI 0), (5, vI 1), (4, vI v174614), (3, vI v172280), (0, .ref r0), (1, vI a1), (2, vI a2)]) rfl rfl rfl ?_)
                    have lp174837 : ∀ (n174838 : Nat) (v174840 : Int) (v174841 : Int), (0 ≤ v174840 ∧ v174840 ≤ 6) → (0 ≤ v174841 ∧ v174841 ≤ 1) → (6 - v174840).toNat = n174838 → wp kt 2 270 81 [(6, vI v174840), (5, vI v174841), (4, vI v174614), (3, vI v172280), (0, .ref r0), (1, vI a1), (2, vI a2)] [] T H174632 (q_270 r0 a1 a2 pp T H) := by
                      intro n174838
                      induction n174838 using Nat.strongRecOn with
                      | _ n174838 ih174839 =>
                        intro v174840 v174841 b174844 b174845 m174846
                        refine wp_of e270 c270_81 (rw_iload (pc' := 83) (z := v174840) rfl rfl ?_)
                        refine wp_of e270 c270_83 (rw_aload_n (pc' := 84) (v := .ref r0) rfl rfl rfl ?_)
                        have k174847 : H174632 r0 3 = H174615 r0 3 := (f174637 r0 3 _ g0 rfl)
                        have q174848 : H174632 r0 3 = (pp : Int) := k174847.trans q174629
                        refine wp_of e270 c270_84 (xg_K (pc' := 87) lf_9_337 w174636 g0 sh_42 (by decide) (by decide) rfl q174848 rfl ?_)
                        have k174849 : H174632 pp 3 = H172439 pp 3 := ((f174637 pp 3 _ gpp rfl).trans (f174617 pp 3 _ gpp rfl))
                        refine wp_of e270 c270_87 (xg_I (pc' := 90) lf_9_188 w174636 gpp sh_54 (by decide) (by decide) ty_54_3 rfl rfl (fun b174850 b174851 => ?_))
                        refine wp_of e270 c270_90 (rw_icmp_ge (p1 := 137) (p2 := 93) (by decide) rfl ⟨by omega, by omega⟩ ⟨by omega, by omega⟩ (fun c174852 => ?_) (fun c174852 => ?_))
                        · refine wp_of e270 c270_137 (rw_iload (pc' := 139) (z := v174841) rfl rfl ?_)
                          refine wp_of e270 c270_139 (rw_if_eq (p1 := 170) (p2 := 142) (by decide) rfl ⟨by omega, by omega⟩ (fun c174853 => ?_) (fun c174853 => ?_))
                          · refine wp_of e270 c270_170 (rw_iinc (pc' := 173) (z := v174614) (L' := [(4, vI (v174614 + 1)), (6, vI v174840), (5, vI v174841), (3, vI v172280), (0, .ref r0), (1, vI a1), (2, vI a2)]) rfl rfl rfl rfl ?_)
                            refine wp_of e270 c270_173 (rw_goto (p1 := 58) (by decide) ?_)
                            exact wp_lc (ks := [4, 6, 5, 3, 0, 1, 2]) (wl_c rfl (wl_c rfl (wl_c rfl (wl_c rfl (wl_c rfl wl_n))))) rfl (by decide) (ih174613 _ (by omega) (v174614 + 1) H174632 w174636 f174640 ⟨by omega, by omega⟩ rfl)
                          · refine wp_of e270 c270_142 (rw_iload_n (pc' := 143) (z := a2) rfl rfl ?_)
                            refine wp_of e270 c270_143 (rw_iconst (pc' := 144) rfl ?_)
                            refine wp_of e270 c270_144 (rw_icmp_eq (p1 := 168) (p2 := 147) (by decide) rfl ⟨by omega, by omega⟩ ⟨by omega, by omega⟩ (fun c174854 => ?_) (fun c174854 => ?_))
                            · refine wp_of e270 c270_168 (rw_iconst (pc' := 169) rfl ?_)
                              exact wp_zreturn e270 c270_169 rfl (by omega) ⟨rfl, w174636, f174638, 0, rfl, ⟨by omega, by omega⟩⟩
                            · refine wp_of e270 c270_147 (rw_aload_n (pc' := 148) (v := .ref r0) rfl rfl rfl ?_)
                              refine wp_of e270 c270_148 (rw_aload_n (pc' := 149) (v := .ref r0) rfl rfl rfl ?_)
                              refine wp_of e270 c270_149 (xg_R (pc' := 152) lf_9_39 w174636 g0 sh_42 (by decide) (by decide) ty_42_27 rfl rfl (fun r174855 q174856 g174857 => ?_))
                              refine wp_of e270 c270_152 (rw_iload_n (pc' := 153) (z := a2) rfl rfl ?_)
                              refine wp_of e270 c270_153 (xc_V (pc' := 156) (r := r0) (as := [.ref r174855, vI a2]) (st := []) (lm_9_455) rfl rfl (Nat.le_of_ble_eq_true rfl) w174636 g0 sh_42 (by decide) rfl (by decide) (s_262_m_lot w174636 g0 g174857 ⟨by omega, by omega⟩ q174848 gpp) (fun R174858 T174859 H174860 p174861 => ?_))
                              obtain ⟨e174862, e174864, z174865, e174863, b174866⟩ := p174861
                              subst e174862
                              subst e174863
                              subst e174864
                              show wp _ _ 270 156 [(6, vI v174840), (5, vI v174841), (4, vI v174614), (3, vI v172280), (0, .ref r0), (1, vI a1), (2, vI a2)] [vI z174865] _ H174632 _
                              refine wp_of e270 c270_156 (rw_aload_n (pc' := 157) (v := .ref r0) rfl rfl rfl ?_)
                              refine wp_of e270 c270_157 (rw_aload_n (pc' := 158) (v := .ref r0) rfl rfl rfl ?_)
                              refine wp_of e270 c270_158 (xg_R (pc' := 161) lf_9_45 w174636 g0 sh_42 (by decide) (by decide) ty_42_31 rfl rfl (fun r174867 q174868 g174869 => ?_))
                              refine wp_of e270 c270_161 (rw_iload_n (pc' := 162) (z := a2) rfl rfl ?_)
                              refine wp_of e270 c270_162 (xc_V (pc' := 165) (r := r0) (as := [.ref r174867, vI a2]) (st := [vI z174865]) (lm_9_455) rfl rfl (Nat.le_of_ble_eq_true rfl) w174636 g0 sh_42 (by decide) rfl (by decide) (s_262_m_one w174636 g0 g174869 ⟨by omega, by omega⟩ q174848 gpp) (fun R174870 T174871 H174872 p174873 => ?_))
                              obtain ⟨e174874, e174876, z174877, e174875, b174878⟩ := p174873
                              subst e174874
                              subst e174875
                              subst e174876
                              show wp _ _ 270 165 [(6, vI v174840), (5, vI v174841), (4, vI v174614), (3, vI v172280), (0, .ref r0), (1, vI a1), (2, vI a2)] [vI z174877, vI z174865] _ H174632 _
                              refine wp_of e270 c270_165 (rw_icmp_eq (p1 := 170) (p2 := 168) (by decide) rfl ⟨by omega, by omega⟩ ⟨by omega, by omega⟩ (fun c174879 => ?_) (fun c174879 => ?_))
                              · refine wp_of e270 c270_170 (rw_iinc (pc' := 173) (z := v174614) (L' := [(4, vI (v174614 + 1)), (6, vI v174840), (5, vI v174841), (3, vI v172280), (0, .ref r0), (1, vI a1), (2, vI a2)]) rfl rfl rfl rfl ?_)
                                refine wp_of e270 c270_173 (rw_goto (p1 := 58) (by decide) ?_)
                                exact wp_lc (ks := [4, 6, 5, 3, 0, 1, 2]) (wl_c rfl (wl_c rfl (wl_c rfl (wl_c rfl (wl_c rfl wl_n))))) rfl (by decide) (ih174613 _ (by omega) (v174614 + 1) H174632 w174636 f174640 ⟨by omega, by omega⟩ rfl)
                              · refine wp_of e270 c270_168 (rw_iconst (pc' := 169) rfl ?_)
                                exact wp_zreturn e270 c270_169 rfl (by omega) ⟨rfl, w174636, f174638, 0, rfl, ⟨by omega, by omega⟩⟩
                        · refine wp_of e270 c270_93 (rw_iload (pc' := 95) (z := v174841) rfl rfl ?_)
                          refine wp_of e270 c270_95 (rw_if_eq (p1 := 128) (p2 := 98) (by decide) rfl ⟨by omega, by omega⟩ (fun c174880 => ?_) (fun c174880 => ?_))
                          · refine wp_of e270 c270_128 (rw_iconst (pc' := 129) rfl ?_)
                            refine wp_of e270 c270_129 (rw_istore (pc' := 131) (z := 0) (L' := [(5, vI 0), (6, vI v174840), (4, vI v174614), (3, vI v172280), (0, .ref r0), (1, vI a1), (2, vI a2)]) rfl rfl rfl ?_)
                            refine wp_of e270 c270_131 (rw_iinc (pc' := 134) (z := v174840) (L' := [(6, vI (v174840 + 1)), (5, vI 0), (4, vI v174614), (3, vI v172280), (0, .ref r0), (1, vI a1), (2, vI a2)]) rfl rfl rfl rfl ?_)
                            refine wp_of e270 c270_134 (rw_goto (p1 := 81) (by decide) ?_)
                            exact wp_lc (ks := [6, 5, 4, 3, 0, 1, 2]) (wl_c rfl (wl_c rfl (wl_c rfl (wl_c rfl (wl_c rfl (wl_c rfl (wl_c rfl wl_n))))))) rfl (by decide) (ih174839 _ (by omega) (v174840 + 1) 0 ⟨by omega, by omega⟩ ⟨by omega, by omega⟩ rfl)
                          · refine wp_of e270 c270_98 (rw_iload_n (pc' := 99) (z := a1) rfl rfl ?_)
                            refine wp_of e270 c270_99 (rw_iload (pc' := 101) (z := v174840) rfl rfl ?_)
                            refine wp_of e270 c270_101 (xc_S (pc' := 104) (as := [vI a1, vI v174840]) (st := []) (lm_9_346) rfl rfl (Nat.le_of_ble_eq_true rfl) rfl (by decide) (s_205 w174636 ⟨by omega, by omega⟩ ⟨by omega, by omega⟩) (fun R174881 T174882 H174883 p174884 => ?_))
                            obtain ⟨e174885, e174887, z174888, e174886, b174889⟩ := p174884
                            subst e174885
                            subst e174886
                            subst e174887
                            show wp _ _ 270 104 [(6, vI v174840), (5, vI v174841), (4, vI v174614), (3, vI v172280), (0, .ref r0), (1, vI a1), (2, vI a2)] [vI z174888] _ H174632 _
                            refine wp_of e270 c270_104 (rw_if_eq (p1 := 124) (p2 := 107) (by decide) rfl ⟨by omega, by omega⟩ (fun c174890 => ?_) (fun c174890 => ?_))
                            · refine wp_of e270 c270_124 (rw_iconst (pc' := 125) rfl ?_)
                              refine wp_of e270 c270_125 (rw_goto (p1 := 129) (by decide) ?_)
                              refine wp_of e270 c270_129 (rw_istore (pc' := 131) (z := 1) (L' := [(5, vI 1), (6, vI v174840), (4, vI v174614), (3, vI v172280), (0, .ref r0), (1, vI a1), (2, vI a2)]) rfl rfl rfl ?_)
                              refine wp_of e270 c270_131 (rw_iinc (pc' := 134) (z := v174840) (L' := [(6, vI (v174840 + 1)), (5, vI 1), (4, vI v174614), (3, vI v172280), (0, .ref r0), (1, vI a1), (2, vI a2)]) rfl rfl rfl rfl ?_)
                              refine wp_of e270 c270_134 (rw_goto (p1 := 81) (by decide) ?_)
                              exact wp_lc (ks := [6, 5, 4, 3, 0, 1, 2]) (wl_c rfl (wl_c rfl (wl_c rfl (wl_c rfl (wl_c rfl (wl_c rfl (wl_c rfl wl_n))))))) rfl (by decide) (ih174839 _ (by omega) (v174840 + 1) 1 ⟨by omega, by omega⟩ ⟨by omega, by omega⟩ rfl)
                            · refine wp_of e270 c270_107 (rw_aload_n (pc' := 108) (v := .ref r0) rfl rfl rfl ?_)
                              refine wp_of e270 c270_108 (xg_R (pc' := 111) lf_9_39 w174636 g0 sh_42 (by decide) (by decide) ty_42_27 rfl rfl (fun r174891 q174892 g174893 => ?_))
                              refine wp_of e270 c270_111 (rw_iload (pc' := 113) (z := v174840) rfl rfl ?_)
                              refine wp_of e270 c270_113 (xa_I (so := 0) (pc' := 114) w174636 g174893 sh_51 (by decide) (ty_51 _) (by omega) (by omega) rfl (fun b174894 b174895 => ?_))
                              refine wp_of e270 c270_114 (rw_aload_n (pc' := 115) (v := .ref r0) rfl rfl rfl ?_)
                              refine wp_of e270 c270_115 (xg_R (pc' := 118) lf_9_45 w174636 g0 sh_42 (by decide) (by decide) ty_42_31 rfl rfl (fun r174896 q174897 g174898 => ?_))
                              refine wp_of e270 c270_118 (rw_iload (pc' := 120) (z := v174840) rfl rfl ?_)
                              refine wp_of e270 c270_120 (xa_I (so := 0) (pc' := 121) w174636 g174898 sh_53 (by decide) (ty_53 _) (by omega) (by omega) rfl (fun b174899 b174900 => ?_))
                              refine wp_of e270 c270_121 (rw_icmp_ne (p1 := 128) (p2 := 124) (by decide) rfl ⟨by omega, by omega⟩ ⟨by omega, by omega⟩ (fun c174901 => ?_) (fun c174901 => ?_))
                              · refine wp_of e270 c270_128 (rw_iconst (pc' := 129) rfl ?_)
                                refine wp_of e270 c270_129 (rw_istore (pc' := 131) (z := 0) (L' := [(5, vI 0), (6, vI v174840), (4, vI v174614), (3, vI v172280), (0, .ref r0), (1, vI a1), (2, vI a2)]) rfl rfl rfl ?_)
                                refine wp_of e270 c270_131 (rw_iinc (pc' := 134) (z := v174840) (L' := [(6, vI (v174840 + 1)), (5, vI 0), (4, vI v174614), (3, vI v172280), (0, .ref r0), (1, vI a1), (2, vI a2)]) rfl rfl rfl rfl ?_)
                                refine wp_of e270 c270_134 (rw_goto (p1 := 81) (by decide) ?_)
                                exact wp_lc (ks := [6, 5, 4, 3, 0, 1, 2]) (wl_c rfl (wl_c rfl (wl_c rfl (wl_c rfl (wl_c rfl (wl_c rfl (wl_c rfl wl_n))))))) rfl (by decide) (ih174839 _ (by omega) (v174840 + 1) 0 ⟨by omega, by omega⟩ ⟨by omega, by omega⟩ rfl)
                              · refine wp_of e270 c270_124 (rw_iconst (pc' := 125) rfl ?_)
                                refine wp_of e270 c270_125 (rw_goto (p1 := 129) (by decide) ?_)
                                refine wp_of e270 c270_129 (rw_istore (pc' := 131) (z := 1) (L' := [(5, vI 1), (6, vI v174840), (4, vI v174614), (3, vI v172280), (0, .ref r0), (1, vI a1), (2, vI a2)]) rfl rfl rfl ?_)
                                refine wp_of e270 c270_131 (rw_iinc (pc' := 134) (z := v174840) (L' := [(6, vI (v174840 + 1)), (5, vI 1), (4, vI v174614), (3, vI v172280), (0, .ref r0), (1, vI a1), (2, vI a2)]) rfl rfl rfl rfl ?_)
                                refine wp_of e270 c270_134 (rw_goto (p1 := 81) (by decide) ?_)
                                exact wp_lc (ks := [6, 5, 4, 3, 0, 1, 2]) (wl_c rfl (wl_c rfl (wl_c rfl (wl_c rfl (wl_c rfl (wl_c rfl (wl_c rfl wl_n))))))) rfl (by decide) (ih174839 _ (by omega) (v174840 + 1) 1 ⟨by omega, by omega⟩ ⟨by omega, by omega⟩ rfl)
                    exact wp_lc (ks := [6, 5, 4, 3, 0, 1, 2]) (wl_c rfl (wl_c rfl (wl_c rfl (wl_c rfl (wl_c rfl (wl_c rfl (wl_c rfl wl_n))))))) rfl (by decide) (lp174837 _ 0 1 ⟨by omega, by omega⟩ ⟨by omega, by omega⟩ rfl)
              exact wp_lc (ks := [4, 3, 0, 1, 2]) (wl_c rfl (wl_c rfl (wl_c rfl (wl_c rfl (wl_c rfl wl_n))))) rfl (by decide) (lp174611 _ 0 H172439 w172440 wfr.rf ⟨by omega, by omega⟩ rfl)
            · refine wp_of e270 c270_35 (rw_aload_n (pc' := 36) (v := .ref r0) rfl rfl rfl ?_)
              refine wp_of e270 c270_36 (xg_R (pc' := 39) lf_9_45 w172440 g0 sh_42 (by decide) (by decide) ty_42_31 rfl rfl (fun r174902 q174903 g174904 => ?_))
              refine wp_of e270 c270_39 (rw_iload (pc' := 41) (z := v172438) rfl rfl ?_)
              refine wp_of e270 c270_41 (rw_aload_n (pc' := 42) (v := .ref r0) rfl rfl rfl ?_)
              refine wp_of e270 c270_42 (xg_R (pc' := 45) lf_9_39 w172440 g0 sh_42 (by decide) (by decide) ty_42_27 rfl rfl (fun r174905 q174906 g174907 => ?_))
              refine wp_of e270 c270_45 (rw_iload (pc' := 47) (z := v172438) rfl rfl ?_)
              refine wp_of e270 c270_47 (xa_I (so := 0) (pc' := 48) w172440 g174907 sh_51 (by decide) (ty_51 _) (by omega) (by omega) rfl (fun b174908 b174909 => ?_))
              refine wp_of e270 c270_48 (xs_I (pc' := 49) w172440 g174904 (by decide) sh_53 (by decide) (ty_53 _) (by omega) (by omega) ⟨by omega, by omega⟩ (by omega) (by omega) rfl (fun H174910 e174911 w174912 => ?_))
              have f174913 := f172444.put' e174911 g174904 rfl
              have f174914 := f172445.put' e174911 g174904 rfl
              have f174915 := f172441.put' e174911 g174904 rfl
              refine wp_of e270 c270_49 (rw_iinc (pc' := 52) (z := v172438) (L' := [(4, vI (v172438 + 1)), (3, vI v172280), (0, .ref r0), (1, vI a1), (2, vI a2)]) rfl rfl rfl rfl ?_)
              refine wp_of e270 c270_52 (rw_goto (p1 := 23) (by decide) ?_)
              exact wp_lc (ks := [4, 3, 0, 1, 2]) (wl_c rfl (wl_c rfl (wl_c rfl (wl_c rfl (wl_c rfl wl_n))))) rfl (by decide) (ih172437 _ (by omega) (v172438 + 1) H174910 w174912 f174915 ⟨by omega, by omega⟩ rfl)
        exact wp_lc (ks := [4, 3, 0, 1, 2]) (wl_c rfl (wl_c rfl (wl_c rfl (wl_c rfl (wl_c rfl wl_n))))) rfl (by decide) (lp172435 _ 0 H172301 w172305 wfr.rf ⟨by omega, by omega⟩ rfl)
  exact wp_lc (ks := [3, 0, 1, 2]) (wl_c rfl (wl_c rfl (wl_c rfl (wl_c rfl wl_n)))) rfl (by decide) (lp172277 _ 0 H hW wfr.rf ⟨by omega, by omega⟩ rfl)
/-! StrikeAwakeModel.asked(I)I -/
theorem e268 : wq_en 268 = some (9, 4, false, some FieldType.int) := rfl
theorem c268_0 : mc_cd 268 0 = some (.iconst (-1), 1) := by decide +kernel
theorem c268_1 : mc_cd 268 1 = some (.istore_n 2, 1) := by decide +kernel
theorem c268_2 : mc_cd 268 2 = some (.iconst 0, 1) := by decide +kernel
theorem c268_3 : mc_cd 268 3 = some (.istore_n 3, 1) := by decide +kernel
theorem c268_4 : mc_cd 268 4 = some (.iload_n 3, 1) := by decide +kernel
theorem c268_5 : mc_cd 268 5 = some (.iconst 1, 1) := by decide +kernel
theorem c268_6 : mc_cd 268 6 = some (.aload_n 0, 1) := by decide +kernel
theorem c268_7 : mc_cd 268 7 = some (.getfield 337, 3) := by decide +kernel
theorem c268_10 : mc_cd 268 10 = some (.getfield 188, 3) := by decide +kernel
theorem c268_13 : mc_cd 268 13 = some (.ishl, 1) := by decide +kernel
theorem c268_14 : mc_cd 268 14 = some (.if_icmp .ge 39, 3) := by decide +kernel
theorem c268_17 : mc_cd 268 17 = some (.iload_n 2, 1) := by decide +kernel
theorem c268_18 : mc_cd 268 18 = some (.iconst (-1), 1) := by decide +kernel
theorem c268_19 : mc_cd 268 19 = some (.if_icmp .eq 17, 3) := by decide +kernel
theorem c268_22 : mc_cd 268 22 = some (.iload_n 3, 1) := by decide +kernel
theorem c268_23 : mc_cd 268 23 = some (.invokestatic 462, 3) := by decide +kernel
theorem c268_26 : mc_cd 268 26 = some (.iload_n 2, 1) := by decide +kernel
theorem c268_27 : mc_cd 268 27 = some (.invokestatic 462, 3) := by decide +kernel
theorem c268_30 : mc_cd 268 30 = some (.if_icmp .lt 6, 3) := by decide +kernel
theorem c268_33 : mc_cd 268 33 = some (.goto 14, 3) := by decide +kernel
theorem c268_36 : mc_cd 268 36 = some (.aload_n 0, 1) := by decide +kernel
theorem c268_37 : mc_cd 268 37 = some (.iload_n 3, 1) := by decide +kernel
theorem c268_38 : mc_cd 268 38 = some (.iload_n 1, 1) := by decide +kernel
theorem c268_39 : mc_cd 268 39 = some (.invokevirtual 465, 3) := by decide +kernel
theorem c268_42 : mc_cd 268 42 = some (.ifCond .eq 5, 3) := by decide +kernel
theorem c268_45 : mc_cd 268 45 = some (.iload_n 3, 1) := by decide +kernel
theorem c268_46 : mc_cd 268 46 = some (.istore_n 2, 1) := by decide +kernel
theorem c268_47 : mc_cd 268 47 = some (.iinc 3 1, 3) := by decide +kernel
theorem c268_50 : mc_cd 268 50 = some (.goto (-46), 3) := by decide +kernel
theorem c268_53 : mc_cd 268 53 = some (.iload_n 2, 1) := by decide +kernel
theorem c268_54 : mc_cd 268 54 = some (.ireturn, 1) := by decide +kernel
abbrev q_268 (r0 : Nat) (a1 : Int) (pp : Nat) (T : wq_T) (H : wq_H) : Option Value → wq_T → wq_H → Prop := fun r T' H' => T = T' ∧ WT T H' ∧ wfr [(51, 999), (53, 999)] T H H' ∧ ∃ z : Int, some (vI z) = r ∧ ((-2147483648) ≤ z ∧ z ≤ 2147483647)
set_option maxHeartbeats 4000000 in
theorem s_268 {kt : Nat → Option mc_E} {T : wq_T} {H : wq_H} {r0 : Nat} {a1 : Int} {pp : Nat} (hW : WT T H) (g0 : T.2.2.2 r0 = some 42) (i1 : (-2147483648) ≤ a1 ∧ a1 ≤ 2147483647) (qpp : H r0 3 = (pp : Int)) (gpp : T.2.2.2 pp = some 54) (p0 : H r0 29 = 0 ∨ 0 < wLM H r0) : wpc kt 4 268 [.ref r0, vI a1] T H (q_268 r0 a1 pp T H) := by
  refine wp_enter e268 (Nat.le_of_ble_eq_true rfl) rfl ?_
  have f0 : wfr [(51, 999), (53, 999)] T H H := wfr.rf
  show wp _ _ 268 0 [(0, .ref r0), (1, vI a1)] [] _ H _
  have b175379 : 0 ≤ H r0 29 ∧ H r0 29 ≤ 20000 := hW.box g0 (n := 33) rfl (by decide) rfl
  refine wp_of e268 c268_0 (rw_iconst (pc' := 1) rfl ?_)
  refine wp_of e268 c268_1 (rw_istore_n (pc' := 2) (z := -1) (L' := [(2, vI (-1)), (0, .ref r0), (1, vI a1)]) rfl rfl rfl ?_)
  refine wp_of e268 c268_2 (rw_iconst (pc' := 3) rfl ?_)
  refine wp_of e268 c268_3 (rw_istore_n (pc' := 4) (z := 0) (L' := [(3, vI 0), (2, vI (-1)), (0, .ref r0), (1, vI a1)]) rfl rfl rfl ?_)
  have lp175787 : ∀ (n175788 : Nat) (v175790 : Int) (v175791 : Int) (H175792 : wq_H), WT T H175792 → wfr [(51, 999), (53, 999)] T H H175792 → (0 ≤ v175790 ∧ v175790 ≤ 64) → ((-1) ≤ v175791 ∧ v175791 ≤ 64) → (64 - v175790).toNat = n175788 → wp kt 3 268 4 [(3, vI v175790), (2, vI v175791), (0, .ref r0), (1, vI a1)] [] T H175792 (q_268 r0 a1 pp T H) := by
    intro n175788
    induction n175788 using Nat.strongRecOn with
    | _ n175788 ih175789 =>
      intro v175790 v175791 H175792 w175793 f175794 b175795 b175796 m175797
      have f175798 := f0.tr f175794 rfl
      refine wp_of e268 c268_4 (rw_iload_n (pc' := 5) (z := v175790) rfl rfl ?_)
      refine wp_of e268 c268_5 (rw_iconst (pc' := 6) rfl ?_)
      refine wp_of e268 c268_6 (rw_aload_n (pc' := 7) (v := .ref r0) rfl rfl rfl ?_)
      have k175799 : H175792 r0 3 = H r0 3 := (f175794 r0 3 _ g0 rfl)
      have q175800 : H175792 r0 3 = (pp : Int) := k175799.trans qpp
      refine wp_of e268 c268_7 (xg_K (pc' := 10) lf_9_337 w175793 g0 sh_42 (by decide) (by decide) rfl q175800 rfl ?_)
      refine wp_of e268 c268_10 (xg_I (pc' := 13) lf_9_188 w175793 gpp sh_54 (by decide) (by decide) ty_54_3 rfl rfl (fun b175801 b175802 => ?_))
      refine wp_of e268 c268_13 (rw_ishl (pc' := 14) rfl ?_)
      obtain ⟨v175803, e175804⟩ : ∃ x : Int, x = wq_shl 1 (H175792 pp 3) := ⟨_, rfl⟩
      rw [← e175804]
      have b175805 : 1 ≤ v175803 ∧ v175803 ≤ 64 := by
        rw [e175804]
        exact wq_shl1_6 ⟨by omega, by omega⟩
      refine wp_of e268 c268_14 (rw_icmp_ge (p1 := 53) (p2 := 17) (by decide) rfl ⟨by omega, by omega⟩ ⟨by omega, by omega⟩ (fun c175806 => ?_) (fun c175806 => ?_))
      · refine wp_of e268 c268_53 (rw_iload_n (pc' := 54) (z := v175791) rfl rfl ?_)
        exact wp_ireturn e268 c268_54 rfl ⟨rfl, w175793, f175798, v175791, rfl, ⟨by omega, by omega⟩⟩
      · refine wp_of e268 c268_17 (rw_iload_n (pc' := 18) (z := v175791) rfl rfl ?_)
        refine wp_of e268 c268_18 (rw_iconst (pc' := 19) rfl ?_)
        refine wp_of e268 c268_19 (rw_icmp_eq (p1 := 36) (p2 := 22) (by decide) rfl ⟨by omega, by omega⟩ ⟨by omega, by omega⟩ (fun c175807 => ?_) (fun c175807 => ?_))
        · refine wp_of e268 c268_36 (rw_aload_n (pc' := 37) (v := .ref r0) rfl rfl rfl ?_)
          refine wp_of e268 c268_37 (rw_iload_n (pc' := 38) (z := v175790) rfl rfl ?_)
          refine wp_of e268 c268_38 (rw_iload_n (pc' := 39) (z := a1) rfl rfl ?_)
          have k175808 : H175792 r0 29 = H r0 29 := (f175794 r0 29 _ g0 rfl)
          have k175809 : wLM H175792 r0 = wLM H r0 := (wLM_fr hW g0 f175794 rfl)
          refine wp_of e268 c268_39 (xc_V (pc' := 42) (r := r0) (as := [vI v175790, vI a1]) (st := []) (lm_9_465) rfl rfl (Nat.le_of_ble_eq_true rfl) w175793 g0 sh_42 (by decide) rfl (by decide) (s_270 w175793 g0 ⟨by omega, by omega⟩ ⟨by omega, by omega⟩ q175800 gpp (by omega)) (fun R175810 T175811 H175812 p175813 => ?_))
          obtain ⟨e175814, w175816, f175817, z175818, e175815, b175819⟩ := p175813
          subst e175814
          subst e175815
          have f175820 := f175798.tr f175817 rfl
          have f175821 := f175794.tr f175817 rfl
          show wp _ _ 268 42 [(3, vI v175790), (2, vI v175791), (0, .ref r0), (1, vI a1)] [vI z175818] _ H175812 _
          refine wp_of e268 c268_42 (rw_if_eq (p1 := 47) (p2 := 45) (by decide) rfl ⟨by omega, by omega⟩ (fun c175822 => ?_) (fun c175822 => ?_))
          · refine wp_of e268 c268_47 (rw_iinc (pc' := 50) (z := v175790) (L' := [(3, vI (v175790 + 1)), (2, vI v175791), (0, .ref r0), (1, vI a1)]) rfl rfl rfl rfl ?_)
            refine wp_of e268 c268_50 (rw_goto (p1 := 4) (by decide) ?_)
            exact wp_lc (ks := [3, 2, 0, 1]) (wl_c rfl (wl_c rfl (wl_c rfl (wl_c rfl wl_n)))) rfl (by decide) (ih175789 _ (by omega) (v175790 + 1) v175791 H175812 w175816 f175821 ⟨by omega, by omega⟩ ⟨by omega, by omega⟩ rfl)
          · refine wp_of e268 c268_45 (rw_iload_n (pc' := 46) (z := v175790) rfl rfl ?_)
            refine wp_of e268 c268_46 (rw_istore_n (pc' := 47) (z := v175790) (L' := [(2, vI v175790), (3, vI v175790), (0, .ref r0), (1, vI a1)]) rfl rfl rfl ?_)
            refine wp_of e268 c268_47 (rw_iinc (pc' := 50) (z := v175790) (L' := [(3, vI (v175790 + 1)), (2, vI v175790), (0, .ref r0), (1, vI a1)]) rfl rfl rfl rfl ?_)
            refine wp_of e268 c268_50 (rw_goto (p1 := 4) (by decide) ?_)
            exact wp_lc (ks := [3, 2, 0, 1]) (wl_c rfl (wl_c rfl (wl_c rfl (wl_c rfl wl_n)))) rfl (by decide) (ih175789 _ (by omega) (v175790 + 1) v175790 H175812 w175816 f175821 ⟨by omega, by omega⟩ ⟨by omega, by omega⟩ rfl)
        · refine wp_of e268 c268_22 (rw_iload_n (pc' := 23) (z := v175790) rfl rfl ?_)
          refine wp_of e268 c268_23 (xc_S (pc' := 26) (as := [vI v175790]) (st := []) (lm_9_462) rfl rfl (Nat.le_of_ble_eq_true rfl) rfl (by decide) (s_269 w175793 ⟨by omega, by omega⟩) (fun R175823 T175824 H175825 p175826 => ?_))
          obtain ⟨e175827, e175829, z175830, e175828, b175831⟩ := p175826
          subst e175827
          subst e175828
          subst e175829
          show wp _ _ 268 26 [(3, vI v175790), (2, vI v175791), (0, .ref r0), (1, vI a1)] [vI z175830] _ H175792 _
          refine wp_of e268 c268_26 (rw_iload_n (pc' := 27) (z := v175791) rfl rfl ?_)
          refine wp_of e268 c268_27 (xc_S (pc' := 30) (as := [vI v175791]) (st := [vI z175830]) (lm_9_462) rfl rfl (Nat.le_of_ble_eq_true rfl) rfl (by decide) (s_269 w175793 ⟨by omega, by omega⟩) (fun R175832 T175833 H175834 p175835 => ?_))
          obtain ⟨e175836, e175838, z175839, e175837, b175840⟩ := p175835
          subst e175836
          subst e175837
          subst e175838
          show wp _ _ 268 30 [(3, vI v175790), (2, vI v175791), (0, .ref r0), (1, vI a1)] [vI z175839, vI z175830] _ H175792 _
          refine wp_of e268 c268_30 (rw_icmp_lt (p1 := 36) (p2 := 33) (by decide) rfl ⟨by omega, by omega⟩ ⟨by omega, by omega⟩ (fun c175841 => ?_) (fun c175841 => ?_))
          · refine wp_of e268 c268_36 (rw_aload_n (pc' := 37) (v := .ref r0) rfl rfl rfl ?_)
            refine wp_of e268 c268_37 (rw_iload_n (pc' := 38) (z := v175790) rfl rfl ?_)
            refine wp_of e268 c268_38 (rw_iload_n (pc' := 39) (z := a1) rfl rfl ?_)
            have k175842 : H175792 r0 29 = H r0 29 := (f175794 r0 29 _ g0 rfl)
            have k175843 : wLM H175792 r0 = wLM H r0 := (wLM_fr hW g0 f175794 rfl)
            refine wp_of e268 c268_39 (xc_V (pc' := 42) (r := r0) (as := [vI v175790, vI a1]) (st := []) (lm_9_465) rfl rfl (Nat.le_of_ble_eq_true rfl) w175793 g0 sh_42 (by decide) rfl (by decide) (s_270 w175793 g0 ⟨by omega, by omega⟩ ⟨by omega, by omega⟩ q175800 gpp (by omega)) (fun R175844 T175845 H175846 p175847 => ?_))
            obtain ⟨e175848, w175850, f175851, z175852, e175849, b175853⟩ := p175847
            subst e175848
            subst e175849
            have f175854 := f175798.tr f175851 rfl
            have f175855 := f175794.tr f175851 rfl
            show wp _ _ 268 42 [(3, vI v175790), (2, vI v175791), (0, .ref r0), (1, vI a1)] [vI z175852] _ H175846 _
            refine wp_of e268 c268_42 (rw_if_eq (p1 := 47) (p2 := 45) (by decide) rfl ⟨by omega, by omega⟩ (fun c175856 => ?_) (fun c175856 => ?_))
            · refine wp_of e268 c268_47 (rw_iinc (pc' := 50) (z := v175790) (L' := [(3, vI (v175790 + 1)), (2, vI v175791), (0, .ref r0), (1, vI a1)]) rfl rfl rfl rfl ?_)
              refine wp_of e268 c268_50 (rw_goto (p1 := 4) (by decide) ?_)
              exact wp_lc (ks := [3, 2, 0, 1]) (wl_c rfl (wl_c rfl (wl_c rfl (wl_c rfl wl_n)))) rfl (by decide) (ih175789 _ (by omega) (v175790 + 1) v175791 H175846 w175850 f175855 ⟨by omega, by omega⟩ ⟨by omega, by omega⟩ rfl)
            · refine wp_of e268 c268_45 (rw_iload_n (pc' := 46) (z := v175790) rfl rfl ?_)
              refine wp_of e268 c268_46 (rw_istore_n (pc' := 47) (z := v175790) (L' := [(2, vI v175790), (3, vI v175790), (0, .ref r0), (1, vI a1)]) rfl rfl rfl ?_)
              refine wp_of e268 c268_47 (rw_iinc (pc' := 50) (z := v175790) (L' := [(3, vI (v175790 + 1)), (2, vI v175790), (0, .ref r0), (1, vI a1)]) rfl rfl rfl rfl ?_)
              refine wp_of e268 c268_50 (rw_goto (p1 := 4) (by decide) ?_)
              exact wp_lc (ks := [3, 2, 0, 1]) (wl_c rfl (wl_c rfl (wl_c rfl (wl_c rfl wl_n)))) rfl (by decide) (ih175789 _ (by omega) (v175790 + 1) v175790 H175846 w175850 f175855 ⟨by omega, by omega⟩ ⟨by omega, by omega⟩ rfl)
          · refine wp_of e268 c268_33 (rw_goto (p1 := 47) (by decide) ?_)
            refine wp_of e268 c268_47 (rw_iinc (pc' := 50) (z := v175790) (L' := [(3, vI (v175790 + 1)), (2, vI v175791), (0, .ref r0), (1, vI a1)]) rfl rfl rfl rfl ?_)
            refine wp_of e268 c268_50 (rw_goto (p1 := 4) (by decide) ?_)
            exact wp_lc (ks := [3, 2, 0, 1]) (wl_c rfl (wl_c rfl (wl_c rfl (wl_c rfl wl_n)))) rfl (by decide) (ih175789 _ (by omega) (v175790 + 1) v175791 H175792 w175793 f175794 ⟨by omega, by omega⟩ ⟨by omega, by omega⟩ rfl)
  exact wp_lc (ks := [3, 2, 0, 1]) (wl_c rfl (wl_c rfl (wl_c rfl (wl_c rfl wl_n)))) rfl (by decide) (lp175787 _ 0 (-1) H hW wfr.rf ⟨by omega, by omega⟩ ⟨by omega, by omega⟩ rfl)
/-! StrikeAwakeModel.ask()I -/
theorem e266 : wq_en 266 = some (9, 2, false, some FieldType.int) := rfl
theorem c266_0 : mc_cd 266 0 = some (.aload_n 0, 1) := by decide +kernel
theorem c266_1 : mc_cd 266 1 = some (.iconst 0, 1) := by decide +kernel
theorem c266_2 : mc_cd 266 2 = some (.putfield 48, 3) := by decide +kernel
theorem c266_5 : mc_cd 266 5 = some (.aload_n 0, 1) := by decide +kernel
theorem c266_6 : mc_cd 266 6 = some (.aload_n 0, 1) := by decide +kernel
theorem c266_7 : mc_cd 266 7 = some (.getfield 337, 3) := by decide +kernel
theorem c266_10 : mc_cd 266 10 = some (.ifnull 7, 3) := by decide +kernel
theorem c266_13 : mc_cd 266 13 = some (.iconst 1, 1) := by decide +kernel
theorem c266_14 : mc_cd 266 14 = some (.goto 4, 3) := by decide +kernel
theorem c266_17 : mc_cd 266 17 = some (.iconst 0, 1) := by decide +kernel
theorem c266_18 : mc_cd 266 18 = some (.invokevirtual 467, 3) := by decide +kernel
theorem c266_21 : mc_cd 266 21 = some (.istore_n 1, 1) := by decide +kernel
theorem c266_22 : mc_cd 266 22 = some (.iload_n 1, 1) := by decide +kernel
theorem c266_23 : mc_cd 266 23 = some (.ifCond .le 11, 3) := by decide +kernel
theorem c266_26 : mc_cd 266 26 = some (.aload_n 0, 1) := by decide +kernel
theorem c266_27 : mc_cd 266 27 = some (.iload_n 1, 1) := by decide +kernel
theorem c266_28 : mc_cd 266 28 = some (.invokevirtual 54, 3) := by decide +kernel
theorem c266_31 : mc_cd 266 31 = some (.goto 12, 3) := by decide +kernel
theorem c266_34 : mc_cd 266 34 = some (.aload_n 0, 1) := by decide +kernel
theorem c266_35 : mc_cd 266 35 = some (.aload_n 0, 1) := by decide +kernel
theorem c266_36 : mc_cd 266 36 = some (.iconst (-1), 1) := by decide +kernel
theorem c266_37 : mc_cd 266 37 = some (.invokevirtual 470, 3) := by decide +kernel
theorem c266_40 : mc_cd 266 40 = some (.invokevirtual 58, 3) := by decide +kernel
theorem c266_43 : mc_cd 266 43 = some (.ireturn, 1) := by decide +kernel
abbrev q_266 (r0 : Nat) (T : wq_T) (H : wq_H) : Option Value → wq_T → wq_H → Prop := fun r T' H' => T = T' ∧ WT T H' ∧ wfr [(42, 0), (42, 1), (42, 2), (42, 28), (42, 29), (51, 999), (53, 999), (52, 999)] T H H' ∧ ∃ z : Int, some (vI z) = r ∧ ((-2147483648) ≤ z ∧ z ≤ 2147483647) ∧ (wKI H' r0 = 1)
set_option maxHeartbeats 4000000 in
theorem s_266 {kt : Nat → Option mc_E} {T : wq_T} {H : wq_H} {r0 : Nat} (hW : WT T H) (g0 : T.2.2.2 r0 = some 42) (p0 : wKI H r0 = 1) : wpc kt 10 266 [.ref r0] T H (q_266 r0 T H) := by
  refine wp_enter e266 (Nat.le_of_ble_eq_true rfl) rfl ?_
  have f0 : wfr [(42, 0), (42, 1), (42, 2), (42, 28), (42, 29), (51, 999), (53, 999), (52, 999)] T H H := wfr.rf
  show wp _ _ 266 0 [(0, .ref r0)] [] _ H _
  refine wp_of e266 c266_0 (rw_aload_n (pc' := 1) (v := .ref r0) rfl rfl rfl ?_)
  refine wp_of e266 c266_1 (rw_iconst (pc' := 2) rfl ?_)
  refine wp_of e266 c266_2 (xp_I (pc' := 5) lf_9_48 hW g0 sh_42 (by decide) (by decide) ty_42_0 rfl rfl (by omega) (by omega) ⟨by omega, by omega⟩ rfl (fun H175948 e175949 w175950 => ?_))
  have f175951 := f0.put' e175949 g0 rfl
  have k175952 : H175948 r0 0 = 0 := wq_u_s e175949
  refine wp_of e266 c266_5 (rw_aload_n (pc' := 6) (v := .ref r0) rfl rfl rfl ?_)
  refine wp_of e266 c266_6 (rw_aload_n (pc' := 7) (v := .ref r0) rfl rfl rfl ?_)
  refine wp_of e266 c266_7 (xg_O (pc' := 10) lf_9_337 w175950 g0 sh_42 (by decide) (by decide) ty_42_3 rfl rfl (fun q175954 => ?_) (fun r175953 q175954 g175955 => ?_))
  · refine wp_of e266 c266_10 (rw_ifnull_n (p1 := 17) (p2 := 13) (by decide) rfl ?_)
    refine wp_of e266 c266_17 (rw_iconst (pc' := 18) rfl ?_)
    have k175956 : wKI H175948 r0 = wKI H r0 := (wKI_fr hW g0 ((wfr.rf (l := [(42, 0)])).put' e175949 g0 rfl) rfl)
    refine wp_of e266 c266_18 (xc_V (pc' := 21) (r := r0) (as := [vI 0]) (st := []) (lm_9_467) rfl rfl (Nat.le_of_ble_eq_true rfl) w175950 g0 sh_42 (by decide) rfl (by decide) (s_267 w175950 g0 ⟨by omega, by omega⟩ (by omega) (by omega)) (fun R175957 T175958 H175959 p175960 => ?_))
    obtain ⟨e175961, w175963, f175964, z175969, e175962, b175970, p175965, p175966, p175967, p175968⟩ := p175960
    subst e175961
    subst e175962
    have f175971 := f175951.tr f175964 rfl
    show wp _ _ 266 21 [(0, .ref r0)] [vI z175969] _ H175959 _
    refine wp_of e266 c266_21 (rw_istore_n (pc' := 22) (z := z175969) (L' := [(1, vI z175969), (0, .ref r0)]) rfl rfl rfl ?_)
    refine wp_of e266 c266_22 (rw_iload_n (pc' := 23) (z := z175969) rfl rfl ?_)
    refine wp_of e266 c266_23 (rw_if_le (p1 := 34) (p2 := 26) (by decide) rfl ⟨by omega, by omega⟩ (fun c175972 => ?_) (fun c175972 => ?_))
    · exfalso
      omega
    · refine wp_of e266 c266_26 (rw_aload_n (pc' := 27) (v := .ref r0) rfl rfl rfl ?_)
      refine wp_of e266 c266_27 (rw_iload_n (pc' := 28) (z := z175969) rfl rfl ?_)
      refine wp_of e266 c266_28 (xc_V (pc' := 31) (r := r0) (as := [vI z175969]) (st := []) (lm_9_54) rfl rfl (Nat.le_of_ble_eq_true rfl) w175963 g0 sh_42 (by decide) rfl (by decide) (s_170 w175963 g0 ⟨by omega, by omega⟩) (fun R175973 T175974 H175975 p175976 => ?_))
      obtain ⟨e175977, w175979, f175980, z175981, e175978, b175982⟩ := p175976
      subst e175977
      subst e175978
      have f175983 := f175971.tr f175980 rfl
      show wp _ _ 266 31 [(1, vI z175969), (0, .ref r0)] [vI z175981] _ H175975 _
      refine wp_of e266 c266_31 (rw_goto (p1 := 43) (by decide) ?_)
      have k175984 : wKI H175975 r0 = wKI H175959 r0 := (wKI_fr w175963 g0 f175980 rfl)
      exact wp_ireturn e266 c266_43 rfl ⟨rfl, w175979, f175983, z175981, rfl, ⟨by omega, by omega⟩, by omega⟩
  · refine wp_of e266 c266_10 (rw_ifnull_r (p1 := 17) (p2 := 13) (by decide) rfl ?_)
    refine wp_of e266 c266_13 (rw_iconst (pc' := 14) rfl ?_)
    refine wp_of e266 c266_14 (rw_goto (p1 := 18) (by decide) ?_)
    have k175985 : wKI H175948 r0 = wKI H r0 := (wKI_fr hW g0 ((wfr.rf (l := [(42, 0)])).put' e175949 g0 rfl) rfl)
    refine wp_of e266 c266_18 (xc_V (pc' := 21) (r := r0) (as := [vI 1]) (st := []) (lm_9_467) rfl rfl (Nat.le_of_ble_eq_true rfl) w175950 g0 sh_42 (by decide) rfl (by decide) (s_267 w175950 g0 ⟨by omega, by omega⟩ (by omega) (by omega)) (fun R175986 T175987 H175988 p175989 => ?_))
    obtain ⟨e175990, w175992, f175993, z175998, e175991, b175999, p175994, p175995, p175996, p175997⟩ := p175989
    subst e175990
    subst e175991
    have f176000 := f175951.tr f175993 rfl
    show wp _ _ 266 21 [(0, .ref r0)] [vI z175998] _ H175988 _
    refine wp_of e266 c266_21 (rw_istore_n (pc' := 22) (z := z175998) (L' := [(1, vI z175998), (0, .ref r0)]) rfl rfl rfl ?_)
    refine wp_of e266 c266_22 (rw_iload_n (pc' := 23) (z := z175998) rfl rfl ?_)
    refine wp_of e266 c266_23 (rw_if_le (p1 := 34) (p2 := 26) (by decide) rfl ⟨by omega, by omega⟩ (fun c176001 => ?_) (fun c176001 => ?_))
    · refine wp_of e266 c266_34 (rw_aload_n (pc' := 35) (v := .ref r0) rfl rfl rfl ?_)
      refine wp_of e266 c266_35 (rw_aload_n (pc' := 36) (v := .ref r0) rfl rfl rfl ?_)
      refine wp_of e266 c266_36 (rw_iconst (pc' := 37) rfl ?_)
      have k176002 : H175988 r0 3 = H175948 r0 3 := (f175993 r0 3 _ g0 rfl)
      have q176003 : H175988 r0 3 = (r175953 : Int) := k176002.trans q175954
      refine wp_of e266 c266_37 (xc_V (pc' := 40) (r := r0) (as := [vI (-1)]) (st := [.ref r0]) (lm_9_470) rfl rfl (Nat.le_of_ble_eq_true rfl) w175992 g0 sh_42 (by decide) rfl (by decide) (s_268 w175992 g0 ⟨by omega, by omega⟩ q176003 g175955 (by omega)) (fun R176004 T176005 H176006 p176007 => ?_))
      obtain ⟨e176008, w176010, f176011, z176012, e176009, b176013⟩ := p176007
      subst e176008
      subst e176009
      have f176014 := f176000.tr f176011 rfl
      show wp _ _ 266 40 [(1, vI z175998), (0, .ref r0)] [vI z176012, .ref r0] _ H176006 _
      refine wp_of e266 c266_40 (xc_V (pc' := 43) (r := r0) (as := [vI z176012]) (st := []) (lm_9_58) rfl rfl (Nat.le_of_ble_eq_true rfl) w176010 g0 sh_42 (by decide) rfl (by decide) (s_209 w176010 g0 ⟨by omega, by omega⟩) (fun R176015 T176016 H176017 p176018 => ?_))
      obtain ⟨e176019, w176021, f176022, z176023, e176020, b176024⟩ := p176018
      subst e176019
      subst e176020
      have f176025 := f176014.tr f176022 rfl
      show wp _ _ 266 43 [(1, vI z175998), (0, .ref r0)] [vI z176023] _ H176017 _
      have k176026 : wKI H176017 r0 = wKI H175988 r0 := ((wKI_fr w176010 g0 f176022 rfl).trans (wKI_fr w175992 g0 f176011 rfl))
      exact wp_ireturn e266 c266_43 rfl ⟨rfl, w176021, f176025, z176023, rfl, ⟨by omega, by omega⟩, by omega⟩
    · refine wp_of e266 c266_26 (rw_aload_n (pc' := 27) (v := .ref r0) rfl rfl rfl ?_)
      refine wp_of e266 c266_27 (rw_iload_n (pc' := 28) (z := z175998) rfl rfl ?_)
      refine wp_of e266 c266_28 (xc_V (pc' := 31) (r := r0) (as := [vI z175998]) (st := []) (lm_9_54) rfl rfl (Nat.le_of_ble_eq_true rfl) w175992 g0 sh_42 (by decide) rfl (by decide) (s_170 w175992 g0 ⟨by omega, by omega⟩) (fun R176027 T176028 H176029 p176030 => ?_))
      obtain ⟨e176031, w176033, f176034, z176035, e176032, b176036⟩ := p176030
      subst e176031
      subst e176032
      have f176037 := f176000.tr f176034 rfl
      show wp _ _ 266 31 [(1, vI z175998), (0, .ref r0)] [vI z176035] _ H176029 _
      refine wp_of e266 c266_31 (rw_goto (p1 := 43) (by decide) ?_)
      have k176038 : wKI H176029 r0 = wKI H175988 r0 := (wKI_fr w175992 g0 f176034 rfl)
      exact wp_ireturn e266 c266_43 rfl ⟨rfl, w176033, f176037, z176035, rfl, ⟨by omega, by omega⟩, by omega⟩
/-! StrikeAwakeModel.askFor(I)I -/
theorem e271 : wq_en 271 = some (9, 3, false, some FieldType.int) := rfl
theorem c271_0 : mc_cd 271 0 = some (.aload_n 0, 1) := by decide +kernel
theorem c271_1 : mc_cd 271 1 = some (.iconst 0, 1) := by decide +kernel
theorem c271_2 : mc_cd 271 2 = some (.putfield 48, 3) := by decide +kernel
theorem c271_5 : mc_cd 271 5 = some (.aload_n 0, 1) := by decide +kernel
theorem c271_6 : mc_cd 271 6 = some (.aload_n 0, 1) := by decide +kernel
theorem c271_7 : mc_cd 271 7 = some (.iload_n 1, 1) := by decide +kernel
theorem c271_8 : mc_cd 271 8 = some (.invokevirtual 373, 3) := by decide +kernel
theorem c271_11 : mc_cd 271 11 = some (.invokevirtual 467, 3) := by decide +kernel
theorem c271_14 : mc_cd 271 14 = some (.istore_n 2, 1) := by decide +kernel
theorem c271_15 : mc_cd 271 15 = some (.iload_n 2, 1) := by decide +kernel
theorem c271_16 : mc_cd 271 16 = some (.ifCond .le 11, 3) := by decide +kernel
theorem c271_19 : mc_cd 271 19 = some (.aload_n 0, 1) := by decide +kernel
theorem c271_20 : mc_cd 271 20 = some (.iload_n 2, 1) := by decide +kernel
theorem c271_21 : mc_cd 271 21 = some (.invokevirtual 54, 3) := by decide +kernel
theorem c271_24 : mc_cd 271 24 = some (.goto 12, 3) := by decide +kernel
theorem c271_27 : mc_cd 271 27 = some (.aload_n 0, 1) := by decide +kernel
theorem c271_28 : mc_cd 271 28 = some (.aload_n 0, 1) := by decide +kernel
theorem c271_29 : mc_cd 271 29 = some (.iload_n 1, 1) := by decide +kernel
theorem c271_30 : mc_cd 271 30 = some (.invokevirtual 470, 3) := by decide +kernel
theorem c271_33 : mc_cd 271 33 = some (.invokevirtual 58, 3) := by decide +kernel
theorem c271_36 : mc_cd 271 36 = some (.ireturn, 1) := by decide +kernel
abbrev q_271 (r0 : Nat) (a1 : Int) (T : wq_T) (H : wq_H) : Option Value → wq_T → wq_H → Prop := fun r T' H' => T = T' ∧ WT T H' ∧ wfr [(42, 0), (42, 1), (42, 2), (42, 28), (42, 29), (51, 999), (53, 999), (52, 999)] T H H' ∧ ∃ z : Int, some (vI z) = r ∧ ((-2147483648) ≤ z ∧ z ≤ 2147483647) ∧ (wKI H' r0 = 1)
set_option maxHeartbeats 4000000 in
theorem s_271 {kt : Nat → Option mc_E} {T : wq_T} {H : wq_H} {r0 : Nat} {a1 : Int} (hW : WT T H) (g0 : T.2.2.2 r0 = some 42) (i1 : (-2147483648) ≤ a1 ∧ a1 ≤ 2147483647) (p0 : wKI H r0 = 1) : wpc kt 10 271 [.ref r0, vI a1] T H (q_271 r0 a1 T H) := by
  refine wp_enter e271 (Nat.le_of_ble_eq_true rfl) rfl ?_
  have f0 : wfr [(42, 0), (42, 1), (42, 2), (42, 28), (42, 29), (51, 999), (53, 999), (52, 999)] T H H := wfr.rf
  show wp _ _ 271 0 [(0, .ref r0), (1, vI a1)] [] _ H _
  refine wp_of e271 c271_0 (rw_aload_n (pc' := 1) (v := .ref r0) rfl rfl rfl ?_)
  refine wp_of e271 c271_1 (rw_iconst (pc' := 2) rfl ?_)
  refine wp_of e271 c271_2 (xp_I (pc' := 5) lf_9_48 hW g0 sh_42 (by decide) (by decide) ty_42_0 rfl rfl (by omega) (by omega) ⟨by omega, by omega⟩ rfl (fun H176110 e176111 w176112 => ?_))
  have f176113 := f0.put' e176111 g0 rfl
  have k176114 : H176110 r0 0 = 0 := wq_u_s e176111
  refine wp_of e271 c271_5 (rw_aload_n (pc' := 6) (v := .ref r0) rfl rfl rfl ?_)
  refine wp_of e271 c271_6 (rw_aload_n (pc' := 7) (v := .ref r0) rfl rfl rfl ?_)
  refine wp_of e271 c271_7 (rw_iload_n (pc' := 8) (z := a1) rfl rfl ?_)
  refine wp_of e271 c271_8 (xc_V (pc' := 11) (r := r0) (as := [vI a1]) (st := [.ref r0]) (lm_9_373) rfl rfl (Nat.le_of_ble_eq_true rfl) w176112 g0 sh_42 (by decide) rfl (by decide) (s_218 w176112 g0 ⟨by omega, by omega⟩) (fun R176115 T176116 H176117 p176118 => ?_))
  obtain ⟨e176119, e176121, z176123, e176120, b176124, p176122⟩ := p176118
  subst e176119
  subst e176120
  subst e176121
  show wp _ _ 271 11 [(0, .ref r0), (1, vI a1)] [vI z176123, .ref r0] _ H176110 _
  have k176125 : wKI H176110 r0 = wKI H r0 := (wKI_fr hW g0 ((wfr.rf (l := [(42, 0)])).put' e176111 g0 rfl) rfl)
  refine wp_of e271 c271_11 (xc_V (pc' := 14) (r := r0) (as := [vI z176123]) (st := []) (lm_9_467) rfl rfl (Nat.le_of_ble_eq_true rfl) w176112 g0 sh_42 (by decide) rfl (by decide) (s_267 w176112 g0 ⟨by omega, by omega⟩ (by omega) (by omega)) (fun R176126 T176127 H176128 p176129 => ?_))
  obtain ⟨e176130, w176132, f176133, z176138, e176131, b176139, p176134, p176135, p176136, p176137⟩ := p176129
  subst e176130
  subst e176131
  have f176140 := f176113.tr f176133 rfl
  show wp _ _ 271 14 [(0, .ref r0), (1, vI a1)] [vI z176138] _ H176128 _
  refine wp_of e271 c271_14 (rw_istore_n (pc' := 15) (z := z176138) (L' := [(2, vI z176138), (0, .ref r0), (1, vI a1)]) rfl rfl rfl ?_)
  refine wp_of e271 c271_15 (rw_iload_n (pc' := 16) (z := z176138) rfl rfl ?_)
  refine wp_of e271 c271_16 (rw_if_le (p1 := 27) (p2 := 19) (by decide) rfl ⟨by omega, by omega⟩ (fun c176141 => ?_) (fun c176141 => ?_))
  · refine wp_of e271 c271_27 (rw_aload_n (pc' := 28) (v := .ref r0) rfl rfl rfl ?_)
    refine wp_of e271 c271_28 (rw_aload_n (pc' := 29) (v := .ref r0) rfl rfl rfl ?_)
    refine wp_of e271 c271_29 (rw_iload_n (pc' := 30) (z := a1) rfl rfl ?_)
    have k176142 : H176128 r0 3 = H176110 r0 3 := (f176133 r0 3 _ g0 rfl)
    obtain ⟨r176143, q176144, g176145⟩ := (w176132.opt g0 (t' := 54) (n := 33) (j := 3) (p := 0) (q := 0) rfl (by decide) rfl).resolve_left (by omega)
    refine wp_of e271 c271_30 (xc_V (pc' := 33) (r := r0) (as := [vI a1]) (st := [.ref r0]) (lm_9_470) rfl rfl (Nat.le_of_ble_eq_true rfl) w176132 g0 sh_42 (by decide) rfl (by decide) (s_268 w176132 g0 ⟨by omega, by omega⟩ q176144 g176145 (by omega)) (fun R176146 T176147 H176148 p176149 => ?_))
    obtain ⟨e176150, w176152, f176153, z176154, e176151, b176155⟩ := p176149
    subst e176150
    subst e176151
    have f176156 := f176140.tr f176153 rfl
    show wp _ _ 271 33 [(2, vI z176138), (0, .ref r0), (1, vI a1)] [vI z176154, .ref r0] _ H176148 _
    refine wp_of e271 c271_33 (xc_V (pc' := 36) (r := r0) (as := [vI z176154]) (st := []) (lm_9_58) rfl rfl (Nat.le_of_ble_eq_true rfl) w176152 g0 sh_42 (by decide) rfl (by decide) (s_209 w176152 g0 ⟨by omega, by omega⟩) (fun R176157 T176158 H176159 p176160 => ?_))
    obtain ⟨e176161, w176163, f176164, z176165, e176162, b176166⟩ := p176160
    subst e176161
    subst e176162
    have f176167 := f176156.tr f176164 rfl
    show wp _ _ 271 36 [(2, vI z176138), (0, .ref r0), (1, vI a1)] [vI z176165] _ H176159 _
    have k176168 : wKI H176159 r0 = wKI H176128 r0 := ((wKI_fr w176152 g0 f176164 rfl).trans (wKI_fr w176132 g0 f176153 rfl))
    exact wp_ireturn e271 c271_36 rfl ⟨rfl, w176163, f176167, z176165, rfl, ⟨by omega, by omega⟩, by omega⟩
  · refine wp_of e271 c271_19 (rw_aload_n (pc' := 20) (v := .ref r0) rfl rfl rfl ?_)
    refine wp_of e271 c271_20 (rw_iload_n (pc' := 21) (z := z176138) rfl rfl ?_)
    refine wp_of e271 c271_21 (xc_V (pc' := 24) (r := r0) (as := [vI z176138]) (st := []) (lm_9_54) rfl rfl (Nat.le_of_ble_eq_true rfl) w176132 g0 sh_42 (by decide) rfl (by decide) (s_170 w176132 g0 ⟨by omega, by omega⟩) (fun R176169 T176170 H176171 p176172 => ?_))
    obtain ⟨e176173, w176175, f176176, z176177, e176174, b176178⟩ := p176172
    subst e176173
    subst e176174
    have f176179 := f176140.tr f176176 rfl
    show wp _ _ 271 24 [(2, vI z176138), (0, .ref r0), (1, vI a1)] [vI z176177] _ H176171 _
    refine wp_of e271 c271_24 (rw_goto (p1 := 36) (by decide) ?_)
    have k176180 : wKI H176171 r0 = wKI H176128 r0 := (wKI_fr w176132 g0 f176176 rfl)
    exact wp_ireturn e271 c271_36 rfl ⟨rfl, w176175, f176179, z176177, rfl, ⟨by omega, by omega⟩, by omega⟩
/-! StrikeAwakeModel.isTold(I)Z -/
theorem e273 : wq_en 273 = some (9, 2, false, some FieldType.boolean) := rfl
theorem c273_0 : mc_cd 273 0 = some (.aload_n 0, 1) := by decide +kernel
theorem c273_1 : mc_cd 273 1 = some (.getfield 337, 3) := by decide +kernel
theorem c273_4 : mc_cd 273 4 = some (.ifnull 22, 3) := by decide +kernel
theorem c273_7 : mc_cd 273 7 = some (.iload_n 1, 1) := by decide +kernel
theorem c273_8 : mc_cd 273 8 = some (.ifCond .lt 18, 3) := by decide +kernel
theorem c273_11 : mc_cd 273 11 = some (.iload_n 1, 1) := by decide +kernel
theorem c273_12 : mc_cd 273 12 = some (.aload_n 0, 1) := by decide +kernel
theorem c273_13 : mc_cd 273 13 = some (.getfield 337, 3) := by decide +kernel
theorem c273_16 : mc_cd 273 16 = some (.getfield 306, 3) := by decide +kernel
theorem c273_19 : mc_cd 273 19 = some (.if_icmp .ge 7, 3) := by decide +kernel
theorem c273_22 : mc_cd 273 22 = some (.iconst 1, 1) := by decide +kernel
theorem c273_23 : mc_cd 273 23 = some (.goto 4, 3) := by decide +kernel
theorem c273_26 : mc_cd 273 26 = some (.iconst 0, 1) := by decide +kernel
theorem c273_27 : mc_cd 273 27 = some (.ireturn, 1) := by decide +kernel
abbrev q_273 (r0 : Nat) (a1 : Int) (T : wq_T) (H : wq_H) : Option Value → wq_T → wq_H → Prop := fun r T' H' => T = T' ∧ H = H' ∧ ∃ z : Int, some (vI z) = r ∧ (0 ≤ z ∧ z ≤ 1) ∧ (z = 0 ∨ (H r0 3 ≠ -1 ∧ 0 ≤ a1 ∧ a1 ≤ 3))
set_option maxHeartbeats 4000000 in
theorem s_273 {kt : Nat → Option mc_E} {T : wq_T} {H : wq_H} {r0 : Nat} {a1 : Int} (hW : WT T H) (g0 : T.2.2.2 r0 = some 42) (i1 : (-2147483648) ≤ a1 ∧ a1 ≤ 2147483647) : wpc kt 1 273 [.ref r0, vI a1] T H (q_273 r0 a1 T H) := by
  refine wp_enter e273 (Nat.le_of_ble_eq_true rfl) rfl ?_
  show wp _ _ 273 0 [(0, .ref r0), (1, vI a1)] [] _ H _
  refine wp_of e273 c273_0 (rw_aload_n (pc' := 1) (v := .ref r0) rfl rfl rfl ?_)
  refine wp_of e273 c273_1 (xg_O (pc' := 4) lf_9_337 hW g0 sh_42 (by decide) (by decide) ty_42_3 rfl rfl (fun q176189 => ?_) (fun r176188 q176189 g176190 => ?_))
  · refine wp_of e273 c273_4 (rw_ifnull_n (p1 := 26) (p2 := 7) (by decide) rfl ?_)
    refine wp_of e273 c273_26 (rw_iconst (pc' := 27) rfl ?_)
    exact wp_zreturn e273 c273_27 rfl (by omega) ⟨rfl, rfl, 0, rfl, ⟨by omega, by omega⟩, by omega⟩
  · refine wp_of e273 c273_4 (rw_ifnull_r (p1 := 26) (p2 := 7) (by decide) rfl ?_)
    refine wp_of e273 c273_7 (rw_iload_n (pc' := 8) (z := a1) rfl rfl ?_)
    refine wp_of e273 c273_8 (rw_if_lt (p1 := 26) (p2 := 11) (by decide) rfl ⟨by omega, by omega⟩ (fun c176191 => ?_) (fun c176191 => ?_))
    · refine wp_of e273 c273_26 (rw_iconst (pc' := 27) rfl ?_)
      exact wp_zreturn e273 c273_27 rfl (by omega) ⟨rfl, rfl, 0, rfl, ⟨by omega, by omega⟩, by omega⟩
    · refine wp_of e273 c273_11 (rw_iload_n (pc' := 12) (z := a1) rfl rfl ?_)
      refine wp_of e273 c273_12 (rw_aload_n (pc' := 13) (v := .ref r0) rfl rfl rfl ?_)
      refine wp_of e273 c273_13 (xg_K (pc' := 16) lf_9_337 hW g0 sh_42 (by decide) (by decide) rfl q176189 rfl ?_)
      refine wp_of e273 c273_16 (xg_I (pc' := 19) lf_9_306 hW g176190 sh_54 (by decide) (by decide) ty_54_6 rfl rfl (fun b176192 b176193 => ?_))
      refine wp_of e273 c273_19 (rw_icmp_ge (p1 := 26) (p2 := 22) (by decide) rfl ⟨by omega, by omega⟩ ⟨by omega, by omega⟩ (fun c176194 => ?_) (fun c176194 => ?_))
      · refine wp_of e273 c273_26 (rw_iconst (pc' := 27) rfl ?_)
        exact wp_zreturn e273 c273_27 rfl (by omega) ⟨rfl, rfl, 0, rfl, ⟨by omega, by omega⟩, by omega⟩
      · refine wp_of e273 c273_22 (rw_iconst (pc' := 23) rfl ?_)
        refine wp_of e273 c273_23 (rw_goto (p1 := 27) (by decide) ?_)
        exact wp_zreturn e273 c273_27 rfl (by omega) ⟨rfl, rfl, 1, rfl, ⟨by omega, by omega⟩, by omega⟩
/-! StrikeAwakeModel.barsOf(I)I -/
theorem e274 : wq_en 274 = some (9, 7, false, some FieldType.int) := rfl
theorem c274_0 : mc_cd 274 0 = some (.aload_n 0, 1) := by decide +kernel
theorem c274_1 : mc_cd 274 1 = some (.getfield 337, 3) := by decide +kernel
theorem c274_4 : mc_cd 274 4 = some (.getfield 312, 3) := by decide +kernel
theorem c274_7 : mc_cd 274 7 = some (.iload_n 1, 1) := by decide +kernel
theorem c274_8 : mc_cd 274 8 = some (.iaload, 1) := by decide +kernel
theorem c274_9 : mc_cd 274 9 = some (.istore_n 2, 1) := by decide +kernel
theorem c274_10 : mc_cd 274 10 = some (.aload_n 0, 1) := by decide +kernel
theorem c274_11 : mc_cd 274 11 = some (.getfield 337, 3) := by decide +kernel
theorem c274_14 : mc_cd 274 14 = some (.getfield 315, 3) := by decide +kernel
theorem c274_17 : mc_cd 274 17 = some (.iload_n 1, 1) := by decide +kernel
theorem c274_18 : mc_cd 274 18 = some (.iaload, 1) := by decide +kernel
theorem c274_19 : mc_cd 274 19 = some (.aload_n 0, 1) := by decide +kernel
theorem c274_20 : mc_cd 274 20 = some (.getfield 343, 3) := by decide +kernel
theorem c274_23 : mc_cd 274 23 = some (.iand, 1) := by decide +kernel
theorem c274_24 : mc_cd 274 24 = some (.istore_n 3, 1) := by decide +kernel
theorem c274_25 : mc_cd 274 25 = some (.sipush (-1000), 3) := by decide +kernel
theorem c274_28 : mc_cd 274 28 = some (.istore 4, 2) := by decide +kernel
theorem c274_30 : mc_cd 274 30 = some (.iconst 0, 1) := by decide +kernel
theorem c274_31 : mc_cd 274 31 = some (.istore 5, 2) := by decide +kernel
theorem c274_33 : mc_cd 274 33 = some (.iload 5, 2) := by decide +kernel
theorem c274_35 : mc_cd 274 35 = some (.i2l, 1) := by decide +kernel
theorem c274_36 : mc_cd 274 36 = some (.aload_n 0, 1) := by decide +kernel
theorem c274_37 : mc_cd 274 37 = some (.invokevirtual 376, 3) := by decide +kernel
theorem c274_40 : mc_cd 274 40 = some (.lcmp, 1) := by decide +kernel
theorem c274_41 : mc_cd 274 41 = some (.ifCond .ge 82, 3) := by decide +kernel
theorem c274_44 : mc_cd 274 44 = some (.aload_n 0, 1) := by decide +kernel
theorem c274_45 : mc_cd 274 45 = some (.iload 5, 2) := by decide +kernel
theorem c274_47 : mc_cd 274 47 = some (.invokevirtual 425, 3) := by decide +kernel
theorem c274_50 : mc_cd 274 50 = some (.iload_n 3, 1) := by decide +kernel
theorem c274_51 : mc_cd 274 51 = some (.aload_n 0, 1) := by decide +kernel
theorem c274_52 : mc_cd 274 52 = some (.getfield 30, 3) := by decide +kernel
theorem c274_55 : mc_cd 274 55 = some (.bipush 40, 2) := by decide +kernel
theorem c274_57 : mc_cd 274 57 = some (.iload_n 2, 1) := by decide +kernel
theorem c274_58 : mc_cd 274 58 = some (.imul, 1) := by decide +kernel
theorem c274_59 : mc_cd 274 59 = some (.aload_n 0, 1) := by decide +kernel
theorem c274_60 : mc_cd 274 60 = some (.getfield 39, 3) := by decide +kernel
theorem c274_63 : mc_cd 274 63 = some (.iload_n 2, 1) := by decide +kernel
theorem c274_64 : mc_cd 274 64 = some (.iaload, 1) := by decide +kernel
theorem c274_65 : mc_cd 274 65 = some (.iadd, 1) := by decide +kernel
theorem c274_66 : mc_cd 274 66 = some (.iaload, 1) := by decide +kernel
theorem c274_67 : mc_cd 274 67 = some (.iconst (-1), 1) := by decide +kernel
theorem c274_68 : mc_cd 274 68 = some (.ixor, 1) := by decide +kernel
theorem c274_69 : mc_cd 274 69 = some (.iand, 1) := by decide +kernel
theorem c274_70 : mc_cd 274 70 = some (.ifCond .ne 47, 3) := by decide +kernel
theorem c274_73 : mc_cd 274 73 = some (.aload_n 0, 1) := by decide +kernel
theorem c274_74 : mc_cd 274 74 = some (.aload_n 0, 1) := by decide +kernel
theorem c274_75 : mc_cd 274 75 = some (.getfield 39, 3) := by decide +kernel
theorem c274_78 : mc_cd 274 78 = some (.invokevirtual 393, 3) := by decide +kernel
theorem c274_81 : mc_cd 274 81 = some (.ifCond .eq 6, 3) := by decide +kernel
theorem c274_84 : mc_cd 274 84 = some (.goto 33, 3) := by decide +kernel
theorem c274_87 : mc_cd 274 87 = some (.aload_n 0, 1) := by decide +kernel
theorem c274_88 : mc_cd 274 88 = some (.aload_n 0, 1) := by decide +kernel
theorem c274_89 : mc_cd 274 89 = some (.getfield 39, 3) := by decide +kernel
theorem c274_92 : mc_cd 274 92 = some (.aload_n 0, 1) := by decide +kernel
theorem c274_93 : mc_cd 274 93 = some (.getfield 343, 3) := by decide +kernel
theorem c274_96 : mc_cd 274 96 = some (.invokevirtual 397, 3) := by decide +kernel
theorem c274_99 : mc_cd 274 99 = some (.istore 6, 2) := by decide +kernel
theorem c274_101 : mc_cd 274 101 = some (.iload 6, 2) := by decide +kernel
theorem c274_103 : mc_cd 274 103 = some (.iload 4, 2) := by decide +kernel
theorem c274_105 : mc_cd 274 105 = some (.if_icmp .le 8, 3) := by decide +kernel
theorem c274_108 : mc_cd 274 108 = some (.iload 6, 2) := by decide +kernel
theorem c274_110 : mc_cd 274 110 = some (.goto 5, 3) := by decide +kernel
theorem c274_113 : mc_cd 274 113 = some (.iload 4, 2) := by decide +kernel
theorem c274_115 : mc_cd 274 115 = some (.istore 4, 2) := by decide +kernel
theorem c274_117 : mc_cd 274 117 = some (.iinc 5 1, 3) := by decide +kernel
theorem c274_120 : mc_cd 274 120 = some (.goto (-87), 3) := by decide +kernel
theorem c274_123 : mc_cd 274 123 = some (.iload 4, 2) := by decide +kernel
theorem c274_125 : mc_cd 274 125 = some (.ireturn, 1) := by decide +kernel
abbrev q_274 (r0 : Nat) (a1 : Int) (pp : Nat) (T : wq_T) (H : wq_H) : Option Value → wq_T → wq_H → Prop := fun r T' H' => T = T' ∧ WT T H' ∧ wfr [(51, 999)] T H H' ∧ ∃ z : Int, some (vI z) = r ∧ ((-2147483648) ≤ z ∧ z ≤ 2147483647)
set_option maxHeartbeats 4000000 in
theorem s_274 {kt : Nat → Option mc_E} {T : wq_T} {H : wq_H} {r0 : Nat} {a1 : Int} {pp : Nat} (hW : WT T H) (g0 : T.2.2.2 r0 = some 42) (i1 : 0 ≤ a1 ∧ a1 ≤ 3) (qpp : H r0 3 = (pp : Int)) (gpp : T.2.2.2 pp = some 54) (p0 : wLM H r0 ≤ 20000) : wpc kt 5 274 [.ref r0, vI a1] T H (q_274 r0 a1 pp T H) := by
  refine wp_enter e274 (Nat.le_of_ble_eq_true rfl) rfl ?_
  have f0 : wfr [(51, 999)] T H H := wfr.rf
  show wp _ _ 274 0 [(0, .ref r0), (1, vI a1)] [] _ H _
  refine wp_of e274 c274_0 (rw_aload_n (pc' := 1) (v := .ref r0) rfl rfl rfl ?_)
  refine wp_of e274 c274_1 (xg_K (pc' := 4) lf_9_337 hW g0 sh_42 (by decide) (by decide) rfl qpp rfl ?_)
  refine wp_of e274 c274_4 (xg_R (pc' := 7) lf_9_312 hW gpp sh_54 (by decide) (by decide) ty_54_22 rfl rfl (fun r176786 q176787 g176788 => ?_))
  refine wp_of e274 c274_7 (rw_iload_n (pc' := 8) (z := a1) rfl rfl ?_)
  refine wp_of e274 c274_8 (xa_I (so := 0) (pc' := 9) hW g176788 sh_68 (by decide) (ty_68 _) (by omega) (by omega) rfl (fun b176789 b176790 => ?_))
  refine wp_of e274 c274_9 (rw_istore_n (pc' := 10) (z := H r176786 (a1.toNat)) (L' := [(2, vI (H r176786 (a1.toNat))), (0, .ref r0), (1, vI a1)]) rfl rfl rfl ?_)
  refine wp_of e274 c274_10 (rw_aload_n (pc' := 11) (v := .ref r0) rfl rfl rfl ?_)
  refine wp_of e274 c274_11 (xg_K (pc' := 14) lf_9_337 hW g0 sh_42 (by decide) (by decide) rfl qpp rfl ?_)
  refine wp_of e274 c274_14 (xg_R (pc' := 17) lf_9_315 hW gpp sh_54 (by decide) (by decide) ty_54_23 rfl rfl (fun r176791 q176792 g176793 => ?_))
  refine wp_of e274 c274_17 (rw_iload_n (pc' := 18) (z := a1) rfl rfl ?_)
  refine wp_of e274 c274_18 (xa_I (so := 0) (pc' := 19) hW g176793 sh_69 (by decide) (ty_69 _) (by omega) (by omega) rfl (fun b176794 b176795 => ?_))
  refine wp_of e274 c274_19 (rw_aload_n (pc' := 20) (v := .ref r0) rfl rfl rfl ?_)
  refine wp_of e274 c274_20 (xg_I (pc' := 23) lf_9_343 hW g0 sh_42 (by decide) (by decide) ty_42_19 rfl rfl (fun b176796 b176797 => ?_))
  refine wp_of e274 c274_23 (rw_iand (pc' := 24) rfl ?_)
  obtain ⟨v176798, e176799⟩ : ∃ x : Int, x = wq_and (H r176791 (a1.toNat)) (H r0 19) := ⟨_, rfl⟩
  rw [← e176799]
  have b176800 : -2147483648 ≤ v176798 ∧ v176798 ≤ 2147483647 := by
    rw [e176799]
    exact wI_and _ _
  refine wp_of e274 c274_24 (rw_istore_n (pc' := 25) (z := v176798) (L' := [(3, vI v176798), (2, vI (H r176786 (a1.toNat))), (0, .ref r0), (1, vI a1)]) rfl rfl rfl ?_)
  refine wp_of e274 c274_25 (rw_sipush (pc' := 28) (z := -1000) rfl (by decide) ?_)
  refine wp_of e274 c274_28 (rw_istore (pc' := 30) (z := -1000) (L' := [(4, vI (-1000)), (3, vI v176798), (2, vI (H r176786 (a1.toNat))), (0, .ref r0), (1, vI a1)]) rfl rfl rfl ?_)
  refine wp_of e274 c274_30 (rw_iconst (pc' := 31) rfl ?_)
  refine wp_of e274 c274_31 (rw_istore (pc' := 33) (z := 0) (L' := [(5, vI 0), (4, vI (-1000)), (3, vI v176798), (2, vI (H r176786 (a1.toNat))), (0, .ref r0), (1, vI a1)]) rfl rfl rfl ?_)
  have lp177313 : ∀ (n177314 : Nat) (v177316 : Int) (v177317 : Int) (H177318 : wq_H), WT T H177318 → wfr [(51, 999)] T H H177318 → (0 ≤ v177316 ∧ v177316 ≤ 20000) → ((-1000) ≤ v177317 ∧ v177317 ≤ 24) → (20000 - v177316).toNat = n177314 → wp kt 4 274 33 [(5, vI v177316), (4, vI v177317), (3, vI v176798), (2, vI (H r176786 (a1.toNat))), (0, .ref r0)] [] T H177318 (q_274 r0 a1 pp T H) := by
    intro n177314
    induction n177314 using Nat.strongRecOn with
    | _ n177314 ih177315 =>
      intro v177316 v177317 H177318 w177319 f177320 b177321 b177322 m177323
      have f177324 := f0.tr f177320 rfl
      refine wp_of e274 c274_33 (rw_iload (pc' := 35) (z := v177316) rfl rfl ?_)
      refine wp_of e274 c274_35 (rw_i2l (pc' := 36) rfl ⟨by omega, by omega⟩ ?_)
      refine wp_of e274 c274_36 (rw_aload_n (pc' := 37) (v := .ref r0) rfl rfl rfl ?_)
      have k177325 : wLM H177318 r0 = wLM H r0 := (wLM_fr hW g0 f177320 rfl)
      have k177326 : H177318 r0 3 = H r0 3 := (f177320 r0 3 _ g0 rfl)
      have q177327 : H177318 r0 3 = (pp : Int) := k177326.trans qpp
      refine wp_of e274 c274_37 (xc_V (pc' := 40) (r := r0) (as := []) (st := [vL v177316]) (lm_9_376) rfl rfl (Nat.le_of_ble_eq_true rfl) w177319 g0 sh_42 (by decide) rfl (by decide) (s_220 w177319 g0 q177327 gpp) (fun R177328 T177329 H177330 p177331 => ?_))
      obtain ⟨e177332, e177334, z177336, e177333, b177337, p177335⟩ := p177331
      subst e177332
      subst e177333
      subst e177334
      show wp _ _ 274 40 [(5, vI v177316), (4, vI v177317), (3, vI v176798), (2, vI (H r176786 (a1.toNat))), (0, .ref r0)] [vL z177336, vL v177316] _ H177318 _
      refine wp_of e274 c274_40 (rw_lcmp (pc' := 41) rfl ⟨by omega, by omega⟩ ⟨by omega, by omega⟩ ?_)
      have b177338 := wq_cmp_b v177316 z177336
      refine wp_of e274 c274_41 (rw_if_ge (p1 := 123) (p2 := 44) (by decide) rfl ⟨by omega, by omega⟩ (fun c177339 => ?_) (fun c177339 => ?_))
      · refine wp_of e274 c274_123 (rw_iload (pc' := 125) (z := v177317) rfl rfl ?_)
        exact wp_ireturn e274 c274_125 rfl ⟨rfl, w177319, f177324, v177317, rfl, ⟨by omega, by omega⟩⟩
      · refine wp_of e274 c274_44 (rw_aload_n (pc' := 45) (v := .ref r0) rfl rfl rfl ?_)
        refine wp_of e274 c274_45 (rw_iload (pc' := 47) (z := v177316) rfl rfl ?_)
        refine wp_of e274 c274_47 (xc_V (pc' := 50) (r := r0) (as := [vI v177316]) (st := []) (lm_9_425) rfl rfl (Nat.le_of_ble_eq_true rfl) w177319 g0 sh_42 (by decide) rfl (by decide) (s_243 w177319 g0 ⟨by omega, by omega⟩ q177327 gpp (by omega)) (fun R177340 T177341 H177342 p177343 => ?_))
        obtain ⟨e177344, w177346, f177347, e177345⟩ := p177343
        subst e177344
        subst e177345
        have f177348 := f177324.tr f177347 rfl
        have f177349 := f177320.tr f177347 rfl
        show wp _ _ 274 50 [(5, vI v177316), (4, vI v177317), (3, vI v176798), (2, vI (H r176786 (a1.toNat))), (0, .ref r0)] [] _ H177342 _
        refine wp_of e274 c274_50 (rw_iload_n (pc' := 51) (z := v176798) rfl rfl ?_)
        refine wp_of e274 c274_51 (rw_aload_n (pc' := 52) (v := .ref r0) rfl rfl rfl ?_)
        refine wp_of e274 c274_52 (xg_R (pc' := 55) lf_9_30 w177346 g0 sh_42 (by decide) (by decide) ty_42_24 rfl rfl (fun r177350 q177351 g177352 => ?_))
        refine wp_of e274 c274_55 (rw_bipush (pc' := 57) (z := 40) rfl (by decide) ?_)
        refine wp_of e274 c274_57 (rw_iload_n (pc' := 58) (z := H r176786 (a1.toNat)) rfl rfl ?_)
        refine wp_of e274 c274_58 (rw_imul (pc' := 59) rfl ?_)
        refine wp_of e274 c274_59 (rw_aload_n (pc' := 60) (v := .ref r0) rfl rfl rfl ?_)
        refine wp_of e274 c274_60 (xg_R (pc' := 63) lf_9_39 w177346 g0 sh_42 (by decide) (by decide) ty_42_27 rfl rfl (fun r177353 q177354 g177355 => ?_))
        refine wp_of e274 c274_63 (rw_iload_n (pc' := 64) (z := H r176786 (a1.toNat)) rfl rfl ?_)
        refine wp_of e274 c274_64 (xa_I (so := 0) (pc' := 65) w177346 g177355 sh_51 (by decide) (ty_51 _) (by omega) (by omega) rfl (fun b177356 b177357 => ?_))
        refine wp_of e274 c274_65 (rw_iadd (pc' := 66) rfl ?_)
        refine wp_of e274 c274_66 (xa_I (so := 0) (pc' := 67) w177346 g177352 sh_48 (by decide) (ty_48 _) (by omega) (by omega) rfl (fun b177358 b177359 => ?_))
        refine wp_of e274 c274_67 (rw_iconst (pc' := 68) rfl ?_)
        refine wp_of e274 c274_68 (rw_ixor (pc' := 69) rfl ?_)
        obtain ⟨v177360, e177361⟩ : ∃ x : Int, x = wq_xor (H177342 r177350 (((40 * (H r176786 (a1.toNat))) + (H177342 r177353 ((H r176786 (a1.toNat)).toNat))).toNat)) (-1) := ⟨_, rfl⟩
        rw [← e177361]
        have b177362 : -2147483648 ≤ v177360 ∧ v177360 ≤ 2147483647 := by
          rw [e177361]
          exact wI_xor _ _
        refine wp_of e274 c274_69 (rw_iand (pc' := 70) rfl ?_)
        obtain ⟨v177363, e177364⟩ : ∃ x : Int, x = wq_and v176798 v177360 := ⟨_, rfl⟩
        rw [← e177364]
        have b177365 : -2147483648 ≤ v177363 ∧ v177363 ≤ 2147483647 := by
          rw [e177364]
          exact wI_and _ _
        refine wp_of e274 c274_70 (rw_if_ne (p1 := 117) (p2 := 73) (by decide) rfl ⟨by omega, by omega⟩ (fun c177366 => ?_) (fun c177366 => ?_))
        · refine wp_of e274 c274_117 (rw_iinc (pc' := 120) (z := v177316) (L' := [(5, vI (v177316 + 1)), (4, vI v177317), (3, vI v176798), (2, vI (H r176786 (a1.toNat))), (0, .ref r0)]) rfl rfl rfl rfl ?_)
          refine wp_of e274 c274_120 (rw_goto (p1 := 33) (by decide) ?_)
          exact wp_lc (ks := [5, 4, 3, 2, 0]) (wl_c rfl (wl_c rfl (wl_c rfl (wl_c rfl (wl_c rfl wl_n))))) rfl (by decide) (ih177315 _ (by omega) (v177316 + 1) v177317 H177342 w177346 f177349 ⟨by omega, by omega⟩ ⟨by omega, by omega⟩ rfl)
        · refine wp_of e274 c274_73 (rw_aload_n (pc' := 74) (v := .ref r0) rfl rfl rfl ?_)
          refine wp_of e274 c274_74 (rw_aload_n (pc' := 75) (v := .ref r0) rfl rfl rfl ?_)
          refine wp_of e274 c274_75 (xg_K (pc' := 78) lf_9_39 w177346 g0 sh_42 (by decide) (by decide) rfl q177354 rfl ?_)
          have k177367 : H177342 r0 3 = H177318 r0 3 := (f177347 r0 3 _ g0 rfl)
          have q177368 : H177342 r0 3 = (pp : Int) := k177367.trans q177327
          refine wp_of e274 c274_78 (xc_V (pc' := 81) (r := r0) (as := [.ref r177353]) (st := []) (lm_9_393) rfl rfl (Nat.le_of_ble_eq_true rfl) w177346 g0 sh_42 (by decide) rfl (by decide) (s_235_m_lot w177346 g0 g177355 q177368 gpp) (fun R177369 T177370 H177371 p177372 => ?_))
          obtain ⟨e177373, e177375, z177376, e177374, b177377⟩ := p177372
          subst e177373
          subst e177374
          subst e177375
          show wp _ _ 274 81 [(5, vI v177316), (4, vI v177317), (3, vI v176798), (2, vI (H r176786 (a1.toNat))), (0, .ref r0)] [vI z177376] _ H177342 _
          refine wp_of e274 c274_81 (rw_if_eq (p1 := 87) (p2 := 84) (by decide) rfl ⟨by omega, by omega⟩ (fun c177378 => ?_) (fun c177378 => ?_))
          · refine wp_of e274 c274_87 (rw_aload_n (pc' := 88) (v := .ref r0) rfl rfl rfl ?_)
            refine wp_of e274 c274_88 (rw_aload_n (pc' := 89) (v := .ref r0) rfl rfl rfl ?_)
            refine wp_of e274 c274_89 (xg_K (pc' := 92) lf_9_39 w177346 g0 sh_42 (by decide) (by decide) rfl q177354 rfl ?_)
            refine wp_of e274 c274_92 (rw_aload_n (pc' := 93) (v := .ref r0) rfl rfl rfl ?_)
            have k177379 : H177342 r0 19 = H r0 19 := ((f177347 r0 19 _ g0 rfl).trans (f177320 r0 19 _ g0 rfl))
            refine wp_of e274 c274_93 (xg_I (pc' := 96) lf_9_343 w177346 g0 sh_42 (by decide) (by decide) ty_42_19 rfl rfl (fun b177380 b177381 => ?_))
            refine wp_of e274 c274_96 (xc_V (pc' := 99) (r := r0) (as := [.ref r177353, vI (H177342 r0 19)]) (st := []) (lm_9_397) rfl rfl (Nat.le_of_ble_eq_true rfl) w177346 g0 sh_42 (by decide) rfl (by decide) (s_239_m_lot w177346 g0 g177355 ⟨by omega, by omega⟩ q177368 gpp) (fun R177382 T177383 H177384 p177385 => ?_))
            obtain ⟨e177386, e177388, z177389, e177387, b177390⟩ := p177385
            subst e177386
            subst e177387
            subst e177388
            show wp _ _ 274 99 [(5, vI v177316), (4, vI v177317), (3, vI v176798), (2, vI (H r176786 (a1.toNat))), (0, .ref r0)] [vI z177389] _ H177342 _
            refine wp_of e274 c274_99 (rw_istore (pc' := 101) (z := z177389) (L' := [(6, vI z177389), (5, vI v177316), (4, vI v177317), (3, vI v176798), (2, vI (H r176786 (a1.toNat))), (0, .ref r0)]) rfl rfl rfl ?_)
            refine wp_of e274 c274_101 (rw_iload (pc' := 103) (z := z177389) rfl rfl ?_)
            refine wp_of e274 c274_103 (rw_iload (pc' := 105) (z := v177317) rfl rfl ?_)
            refine wp_of e274 c274_105 (rw_icmp_le (p1 := 113) (p2 := 108) (by decide) rfl ⟨by omega, by omega⟩ ⟨by omega, by omega⟩ (fun c177391 => ?_) (fun c177391 => ?_))
            · refine wp_of e274 c274_113 (rw_iload (pc' := 115) (z := v177317) rfl rfl ?_)
              refine wp_of e274 c274_115 (rw_istore (pc' := 117) (z := v177317) (L' := [(4, vI v177317), (6, vI z177389), (5, vI v177316), (3, vI v176798), (2, vI (H r176786 (a1.toNat))), (0, .ref r0)]) rfl rfl rfl ?_)
              refine wp_of e274 c274_117 (rw_iinc (pc' := 120) (z := v177316) (L' := [(5, vI (v177316 + 1)), (4, vI v177317), (6, vI z177389), (3, vI v176798), (2, vI (H r176786 (a1.toNat))), (0, .ref r0)]) rfl rfl rfl rfl ?_)
              refine wp_of e274 c274_120 (rw_goto (p1 := 33) (by decide) ?_)
              exact wp_lc (ks := [5, 4, 6, 3, 2, 0]) (wl_c rfl (wl_c rfl (wl_c rfl (wl_c rfl (wl_c rfl wl_n))))) rfl (by decide) (ih177315 _ (by omega) (v177316 + 1) v177317 H177342 w177346 f177349 ⟨by omega, by omega⟩ ⟨by omega, by omega⟩ rfl)
            · refine wp_of e274 c274_108 (rw_iload (pc' := 110) (z := z177389) rfl rfl ?_)
              refine wp_of e274 c274_110 (rw_goto (p1 := 115) (by decide) ?_)
              refine wp_of e274 c274_115 (rw_istore (pc' := 117) (z := z177389) (L' := [(4, vI z177389), (6, vI z177389), (5, vI v177316), (3, vI v176798), (2, vI (H r176786 (a1.toNat))), (0, .ref r0)]) rfl rfl rfl ?_)
              refine wp_of e274 c274_117 (rw_iinc (pc' := 120) (z := v177316) (L' := [(5, vI (v177316 + 1)), (4, vI z177389), (6, vI z177389), (3, vI v176798), (2, vI (H r176786 (a1.toNat))), (0, .ref r0)]) rfl rfl rfl rfl ?_)
              refine wp_of e274 c274_120 (rw_goto (p1 := 33) (by decide) ?_)
              exact wp_lc (ks := [5, 4, 6, 3, 2, 0]) (wl_c rfl (wl_c rfl (wl_c rfl (wl_c rfl (wl_c rfl wl_n))))) rfl (by decide) (ih177315 _ (by omega) (v177316 + 1) z177389 H177342 w177346 f177349 ⟨by omega, by omega⟩ ⟨by omega, by omega⟩ rfl)
          · refine wp_of e274 c274_84 (rw_goto (p1 := 117) (by decide) ?_)
            refine wp_of e274 c274_117 (rw_iinc (pc' := 120) (z := v177316) (L' := [(5, vI (v177316 + 1)), (4, vI v177317), (3, vI v176798), (2, vI (H r176786 (a1.toNat))), (0, .ref r0)]) rfl rfl rfl rfl ?_)
            refine wp_of e274 c274_120 (rw_goto (p1 := 33) (by decide) ?_)
            exact wp_lc (ks := [5, 4, 3, 2, 0]) (wl_c rfl (wl_c rfl (wl_c rfl (wl_c rfl (wl_c rfl wl_n))))) rfl (by decide) (ih177315 _ (by omega) (v177316 + 1) v177317 H177342 w177346 f177349 ⟨by omega, by omega⟩ ⟨by omega, by omega⟩ rfl)
  exact wp_lc (ks := [5, 4, 3, 2, 0, 1]) (wl_c rfl (wl_c rfl (wl_c rfl (wl_c rfl (wl_c rfl wl_n))))) rfl (by decide) (lp177313 _ 0 (-1000) H hW wfr.rf ⟨by omega, by omega⟩ ⟨by omega, by omega⟩ rfl)
