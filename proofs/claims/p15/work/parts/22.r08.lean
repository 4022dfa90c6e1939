/-! methods of the reference (own work, written by wip/gen2/sx.py) -/
/-! StrikeAwakeModel.likeliest(I)I -/
theorem e256 : wq_en 256 = some (9, 3, false, some FieldType.int) := rfl
theorem cg256_0 : mc_cd 256 0 = some (.aload_n 0, 1) ∧ mc_cd 256 1 = some (.iconst 0, 1) ∧ mc_cd 256 2 = some (.putfield 48, 3) ∧ mc_cd 256 5 = some (.aload_n 0, 1) ∧ mc_cd 256 6 = some (.aload_n 0, 1) ∧ mc_cd 256 7 = some (.iload_n 1, 1) ∧ mc_cd 256 8 = some (.invokevirtual 364, 3) ∧ mc_cd 256 11 = some (.invokevirtual 447, 3) := by decide +kernel
theorem c256_0 : mc_cd 256 0 = some (.aload_n 0, 1) := cg256_0.1
theorem c256_1 : mc_cd 256 1 = some (.iconst 0, 1) := cg256_0.2.1
theorem c256_2 : mc_cd 256 2 = some (.putfield 48, 3) := cg256_0.2.2.1
theorem c256_5 : mc_cd 256 5 = some (.aload_n 0, 1) := cg256_0.2.2.2.1
theorem c256_6 : mc_cd 256 6 = some (.aload_n 0, 1) := cg256_0.2.2.2.2.1
theorem c256_7 : mc_cd 256 7 = some (.iload_n 1, 1) := cg256_0.2.2.2.2.2.1
theorem c256_8 : mc_cd 256 8 = some (.invokevirtual 364, 3) := cg256_0.2.2.2.2.2.2.1
theorem c256_11 : mc_cd 256 11 = some (.invokevirtual 447, 3) := cg256_0.2.2.2.2.2.2.2
theorem cg256_14 : mc_cd 256 14 = some (.istore_n 2, 1) ∧ mc_cd 256 15 = some (.iload_n 2, 1) ∧ mc_cd 256 16 = some (.ifCond .le 9, 3) ∧ mc_cd 256 19 = some (.aload_n 0, 1) ∧ mc_cd 256 20 = some (.iload_n 2, 1) ∧ mc_cd 256 21 = some (.invokevirtual 54, 3) ∧ mc_cd 256 24 = some (.ireturn, 1) ∧ mc_cd 256 25 = some (.aload_n 0, 1) := by decide +kernel
theorem c256_14 : mc_cd 256 14 = some (.istore_n 2, 1) := cg256_14.1
theorem c256_15 : mc_cd 256 15 = some (.iload_n 2, 1) := cg256_14.2.1
theorem c256_16 : mc_cd 256 16 = some (.ifCond .le 9, 3) := cg256_14.2.2.1
theorem c256_19 : mc_cd 256 19 = some (.aload_n 0, 1) := cg256_14.2.2.2.1
theorem c256_20 : mc_cd 256 20 = some (.iload_n 2, 1) := cg256_14.2.2.2.2.1
theorem c256_21 : mc_cd 256 21 = some (.invokevirtual 54, 3) := cg256_14.2.2.2.2.2.1
theorem c256_24 : mc_cd 256 24 = some (.ireturn, 1) := cg256_14.2.2.2.2.2.2.1
theorem c256_25 : mc_cd 256 25 = some (.aload_n 0, 1) := cg256_14.2.2.2.2.2.2.2
theorem cg256_26 : mc_cd 256 26 = some (.invokevirtual 452, 3) ∧ mc_cd 256 29 = some (.pop2, 1) ∧ mc_cd 256 30 = some (.aload_n 0, 1) ∧ mc_cd 256 31 = some (.aload_n 0, 1) ∧ mc_cd 256 32 = some (.getfield 39, 3) ∧ mc_cd 256 35 = some (.iload_n 1, 1) ∧ mc_cd 256 36 = some (.iaload, 1) ∧ mc_cd 256 37 = some (.invokevirtual 58, 3) := by decide +kernel
theorem c256_26 : mc_cd 256 26 = some (.invokevirtual 452, 3) := cg256_26.1
theorem c256_29 : mc_cd 256 29 = some (.pop2, 1) := cg256_26.2.1
theorem c256_30 : mc_cd 256 30 = some (.aload_n 0, 1) := cg256_26.2.2.1
theorem c256_31 : mc_cd 256 31 = some (.aload_n 0, 1) := cg256_26.2.2.2.1
theorem c256_32 : mc_cd 256 32 = some (.getfield 39, 3) := cg256_26.2.2.2.2.1
theorem c256_35 : mc_cd 256 35 = some (.iload_n 1, 1) := cg256_26.2.2.2.2.2.1
theorem c256_36 : mc_cd 256 36 = some (.iaload, 1) := cg256_26.2.2.2.2.2.2.1
theorem c256_37 : mc_cd 256 37 = some (.invokevirtual 58, 3) := cg256_26.2.2.2.2.2.2.2
theorem c256_40 : mc_cd 256 40 = some (.ireturn, 1) := by decide +kernel
abbrev q_256 (r0 : Nat) (a1 : Int) (T : wq_T) (H : wq_H) : Option Value → wq_T → wq_H → Prop := fun r T' H' => T = T' ∧ WT T H' ∧ wfr [(42, 0), (42, 1), (42, 2), (42, 28), (42, 29), (51, 999), (52, 999)] T H H' ∧ ∃ z : Int, some (vI z) = r ∧ ((-2147483648) ≤ z ∧ z ≤ 2147483647) ∧ (wKI H' r0 = 1)
set_option maxHeartbeats 4000000 in
theorem s_256 {kt : Nat → Option mc_E} {T : wq_T} {H : wq_H} {r0 : Nat} {a1 : Int} (hW : WT T H) (g0 : T.2.2.2 r0 = some 42) (i1 : (-2147483648) ≤ a1 ∧ a1 ≤ 2147483647) (p0 : wKI H r0 = 1) : wpc kt 9 256 [.ref r0, vI a1] T H (q_256 r0 a1 T H) := by
  refine wp_enter e256 (Nat.le_of_ble_eq_true rfl) rfl ?_
  have f0 : wfr [(42, 0), (42, 1), (42, 2), (42, 28), (42, 29), (51, 999), (52, 999)] T H H := wfr.rf
  show wp _ _ 256 0 [(0, .ref r0), (1, vI a1)] [] _ H _
  refine wp_of e256 c256_0 (rw_aload_n (pc' := 1) (v := .ref r0) rfl rfl rfl ?_)
  refine wp_of e256 c256_1 (rw_iconst (pc' := 2) rfl ?_)
  refine wp_of e256 c256_2 (xp_I (pc' := 5) lf_9_48 hW g0 sh_42 (by decide) (by decide) ty_42_0 rfl rfl (by omega) (by omega) ⟨by omega, by omega⟩ rfl (fun H142442 e142443 w142444 => ?_))
  have f142445 := f0.put' e142443 g0 rfl
  have k142446 : H142442 r0 0 = 0 := wq_u_s e142443
  refine wp_of e256 c256_5 (rw_aload_n (pc' := 6) (v := .ref r0) rfl rfl rfl ?_)
  refine wp_of e256 c256_6 (rw_aload_n (pc' := 7) (v := .ref r0) rfl rfl rfl ?_)
  refine wp_of e256 c256_7 (rw_iload_n (pc' := 8) (z := a1) rfl rfl ?_)
  refine wp_of e256 c256_8 (xc_V (pc' := 11) (r := r0) (as := [vI a1]) (st := [.ref r0]) (lm_9_364) rfl rfl (Nat.le_of_ble_eq_true rfl) w142444 g0 sh_42 (by decide) rfl (by decide) (s_213 w142444 g0 ⟨by omega, by omega⟩) (fun R142447 T142448 H142449 p142450 => ?_))
  obtain ⟨e142451, e142453, z142455, e142452, b142456, p142454⟩ := p142450
  subst e142451
  subst e142452
  subst e142453
  show wp _ _ 256 11 [(0, .ref r0), (1, vI a1)] [vI z142455, .ref r0] _ H142442 _
  have k142457 : wKI H142442 r0 = wKI H r0 := (wKI_fr hW g0 ((wfr.rf (l := [(42, 0)])).put' e142443 g0 rfl) rfl)
  refine wp_of e256 c256_11 (xc_V (pc' := 14) (r := r0) (as := [vI z142455]) (st := []) (lm_9_447) rfl rfl (Nat.le_of_ble_eq_true rfl) w142444 g0 sh_42 (by decide) rfl (by decide) (s_253 w142444 g0 ⟨by omega, by omega⟩ (by omega) (by omega)) (fun R142458 T142459 H142460 p142461 => ?_))
  obtain ⟨e142462, w142464, f142465, z142470, e142463, b142471, p142466, p142467, p142468, p142469⟩ := p142461
  subst e142462
  subst e142463
  have f142472 := f142445.tr f142465 rfl
  show wp _ _ 256 14 [(0, .ref r0), (1, vI a1)] [vI z142470] _ H142460 _
  refine wp_of e256 c256_14 (rw_istore_n (pc' := 15) (z := z142470) (L' := [(2, vI z142470), (0, .ref r0), (1, vI a1)]) rfl rfl rfl ?_)
  refine wp_of e256 c256_15 (rw_iload_n (pc' := 16) (z := z142470) rfl rfl ?_)
  refine wp_of e256 c256_16 (rw_if_le (p1 := 25) (p2 := 19) (by decide) rfl ⟨by omega, by omega⟩ (fun c142473 => ?_) (fun c142473 => ?_))
  · refine wp_of e256 c256_25 (rw_aload_n (pc' := 26) (v := .ref r0) rfl rfl rfl ?_)
    have k142474 : H142460 r0 3 = H142442 r0 3 := (f142465 r0 3 _ g0 rfl)
    obtain ⟨r142475, q142476, g142477⟩ := (w142464.opt g0 (t' := 54) (n := 33) (j := 3) (p := 0) (q := 0) rfl (by decide) rfl).resolve_left (by omega)
    refine wp_of e256 c256_26 (xc_V (pc' := 29) (r := r0) (as := []) (st := []) (lm_9_452) rfl rfl (Nat.le_of_ble_eq_true rfl) w142464 g0 sh_42 (by decide) rfl (by decide) (s_257 w142464 g0 q142476 g142477 (by omega) (by omega)) (fun R142478 T142479 H142480 p142481 => ?_))
    obtain ⟨e142482, w142484, f142485, z142486, e142483, b142487⟩ := p142481
    subst e142482
    subst e142483
    have f142488 := f142472.tr f142485 rfl
    show wp _ _ 256 29 [(2, vI z142470), (0, .ref r0), (1, vI a1)] [vL z142486] _ H142480 _
    refine wp_of e256 c256_29 (rw_pop2 (pc' := 30) rfl rfl ?_)
    refine wp_of e256 c256_30 (rw_aload_n (pc' := 31) (v := .ref r0) rfl rfl rfl ?_)
    refine wp_of e256 c256_31 (rw_aload_n (pc' := 32) (v := .ref r0) rfl rfl rfl ?_)
    refine wp_of e256 c256_32 (xg_R (pc' := 35) lf_9_39 w142484 g0 sh_42 (by decide) (by decide) ty_42_27 rfl rfl (fun r142489 q142490 g142491 => ?_))
    refine wp_of e256 c256_35 (rw_iload_n (pc' := 36) (z := a1) rfl rfl ?_)
    refine wp_of e256 c256_36 (xa_I (so := 0) (pc' := 37) w142484 g142491 sh_51 (by decide) (ty_51 _) (by omega) (by omega) rfl (fun b142492 b142493 => ?_))
    refine wp_of e256 c256_37 (xc_V (pc' := 40) (r := r0) (as := [vI (H142480 r142489 (a1.toNat))]) (st := []) (lm_9_58) rfl rfl (Nat.le_of_ble_eq_true rfl) w142484 g0 sh_42 (by decide) rfl (by decide) (s_209 w142484 g0 ⟨by omega, by omega⟩) (fun R142494 T142495 H142496 p142497 => ?_))
    obtain ⟨e142498, w142500, f142501, z142502, e142499, b142503⟩ := p142497
    subst e142498
    subst e142499
    have f142504 := f142488.tr f142501 rfl
    show wp _ _ 256 40 [(2, vI z142470), (0, .ref r0), (1, vI a1)] [vI z142502] _ H142496 _
    have k142505 : wKI H142496 r0 = wKI H142460 r0 := ((wKI_fr w142484 g0 f142501 rfl).trans (wKI_fr w142464 g0 f142485 rfl))
    exact wp_ireturn e256 c256_40 rfl ⟨rfl, w142500, f142504, z142502, rfl, ⟨by omega, by omega⟩, by omega⟩
  · refine wp_of e256 c256_19 (rw_aload_n (pc' := 20) (v := .ref r0) rfl rfl rfl ?_)
    refine wp_of e256 c256_20 (rw_iload_n (pc' := 21) (z := z142470) rfl rfl ?_)
    refine wp_of e256 c256_21 (xc_V (pc' := 24) (r := r0) (as := [vI z142470]) (st := []) (lm_9_54) rfl rfl (Nat.le_of_ble_eq_true rfl) w142464 g0 sh_42 (by decide) rfl (by decide) (s_170 w142464 g0 ⟨by omega, by omega⟩) (fun R142506 T142507 H142508 p142509 => ?_))
    obtain ⟨e142510, w142512, f142513, z142514, e142511, b142515⟩ := p142509
    subst e142510
    subst e142511
    have f142516 := f142472.tr f142513 rfl
    show wp _ _ 256 24 [(2, vI z142470), (0, .ref r0), (1, vI a1)] [vI z142514] _ H142508 _
    have k142517 : wKI H142508 r0 = wKI H142460 r0 := (wKI_fr w142464 g0 f142513 rfl)
    exact wp_ireturn e256 c256_24 rfl ⟨rfl, w142512, f142516, z142514, rfl, ⟨by omega, by omega⟩, by omega⟩
/-! StrikeAwakeModel.greatest()J -/
theorem e258 : wq_en 258 = some (9, 2, false, some FieldType.long) := rfl
theorem cg258_0 : mc_cd 258 0 = some (.aload_n 0, 1) ∧ mc_cd 258 1 = some (.iconst 0, 1) ∧ mc_cd 258 2 = some (.putfield 48, 3) ∧ mc_cd 258 5 = some (.aload_n 0, 1) ∧ mc_cd 258 6 = some (.aload_n 0, 1) ∧ mc_cd 258 7 = some (.getfield 337, 3) ∧ mc_cd 258 10 = some (.ifnull 7, 3) ∧ mc_cd 258 13 = some (.iconst 1, 1) := by decide +kernel
theorem c258_0 : mc_cd 258 0 = some (.aload_n 0, 1) := cg258_0.1
theorem c258_1 : mc_cd 258 1 = some (.iconst 0, 1) := cg258_0.2.1
theorem c258_2 : mc_cd 258 2 = some (.putfield 48, 3) := cg258_0.2.2.1
theorem c258_5 : mc_cd 258 5 = some (.aload_n 0, 1) := cg258_0.2.2.2.1
theorem c258_6 : mc_cd 258 6 = some (.aload_n 0, 1) := cg258_0.2.2.2.2.1
theorem c258_7 : mc_cd 258 7 = some (.getfield 337, 3) := cg258_0.2.2.2.2.2.1
theorem c258_10 : mc_cd 258 10 = some (.ifnull 7, 3) := cg258_0.2.2.2.2.2.2.1
theorem c258_13 : mc_cd 258 13 = some (.iconst 1, 1) := cg258_0.2.2.2.2.2.2.2
theorem cg258_14 : mc_cd 258 14 = some (.goto 4, 3) ∧ mc_cd 258 17 = some (.iconst 0, 1) ∧ mc_cd 258 18 = some (.invokevirtual 447, 3) ∧ mc_cd 258 21 = some (.istore_n 1, 1) ∧ mc_cd 258 22 = some (.iload_n 1, 1) ∧ mc_cd 258 23 = some (.ifCond .le 12, 3) ∧ mc_cd 258 26 = some (.aload_n 0, 1) ∧ mc_cd 258 27 = some (.iload_n 1, 1) := by decide +kernel
theorem c258_14 : mc_cd 258 14 = some (.goto 4, 3) := cg258_14.1
theorem c258_17 : mc_cd 258 17 = some (.iconst 0, 1) := cg258_14.2.1
theorem c258_18 : mc_cd 258 18 = some (.invokevirtual 447, 3) := cg258_14.2.2.1
theorem c258_21 : mc_cd 258 21 = some (.istore_n 1, 1) := cg258_14.2.2.2.1
theorem c258_22 : mc_cd 258 22 = some (.iload_n 1, 1) := cg258_14.2.2.2.2.1
theorem c258_23 : mc_cd 258 23 = some (.ifCond .le 12, 3) := cg258_14.2.2.2.2.2.1
theorem c258_26 : mc_cd 258 26 = some (.aload_n 0, 1) := cg258_14.2.2.2.2.2.2.1
theorem c258_27 : mc_cd 258 27 = some (.iload_n 1, 1) := cg258_14.2.2.2.2.2.2.2
theorem cg258_28 : mc_cd 258 28 = some (.invokevirtual 54, 3) ∧ mc_cd 258 31 = some (.i2l, 1) ∧ mc_cd 258 32 = some (.goto 11, 3) ∧ mc_cd 258 35 = some (.aload_n 0, 1) ∧ mc_cd 258 36 = some (.aload_n 0, 1) ∧ mc_cd 258 37 = some (.invokevirtual 452, 3) ∧ mc_cd 258 40 = some (.invokevirtual 380, 3) ∧ mc_cd 258 43 = some (.lreturn, 1) := by decide +kernel
theorem c258_28 : mc_cd 258 28 = some (.invokevirtual 54, 3) := cg258_28.1
theorem c258_31 : mc_cd 258 31 = some (.i2l, 1) := cg258_28.2.1
theorem c258_32 : mc_cd 258 32 = some (.goto 11, 3) := cg258_28.2.2.1
theorem c258_35 : mc_cd 258 35 = some (.aload_n 0, 1) := cg258_28.2.2.2.1
theorem c258_36 : mc_cd 258 36 = some (.aload_n 0, 1) := cg258_28.2.2.2.2.1
theorem c258_37 : mc_cd 258 37 = some (.invokevirtual 452, 3) := cg258_28.2.2.2.2.2.1
theorem c258_40 : mc_cd 258 40 = some (.invokevirtual 380, 3) := cg258_28.2.2.2.2.2.2.1
theorem c258_43 : mc_cd 258 43 = some (.lreturn, 1) := cg258_28.2.2.2.2.2.2.2
abbrev q_258 (r0 : Nat) (T : wq_T) (H : wq_H) : Option Value → wq_T → wq_H → Prop := fun r T' H' => T = T' ∧ WT T H' ∧ wfr [(42, 0), (42, 1), (42, 2), (42, 28), (42, 29), (51, 999), (52, 999)] T H H' ∧ ∃ z : Int, some (vL z) = r ∧ ((-9223372036854775808) ≤ z ∧ z ≤ 9223372036854775807) ∧ (wKI H' r0 = 1)
set_option maxHeartbeats 4000000 in
theorem s_258 {kt : Nat → Option mc_E} {T : wq_T} {H : wq_H} {r0 : Nat} (hW : WT T H) (g0 : T.2.2.2 r0 = some 42) (p0 : wKI H r0 = 1) : wpc kt 9 258 [.ref r0] T H (q_258 r0 T H) := by
  refine wp_enter e258 (Nat.le_of_ble_eq_true rfl) rfl ?_
  have f0 : wfr [(42, 0), (42, 1), (42, 2), (42, 28), (42, 29), (51, 999), (52, 999)] T H H := wfr.rf
  show wp _ _ 258 0 [(0, .ref r0)] [] _ H _
  refine wp_of e258 c258_0 (rw_aload_n (pc' := 1) (v := .ref r0) rfl rfl rfl ?_)
  refine wp_of e258 c258_1 (rw_iconst (pc' := 2) rfl ?_)
  refine wp_of e258 c258_2 (xp_I (pc' := 5) lf_9_48 hW g0 sh_42 (by decide) (by decide) ty_42_0 rfl rfl (by omega) (by omega) ⟨by omega, by omega⟩ rfl (fun H142609 e142610 w142611 => ?_))
  have f142612 := f0.put' e142610 g0 rfl
  have k142613 : H142609 r0 0 = 0 := wq_u_s e142610
  refine wp_of e258 c258_5 (rw_aload_n (pc' := 6) (v := .ref r0) rfl rfl rfl ?_)
  refine wp_of e258 c258_6 (rw_aload_n (pc' := 7) (v := .ref r0) rfl rfl rfl ?_)
  refine wp_of e258 c258_7 (xg_O (pc' := 10) lf_9_337 w142611 g0 sh_42 (by decide) (by decide) ty_42_3 rfl rfl (fun q142615 => ?_) (fun r142614 q142615 g142616 => ?_))
  · refine wp_of e258 c258_10 (rw_ifnull_n (p1 := 17) (p2 := 13) (by decide) rfl ?_)
    refine wp_of e258 c258_17 (rw_iconst (pc' := 18) rfl ?_)
    have k142617 : wKI H142609 r0 = wKI H r0 := (wKI_fr hW g0 ((wfr.rf (l := [(42, 0)])).put' e142610 g0 rfl) rfl)
    refine wp_of e258 c258_18 (xc_V (pc' := 21) (r := r0) (as := [vI 0]) (st := []) (lm_9_447) rfl rfl (Nat.le_of_ble_eq_true rfl) w142611 g0 sh_42 (by decide) rfl (by decide) (s_253 w142611 g0 ⟨by omega, by omega⟩ (by omega) (by omega)) (fun R142618 T142619 H142620 p142621 => ?_))
    obtain ⟨e142622, w142624, f142625, z142630, e142623, b142631, p142626, p142627, p142628, p142629⟩ := p142621
    subst e142622
    subst e142623
    have f142632 := f142612.tr f142625 rfl
    show wp _ _ 258 21 [(0, .ref r0)] [vI z142630] _ H142620 _
    refine wp_of e258 c258_21 (rw_istore_n (pc' := 22) (z := z142630) (L' := [(1, vI z142630), (0, .ref r0)]) rfl rfl rfl ?_)
    refine wp_of e258 c258_22 (rw_iload_n (pc' := 23) (z := z142630) rfl rfl ?_)
    refine wp_of e258 c258_23 (rw_if_le (p1 := 35) (p2 := 26) (by decide) rfl ⟨by omega, by omega⟩ (fun c142633 => ?_) (fun c142633 => ?_))
    · exfalso
      omega
    · refine wp_of e258 c258_26 (rw_aload_n (pc' := 27) (v := .ref r0) rfl rfl rfl ?_)
      refine wp_of e258 c258_27 (rw_iload_n (pc' := 28) (z := z142630) rfl rfl ?_)
      refine wp_of e258 c258_28 (xc_V (pc' := 31) (r := r0) (as := [vI z142630]) (st := []) (lm_9_54) rfl rfl (Nat.le_of_ble_eq_true rfl) w142624 g0 sh_42 (by decide) rfl (by decide) (s_170 w142624 g0 ⟨by omega, by omega⟩) (fun R142634 T142635 H142636 p142637 => ?_))
      obtain ⟨e142638, w142640, f142641, z142642, e142639, b142643⟩ := p142637
      subst e142638
      subst e142639
      have f142644 := f142632.tr f142641 rfl
      show wp _ _ 258 31 [(1, vI z142630), (0, .ref r0)] [vI z142642] _ H142636 _
      refine wp_of e258 c258_31 (rw_i2l (pc' := 32) rfl ⟨by omega, by omega⟩ ?_)
      refine wp_of e258 c258_32 (rw_goto (p1 := 43) (by decide) ?_)
      have k142645 : wKI H142636 r0 = wKI H142620 r0 := (wKI_fr w142624 g0 f142641 rfl)
      exact wp_lreturn e258 c258_43 rfl ⟨rfl, w142640, f142644, z142642, rfl, ⟨by omega, by omega⟩, by omega⟩
  · refine wp_of e258 c258_10 (rw_ifnull_r (p1 := 17) (p2 := 13) (by decide) rfl ?_)
    refine wp_of e258 c258_13 (rw_iconst (pc' := 14) rfl ?_)
    refine wp_of e258 c258_14 (rw_goto (p1 := 18) (by decide) ?_)
    have k142646 : wKI H142609 r0 = wKI H r0 := (wKI_fr hW g0 ((wfr.rf (l := [(42, 0)])).put' e142610 g0 rfl) rfl)
    refine wp_of e258 c258_18 (xc_V (pc' := 21) (r := r0) (as := [vI 1]) (st := []) (lm_9_447) rfl rfl (Nat.le_of_ble_eq_true rfl) w142611 g0 sh_42 (by decide) rfl (by decide) (s_253 w142611 g0 ⟨by omega, by omega⟩ (by omega) (by omega)) (fun R142647 T142648 H142649 p142650 => ?_))
    obtain ⟨e142651, w142653, f142654, z142659, e142652, b142660, p142655, p142656, p142657, p142658⟩ := p142650
    subst e142651
    subst e142652
    have f142661 := f142612.tr f142654 rfl
    show wp _ _ 258 21 [(0, .ref r0)] [vI z142659] _ H142649 _
    refine wp_of e258 c258_21 (rw_istore_n (pc' := 22) (z := z142659) (L' := [(1, vI z142659), (0, .ref r0)]) rfl rfl rfl ?_)
    refine wp_of e258 c258_22 (rw_iload_n (pc' := 23) (z := z142659) rfl rfl ?_)
    refine wp_of e258 c258_23 (rw_if_le (p1 := 35) (p2 := 26) (by decide) rfl ⟨by omega, by omega⟩ (fun c142662 => ?_) (fun c142662 => ?_))
    · refine wp_of e258 c258_35 (rw_aload_n (pc' := 36) (v := .ref r0) rfl rfl rfl ?_)
      refine wp_of e258 c258_36 (rw_aload_n (pc' := 37) (v := .ref r0) rfl rfl rfl ?_)
      have k142663 : H142649 r0 3 = H142609 r0 3 := (f142654 r0 3 _ g0 rfl)
      have q142664 : H142649 r0 3 = (r142614 : Int) := k142663.trans q142615
      refine wp_of e258 c258_37 (xc_V (pc' := 40) (r := r0) (as := []) (st := [.ref r0]) (lm_9_452) rfl rfl (Nat.le_of_ble_eq_true rfl) w142653 g0 sh_42 (by decide) rfl (by decide) (s_257 w142653 g0 q142664 g142616 (by omega) (by omega)) (fun R142665 T142666 H142667 p142668 => ?_))
      obtain ⟨e142669, w142671, f142672, z142673, e142670, b142674⟩ := p142668
      subst e142669
      subst e142670
      have f142675 := f142661.tr f142672 rfl
      show wp _ _ 258 40 [(1, vI z142659), (0, .ref r0)] [vL z142673, .ref r0] _ H142667 _
      refine wp_of e258 c258_40 (xc_V (pc' := 43) (r := r0) (as := [vL z142673]) (st := []) (lm_9_380) rfl rfl (Nat.le_of_ble_eq_true rfl) w142671 g0 sh_42 (by decide) rfl (by decide) (s_221 w142671 g0 ⟨by omega, by omega⟩) (fun R142676 T142677 H142678 p142679 => ?_))
      obtain ⟨e142680, w142682, f142683, z142684, e142681, b142685⟩ := p142679
      subst e142680
      subst e142681
      have f142686 := f142675.tr f142683 rfl
      show wp _ _ 258 43 [(1, vI z142659), (0, .ref r0)] [vL z142684] _ H142678 _
      have k142687 : wKI H142678 r0 = wKI H142649 r0 := ((wKI_fr w142671 g0 f142683 rfl).trans (wKI_fr w142653 g0 f142672 rfl))
      exact wp_lreturn e258 c258_43 rfl ⟨rfl, w142682, f142686, z142684, rfl, ⟨by omega, by omega⟩, by omega⟩
    · refine wp_of e258 c258_26 (rw_aload_n (pc' := 27) (v := .ref r0) rfl rfl rfl ?_)
      refine wp_of e258 c258_27 (rw_iload_n (pc' := 28) (z := z142659) rfl rfl ?_)
      refine wp_of e258 c258_28 (xc_V (pc' := 31) (r := r0) (as := [vI z142659]) (st := []) (lm_9_54) rfl rfl (Nat.le_of_ble_eq_true rfl) w142653 g0 sh_42 (by decide) rfl (by decide) (s_170 w142653 g0 ⟨by omega, by omega⟩) (fun R142688 T142689 H142690 p142691 => ?_))
      obtain ⟨e142692, w142694, f142695, z142696, e142693, b142697⟩ := p142691
      subst e142692
      subst e142693
      have f142698 := f142661.tr f142695 rfl
      show wp _ _ 258 31 [(1, vI z142659), (0, .ref r0)] [vI z142696] _ H142690 _
      refine wp_of e258 c258_31 (rw_i2l (pc' := 32) rfl ⟨by omega, by omega⟩ ?_)
      refine wp_of e258 c258_32 (rw_goto (p1 := 43) (by decide) ?_)
      have k142699 : wKI H142690 r0 = wKI H142649 r0 := (wKI_fr w142653 g0 f142695 rfl)
      exact wp_lreturn e258 c258_43 rfl ⟨rfl, w142694, f142698, z142696, rfl, ⟨by omega, by omega⟩, by omega⟩
/-! StrikeAwakeModel.together(II)I -/
theorem e259 : wq_en 259 = some (9, 6, false, some FieldType.int) := rfl
theorem cg259_0 : mc_cd 259 0 = some (.aload_n 0, 1) ∧ mc_cd 259 1 = some (.iconst 0, 1) ∧ mc_cd 259 2 = some (.putfield 48, 3) ∧ mc_cd 259 5 = some (.aload_n 0, 1) ∧ mc_cd 259 6 = some (.aload_n 0, 1) ∧ mc_cd 259 7 = some (.iload_n 1, 1) ∧ mc_cd 259 8 = some (.invokevirtual 364, 3) ∧ mc_cd 259 11 = some (.ifCond .eq 20, 3) := by decide +kernel
theorem c259_0 : mc_cd 259 0 = some (.aload_n 0, 1) := cg259_0.1
theorem c259_1 : mc_cd 259 1 = some (.iconst 0, 1) := cg259_0.2.1
theorem c259_2 : mc_cd 259 2 = some (.putfield 48, 3) := cg259_0.2.2.1
theorem c259_5 : mc_cd 259 5 = some (.aload_n 0, 1) := cg259_0.2.2.2.1
theorem c259_6 : mc_cd 259 6 = some (.aload_n 0, 1) := cg259_0.2.2.2.2.1
theorem c259_7 : mc_cd 259 7 = some (.iload_n 1, 1) := cg259_0.2.2.2.2.2.1
theorem c259_8 : mc_cd 259 8 = some (.invokevirtual 364, 3) := cg259_0.2.2.2.2.2.2.1
theorem c259_11 : mc_cd 259 11 = some (.ifCond .eq 20, 3) := cg259_0.2.2.2.2.2.2.2
theorem cg259_14 : mc_cd 259 14 = some (.aload_n 0, 1) ∧ mc_cd 259 15 = some (.iload_n 2, 1) ∧ mc_cd 259 16 = some (.invokevirtual 364, 3) ∧ mc_cd 259 19 = some (.ifCond .eq 12, 3) ∧ mc_cd 259 22 = some (.iload_n 1, 1) ∧ mc_cd 259 23 = some (.iload_n 2, 1) ∧ mc_cd 259 24 = some (.if_icmp .eq 7, 3) ∧ mc_cd 259 27 = some (.iconst 1, 1) := by decide +kernel
theorem c259_14 : mc_cd 259 14 = some (.aload_n 0, 1) := cg259_14.1
theorem c259_15 : mc_cd 259 15 = some (.iload_n 2, 1) := cg259_14.2.1
theorem c259_16 : mc_cd 259 16 = some (.invokevirtual 364, 3) := cg259_14.2.2.1
theorem c259_19 : mc_cd 259 19 = some (.ifCond .eq 12, 3) := cg259_14.2.2.2.1
theorem c259_22 : mc_cd 259 22 = some (.iload_n 1, 1) := cg259_14.2.2.2.2.1
theorem c259_23 : mc_cd 259 23 = some (.iload_n 2, 1) := cg259_14.2.2.2.2.2.1
theorem c259_24 : mc_cd 259 24 = some (.if_icmp .eq 7, 3) := cg259_14.2.2.2.2.2.2.1
theorem c259_27 : mc_cd 259 27 = some (.iconst 1, 1) := cg259_14.2.2.2.2.2.2.2
theorem cg259_28 : mc_cd 259 28 = some (.goto 4, 3) ∧ mc_cd 259 31 = some (.iconst 0, 1) ∧ mc_cd 259 32 = some (.invokevirtual 433, 3) ∧ mc_cd 259 35 = some (.istore_n 3, 1) ∧ mc_cd 259 36 = some (.iload_n 3, 1) ∧ mc_cd 259 37 = some (.ifCond .le 9, 3) ∧ mc_cd 259 40 = some (.aload_n 0, 1) ∧ mc_cd 259 41 = some (.iload_n 3, 1) := by decide +kernel
theorem c259_28 : mc_cd 259 28 = some (.goto 4, 3) := cg259_28.1
theorem c259_31 : mc_cd 259 31 = some (.iconst 0, 1) := cg259_28.2.1
theorem c259_32 : mc_cd 259 32 = some (.invokevirtual 433, 3) := cg259_28.2.2.1
theorem c259_35 : mc_cd 259 35 = some (.istore_n 3, 1) := cg259_28.2.2.2.1
theorem c259_36 : mc_cd 259 36 = some (.iload_n 3, 1) := cg259_28.2.2.2.2.1
theorem c259_37 : mc_cd 259 37 = some (.ifCond .le 9, 3) := cg259_28.2.2.2.2.2.1
theorem c259_40 : mc_cd 259 40 = some (.aload_n 0, 1) := cg259_28.2.2.2.2.2.2.1
theorem c259_41 : mc_cd 259 41 = some (.iload_n 3, 1) := cg259_28.2.2.2.2.2.2.2
theorem cg259_42 : mc_cd 259 42 = some (.invokevirtual 54, 3) ∧ mc_cd 259 45 = some (.ireturn, 1) ∧ mc_cd 259 46 = some (.iconst 0, 1) ∧ mc_cd 259 47 = some (.istore 4, 2) ∧ mc_cd 259 49 = some (.iconst 0, 1) ∧ mc_cd 259 50 = some (.istore 5, 2) ∧ mc_cd 259 52 = some (.iload 5, 2) ∧ mc_cd 259 54 = some (.aload_n 0, 1) := by decide +kernel
theorem c259_42 : mc_cd 259 42 = some (.invokevirtual 54, 3) := cg259_42.1
theorem c259_45 : mc_cd 259 45 = some (.ireturn, 1) := cg259_42.2.1
theorem c259_46 : mc_cd 259 46 = some (.iconst 0, 1) := cg259_42.2.2.1
theorem c259_47 : mc_cd 259 47 = some (.istore 4, 2) := cg259_42.2.2.2.1
theorem c259_49 : mc_cd 259 49 = some (.iconst 0, 1) := cg259_42.2.2.2.2.1
theorem c259_50 : mc_cd 259 50 = some (.istore 5, 2) := cg259_42.2.2.2.2.2.1
theorem c259_52 : mc_cd 259 52 = some (.iload 5, 2) := cg259_42.2.2.2.2.2.2.1
theorem c259_54 : mc_cd 259 54 = some (.aload_n 0, 1) := cg259_42.2.2.2.2.2.2.2
theorem cg259_55 : mc_cd 259 55 = some (.getfield 422, 3) ∧ mc_cd 259 58 = some (.if_icmp .ge 58, 3) ∧ mc_cd 259 61 = some (.aload_n 0, 1) ∧ mc_cd 259 62 = some (.aload_n 0, 1) ∧ mc_cd 259 63 = some (.getfield 42, 3) ∧ mc_cd 259 66 = some (.iload 5, 2) ∧ mc_cd 259 68 = some (.iaload, 1) ∧ mc_cd 259 69 = some (.invokevirtual 425, 3) := by decide +kernel
theorem c259_55 : mc_cd 259 55 = some (.getfield 422, 3) := cg259_55.1
theorem c259_58 : mc_cd 259 58 = some (.if_icmp .ge 58, 3) := cg259_55.2.1
theorem c259_61 : mc_cd 259 61 = some (.aload_n 0, 1) := cg259_55.2.2.1
theorem c259_62 : mc_cd 259 62 = some (.aload_n 0, 1) := cg259_55.2.2.2.1
theorem c259_63 : mc_cd 259 63 = some (.getfield 42, 3) := cg259_55.2.2.2.2.1
theorem c259_66 : mc_cd 259 66 = some (.iload 5, 2) := cg259_55.2.2.2.2.2.1
theorem c259_68 : mc_cd 259 68 = some (.iaload, 1) := cg259_55.2.2.2.2.2.2.1
theorem c259_69 : mc_cd 259 69 = some (.invokevirtual 425, 3) := cg259_55.2.2.2.2.2.2.2
theorem cg259_72 : mc_cd 259 72 = some (.iload 4, 2) ∧ mc_cd 259 74 = some (.aload_n 0, 1) ∧ mc_cd 259 75 = some (.getfield 33, 3) ∧ mc_cd 259 78 = some (.bipush 40, 2) ∧ mc_cd 259 80 = some (.iload_n 1, 1) ∧ mc_cd 259 81 = some (.imul, 1) ∧ mc_cd 259 82 = some (.aload_n 0, 1) ∧ mc_cd 259 83 = some (.getfield 39, 3) := by decide +kernel
theorem c259_72 : mc_cd 259 72 = some (.iload 4, 2) := cg259_72.1
theorem c259_74 : mc_cd 259 74 = some (.aload_n 0, 1) := cg259_72.2.1
theorem c259_75 : mc_cd 259 75 = some (.getfield 33, 3) := cg259_72.2.2.1
theorem c259_78 : mc_cd 259 78 = some (.bipush 40, 2) := cg259_72.2.2.2.1
theorem c259_80 : mc_cd 259 80 = some (.iload_n 1, 1) := cg259_72.2.2.2.2.1
theorem c259_81 : mc_cd 259 81 = some (.imul, 1) := cg259_72.2.2.2.2.2.1
theorem c259_82 : mc_cd 259 82 = some (.aload_n 0, 1) := cg259_72.2.2.2.2.2.2.1
theorem c259_83 : mc_cd 259 83 = some (.getfield 39, 3) := cg259_72.2.2.2.2.2.2.2
theorem cg259_86 : mc_cd 259 86 = some (.iload_n 1, 1) ∧ mc_cd 259 87 = some (.iaload, 1) ∧ mc_cd 259 88 = some (.iadd, 1) ∧ mc_cd 259 89 = some (.iaload, 1) ∧ mc_cd 259 90 = some (.aload_n 0, 1) ∧ mc_cd 259 91 = some (.getfield 33, 3) ∧ mc_cd 259 94 = some (.bipush 40, 2) ∧ mc_cd 259 96 = some (.iload_n 2, 1) := by decide +kernel
theorem c259_86 : mc_cd 259 86 = some (.iload_n 1, 1) := cg259_86.1
theorem c259_87 : mc_cd 259 87 = some (.iaload, 1) := cg259_86.2.1
theorem c259_88 : mc_cd 259 88 = some (.iadd, 1) := cg259_86.2.2.1
theorem c259_89 : mc_cd 259 89 = some (.iaload, 1) := cg259_86.2.2.2.1
theorem c259_90 : mc_cd 259 90 = some (.aload_n 0, 1) := cg259_86.2.2.2.2.1
theorem c259_91 : mc_cd 259 91 = some (.getfield 33, 3) := cg259_86.2.2.2.2.2.1
theorem c259_94 : mc_cd 259 94 = some (.bipush 40, 2) := cg259_86.2.2.2.2.2.2.1
theorem c259_96 : mc_cd 259 96 = some (.iload_n 2, 1) := cg259_86.2.2.2.2.2.2.2
theorem cg259_97 : mc_cd 259 97 = some (.imul, 1) ∧ mc_cd 259 98 = some (.aload_n 0, 1) ∧ mc_cd 259 99 = some (.getfield 39, 3) ∧ mc_cd 259 102 = some (.iload_n 2, 1) ∧ mc_cd 259 103 = some (.iaload, 1) ∧ mc_cd 259 104 = some (.iadd, 1) ∧ mc_cd 259 105 = some (.iaload, 1) ∧ mc_cd 259 106 = some (.iand, 1) := by decide +kernel
theorem c259_97 : mc_cd 259 97 = some (.imul, 1) := cg259_97.1
theorem c259_98 : mc_cd 259 98 = some (.aload_n 0, 1) := cg259_97.2.1
theorem c259_99 : mc_cd 259 99 = some (.getfield 39, 3) := cg259_97.2.2.1
theorem c259_102 : mc_cd 259 102 = some (.iload_n 2, 1) := cg259_97.2.2.2.1
theorem c259_103 : mc_cd 259 103 = some (.iaload, 1) := cg259_97.2.2.2.2.1
theorem c259_104 : mc_cd 259 104 = some (.iadd, 1) := cg259_97.2.2.2.2.2.1
theorem c259_105 : mc_cd 259 105 = some (.iaload, 1) := cg259_97.2.2.2.2.2.2.1
theorem c259_106 : mc_cd 259 106 = some (.iand, 1) := cg259_97.2.2.2.2.2.2.2
theorem cg259_107 : mc_cd 259 107 = some (.ior, 1) ∧ mc_cd 259 108 = some (.istore 4, 2) ∧ mc_cd 259 110 = some (.iinc 5 1, 3) ∧ mc_cd 259 113 = some (.goto (-61), 3) ∧ mc_cd 259 116 = some (.aload_n 0, 1) ∧ mc_cd 259 117 = some (.iload 4, 2) ∧ mc_cd 259 119 = some (.invokevirtual 58, 3) ∧ mc_cd 259 122 = some (.ireturn, 1) := by decide +kernel
theorem c259_107 : mc_cd 259 107 = some (.ior, 1) := cg259_107.1
theorem c259_108 : mc_cd 259 108 = some (.istore 4, 2) := cg259_107.2.1
theorem c259_110 : mc_cd 259 110 = some (.iinc 5 1, 3) := cg259_107.2.2.1
theorem c259_113 : mc_cd 259 113 = some (.goto (-61), 3) := cg259_107.2.2.2.1
theorem c259_116 : mc_cd 259 116 = some (.aload_n 0, 1) := cg259_107.2.2.2.2.1
theorem c259_117 : mc_cd 259 117 = some (.iload 4, 2) := cg259_107.2.2.2.2.2.1
theorem c259_119 : mc_cd 259 119 = some (.invokevirtual 58, 3) := cg259_107.2.2.2.2.2.2.1
theorem c259_122 : mc_cd 259 122 = some (.ireturn, 1) := cg259_107.2.2.2.2.2.2.2
abbrev q_259 (r0 : Nat) (a1 : Int) (a2 : Int) (T : wq_T) (H : wq_H) : Option Value → wq_T → wq_H → Prop := fun r T' H' => T = T' ∧ WT T H' ∧ wfr [(42, 0), (42, 1), (42, 2), (42, 28), (42, 29), (51, 999), (52, 999)] T H H' ∧ ∃ z : Int, some (vI z) = r ∧ ((-2147483648) ≤ z ∧ z ≤ 2147483647) ∧ (wKI H' r0 = 1)
set_option maxHeartbeats 4000000 in
theorem s_259 {kt : Nat → Option mc_E} {T : wq_T} {H : wq_H} {r0 : Nat} {a1 : Int} {a2 : Int} (hW : WT T H) (g0 : T.2.2.2 r0 = some 42) (i1 : (-2147483648) ≤ a1 ∧ a1 ≤ 2147483647) (i2 : (-2147483648) ≤ a2 ∧ a2 ≤ 2147483647) (p0 : wKI H r0 = 1) : wpc kt 8 259 [.ref r0, vI a1, vI a2] T H (q_259 r0 a1 a2 T H) := by
  refine wp_enter e259 (Nat.le_of_ble_eq_true rfl) rfl ?_
  have f0 : wfr [(42, 0), (42, 1), (42, 2), (42, 28), (42, 29), (51, 999), (52, 999)] T H H := wfr.rf
  show wp _ _ 259 0 [(0, .ref r0), (1, vI a1), (2, vI a2)] [] _ H _
  refine wp_of e259 c259_0 (rw_aload_n (pc' := 1) (v := .ref r0) rfl rfl rfl ?_)
  refine wp_of e259 c259_1 (rw_iconst (pc' := 2) rfl ?_)
  refine wp_of e259 c259_2 (xp_I (pc' := 5) lf_9_48 hW g0 sh_42 (by decide) (by decide) ty_42_0 rfl rfl (by omega) (by omega) ⟨by omega, by omega⟩ rfl (fun H143226 e143227 w143228 => ?_))
  have f143229 := f0.put' e143227 g0 rfl
  have k143230 : H143226 r0 0 = 0 := wq_u_s e143227
  refine wp_of e259 c259_5 (rw_aload_n (pc' := 6) (v := .ref r0) rfl rfl rfl ?_)
  refine wp_of e259 c259_6 (rw_aload_n (pc' := 7) (v := .ref r0) rfl rfl rfl ?_)
  refine wp_of e259 c259_7 (rw_iload_n (pc' := 8) (z := a1) rfl rfl ?_)
  refine wp_of e259 c259_8 (xc_V (pc' := 11) (r := r0) (as := [vI a1]) (st := [.ref r0]) (lm_9_364) rfl rfl (Nat.le_of_ble_eq_true rfl) w143228 g0 sh_42 (by decide) rfl (by decide) (s_213 w143228 g0 ⟨by omega, by omega⟩) (fun R143231 T143232 H143233 p143234 => ?_))
  obtain ⟨e143235, e143237, z143239, e143236, b143240, p143238⟩ := p143234
  subst e143235
  subst e143236
  subst e143237
  show wp _ _ 259 11 [(0, .ref r0), (1, vI a1), (2, vI a2)] [vI z143239, .ref r0] _ H143226 _
  refine wp_of e259 c259_11 (rw_if_eq (p1 := 31) (p2 := 14) (by decide) rfl ⟨by omega, by omega⟩ (fun c143241 => ?_) (fun c143241 => ?_))
  · refine wp_of e259 c259_31 (rw_iconst (pc' := 32) rfl ?_)
    have k143242 : wKI H143226 r0 = wKI H r0 := (wKI_fr hW g0 ((wfr.rf (l := [(42, 0)])).put' e143227 g0 rfl) rfl)
    refine wp_of e259 c259_32 (xc_V (pc' := 35) (r := r0) (as := [vI 0]) (st := []) (lm_9_433) rfl rfl (Nat.le_of_ble_eq_true rfl) w143228 g0 sh_42 (by decide) rfl (by decide) (s_241 w143228 g0 ⟨by omega, by omega⟩ (by omega) (by omega)) (fun R143243 T143244 H143245 p143246 => ?_))
    obtain ⟨e143247, w143249, f143250, z143255, e143248, b143256, p143251, p143252, p143253, p143254⟩ := p143246
    subst e143247
    subst e143248
    have f143257 := f143229.tr f143250 rfl
    show wp _ _ 259 35 [(0, .ref r0), (1, vI a1), (2, vI a2)] [vI z143255] _ H143245 _
    refine wp_of e259 c259_35 (rw_istore_n (pc' := 36) (z := z143255) (L' := [(3, vI z143255), (0, .ref r0), (1, vI a1), (2, vI a2)]) rfl rfl rfl ?_)
    refine wp_of e259 c259_36 (rw_iload_n (pc' := 37) (z := z143255) rfl rfl ?_)
    refine wp_of e259 c259_37 (rw_if_le (p1 := 46) (p2 := 40) (by decide) rfl ⟨by omega, by omega⟩ (fun c143258 => ?_) (fun c143258 => ?_))
    · exfalso
      omega
    · refine wp_of e259 c259_40 (rw_aload_n (pc' := 41) (v := .ref r0) rfl rfl rfl ?_)
      refine wp_of e259 c259_41 (rw_iload_n (pc' := 42) (z := z143255) rfl rfl ?_)
      refine wp_of e259 c259_42 (xc_V (pc' := 45) (r := r0) (as := [vI z143255]) (st := []) (lm_9_54) rfl rfl (Nat.le_of_ble_eq_true rfl) w143249 g0 sh_42 (by decide) rfl (by decide) (s_170 w143249 g0 ⟨by omega, by omega⟩) (fun R143259 T143260 H143261 p143262 => ?_))
      obtain ⟨e143263, w143265, f143266, z143267, e143264, b143268⟩ := p143262
      subst e143263
      subst e143264
      have f143269 := f143257.tr f143266 rfl
      show wp _ _ 259 45 [(3, vI z143255), (0, .ref r0), (1, vI a1), (2, vI a2)] [vI z143267] _ H143261 _
      have k143270 : wKI H143261 r0 = wKI H143245 r0 := (wKI_fr w143249 g0 f143266 rfl)
      exact wp_ireturn e259 c259_45 rfl ⟨rfl, w143265, f143269, z143267, rfl, ⟨by omega, by omega⟩, by omega⟩
  · refine wp_of e259 c259_14 (rw_aload_n (pc' := 15) (v := .ref r0) rfl rfl rfl ?_)
    refine wp_of e259 c259_15 (rw_iload_n (pc' := 16) (z := a2) rfl rfl ?_)
    refine wp_of e259 c259_16 (xc_V (pc' := 19) (r := r0) (as := [vI a2]) (st := [.ref r0]) (lm_9_364) rfl rfl (Nat.le_of_ble_eq_true rfl) w143228 g0 sh_42 (by decide) rfl (by decide) (s_213 w143228 g0 ⟨by omega, by omega⟩) (fun R143271 T143272 H143273 p143274 => ?_))
    obtain ⟨e143275, e143277, z143279, e143276, b143280, p143278⟩ := p143274
    subst e143275
    subst e143276
    subst e143277
    show wp _ _ 259 19 [(0, .ref r0), (1, vI a1), (2, vI a2)] [vI z143279, .ref r0] _ H143226 _
    refine wp_of e259 c259_19 (rw_if_eq (p1 := 31) (p2 := 22) (by decide) rfl ⟨by omega, by omega⟩ (fun c143281 => ?_) (fun c143281 => ?_))
    · refine wp_of e259 c259_31 (rw_iconst (pc' := 32) rfl ?_)
      have k143282 : wKI H143226 r0 = wKI H r0 := (wKI_fr hW g0 ((wfr.rf (l := [(42, 0)])).put' e143227 g0 rfl) rfl)
      refine wp_of e259 c259_32 (xc_V (pc' := 35) (r := r0) (as := [vI 0]) (st := []) (lm_9_433) rfl rfl (Nat.le_of_ble_eq_true rfl) w143228 g0 sh_42 (by decide) rfl (by decide) (s_241 w143228 g0 ⟨by omega, by omega⟩ (by omega) (by omega)) (fun R143283 T143284 H143285 p143286 => ?_))
      obtain ⟨e143287, w143289, f143290, z143295, e143288, b143296, p143291, p143292, p143293, p143294⟩ := p143286
      subst e143287
      subst e143288
      have f143297 := f143229.tr f143290 rfl
      show wp _ _ 259 35 [(0, .ref r0), (1, vI a1), (2, vI a2)] [vI z143295] _ H143285 _
      refine wp_of e259 c259_35 (rw_istore_n (pc' := 36) (z := z143295) (L' := [(3, vI z143295), (0, .ref r0), (1, vI a1), (2, vI a2)]) rfl rfl rfl ?_)
      refine wp_of e259 c259_36 (rw_iload_n (pc' := 37) (z := z143295) rfl rfl ?_)
      refine wp_of e259 c259_37 (rw_if_le (p1 := 46) (p2 := 40) (by decide) rfl ⟨by omega, by omega⟩ (fun c143298 => ?_) (fun c143298 => ?_))
      · exfalso
        omega
      · refine wp_of e259 c259_40 (rw_aload_n (pc' := 41) (v := .ref r0) rfl rfl rfl ?_)
        refine wp_of e259 c259_41 (rw_iload_n (pc' := 42) (z := z143295) rfl rfl ?_)
        refine wp_of e259 c259_42 (xc_V (pc' := 45) (r := r0) (as := [vI z143295]) (st := []) (lm_9_54) rfl rfl (Nat.le_of_ble_eq_true rfl) w143289 g0 sh_42 (by decide) rfl (by decide) (s_170 w143289 g0 ⟨by omega, by omega⟩) (fun R143299 T143300 H143301 p143302 => ?_))
        obtain ⟨e143303, w143305, f143306, z143307, e143304, b143308⟩ := p143302
        subst e143303
        subst e143304
        have f143309 := f143297.tr f143306 rfl
        show wp _ _ 259 45 [(3, vI z143295), (0, .ref r0), (1, vI a1), (2, vI a2)] [vI z143307] _ H143301 _
        have k143310 : wKI H143301 r0 = wKI H143285 r0 := (wKI_fr w143289 g0 f143306 rfl)
        exact wp_ireturn e259 c259_45 rfl ⟨rfl, w143305, f143309, z143307, rfl, ⟨by omega, by omega⟩, by omega⟩
    · refine wp_of e259 c259_22 (rw_iload_n (pc' := 23) (z := a1) rfl rfl ?_)
      refine wp_of e259 c259_23 (rw_iload_n (pc' := 24) (z := a2) rfl rfl ?_)
      refine wp_of e259 c259_24 (rw_icmp_eq (p1 := 31) (p2 := 27) (by decide) rfl ⟨by omega, by omega⟩ ⟨by omega, by omega⟩ (fun c143311 => ?_) (fun c143311 => ?_))
      · refine wp_of e259 c259_31 (rw_iconst (pc' := 32) rfl ?_)
        have k143312 : wKI H143226 r0 = wKI H r0 := (wKI_fr hW g0 ((wfr.rf (l := [(42, 0)])).put' e143227 g0 rfl) rfl)
        refine wp_of e259 c259_32 (xc_V (pc' := 35) (r := r0) (as := [vI 0]) (st := []) (lm_9_433) rfl rfl (Nat.le_of_ble_eq_true rfl) w143228 g0 sh_42 (by decide) rfl (by decide) (s_241 w143228 g0 ⟨by omega, by omega⟩ (by omega) (by omega)) (fun R143313 T143314 H143315 p143316 => ?_))
        obtain ⟨e143317, w143319, f143320, z143325, e143318, b143326, p143321, p143322, p143323, p143324⟩ := p143316
        subst e143317
        subst e143318
        have f143327 := f143229.tr f143320 rfl
        show wp _ _ 259 35 [(0, .ref r0), (1, vI a1), (2, vI a2)] [vI z143325] _ H143315 _
        refine wp_of e259 c259_35 (rw_istore_n (pc' := 36) (z := z143325) (L' := [(3, vI z143325), (0, .ref r0), (1, vI a1), (2, vI a2)]) rfl rfl rfl ?_)
        refine wp_of e259 c259_36 (rw_iload_n (pc' := 37) (z := z143325) rfl rfl ?_)
        refine wp_of e259 c259_37 (rw_if_le (p1 := 46) (p2 := 40) (by decide) rfl ⟨by omega, by omega⟩ (fun c143328 => ?_) (fun c143328 => ?_))
        · exfalso
          omega
        · refine wp_of e259 c259_40 (rw_aload_n (pc' := 41) (v := .ref r0) rfl rfl rfl ?_)
          refine wp_of e259 c259_41 (rw_iload_n (pc' := 42) (z := z143325) rfl rfl ?_)
          refine wp_of e259 c259_42 (xc_V (pc' := 45) (r := r0) (as := [vI z143325]) (st := []) (lm_9_54) rfl rfl (Nat.le_of_ble_eq_true rfl) w143319 g0 sh_42 (by decide) rfl (by decide) (s_170 w143319 g0 ⟨by omega, by omega⟩) (fun R143329 T143330 H143331 p143332 => ?_))
          obtain ⟨e143333, w143335, f143336, z143337, e143334, b143338⟩ := p143332
          subst e143333
          subst e143334
          have f143339 := f143327.tr f143336 rfl
          show wp _ _ 259 45 [(3, vI z143325), (0, .ref r0), (1, vI a1), (2, vI a2)] [vI z143337] _ H143331 _
          have k143340 : wKI H143331 r0 = wKI H143315 r0 := (wKI_fr w143319 g0 f143336 rfl)
          exact wp_ireturn e259 c259_45 rfl ⟨rfl, w143335, f143339, z143337, rfl, ⟨by omega, by omega⟩, by omega⟩
      · refine wp_of e259 c259_27 (rw_iconst (pc' := 28) rfl ?_)
        refine wp_of e259 c259_28 (rw_goto (p1 := 32) (by decide) ?_)
        have k143341 : wKI H143226 r0 = wKI H r0 := (wKI_fr hW g0 ((wfr.rf (l := [(42, 0)])).put' e143227 g0 rfl) rfl)
        refine wp_of e259 c259_32 (xc_V (pc' := 35) (r := r0) (as := [vI 1]) (st := []) (lm_9_433) rfl rfl (Nat.le_of_ble_eq_true rfl) w143228 g0 sh_42 (by decide) rfl (by decide) (s_241 w143228 g0 ⟨by omega, by omega⟩ (by omega) (by omega)) (fun R143342 T143343 H143344 p143345 => ?_))
        obtain ⟨e143346, w143348, f143349, z143354, e143347, b143355, p143350, p143351, p143352, p143353⟩ := p143345
        subst e143346
        subst e143347
        have f143356 := f143229.tr f143349 rfl
        show wp _ _ 259 35 [(0, .ref r0), (1, vI a1), (2, vI a2)] [vI z143354] _ H143344 _
        refine wp_of e259 c259_35 (rw_istore_n (pc' := 36) (z := z143354) (L' := [(3, vI z143354), (0, .ref r0), (1, vI a1), (2, vI a2)]) rfl rfl rfl ?_)
        refine wp_of e259 c259_36 (rw_iload_n (pc' := 37) (z := z143354) rfl rfl ?_)
        refine wp_of e259 c259_37 (rw_if_le (p1 := 46) (p2 := 40) (by decide) rfl ⟨by omega, by omega⟩ (fun c143357 => ?_) (fun c143357 => ?_))
        · refine wp_of e259 c259_46 (rw_iconst (pc' := 47) rfl ?_)
          refine wp_of e259 c259_47 (rw_istore (pc' := 49) (z := 0) (L' := [(4, vI 0), (3, vI z143354), (0, .ref r0), (1, vI a1), (2, vI a2)]) rfl rfl rfl ?_)
          refine wp_of e259 c259_49 (rw_iconst (pc' := 50) rfl ?_)
          refine wp_of e259 c259_50 (rw_istore (pc' := 52) (z := 0) (L' := [(5, vI 0), (4, vI 0), (3, vI z143354), (0, .ref r0), (1, vI a1), (2, vI a2)]) rfl rfl rfl ?_)
          have lp143686 : ∀ (n143687 : Nat) (v143689 : Int) (v143690 : Int) (H143691 : wq_H), WT T H143691 → wfr [(51, 999)] T H143344 H143691 → (0 ≤ v143689 ∧ v143689 ≤ 20000) → ((-2147483648) ≤ v143690 ∧ v143690 ≤ 2147483647) → (20000 - v143689).toNat = n143687 → wp kt 7 259 52 [(5, vI v143689), (4, vI v143690), (0, .ref r0), (1, vI a1), (2, vI a2)] [] T H143691 (q_259 r0 a1 a2 T H) := by
            intro n143687
            induction n143687 using Nat.strongRecOn with
            | _ n143687 ih143688 =>
              intro v143689 v143690 H143691 w143692 f143693 b143694 b143695 m143696
              have f143697 := f143356.tr f143693 rfl
              refine wp_of e259 c259_52 (rw_iload (pc' := 54) (z := v143689) rfl rfl ?_)
              refine wp_of e259 c259_54 (rw_aload_n (pc' := 55) (v := .ref r0) rfl rfl rfl ?_)
              have k143698 : H143691 r0 29 = H143344 r0 29 := (f143693 r0 29 _ g0 rfl)
              refine wp_of e259 c259_55 (xg_I (pc' := 58) lf_9_422 w143692 g0 sh_42 (by decide) (by decide) ty_42_29 rfl rfl (fun b143699 b143700 => ?_))
              refine wp_of e259 c259_58 (rw_icmp_ge (p1 := 116) (p2 := 61) (by decide) rfl ⟨by omega, by omega⟩ ⟨by omega, by omega⟩ (fun c143701 => ?_) (fun c143701 => ?_))
              · refine wp_of e259 c259_116 (rw_aload_n (pc' := 117) (v := .ref r0) rfl rfl rfl ?_)
                refine wp_of e259 c259_117 (rw_iload (pc' := 119) (z := v143690) rfl rfl ?_)
                refine wp_of e259 c259_119 (xc_V (pc' := 122) (r := r0) (as := [vI v143690]) (st := []) (lm_9_58) rfl rfl (Nat.le_of_ble_eq_true rfl) w143692 g0 sh_42 (by decide) rfl (by decide) (s_209 w143692 g0 ⟨by omega, by omega⟩) (fun R143702 T143703 H143704 p143705 => ?_))
                obtain ⟨e143706, w143708, f143709, z143710, e143707, b143711⟩ := p143705
                subst e143706
                subst e143707
                have f143712 := f143697.tr f143709 rfl
                show wp _ _ 259 122 [(5, vI v143689), (4, vI v143690), (0, .ref r0), (1, vI a1), (2, vI a2)] [vI z143710] _ H143704 _
                have k143713 : wKI H143704 r0 = wKI H143344 r0 := ((wKI_fr w143692 g0 f143709 rfl).trans (wKI_fr w143348 g0 f143693 rfl))
                exact wp_ireturn e259 c259_122 rfl ⟨rfl, w143708, f143712, z143710, rfl, ⟨by omega, by omega⟩, by omega⟩
              · refine wp_of e259 c259_61 (rw_aload_n (pc' := 62) (v := .ref r0) rfl rfl rfl ?_)
                refine wp_of e259 c259_62 (rw_aload_n (pc' := 63) (v := .ref r0) rfl rfl rfl ?_)
                refine wp_of e259 c259_63 (xg_R (pc' := 66) lf_9_42 w143692 g0 sh_42 (by decide) (by decide) ty_42_30 rfl rfl (fun r143714 q143715 g143716 => ?_))
                refine wp_of e259 c259_66 (rw_iload (pc' := 68) (z := v143689) rfl rfl ?_)
                refine wp_of e259 c259_68 (xa_I (so := 0) (pc' := 69) w143692 g143716 sh_52 (by decide) (ty_52 _) (by omega) (by omega) rfl (fun b143717 b143718 => ?_))
                have k143719 : wLM H143691 r0 = wLM H143344 r0 := (wLM_fr w143348 g0 f143693 rfl)
                have k143720 : H143691 r0 3 = H143226 r0 3 := ((f143693 r0 3 _ g0 rfl).trans (f143349 r0 3 _ g0 rfl))
                obtain ⟨r143721, q143722, g143723⟩ := (w143692.opt g0 (t' := 54) (n := 33) (j := 3) (p := 0) (q := 0) rfl (by decide) rfl).resolve_left (by omega)
                refine wp_of e259 c259_69 (xc_V (pc' := 72) (r := r0) (as := [vI (H143691 r143714 (v143689.toNat))]) (st := []) (lm_9_425) rfl rfl (Nat.le_of_ble_eq_true rfl) w143692 g0 sh_42 (by decide) rfl (by decide) (s_243 w143692 g0 ⟨by omega, by omega⟩ q143722 g143723 (by omega)) (fun R143724 T143725 H143726 p143727 => ?_))
                obtain ⟨e143728, w143730, f143731, e143729⟩ := p143727
                subst e143728
                subst e143729
                have f143732 := f143697.tr f143731 rfl
                have f143733 := f143693.tr f143731 rfl
                show wp _ _ 259 72 [(5, vI v143689), (4, vI v143690), (0, .ref r0), (1, vI a1), (2, vI a2)] [] _ H143726 _
                refine wp_of e259 c259_72 (rw_iload (pc' := 74) (z := v143690) rfl rfl ?_)
                refine wp_of e259 c259_74 (rw_aload_n (pc' := 75) (v := .ref r0) rfl rfl rfl ?_)
                refine wp_of e259 c259_75 (xg_R (pc' := 78) lf_9_33 w143730 g0 sh_42 (by decide) (by decide) ty_42_25 rfl rfl (fun r143734 q143735 g143736 => ?_))
                refine wp_of e259 c259_78 (rw_bipush (pc' := 80) (z := 40) rfl (by decide) ?_)
                refine wp_of e259 c259_80 (rw_iload_n (pc' := 81) (z := a1) rfl rfl ?_)
                refine wp_of e259 c259_81 (rw_imul (pc' := 82) rfl ?_)
                refine wp_of e259 c259_82 (rw_aload_n (pc' := 83) (v := .ref r0) rfl rfl rfl ?_)
                refine wp_of e259 c259_83 (xg_R (pc' := 86) lf_9_39 w143730 g0 sh_42 (by decide) (by decide) ty_42_27 rfl rfl (fun r143737 q143738 g143739 => ?_))
                refine wp_of e259 c259_86 (rw_iload_n (pc' := 87) (z := a1) rfl rfl ?_)
                refine wp_of e259 c259_87 (xa_I (so := 0) (pc' := 88) w143730 g143739 sh_51 (by decide) (ty_51 _) (by omega) (by omega) rfl (fun b143740 b143741 => ?_))
                refine wp_of e259 c259_88 (rw_iadd (pc' := 89) rfl ?_)
                refine wp_of e259 c259_89 (xa_I (so := 0) (pc' := 90) w143730 g143736 sh_49 (by decide) (ty_49 _) (by omega) (by omega) rfl (fun b143742 b143743 => ?_))
                refine wp_of e259 c259_90 (rw_aload_n (pc' := 91) (v := .ref r0) rfl rfl rfl ?_)
                refine wp_of e259 c259_91 (xg_K (pc' := 94) lf_9_33 w143730 g0 sh_42 (by decide) (by decide) rfl q143735 rfl ?_)
                refine wp_of e259 c259_94 (rw_bipush (pc' := 96) (z := 40) rfl (by decide) ?_)
                refine wp_of e259 c259_96 (rw_iload_n (pc' := 97) (z := a2) rfl rfl ?_)
                refine wp_of e259 c259_97 (rw_imul (pc' := 98) rfl ?_)
                refine wp_of e259 c259_98 (rw_aload_n (pc' := 99) (v := .ref r0) rfl rfl rfl ?_)
                refine wp_of e259 c259_99 (xg_K (pc' := 102) lf_9_39 w143730 g0 sh_42 (by decide) (by decide) rfl q143738 rfl ?_)
                refine wp_of e259 c259_102 (rw_iload_n (pc' := 103) (z := a2) rfl rfl ?_)
                refine wp_of e259 c259_103 (xa_I (so := 0) (pc' := 104) w143730 g143739 sh_51 (by decide) (ty_51 _) (by omega) (by omega) rfl (fun b143744 b143745 => ?_))
                refine wp_of e259 c259_104 (rw_iadd (pc' := 105) rfl ?_)
                refine wp_of e259 c259_105 (xa_I (so := 0) (pc' := 106) w143730 g143736 sh_49 (by decide) (ty_49 _) (by omega) (by omega) rfl (fun b143746 b143747 => ?_))
                refine wp_of e259 c259_106 (rw_iand (pc' := 107) rfl ?_)
                obtain ⟨v143748, e143749⟩ : ∃ x : Int, x = wq_and (H143726 r143734 (((40 * a1) + (H143726 r143737 (a1.toNat))).toNat)) (H143726 r143734 (((40 * a2) + (H143726 r143737 (a2.toNat))).toNat)) := ⟨_, rfl⟩
                rw [← e143749]
                have b143750 : -2147483648 ≤ v143748 ∧ v143748 ≤ 2147483647 := by
                  rw [e143749]
                  exact wI_and _ _
                refine wp_of e259 c259_107 (rw_ior (pc' := 108) rfl ?_)
                obtain ⟨v143751, e143752⟩ : ∃ x : Int, x = wq_or v143690 v143748 := ⟨_, rfl⟩
                rw [← e143752]
                have b143753 : -2147483648 ≤ v143751 ∧ v143751 ≤ 2147483647 := by
                  rw [e143752]
                  exact wI_or _ _
                refine wp_of e259 c259_108 (rw_istore (pc' := 110) (z := v143751) (L' := [(4, vI v143751), (5, vI v143689), (0, .ref r0), (1, vI a1), (2, vI a2)]) rfl rfl rfl ?_)
                refine wp_of e259 c259_110 (rw_iinc (pc' := 113) (z := v143689) (L' := [(5, vI (v143689 + 1)), (4, vI v143751), (0, .ref r0), (1, vI a1), (2, vI a2)]) rfl rfl rfl rfl ?_)
                refine wp_of e259 c259_113 (rw_goto (p1 := 52) (by decide) ?_)
                exact wp_lc (ks := [5, 4, 0, 1, 2]) (wl_c rfl (wl_c rfl (wl_c rfl (wl_c rfl (wl_c rfl wl_n))))) rfl (by decide) (ih143688 _ (by omega) (v143689 + 1) v143751 H143726 w143730 f143733 ⟨by omega, by omega⟩ ⟨by omega, by omega⟩ rfl)
          exact wp_lc (ks := [5, 4, 3, 0, 1, 2]) (wl_c rfl (wl_c rfl (wl_c rfl (wl_c rfl (wl_c rfl wl_n))))) rfl (by decide) (lp143686 _ 0 0 H143344 w143348 wfr.rf ⟨by omega, by omega⟩ ⟨by omega, by omega⟩ rfl)
        · refine wp_of e259 c259_40 (rw_aload_n (pc' := 41) (v := .ref r0) rfl rfl rfl ?_)
          refine wp_of e259 c259_41 (rw_iload_n (pc' := 42) (z := z143354) rfl rfl ?_)
          refine wp_of e259 c259_42 (xc_V (pc' := 45) (r := r0) (as := [vI z143354]) (st := []) (lm_9_54) rfl rfl (Nat.le_of_ble_eq_true rfl) w143348 g0 sh_42 (by decide) rfl (by decide) (s_170 w143348 g0 ⟨by omega, by omega⟩) (fun R143754 T143755 H143756 p143757 => ?_))
          obtain ⟨e143758, w143760, f143761, z143762, e143759, b143763⟩ := p143757
          subst e143758
          subst e143759
          have f143764 := f143356.tr f143761 rfl
          show wp _ _ 259 45 [(3, vI z143354), (0, .ref r0), (1, vI a1), (2, vI a2)] [vI z143762] _ H143756 _
          have k143765 : wKI H143756 r0 = wKI H143344 r0 := (wKI_fr w143348 g0 f143761 rfl)
          exact wp_ireturn e259 c259_45 rfl ⟨rfl, w143760, f143764, z143762, rfl, ⟨by omega, by omega⟩, by omega⟩
/-! StrikeAwakeModel.possible(I)J -/
theorem e260 : wq_en 260 = some (9, 6, false, some FieldType.long) := rfl
theorem cg260_0 : mc_cd 260 0 = some (.aload_n 0, 1) ∧ mc_cd 260 1 = some (.iconst 0, 1) ∧ mc_cd 260 2 = some (.putfield 48, 3) ∧ mc_cd 260 5 = some (.aload_n 0, 1) ∧ mc_cd 260 6 = some (.aload_n 0, 1) ∧ mc_cd 260 7 = some (.iload_n 1, 1) ∧ mc_cd 260 8 = some (.invokevirtual 364, 3) ∧ mc_cd 260 11 = some (.invokevirtual 433, 3) := by decide +kernel
theorem c260_0 : mc_cd 260 0 = some (.aload_n 0, 1) := cg260_0.1
theorem c260_1 : mc_cd 260 1 = some (.iconst 0, 1) := cg260_0.2.1
theorem c260_2 : mc_cd 260 2 = some (.putfield 48, 3) := cg260_0.2.2.1
theorem c260_5 : mc_cd 260 5 = some (.aload_n 0, 1) := cg260_0.2.2.2.1
theorem c260_6 : mc_cd 260 6 = some (.aload_n 0, 1) := cg260_0.2.2.2.2.1
theorem c260_7 : mc_cd 260 7 = some (.iload_n 1, 1) := cg260_0.2.2.2.2.2.1
theorem c260_8 : mc_cd 260 8 = some (.invokevirtual 364, 3) := cg260_0.2.2.2.2.2.2.1
theorem c260_11 : mc_cd 260 11 = some (.invokevirtual 433, 3) := cg260_0.2.2.2.2.2.2.2
theorem cg260_14 : mc_cd 260 14 = some (.istore_n 2, 1) ∧ mc_cd 260 15 = some (.iload_n 2, 1) ∧ mc_cd 260 16 = some (.ifCond .le 10, 3) ∧ mc_cd 260 19 = some (.aload_n 0, 1) ∧ mc_cd 260 20 = some (.iload_n 2, 1) ∧ mc_cd 260 21 = some (.invokevirtual 54, 3) ∧ mc_cd 260 24 = some (.i2l, 1) ∧ mc_cd 260 25 = some (.lreturn, 1) := by decide +kernel
theorem c260_14 : mc_cd 260 14 = some (.istore_n 2, 1) := cg260_14.1
theorem c260_15 : mc_cd 260 15 = some (.iload_n 2, 1) := cg260_14.2.1
theorem c260_16 : mc_cd 260 16 = some (.ifCond .le 10, 3) := cg260_14.2.2.1
theorem c260_19 : mc_cd 260 19 = some (.aload_n 0, 1) := cg260_14.2.2.2.1
theorem c260_20 : mc_cd 260 20 = some (.iload_n 2, 1) := cg260_14.2.2.2.2.1
theorem c260_21 : mc_cd 260 21 = some (.invokevirtual 54, 3) := cg260_14.2.2.2.2.2.1
theorem c260_24 : mc_cd 260 24 = some (.i2l, 1) := cg260_14.2.2.2.2.2.2.1
theorem c260_25 : mc_cd 260 25 = some (.lreturn, 1) := cg260_14.2.2.2.2.2.2.2
theorem cg260_26 : mc_cd 260 26 = some (.lconst 0, 1) ∧ mc_cd 260 27 = some (.lstore_n 3, 1) ∧ mc_cd 260 28 = some (.iconst 0, 1) ∧ mc_cd 260 29 = some (.istore 5, 2) ∧ mc_cd 260 31 = some (.iload 5, 2) ∧ mc_cd 260 33 = some (.aload_n 0, 1) ∧ mc_cd 260 34 = some (.getfield 422, 3) ∧ mc_cd 260 37 = some (.if_icmp .ge 31, 3) := by decide +kernel
theorem c260_26 : mc_cd 260 26 = some (.lconst 0, 1) := cg260_26.1
theorem c260_27 : mc_cd 260 27 = some (.lstore_n 3, 1) := cg260_26.2.1
theorem c260_28 : mc_cd 260 28 = some (.iconst 0, 1) := cg260_26.2.2.1
theorem c260_29 : mc_cd 260 29 = some (.istore 5, 2) := cg260_26.2.2.2.1
theorem c260_31 : mc_cd 260 31 = some (.iload 5, 2) := cg260_26.2.2.2.2.1
theorem c260_33 : mc_cd 260 33 = some (.aload_n 0, 1) := cg260_26.2.2.2.2.2.1
theorem c260_34 : mc_cd 260 34 = some (.getfield 422, 3) := cg260_26.2.2.2.2.2.2.1
theorem c260_37 : mc_cd 260 37 = some (.if_icmp .ge 31, 3) := cg260_26.2.2.2.2.2.2.2
theorem cg260_40 : mc_cd 260 40 = some (.aload_n 0, 1) ∧ mc_cd 260 41 = some (.aload_n 0, 1) ∧ mc_cd 260 42 = some (.getfield 42, 3) ∧ mc_cd 260 45 = some (.iload 5, 2) ∧ mc_cd 260 47 = some (.iaload, 1) ∧ mc_cd 260 48 = some (.invokevirtual 425, 3) ∧ mc_cd 260 51 = some (.lload_n 3, 1) ∧ mc_cd 260 52 = some (.lconst 1, 1) := by decide +kernel
theorem c260_40 : mc_cd 260 40 = some (.aload_n 0, 1) := cg260_40.1
theorem c260_41 : mc_cd 260 41 = some (.aload_n 0, 1) := cg260_40.2.1
theorem c260_42 : mc_cd 260 42 = some (.getfield 42, 3) := cg260_40.2.2.1
theorem c260_45 : mc_cd 260 45 = some (.iload 5, 2) := cg260_40.2.2.2.1
theorem c260_47 : mc_cd 260 47 = some (.iaload, 1) := cg260_40.2.2.2.2.1
theorem c260_48 : mc_cd 260 48 = some (.invokevirtual 425, 3) := cg260_40.2.2.2.2.2.1
theorem c260_51 : mc_cd 260 51 = some (.lload_n 3, 1) := cg260_40.2.2.2.2.2.2.1
theorem c260_52 : mc_cd 260 52 = some (.lconst 1, 1) := cg260_40.2.2.2.2.2.2.2
theorem cg260_53 : mc_cd 260 53 = some (.aload_n 0, 1) ∧ mc_cd 260 54 = some (.getfield 39, 3) ∧ mc_cd 260 57 = some (.iload_n 1, 1) ∧ mc_cd 260 58 = some (.iaload, 1) ∧ mc_cd 260 59 = some (.lshl, 1) ∧ mc_cd 260 60 = some (.lor, 1) ∧ mc_cd 260 61 = some (.lstore_n 3, 1) ∧ mc_cd 260 62 = some (.iinc 5 1, 3) := by decide +kernel
theorem c260_53 : mc_cd 260 53 = some (.aload_n 0, 1) := cg260_53.1
theorem c260_54 : mc_cd 260 54 = some (.getfield 39, 3) := cg260_53.2.1
theorem c260_57 : mc_cd 260 57 = some (.iload_n 1, 1) := cg260_53.2.2.1
theorem c260_58 : mc_cd 260 58 = some (.iaload, 1) := cg260_53.2.2.2.1
theorem c260_59 : mc_cd 260 59 = some (.lshl, 1) := cg260_53.2.2.2.2.1
theorem c260_60 : mc_cd 260 60 = some (.lor, 1) := cg260_53.2.2.2.2.2.1
theorem c260_61 : mc_cd 260 61 = some (.lstore_n 3, 1) := cg260_53.2.2.2.2.2.2.1
theorem c260_62 : mc_cd 260 62 = some (.iinc 5 1, 3) := cg260_53.2.2.2.2.2.2.2
theorem cg260_65 : mc_cd 260 65 = some (.goto (-34), 3) ∧ mc_cd 260 68 = some (.aload_n 0, 1) ∧ mc_cd 260 69 = some (.lload_n 3, 1) ∧ mc_cd 260 70 = some (.invokevirtual 380, 3) ∧ mc_cd 260 73 = some (.lreturn, 1) := by decide +kernel
theorem c260_65 : mc_cd 260 65 = some (.goto (-34), 3) := cg260_65.1
theorem c260_68 : mc_cd 260 68 = some (.aload_n 0, 1) := cg260_65.2.1
theorem c260_69 : mc_cd 260 69 = some (.lload_n 3, 1) := cg260_65.2.2.1
theorem c260_70 : mc_cd 260 70 = some (.invokevirtual 380, 3) := cg260_65.2.2.2.1
theorem c260_73 : mc_cd 260 73 = some (.lreturn, 1) := cg260_65.2.2.2.2
abbrev q_260 (r0 : Nat) (a1 : Int) (T : wq_T) (H : wq_H) : Option Value → wq_T → wq_H → Prop := fun r T' H' => T = T' ∧ WT T H' ∧ wfr [(42, 0), (42, 1), (42, 2), (42, 28), (42, 29), (51, 999), (52, 999)] T H H' ∧ ∃ z : Int, some (vL z) = r ∧ ((-9223372036854775808) ≤ z ∧ z ≤ 9223372036854775807) ∧ (wKI H' r0 = 1)
set_option maxHeartbeats 4000000 in
theorem s_260 {kt : Nat → Option mc_E} {T : wq_T} {H : wq_H} {r0 : Nat} {a1 : Int} (hW : WT T H) (g0 : T.2.2.2 r0 = some 42) (i1 : (-2147483648) ≤ a1 ∧ a1 ≤ 2147483647) (p0 : wKI H r0 = 1) : wpc kt 8 260 [.ref r0, vI a1] T H (q_260 r0 a1 T H) := by
  refine wp_enter e260 (Nat.le_of_ble_eq_true rfl) rfl ?_
  have f0 : wfr [(42, 0), (42, 1), (42, 2), (42, 28), (42, 29), (51, 999), (52, 999)] T H H := wfr.rf
  show wp _ _ 260 0 [(0, .ref r0), (1, vI a1)] [] _ H _
  refine wp_of e260 c260_0 (rw_aload_n (pc' := 1) (v := .ref r0) rfl rfl rfl ?_)
  refine wp_of e260 c260_1 (rw_iconst (pc' := 2) rfl ?_)
  refine wp_of e260 c260_2 (xp_I (pc' := 5) lf_9_48 hW g0 sh_42 (by decide) (by decide) ty_42_0 rfl rfl (by omega) (by omega) ⟨by omega, by omega⟩ rfl (fun H144111 e144112 w144113 => ?_))
  have f144114 := f0.put' e144112 g0 rfl
  have k144115 : H144111 r0 0 = 0 := wq_u_s e144112
  refine wp_of e260 c260_5 (rw_aload_n (pc' := 6) (v := .ref r0) rfl rfl rfl ?_)
  refine wp_of e260 c260_6 (rw_aload_n (pc' := 7) (v := .ref r0) rfl rfl rfl ?_)
  refine wp_of e260 c260_7 (rw_iload_n (pc' := 8) (z := a1) rfl rfl ?_)
  refine wp_of e260 c260_8 (xc_V (pc' := 11) (r := r0) (as := [vI a1]) (st := [.ref r0]) (lm_9_364) rfl rfl (Nat.le_of_ble_eq_true rfl) w144113 g0 sh_42 (by decide) rfl (by decide) (s_213 w144113 g0 ⟨by omega, by omega⟩) (fun R144116 T144117 H144118 p144119 => ?_))
  obtain ⟨e144120, e144122, z144124, e144121, b144125, p144123⟩ := p144119
  subst e144120
  subst e144121
  subst e144122
  show wp _ _ 260 11 [(0, .ref r0), (1, vI a1)] [vI z144124, .ref r0] _ H144111 _
  have k144126 : wKI H144111 r0 = wKI H r0 := (wKI_fr hW g0 ((wfr.rf (l := [(42, 0)])).put' e144112 g0 rfl) rfl)
  refine wp_of e260 c260_11 (xc_V (pc' := 14) (r := r0) (as := [vI z144124]) (st := []) (lm_9_433) rfl rfl (Nat.le_of_ble_eq_true rfl) w144113 g0 sh_42 (by decide) rfl (by decide) (s_241 w144113 g0 ⟨by omega, by omega⟩ (by omega) (by omega)) (fun R144127 T144128 H144129 p144130 => ?_))
  obtain ⟨e144131, w144133, f144134, z144139, e144132, b144140, p144135, p144136, p144137, p144138⟩ := p144130
  subst e144131
  subst e144132
  have f144141 := f144114.tr f144134 rfl
  show wp _ _ 260 14 [(0, .ref r0), (1, vI a1)] [vI z144139] _ H144129 _
  refine wp_of e260 c260_14 (rw_istore_n (pc' := 15) (z := z144139) (L' := [(2, vI z144139), (0, .ref r0), (1, vI a1)]) rfl rfl rfl ?_)
  refine wp_of e260 c260_15 (rw_iload_n (pc' := 16) (z := z144139) rfl rfl ?_)
  refine wp_of e260 c260_16 (rw_if_le (p1 := 26) (p2 := 19) (by decide) rfl ⟨by omega, by omega⟩ (fun c144142 => ?_) (fun c144142 => ?_))
  · refine wp_of e260 c260_26 (rw_lconst (pc' := 27) (z := 0) rfl rfl ?_)
    refine wp_of e260 c260_27 (rw_lstore_n (pc' := 28) (z := 0) (L' := [(3, vL 0), (2, vI z144139), (0, .ref r0), (1, vI a1)]) rfl rfl rfl ?_)
    refine wp_of e260 c260_28 (rw_iconst (pc' := 29) rfl ?_)
    refine wp_of e260 c260_29 (rw_istore (pc' := 31) (z := 0) (L' := [(5, vI 0), (3, vL 0), (2, vI z144139), (0, .ref r0), (1, vI a1)]) rfl rfl rfl ?_)
    have lp144399 : ∀ (n144400 : Nat) (v144402 : Int) (v144403 : Int) (H144404 : wq_H), WT T H144404 → wfr [(51, 999)] T H144129 H144404 → (0 ≤ v144402 ∧ v144402 ≤ 20000) → ((-9223372036854775808) ≤ v144403 ∧ v144403 ≤ 9223372036854775807) → (20000 - v144402).toNat = n144400 → wp kt 7 260 31 [(5, vI v144402), (3, vL v144403), (0, .ref r0), (1, vI a1)] [] T H144404 (q_260 r0 a1 T H) := by
      intro n144400
      induction n144400 using Nat.strongRecOn with
      | _ n144400 ih144401 =>
        intro v144402 v144403 H144404 w144405 f144406 b144407 b144408 m144409
        have f144410 := f144141.tr f144406 rfl
        refine wp_of e260 c260_31 (rw_iload (pc' := 33) (z := v144402) rfl rfl ?_)
        refine wp_of e260 c260_33 (rw_aload_n (pc' := 34) (v := .ref r0) rfl rfl rfl ?_)
        have k144411 : H144404 r0 29 = H144129 r0 29 := (f144406 r0 29 _ g0 rfl)
        refine wp_of e260 c260_34 (xg_I (pc' := 37) lf_9_422 w144405 g0 sh_42 (by decide) (by decide) ty_42_29 rfl rfl (fun b144412 b144413 => ?_))
        refine wp_of e260 c260_37 (rw_icmp_ge (p1 := 68) (p2 := 40) (by decide) rfl ⟨by omega, by omega⟩ ⟨by omega, by omega⟩ (fun c144414 => ?_) (fun c144414 => ?_))
        · refine wp_of e260 c260_68 (rw_aload_n (pc' := 69) (v := .ref r0) rfl rfl rfl ?_)
          refine wp_of e260 c260_69 (rw_lload_n (pc' := 70) (z := v144403) rfl rfl ?_)
          refine wp_of e260 c260_70 (xc_V (pc' := 73) (r := r0) (as := [vL v144403]) (st := []) (lm_9_380) rfl rfl (Nat.le_of_ble_eq_true rfl) w144405 g0 sh_42 (by decide) rfl (by decide) (s_221 w144405 g0 ⟨by omega, by omega⟩) (fun R144415 T144416 H144417 p144418 => ?_))
          obtain ⟨e144419, w144421, f144422, z144423, e144420, b144424⟩ := p144418
          subst e144419
          subst e144420
          have f144425 := f144410.tr f144422 rfl
          show wp _ _ 260 73 [(5, vI v144402), (3, vL v144403), (0, .ref r0), (1, vI a1)] [vL z144423] _ H144417 _
          have k144426 : wKI H144417 r0 = wKI H144129 r0 := ((wKI_fr w144405 g0 f144422 rfl).trans (wKI_fr w144133 g0 f144406 rfl))
          exact wp_lreturn e260 c260_73 rfl ⟨rfl, w144421, f144425, z144423, rfl, ⟨by omega, by omega⟩, by omega⟩
        · refine wp_of e260 c260_40 (rw_aload_n (pc' := 41) (v := .ref r0) rfl rfl rfl ?_)
          refine wp_of e260 c260_41 (rw_aload_n (pc' := 42) (v := .ref r0) rfl rfl rfl ?_)
          refine wp_of e260 c260_42 (xg_R (pc' := 45) lf_9_42 w144405 g0 sh_42 (by decide) (by decide) ty_42_30 rfl rfl (fun r144427 q144428 g144429 => ?_))
          refine wp_of e260 c260_45 (rw_iload (pc' := 47) (z := v144402) rfl rfl ?_)
          refine wp_of e260 c260_47 (xa_I (so := 0) (pc' := 48) w144405 g144429 sh_52 (by decide) (ty_52 _) (by omega) (by omega) rfl (fun b144430 b144431 => ?_))
          have k144432 : wLM H144404 r0 = wLM H144129 r0 := (wLM_fr w144133 g0 f144406 rfl)
          have k144433 : H144404 r0 3 = H144111 r0 3 := ((f144406 r0 3 _ g0 rfl).trans (f144134 r0 3 _ g0 rfl))
          obtain ⟨r144434, q144435, g144436⟩ := (w144405.opt g0 (t' := 54) (n := 33) (j := 3) (p := 0) (q := 0) rfl (by decide) rfl).resolve_left (by omega)
          refine wp_of e260 c260_48 (xc_V (pc' := 51) (r := r0) (as := [vI (H144404 r144427 (v144402.toNat))]) (st := []) (lm_9_425) rfl rfl (Nat.le_of_ble_eq_true rfl) w144405 g0 sh_42 (by decide) rfl (by decide) (s_243 w144405 g0 ⟨by omega, by omega⟩ q144435 g144436 (by omega)) (fun R144437 T144438 H144439 p144440 => ?_))
          obtain ⟨e144441, w144443, f144444, e144442⟩ := p144440
          subst e144441
          subst e144442
          have f144445 := f144410.tr f144444 rfl
          have f144446 := f144406.tr f144444 rfl
          show wp _ _ 260 51 [(5, vI v144402), (3, vL v144403), (0, .ref r0), (1, vI a1)] [] _ H144439 _
          refine wp_of e260 c260_51 (rw_lload_n (pc' := 52) (z := v144403) rfl rfl ?_)
          refine wp_of e260 c260_52 (rw_lconst (pc' := 53) (z := 1) rfl rfl ?_)
          refine wp_of e260 c260_53 (rw_aload_n (pc' := 54) (v := .ref r0) rfl rfl rfl ?_)
          refine wp_of e260 c260_54 (xg_R (pc' := 57) lf_9_39 w144443 g0 sh_42 (by decide) (by decide) ty_42_27 rfl rfl (fun r144447 q144448 g144449 => ?_))
          refine wp_of e260 c260_57 (rw_iload_n (pc' := 58) (z := a1) rfl rfl ?_)
          refine wp_of e260 c260_58 (xa_I (so := 0) (pc' := 59) w144443 g144449 sh_51 (by decide) (ty_51 _) (by omega) (by omega) rfl (fun b144450 b144451 => ?_))
          refine wp_of e260 c260_59 (rw_lshl (pc' := 60) rfl ?_)
          obtain ⟨v144452, e144453⟩ : ∃ x : Int, x = wl_shl 1 (H144439 r144447 (a1.toNat)) := ⟨_, rfl⟩
          rw [← e144453]
          have b144454 : -9223372036854775808 ≤ v144452 ∧ v144452 ≤ 9223372036854775807 := by
            rw [e144453]
            exact wL_shl _ _
          refine wp_of e260 c260_60 (rw_lor (pc' := 61) rfl ?_)
          obtain ⟨v144455, e144456⟩ : ∃ x : Int, x = wl_or v144403 v144452 := ⟨_, rfl⟩
          rw [← e144456]
          have b144457 : -9223372036854775808 ≤ v144455 ∧ v144455 ≤ 9223372036854775807 := by
            rw [e144456]
            exact wL_or _ _
          refine wp_of e260 c260_61 (rw_lstore_n (pc' := 62) (z := v144455) (L' := [(3, vL v144455), (5, vI v144402), (0, .ref r0), (1, vI a1)]) rfl rfl rfl ?_)
          refine wp_of e260 c260_62 (rw_iinc (pc' := 65) (z := v144402) (L' := [(5, vI (v144402 + 1)), (3, vL v144455), (0, .ref r0), (1, vI a1)]) rfl rfl rfl rfl ?_)
          refine wp_of e260 c260_65 (rw_goto (p1 := 31) (by decide) ?_)
          exact wp_lc (ks := [5, 3, 0, 1]) (wl_c rfl (wl_c rfl (wl_c rfl (wl_c rfl wl_n)))) rfl (by decide) (ih144401 _ (by omega) (v144402 + 1) v144455 H144439 w144443 f144446 ⟨by omega, by omega⟩ ⟨by omega, by omega⟩ rfl)
    exact wp_lc (ks := [5, 3, 2, 0, 1]) (wl_c rfl (wl_c rfl (wl_c rfl (wl_c rfl wl_n)))) rfl (by decide) (lp144399 _ 0 0 H144129 w144133 wfr.rf ⟨by omega, by omega⟩ ⟨by omega, by omega⟩ rfl)
  · refine wp_of e260 c260_19 (rw_aload_n (pc' := 20) (v := .ref r0) rfl rfl rfl ?_)
    refine wp_of e260 c260_20 (rw_iload_n (pc' := 21) (z := z144139) rfl rfl ?_)
    refine wp_of e260 c260_21 (xc_V (pc' := 24) (r := r0) (as := [vI z144139]) (st := []) (lm_9_54) rfl rfl (Nat.le_of_ble_eq_true rfl) w144133 g0 sh_42 (by decide) rfl (by decide) (s_170 w144133 g0 ⟨by omega, by omega⟩) (fun R144458 T144459 H144460 p144461 => ?_))
    obtain ⟨e144462, w144464, f144465, z144466, e144463, b144467⟩ := p144461
    subst e144462
    subst e144463
    have f144468 := f144141.tr f144465 rfl
    show wp _ _ 260 24 [(2, vI z144139), (0, .ref r0), (1, vI a1)] [vI z144466] _ H144460 _
    refine wp_of e260 c260_24 (rw_i2l (pc' := 25) rfl ⟨by omega, by omega⟩ ?_)
    have k144469 : wKI H144460 r0 = wKI H144129 r0 := (wKI_fr w144133 g0 f144465 rfl)
    exact wp_lreturn e260 c260_25 rfl ⟨rfl, w144464, f144468, z144466, rfl, ⟨by omega, by omega⟩, by omega⟩
/-! StrikeAwakeModel.awakeSet([II)I -/
theorem e262 : wq_en 262 = some (9, 5, false, some FieldType.int) := rfl
theorem cg262_0 : mc_cd 262 0 = some (.iconst 0, 1) ∧ mc_cd 262 1 = some (.istore_n 3, 1) ∧ mc_cd 262 2 = some (.iconst 0, 1) ∧ mc_cd 262 3 = some (.istore 4, 2) ∧ mc_cd 262 5 = some (.iload 4, 2) ∧ mc_cd 262 7 = some (.aload_n 0, 1) ∧ mc_cd 262 8 = some (.getfield 337, 3) ∧ mc_cd 262 11 = some (.getfield 188, 3) := by decide +kernel
theorem c262_0 : mc_cd 262 0 = some (.iconst 0, 1) := cg262_0.1
theorem c262_1 : mc_cd 262 1 = some (.istore_n 3, 1) := cg262_0.2.1
theorem c262_2 : mc_cd 262 2 = some (.iconst 0, 1) := cg262_0.2.2.1
theorem c262_3 : mc_cd 262 3 = some (.istore 4, 2) := cg262_0.2.2.2.1
theorem c262_5 : mc_cd 262 5 = some (.iload 4, 2) := cg262_0.2.2.2.2.1
theorem c262_7 : mc_cd 262 7 = some (.aload_n 0, 1) := cg262_0.2.2.2.2.2.1
theorem c262_8 : mc_cd 262 8 = some (.getfield 337, 3) := cg262_0.2.2.2.2.2.2.1
theorem c262_11 : mc_cd 262 11 = some (.getfield 188, 3) := cg262_0.2.2.2.2.2.2.2
theorem cg262_14 : mc_cd 262 14 = some (.if_icmp .ge 42, 3) ∧ mc_cd 262 17 = some (.iload_n 3, 1) ∧ mc_cd 262 18 = some (.aload_n 0, 1) ∧ mc_cd 262 19 = some (.getfield 33, 3) ∧ mc_cd 262 22 = some (.bipush 40, 2) ∧ mc_cd 262 24 = some (.iload 4, 2) ∧ mc_cd 262 26 = some (.imul, 1) ∧ mc_cd 262 27 = some (.aload_n 1, 1) := by decide +kernel
theorem c262_14 : mc_cd 262 14 = some (.if_icmp .ge 42, 3) := cg262_14.1
theorem c262_17 : mc_cd 262 17 = some (.iload_n 3, 1) := cg262_14.2.1
theorem c262_18 : mc_cd 262 18 = some (.aload_n 0, 1) := cg262_14.2.2.1
theorem c262_19 : mc_cd 262 19 = some (.getfield 33, 3) := cg262_14.2.2.2.1
theorem c262_22 : mc_cd 262 22 = some (.bipush 40, 2) := cg262_14.2.2.2.2.1
theorem c262_24 : mc_cd 262 24 = some (.iload 4, 2) := cg262_14.2.2.2.2.2.1
theorem c262_26 : mc_cd 262 26 = some (.imul, 1) := cg262_14.2.2.2.2.2.2.1
theorem c262_27 : mc_cd 262 27 = some (.aload_n 1, 1) := cg262_14.2.2.2.2.2.2.2
theorem cg262_28 : mc_cd 262 28 = some (.iload 4, 2) ∧ mc_cd 262 30 = some (.iaload, 1) ∧ mc_cd 262 31 = some (.iadd, 1) ∧ mc_cd 262 32 = some (.iaload, 1) ∧ mc_cd 262 33 = some (.iload_n 2, 1) ∧ mc_cd 262 34 = some (.invokestatic 346, 3) ∧ mc_cd 262 37 = some (.ifCond .eq 10, 3) ∧ mc_cd 262 40 = some (.iconst 1, 1) := by decide +kernel
theorem c262_28 : mc_cd 262 28 = some (.iload 4, 2) := cg262_28.1
theorem c262_30 : mc_cd 262 30 = some (.iaload, 1) := cg262_28.2.1
theorem c262_31 : mc_cd 262 31 = some (.iadd, 1) := cg262_28.2.2.1
theorem c262_32 : mc_cd 262 32 = some (.iaload, 1) := cg262_28.2.2.2.1
theorem c262_33 : mc_cd 262 33 = some (.iload_n 2, 1) := cg262_28.2.2.2.2.1
theorem c262_34 : mc_cd 262 34 = some (.invokestatic 346, 3) := cg262_28.2.2.2.2.2.1
theorem c262_37 : mc_cd 262 37 = some (.ifCond .eq 10, 3) := cg262_28.2.2.2.2.2.2.1
theorem c262_40 : mc_cd 262 40 = some (.iconst 1, 1) := cg262_28.2.2.2.2.2.2.2
theorem cg262_41 : mc_cd 262 41 = some (.iload 4, 2) ∧ mc_cd 262 43 = some (.ishl, 1) ∧ mc_cd 262 44 = some (.goto 4, 3) ∧ mc_cd 262 47 = some (.iconst 0, 1) ∧ mc_cd 262 48 = some (.ior, 1) ∧ mc_cd 262 49 = some (.istore_n 3, 1) ∧ mc_cd 262 50 = some (.iinc 4 1, 3) ∧ mc_cd 262 53 = some (.goto (-48), 3) := by decide +kernel
theorem c262_41 : mc_cd 262 41 = some (.iload 4, 2) := cg262_41.1
theorem c262_43 : mc_cd 262 43 = some (.ishl, 1) := cg262_41.2.1
theorem c262_44 : mc_cd 262 44 = some (.goto 4, 3) := cg262_41.2.2.1
theorem c262_47 : mc_cd 262 47 = some (.iconst 0, 1) := cg262_41.2.2.2.1
theorem c262_48 : mc_cd 262 48 = some (.ior, 1) := cg262_41.2.2.2.2.1
theorem c262_49 : mc_cd 262 49 = some (.istore_n 3, 1) := cg262_41.2.2.2.2.2.1
theorem c262_50 : mc_cd 262 50 = some (.iinc 4 1, 3) := cg262_41.2.2.2.2.2.2.1
theorem c262_53 : mc_cd 262 53 = some (.goto (-48), 3) := cg262_41.2.2.2.2.2.2.2
theorem cg262_56 : mc_cd 262 56 = some (.iload_n 3, 1) ∧ mc_cd 262 57 = some (.ireturn, 1) := by decide +kernel
theorem c262_56 : mc_cd 262 56 = some (.iload_n 3, 1) := cg262_56.1
theorem c262_57 : mc_cd 262 57 = some (.ireturn, 1) := cg262_56.2
abbrev q_262_m_lot (r0 : Nat) (r1 : Nat) (a2 : Int) (pp : Nat) (T : wq_T) (H : wq_H) : Option Value → wq_T → wq_H → Prop := fun r T' H' => T = T' ∧ H = H' ∧ ∃ z : Int, some (vI z) = r ∧ ((-2147483648) ≤ z ∧ z ≤ 2147483647)
set_option maxHeartbeats 4000000 in
theorem s_262_m_lot {kt : Nat → Option mc_E} {T : wq_T} {H : wq_H} {r0 : Nat} {r1 : Nat} {a2 : Int} {pp : Nat} (hW : WT T H) (g0 : T.2.2.2 r0 = some 42) (g1 : T.2.2.2 r1 = some 51) (i2 : (-2147483648) ≤ a2 ∧ a2 ≤ 2147483647) (qpp : H r0 3 = (pp : Int)) (gpp : T.2.2.2 pp = some 54) : wpc kt 2 262 [.ref r0, .ref r1, vI a2] T H (q_262_m_lot r0 r1 a2 pp T H) := by
  refine wp_enter e262 (Nat.le_of_ble_eq_true rfl) rfl ?_
  show wp _ _ 262 0 [(0, .ref r0), (1, .ref r1), (2, vI a2)] [] _ H _
  refine wp_of e262 c262_0 (rw_iconst (pc' := 1) rfl ?_)
  refine wp_of e262 c262_1 (rw_istore_n (pc' := 2) (z := 0) (L' := [(3, vI 0), (0, .ref r0), (1, .ref r1), (2, vI a2)]) rfl rfl rfl ?_)
  refine wp_of e262 c262_2 (rw_iconst (pc' := 3) rfl ?_)
  refine wp_of e262 c262_3 (rw_istore (pc' := 5) (z := 0) (L' := [(4, vI 0), (3, vI 0), (0, .ref r0), (1, .ref r1), (2, vI a2)]) rfl rfl rfl ?_)
  have lp144889 : ∀ (n144890 : Nat) (v144892 : Int) (v144893 : Int), (0 ≤ v144892 ∧ v144892 ≤ 6) → (0 ≤ v144893 ∧ v144893 ≤ 16777215) → (6 - v144892).toNat = n144890 → wp kt 1 262 5 [(4, vI v144892), (3, vI v144893), (0, .ref r0), (1, .ref r1), (2, vI a2)] [] T H (q_262_m_lot r0 r1 a2 pp T H) := by
    intro n144890
    induction n144890 using Nat.strongRecOn with
    | _ n144890 ih144891 =>
      intro v144892 v144893 b144896 b144897 m144898
      refine wp_of e262 c262_5 (rw_iload (pc' := 7) (z := v144892) rfl rfl ?_)
      refine wp_of e262 c262_7 (rw_aload_n (pc' := 8) (v := .ref r0) rfl rfl rfl ?_)
      refine wp_of e262 c262_8 (xg_K (pc' := 11) lf_9_337 hW g0 sh_42 (by decide) (by decide) rfl qpp rfl ?_)
      refine wp_of e262 c262_11 (xg_I (pc' := 14) lf_9_188 hW gpp sh_54 (by decide) (by decide) ty_54_3 rfl rfl (fun b144899 b144900 => ?_))
      refine wp_of e262 c262_14 (rw_icmp_ge (p1 := 56) (p2 := 17) (by decide) rfl ⟨by omega, by omega⟩ ⟨by omega, by omega⟩ (fun c144901 => ?_) (fun c144901 => ?_))
      · refine wp_of e262 c262_56 (rw_iload_n (pc' := 57) (z := v144893) rfl rfl ?_)
        exact wp_ireturn e262 c262_57 rfl ⟨rfl, rfl, v144893, rfl, ⟨by omega, by omega⟩⟩
      · refine wp_of e262 c262_17 (rw_iload_n (pc' := 18) (z := v144893) rfl rfl ?_)
        refine wp_of e262 c262_18 (rw_aload_n (pc' := 19) (v := .ref r0) rfl rfl rfl ?_)
        refine wp_of e262 c262_19 (xg_R (pc' := 22) lf_9_33 hW g0 sh_42 (by decide) (by decide) ty_42_25 rfl rfl (fun r144902 q144903 g144904 => ?_))
        refine wp_of e262 c262_22 (rw_bipush (pc' := 24) (z := 40) rfl (by decide) ?_)
        refine wp_of e262 c262_24 (rw_iload (pc' := 26) (z := v144892) rfl rfl ?_)
        refine wp_of e262 c262_26 (rw_imul (pc' := 27) rfl ?_)
        refine wp_of e262 c262_27 (rw_aload_n (pc' := 28) (v := .ref r1) rfl rfl rfl ?_)
        refine wp_of e262 c262_28 (rw_iload (pc' := 30) (z := v144892) rfl rfl ?_)
        refine wp_of e262 c262_30 (xa_I (so := 0) (pc' := 31) hW g1 sh_51 (by decide) (ty_51 _) (by omega) (by omega) rfl (fun b144905 b144906 => ?_))
        refine wp_of e262 c262_31 (rw_iadd (pc' := 32) rfl ?_)
        refine wp_of e262 c262_32 (xa_I (so := 0) (pc' := 33) hW g144904 sh_49 (by decide) (ty_49 _) (by omega) (by omega) rfl (fun b144907 b144908 => ?_))
        refine wp_of e262 c262_33 (rw_iload_n (pc' := 34) (z := a2) rfl rfl ?_)
        refine wp_of e262 c262_34 (xc_S (pc' := 37) (as := [vI (H r144902 (((40 * v144892) + (H r1 (v144892.toNat))).toNat)), vI a2]) (st := [vI v144893]) (lm_9_346) rfl rfl (Nat.le_of_ble_eq_true rfl) rfl (by decide) (s_205 hW ⟨by omega, by omega⟩ ⟨by omega, by omega⟩) (fun R144909 T144910 H144911 p144912 => ?_))
        obtain ⟨e144913, e144915, z144916, e144914, b144917⟩ := p144912
        subst e144913
        subst e144914
        subst e144915
        show wp _ _ 262 37 [(4, vI v144892), (3, vI v144893), (0, .ref r0), (1, .ref r1), (2, vI a2)] [vI z144916, vI v144893] _ H _
        refine wp_of e262 c262_37 (rw_if_eq (p1 := 47) (p2 := 40) (by decide) rfl ⟨by omega, by omega⟩ (fun c144918 => ?_) (fun c144918 => ?_))
        · refine wp_of e262 c262_47 (rw_iconst (pc' := 48) rfl ?_)
          refine wp_of e262 c262_48 (rw_ior (pc' := 49) rfl ?_)
          obtain ⟨v144919, e144920⟩ : ∃ x : Int, x = wq_or v144893 0 := ⟨_, rfl⟩
          rw [← e144920]
          have b144921 : 0 ≤ v144919 ∧ v144919 ≤ 16777215 := by
            rw [e144920]
            exact wq_or_24 ⟨by omega, by omega⟩ ⟨by omega, by omega⟩
          refine wp_of e262 c262_49 (rw_istore_n (pc' := 50) (z := v144919) (L' := [(3, vI v144919), (4, vI v144892), (0, .ref r0), (1, .ref r1), (2, vI a2)]) rfl rfl rfl ?_)
          refine wp_of e262 c262_50 (rw_iinc (pc' := 53) (z := v144892) (L' := [(4, vI (v144892 + 1)), (3, vI v144919), (0, .ref r0), (1, .ref r1), (2, vI a2)]) rfl rfl rfl rfl ?_)
          refine wp_of e262 c262_53 (rw_goto (p1 := 5) (by decide) ?_)
          exact wp_lc (ks := [4, 3, 0, 1, 2]) (wl_c rfl (wl_c rfl (wl_c rfl (wl_c rfl (wl_c rfl wl_n))))) rfl (by decide) (ih144891 _ (by omega) (v144892 + 1) v144919 ⟨by omega, by omega⟩ ⟨by omega, by omega⟩ rfl)
        · refine wp_of e262 c262_40 (rw_iconst (pc' := 41) rfl ?_)
          refine wp_of e262 c262_41 (rw_iload (pc' := 43) (z := v144892) rfl rfl ?_)
          refine wp_of e262 c262_43 (rw_ishl (pc' := 44) rfl ?_)
          obtain ⟨v144922, e144923⟩ : ∃ x : Int, x = wq_shl 1 v144892 := ⟨_, rfl⟩
          rw [← e144923]
          have b144924 : 1 ≤ v144922 ∧ v144922 ≤ 64 := by
            rw [e144923]
            exact wq_shl1_6 ⟨by omega, by omega⟩
          refine wp_of e262 c262_44 (rw_goto (p1 := 48) (by decide) ?_)
          refine wp_of e262 c262_48 (rw_ior (pc' := 49) rfl ?_)
          obtain ⟨v144925, e144926⟩ : ∃ x : Int, x = wq_or v144893 v144922 := ⟨_, rfl⟩
          rw [← e144926]
          have b144927 : 0 ≤ v144925 ∧ v144925 ≤ 16777215 := by
            rw [e144926]
            exact wq_or_24 ⟨by omega, by omega⟩ ⟨by omega, by omega⟩
          refine wp_of e262 c262_49 (rw_istore_n (pc' := 50) (z := v144925) (L' := [(3, vI v144925), (4, vI v144892), (0, .ref r0), (1, .ref r1), (2, vI a2)]) rfl rfl rfl ?_)
          refine wp_of e262 c262_50 (rw_iinc (pc' := 53) (z := v144892) (L' := [(4, vI (v144892 + 1)), (3, vI v144925), (0, .ref r0), (1, .ref r1), (2, vI a2)]) rfl rfl rfl rfl ?_)
          refine wp_of e262 c262_53 (rw_goto (p1 := 5) (by decide) ?_)
          exact wp_lc (ks := [4, 3, 0, 1, 2]) (wl_c rfl (wl_c rfl (wl_c rfl (wl_c rfl (wl_c rfl wl_n))))) rfl (by decide) (ih144891 _ (by omega) (v144892 + 1) v144925 ⟨by omega, by omega⟩ ⟨by omega, by omega⟩ rfl)
  exact wp_lc (ks := [4, 3, 0, 1, 2]) (wl_c rfl (wl_c rfl (wl_c rfl (wl_c rfl (wl_c rfl wl_n))))) rfl (by decide) (lp144889 _ 0 0 ⟨by omega, by omega⟩ ⟨by omega, by omega⟩ rfl)

/-! StrikeAwakeModel.awakeSet([II)I -/
abbrev q_262_m_one (r0 : Nat) (r1 : Nat) (a2 : Int) (pp : Nat) (T : wq_T) (H : wq_H) : Option Value → wq_T → wq_H → Prop := fun r T' H' => T = T' ∧ H = H' ∧ ∃ z : Int, some (vI z) = r ∧ ((-2147483648) ≤ z ∧ z ≤ 2147483647)
set_option maxHeartbeats 4000000 in
theorem s_262_m_one {kt : Nat → Option mc_E} {T : wq_T} {H : wq_H} {r0 : Nat} {r1 : Nat} {a2 : Int} {pp : Nat} (hW : WT T H) (g0 : T.2.2.2 r0 = some 42) (g1 : T.2.2.2 r1 = some 53) (i2 : (-2147483648) ≤ a2 ∧ a2 ≤ 2147483647) (qpp : H r0 3 = (pp : Int)) (gpp : T.2.2.2 pp = some 54) : wpc kt 2 262 [.ref r0, .ref r1, vI a2] T H (q_262_m_one r0 r1 a2 pp T H) := by
  refine wp_enter e262 (Nat.le_of_ble_eq_true rfl) rfl ?_
  show wp _ _ 262 0 [(0, .ref r0), (1, .ref r1), (2, vI a2)] [] _ H _
  refine wp_of e262 c262_0 (rw_iconst (pc' := 1) rfl ?_)
  refine wp_of e262 c262_1 (rw_istore_n (pc' := 2) (z := 0) (L' := [(3, vI 0), (0, .ref r0), (1, .ref r1), (2, vI a2)]) rfl rfl rfl ?_)
  refine wp_of e262 c262_2 (rw_iconst (pc' := 3) rfl ?_)
  refine wp_of e262 c262_3 (rw_istore (pc' := 5) (z := 0) (L' := [(4, vI 0), (3, vI 0), (0, .ref r0), (1, .ref r1), (2, vI a2)]) rfl rfl rfl ?_)
  have lp145347 : ∀ (n145348 : Nat) (v145350 : Int) (v145351 : Int), (0 ≤ v145350 ∧ v145350 ≤ 6) → (0 ≤ v145351 ∧ v145351 ≤ 16777215) → (6 - v145350).toNat = n145348 → wp kt 1 262 5 [(4, vI v145350), (3, vI v145351), (0, .ref r0), (1, .ref r1), (2, vI a2)] [] T H (q_262_m_one r0 r1 a2 pp T H) := by
    intro n145348
    induction n145348 using Nat.strongRecOn with
    | _ n145348 ih145349 =>
      intro v145350 v145351 b145354 b145355 m145356
      refine wp_of e262 c262_5 (rw_iload (pc' := 7) (z := v145350) rfl rfl ?_)
      refine wp_of e262 c262_7 (rw_aload_n (pc' := 8) (v := .ref r0) rfl rfl rfl ?_)
      refine wp_of e262 c262_8 (xg_K (pc' := 11) lf_9_337 hW g0 sh_42 (by decide) (by decide) rfl qpp rfl ?_)
      refine wp_of e262 c262_11 (xg_I (pc' := 14) lf_9_188 hW gpp sh_54 (by decide) (by decide) ty_54_3 rfl rfl (fun b145357 b145358 => ?_))
      refine wp_of e262 c262_14 (rw_icmp_ge (p1 := 56) (p2 := 17) (by decide) rfl ⟨by omega, by omega⟩ ⟨by omega, by omega⟩ (fun c145359 => ?_) (fun c145359 => ?_))
      · refine wp_of e262 c262_56 (rw_iload_n (pc' := 57) (z := v145351) rfl rfl ?_)
        exact wp_ireturn e262 c262_57 rfl ⟨rfl, rfl, v145351, rfl, ⟨by omega, by omega⟩⟩
      · refine wp_of e262 c262_17 (rw_iload_n (pc' := 18) (z := v145351) rfl rfl ?_)
        refine wp_of e262 c262_18 (rw_aload_n (pc' := 19) (v := .ref r0) rfl rfl rfl ?_)
        refine wp_of e262 c262_19 (xg_R (pc' := 22) lf_9_33 hW g0 sh_42 (by decide) (by decide) ty_42_25 rfl rfl (fun r145360 q145361 g145362 => ?_))
        refine wp_of e262 c262_22 (rw_bipush (pc' := 24) (z := 40) rfl (by decide) ?_)
        refine wp_of e262 c262_24 (rw_iload (pc' := 26) (z := v145350) rfl rfl ?_)
        refine wp_of e262 c262_26 (rw_imul (pc' := 27) rfl ?_)
        refine wp_of e262 c262_27 (rw_aload_n (pc' := 28) (v := .ref r1) rfl rfl rfl ?_)
        refine wp_of e262 c262_28 (rw_iload (pc' := 30) (z := v145350) rfl rfl ?_)
        refine wp_of e262 c262_30 (xa_I (so := 0) (pc' := 31) hW g1 sh_53 (by decide) (ty_53 _) (by omega) (by omega) rfl (fun b145363 b145364 => ?_))
        refine wp_of e262 c262_31 (rw_iadd (pc' := 32) rfl ?_)
        refine wp_of e262 c262_32 (xa_I (so := 0) (pc' := 33) hW g145362 sh_49 (by decide) (ty_49 _) (by omega) (by omega) rfl (fun b145365 b145366 => ?_))
        refine wp_of e262 c262_33 (rw_iload_n (pc' := 34) (z := a2) rfl rfl ?_)
        refine wp_of e262 c262_34 (xc_S (pc' := 37) (as := [vI (H r145360 (((40 * v145350) + (H r1 (v145350.toNat))).toNat)), vI a2]) (st := [vI v145351]) (lm_9_346) rfl rfl (Nat.le_of_ble_eq_true rfl) rfl (by decide) (s_205 hW ⟨by omega, by omega⟩ ⟨by omega, by omega⟩) (fun R145367 T145368 H145369 p145370 => ?_))
        obtain ⟨e145371, e145373, z145374, e145372, b145375⟩ := p145370
        subst e145371
        subst e145372
        subst e145373
        show wp _ _ 262 37 [(4, vI v145350), (3, vI v145351), (0, .ref r0), (1, .ref r1), (2, vI a2)] [vI z145374, vI v145351] _ H _
        refine wp_of e262 c262_37 (rw_if_eq (p1 := 47) (p2 := 40) (by decide) rfl ⟨by omega, by omega⟩ (fun c145376 => ?_) (fun c145376 => ?_))
        · refine wp_of e262 c262_47 (rw_iconst (pc' := 48) rfl ?_)
          refine wp_of e262 c262_48 (rw_ior (pc' := 49) rfl ?_)
          obtain ⟨v145377, e145378⟩ : ∃ x : Int, x = wq_or v145351 0 := ⟨_, rfl⟩
          rw [← e145378]
          have b145379 : 0 ≤ v145377 ∧ v145377 ≤ 16777215 := by
            rw [e145378]
            exact wq_or_24 ⟨by omega, by omega⟩ ⟨by omega, by omega⟩
          refine wp_of e262 c262_49 (rw_istore_n (pc' := 50) (z := v145377) (L' := [(3, vI v145377), (4, vI v145350), (0, .ref r0), (1, .ref r1), (2, vI a2)]) rfl rfl rfl ?_)
          refine wp_of e262 c262_50 (rw_iinc (pc' := 53) (z := v145350) (L' := [(4, vI (v145350 + 1)), (3, vI v145377), (0, .ref r0), (1, .ref r1), (2, vI a2)]) rfl rfl rfl rfl ?_)
          refine wp_of e262 c262_53 (rw_goto (p1 := 5) (by decide) ?_)
          exact wp_lc (ks := [4, 3, 0, 1, 2]) (wl_c rfl (wl_c rfl (wl_c rfl (wl_c rfl (wl_c rfl wl_n))))) rfl (by decide) (ih145349 _ (by omega) (v145350 + 1) v145377 ⟨by omega, by omega⟩ ⟨by omega, by omega⟩ rfl)
        · refine wp_of e262 c262_40 (rw_iconst (pc' := 41) rfl ?_)
          refine wp_of e262 c262_41 (rw_iload (pc' := 43) (z := v145350) rfl rfl ?_)
          refine wp_of e262 c262_43 (rw_ishl (pc' := 44) rfl ?_)
          obtain ⟨v145380, e145381⟩ : ∃ x : Int, x = wq_shl 1 v145350 := ⟨_, rfl⟩
          rw [← e145381]
          have b145382 : 1 ≤ v145380 ∧ v145380 ≤ 64 := by
            rw [e145381]
            exact wq_shl1_6 ⟨by omega, by omega⟩
          refine wp_of e262 c262_44 (rw_goto (p1 := 48) (by decide) ?_)
          refine wp_of e262 c262_48 (rw_ior (pc' := 49) rfl ?_)
          obtain ⟨v145383, e145384⟩ : ∃ x : Int, x = wq_or v145351 v145380 := ⟨_, rfl⟩
          rw [← e145384]
          have b145385 : 0 ≤ v145383 ∧ v145383 ≤ 16777215 := by
            rw [e145384]
            exact wq_or_24 ⟨by omega, by omega⟩ ⟨by omega, by omega⟩
          refine wp_of e262 c262_49 (rw_istore_n (pc' := 50) (z := v145383) (L' := [(3, vI v145383), (4, vI v145350), (0, .ref r0), (1, .ref r1), (2, vI a2)]) rfl rfl rfl ?_)
          refine wp_of e262 c262_50 (rw_iinc (pc' := 53) (z := v145350) (L' := [(4, vI (v145350 + 1)), (3, vI v145383), (0, .ref r0), (1, .ref r1), (2, vI a2)]) rfl rfl rfl rfl ?_)
          refine wp_of e262 c262_53 (rw_goto (p1 := 5) (by decide) ?_)
          exact wp_lc (ks := [4, 3, 0, 1, 2]) (wl_c rfl (wl_c rfl (wl_c rfl (wl_c rfl (wl_c rfl wl_n))))) rfl (by decide) (ih145349 _ (by omega) (v145350 + 1) v145383 ⟨by omega, by omega⟩ ⟨by omega, by omega⟩ rfl)
  exact wp_lc (ks := [4, 3, 0, 1, 2]) (wl_c rfl (wl_c rfl (wl_c rfl (wl_c rfl (wl_c rfl wl_n))))) rfl (by decide) (lp145347 _ 0 0 ⟨by omega, by omega⟩ ⟨by omega, by omega⟩ rfl)
/-! StrikeAwakeModel.hiding(II)I -/
theorem e261 : wq_en 261 = some (9, 6, false, some FieldType.int) := rfl
theorem cg261_0 : mc_cd 261 0 = some (.aload_n 0, 1) ∧ mc_cd 261 1 = some (.iconst 0, 1) ∧ mc_cd 261 2 = some (.putfield 48, 3) ∧ mc_cd 261 5 = some (.aload_n 0, 1) ∧ mc_cd 261 6 = some (.aload_n 0, 1) ∧ mc_cd 261 7 = some (.iload_n 1, 1) ∧ mc_cd 261 8 = some (.invokevirtual 364, 3) ∧ mc_cd 261 11 = some (.ifCond .eq 15, 3) := by decide +kernel
theorem c261_0 : mc_cd 261 0 = some (.aload_n 0, 1) := cg261_0.1
theorem c261_1 : mc_cd 261 1 = some (.iconst 0, 1) := cg261_0.2.1
theorem c261_2 : mc_cd 261 2 = some (.putfield 48, 3) := cg261_0.2.2.1
theorem c261_5 : mc_cd 261 5 = some (.aload_n 0, 1) := cg261_0.2.2.2.1
theorem c261_6 : mc_cd 261 6 = some (.aload_n 0, 1) := cg261_0.2.2.2.2.1
theorem c261_7 : mc_cd 261 7 = some (.iload_n 1, 1) := cg261_0.2.2.2.2.2.1
theorem c261_8 : mc_cd 261 8 = some (.invokevirtual 364, 3) := cg261_0.2.2.2.2.2.2.1
theorem c261_11 : mc_cd 261 11 = some (.ifCond .eq 15, 3) := cg261_0.2.2.2.2.2.2.2
theorem cg261_14 : mc_cd 261 14 = some (.aload_n 0, 1) ∧ mc_cd 261 15 = some (.iload_n 2, 1) ∧ mc_cd 261 16 = some (.invokevirtual 373, 3) ∧ mc_cd 261 19 = some (.ifCond .eq 7, 3) ∧ mc_cd 261 22 = some (.iconst 1, 1) ∧ mc_cd 261 23 = some (.goto 4, 3) ∧ mc_cd 261 26 = some (.iconst 0, 1) ∧ mc_cd 261 27 = some (.invokevirtual 433, 3) := by decide +kernel
theorem c261_14 : mc_cd 261 14 = some (.aload_n 0, 1) := cg261_14.1
theorem c261_15 : mc_cd 261 15 = some (.iload_n 2, 1) := cg261_14.2.1
theorem c261_16 : mc_cd 261 16 = some (.invokevirtual 373, 3) := cg261_14.2.2.1
theorem c261_19 : mc_cd 261 19 = some (.ifCond .eq 7, 3) := cg261_14.2.2.2.1
theorem c261_22 : mc_cd 261 22 = some (.iconst 1, 1) := cg261_14.2.2.2.2.1
theorem c261_23 : mc_cd 261 23 = some (.goto 4, 3) := cg261_14.2.2.2.2.2.1
theorem c261_26 : mc_cd 261 26 = some (.iconst 0, 1) := cg261_14.2.2.2.2.2.2.1
theorem c261_27 : mc_cd 261 27 = some (.invokevirtual 433, 3) := cg261_14.2.2.2.2.2.2.2
theorem cg261_30 : mc_cd 261 30 = some (.istore_n 3, 1) ∧ mc_cd 261 31 = some (.iload_n 3, 1) ∧ mc_cd 261 32 = some (.ifCond .le 9, 3) ∧ mc_cd 261 35 = some (.aload_n 0, 1) ∧ mc_cd 261 36 = some (.iload_n 3, 1) ∧ mc_cd 261 37 = some (.invokevirtual 54, 3) ∧ mc_cd 261 40 = some (.ireturn, 1) ∧ mc_cd 261 41 = some (.iconst 0, 1) := by decide +kernel
theorem c261_30 : mc_cd 261 30 = some (.istore_n 3, 1) := cg261_30.1
theorem c261_31 : mc_cd 261 31 = some (.iload_n 3, 1) := cg261_30.2.1
theorem c261_32 : mc_cd 261 32 = some (.ifCond .le 9, 3) := cg261_30.2.2.1
theorem c261_35 : mc_cd 261 35 = some (.aload_n 0, 1) := cg261_30.2.2.2.1
theorem c261_36 : mc_cd 261 36 = some (.iload_n 3, 1) := cg261_30.2.2.2.2.1
theorem c261_37 : mc_cd 261 37 = some (.invokevirtual 54, 3) := cg261_30.2.2.2.2.2.1
theorem c261_40 : mc_cd 261 40 = some (.ireturn, 1) := cg261_30.2.2.2.2.2.2.1
theorem c261_41 : mc_cd 261 41 = some (.iconst 0, 1) := cg261_30.2.2.2.2.2.2.2
theorem cg261_42 : mc_cd 261 42 = some (.istore 4, 2) ∧ mc_cd 261 44 = some (.iconst 0, 1) ∧ mc_cd 261 45 = some (.istore 5, 2) ∧ mc_cd 261 47 = some (.iload 5, 2) ∧ mc_cd 261 49 = some (.aload_n 0, 1) ∧ mc_cd 261 50 = some (.getfield 422, 3) ∧ mc_cd 261 53 = some (.if_icmp .ge 57, 3) ∧ mc_cd 261 56 = some (.aload_n 0, 1) := by decide +kernel
theorem c261_42 : mc_cd 261 42 = some (.istore 4, 2) := cg261_42.1
theorem c261_44 : mc_cd 261 44 = some (.iconst 0, 1) := cg261_42.2.1
theorem c261_45 : mc_cd 261 45 = some (.istore 5, 2) := cg261_42.2.2.1
theorem c261_47 : mc_cd 261 47 = some (.iload 5, 2) := cg261_42.2.2.2.1
theorem c261_49 : mc_cd 261 49 = some (.aload_n 0, 1) := cg261_42.2.2.2.2.1
theorem c261_50 : mc_cd 261 50 = some (.getfield 422, 3) := cg261_42.2.2.2.2.2.1
theorem c261_53 : mc_cd 261 53 = some (.if_icmp .ge 57, 3) := cg261_42.2.2.2.2.2.2.1
theorem c261_56 : mc_cd 261 56 = some (.aload_n 0, 1) := cg261_42.2.2.2.2.2.2.2
theorem cg261_57 : mc_cd 261 57 = some (.aload_n 0, 1) ∧ mc_cd 261 58 = some (.getfield 42, 3) ∧ mc_cd 261 61 = some (.iload 5, 2) ∧ mc_cd 261 63 = some (.iaload, 1) ∧ mc_cd 261 64 = some (.invokevirtual 425, 3) ∧ mc_cd 261 67 = some (.aload_n 0, 1) ∧ mc_cd 261 68 = some (.getfield 30, 3) ∧ mc_cd 261 71 = some (.bipush 40, 2) := by decide +kernel
theorem c261_57 : mc_cd 261 57 = some (.aload_n 0, 1) := cg261_57.1
theorem c261_58 : mc_cd 261 58 = some (.getfield 42, 3) := cg261_57.2.1
theorem c261_61 : mc_cd 261 61 = some (.iload 5, 2) := cg261_57.2.2.1
theorem c261_63 : mc_cd 261 63 = some (.iaload, 1) := cg261_57.2.2.2.1
theorem c261_64 : mc_cd 261 64 = some (.invokevirtual 425, 3) := cg261_57.2.2.2.2.1
theorem c261_67 : mc_cd 261 67 = some (.aload_n 0, 1) := cg261_57.2.2.2.2.2.1
theorem c261_68 : mc_cd 261 68 = some (.getfield 30, 3) := cg261_57.2.2.2.2.2.2.1
theorem c261_71 : mc_cd 261 71 = some (.bipush 40, 2) := cg261_57.2.2.2.2.2.2.2
theorem cg261_73 : mc_cd 261 73 = some (.iload_n 1, 1) ∧ mc_cd 261 74 = some (.imul, 1) ∧ mc_cd 261 75 = some (.aload_n 0, 1) ∧ mc_cd 261 76 = some (.getfield 39, 3) ∧ mc_cd 261 79 = some (.iload_n 1, 1) ∧ mc_cd 261 80 = some (.iaload, 1) ∧ mc_cd 261 81 = some (.iadd, 1) ∧ mc_cd 261 82 = some (.iaload, 1) := by decide +kernel
theorem c261_73 : mc_cd 261 73 = some (.iload_n 1, 1) := cg261_73.1
theorem c261_74 : mc_cd 261 74 = some (.imul, 1) := cg261_73.2.1
theorem c261_75 : mc_cd 261 75 = some (.aload_n 0, 1) := cg261_73.2.2.1
theorem c261_76 : mc_cd 261 76 = some (.getfield 39, 3) := cg261_73.2.2.2.1
theorem c261_79 : mc_cd 261 79 = some (.iload_n 1, 1) := cg261_73.2.2.2.2.1
theorem c261_80 : mc_cd 261 80 = some (.iaload, 1) := cg261_73.2.2.2.2.2.1
theorem c261_81 : mc_cd 261 81 = some (.iadd, 1) := cg261_73.2.2.2.2.2.2.1
theorem c261_82 : mc_cd 261 82 = some (.iaload, 1) := cg261_73.2.2.2.2.2.2.2
theorem cg261_83 : mc_cd 261 83 = some (.iload_n 2, 1) ∧ mc_cd 261 84 = some (.invokestatic 346, 3) ∧ mc_cd 261 87 = some (.ifCond .eq 17, 3) ∧ mc_cd 261 90 = some (.iload 4, 2) ∧ mc_cd 261 92 = some (.aload_n 0, 1) ∧ mc_cd 261 93 = some (.aload_n 0, 1) ∧ mc_cd 261 94 = some (.getfield 39, 3) ∧ mc_cd 261 97 = some (.iload_n 2, 1) := by decide +kernel
theorem c261_83 : mc_cd 261 83 = some (.iload_n 2, 1) := cg261_83.1
theorem c261_84 : mc_cd 261 84 = some (.invokestatic 346, 3) := cg261_83.2.1
theorem c261_87 : mc_cd 261 87 = some (.ifCond .eq 17, 3) := cg261_83.2.2.1
theorem c261_90 : mc_cd 261 90 = some (.iload 4, 2) := cg261_83.2.2.2.1
theorem c261_92 : mc_cd 261 92 = some (.aload_n 0, 1) := cg261_83.2.2.2.2.1
theorem c261_93 : mc_cd 261 93 = some (.aload_n 0, 1) := cg261_83.2.2.2.2.2.1
theorem c261_94 : mc_cd 261 94 = some (.getfield 39, 3) := cg261_83.2.2.2.2.2.2.1
theorem c261_97 : mc_cd 261 97 = some (.iload_n 2, 1) := cg261_83.2.2.2.2.2.2.2
theorem cg261_98 : mc_cd 261 98 = some (.invokevirtual 455, 3) ∧ mc_cd 261 101 = some (.ior, 1) ∧ mc_cd 261 102 = some (.istore 4, 2) ∧ mc_cd 261 104 = some (.iinc 5 1, 3) ∧ mc_cd 261 107 = some (.goto (-60), 3) ∧ mc_cd 261 110 = some (.aload_n 0, 1) ∧ mc_cd 261 111 = some (.iload 4, 2) ∧ mc_cd 261 113 = some (.invokevirtual 58, 3) := by decide +kernel
theorem c261_98 : mc_cd 261 98 = some (.invokevirtual 455, 3) := cg261_98.1
theorem c261_101 : mc_cd 261 101 = some (.ior, 1) := cg261_98.2.1
theorem c261_102 : mc_cd 261 102 = some (.istore 4, 2) := cg261_98.2.2.1
theorem c261_104 : mc_cd 261 104 = some (.iinc 5 1, 3) := cg261_98.2.2.2.1
theorem c261_107 : mc_cd 261 107 = some (.goto (-60), 3) := cg261_98.2.2.2.2.1
theorem c261_110 : mc_cd 261 110 = some (.aload_n 0, 1) := cg261_98.2.2.2.2.2.1
theorem c261_111 : mc_cd 261 111 = some (.iload 4, 2) := cg261_98.2.2.2.2.2.2.1
theorem c261_113 : mc_cd 261 113 = some (.invokevirtual 58, 3) := cg261_98.2.2.2.2.2.2.2
theorem c261_116 : mc_cd 261 116 = some (.ireturn, 1) := by decide +kernel
abbrev q_261 (r0 : Nat) (a1 : Int) (a2 : Int) (T : wq_T) (H : wq_H) : Option Value → wq_T → wq_H → Prop := fun r T' H' => T = T' ∧ WT T H' ∧ wfr [(42, 0), (42, 1), (42, 2), (42, 28), (42, 29), (51, 999), (52, 999)] T H H' ∧ ∃ z : Int, some (vI z) = r ∧ ((-2147483648) ≤ z ∧ z ≤ 2147483647) ∧ (wKI H' r0 = 1)
set_option maxHeartbeats 4000000 in
theorem s_261 {kt : Nat → Option mc_E} {T : wq_T} {H : wq_H} {r0 : Nat} {a1 : Int} {a2 : Int} (hW : WT T H) (g0 : T.2.2.2 r0 = some 42) (i1 : (-2147483648) ≤ a1 ∧ a1 ≤ 2147483647) (i2 : (-2147483648) ≤ a2 ∧ a2 ≤ 2147483647) (p0 : wKI H r0 = 1) : wpc kt 8 261 [.ref r0, vI a1, vI a2] T H (q_261 r0 a1 a2 T H) := by
  refine wp_enter e261 (Nat.le_of_ble_eq_true rfl) rfl ?_
  have f0 : wfr [(42, 0), (42, 1), (42, 2), (42, 28), (42, 29), (51, 999), (52, 999)] T H H := wfr.rf
  show wp _ _ 261 0 [(0, .ref r0), (1, vI a1), (2, vI a2)] [] _ H _
  refine wp_of e261 c261_0 (rw_aload_n (pc' := 1) (v := .ref r0) rfl rfl rfl ?_)
  refine wp_of e261 c261_1 (rw_iconst (pc' := 2) rfl ?_)
  refine wp_of e261 c261_2 (xp_I (pc' := 5) lf_9_48 hW g0 sh_42 (by decide) (by decide) ty_42_0 rfl rfl (by omega) (by omega) ⟨by omega, by omega⟩ rfl (fun H146017 e146018 w146019 => ?_))
  have f146020 := f0.put' e146018 g0 rfl
  have k146021 : H146017 r0 0 = 0 := wq_u_s e146018
  refine wp_of e261 c261_5 (rw_aload_n (pc' := 6) (v := .ref r0) rfl rfl rfl ?_)
  refine wp_of e261 c261_6 (rw_aload_n (pc' := 7) (v := .ref r0) rfl rfl rfl ?_)
  refine wp_of e261 c261_7 (rw_iload_n (pc' := 8) (z := a1) rfl rfl ?_)
  refine wp_of e261 c261_8 (xc_V (pc' := 11) (r := r0) (as := [vI a1]) (st := [.ref r0]) (lm_9_364) rfl rfl (Nat.le_of_ble_eq_true rfl) w146019 g0 sh_42 (by decide) rfl (by decide) (s_213 w146019 g0 ⟨by omega, by omega⟩) (fun R146022 T146023 H146024 p146025 => ?_))
  obtain ⟨e146026, e146028, z146030, e146027, b146031, p146029⟩ := p146025
  subst e146026
  subst e146027
  subst e146028
  show wp _ _ 261 11 [(0, .ref r0), (1, vI a1), (2, vI a2)] [vI z146030, .ref r0] _ H146017 _
  refine wp_of e261 c261_11 (rw_if_eq (p1 := 26) (p2 := 14) (by decide) rfl ⟨by omega, by omega⟩ (fun c146032 => ?_) (fun c146032 => ?_))
  · refine wp_of e261 c261_26 (rw_iconst (pc' := 27) rfl ?_)
    have k146033 : wKI H146017 r0 = wKI H r0 := (wKI_fr hW g0 ((wfr.rf (l := [(42, 0)])).put' e146018 g0 rfl) rfl)
    refine wp_of e261 c261_27 (xc_V (pc' := 30) (r := r0) (as := [vI 0]) (st := []) (lm_9_433) rfl rfl (Nat.le_of_ble_eq_true rfl) w146019 g0 sh_42 (by decide) rfl (by decide) (s_241 w146019 g0 ⟨by omega, by omega⟩ (by omega) (by omega)) (fun R146034 T146035 H146036 p146037 => ?_))
    obtain ⟨e146038, w146040, f146041, z146046, e146039, b146047, p146042, p146043, p146044, p146045⟩ := p146037
    subst e146038
    subst e146039
    have f146048 := f146020.tr f146041 rfl
    show wp _ _ 261 30 [(0, .ref r0), (1, vI a1), (2, vI a2)] [vI z146046] _ H146036 _
    refine wp_of e261 c261_30 (rw_istore_n (pc' := 31) (z := z146046) (L' := [(3, vI z146046), (0, .ref r0), (1, vI a1), (2, vI a2)]) rfl rfl rfl ?_)
    refine wp_of e261 c261_31 (rw_iload_n (pc' := 32) (z := z146046) rfl rfl ?_)
    refine wp_of e261 c261_32 (rw_if_le (p1 := 41) (p2 := 35) (by decide) rfl ⟨by omega, by omega⟩ (fun c146049 => ?_) (fun c146049 => ?_))
    · exfalso
      omega
    · refine wp_of e261 c261_35 (rw_aload_n (pc' := 36) (v := .ref r0) rfl rfl rfl ?_)
      refine wp_of e261 c261_36 (rw_iload_n (pc' := 37) (z := z146046) rfl rfl ?_)
      refine wp_of e261 c261_37 (xc_V (pc' := 40) (r := r0) (as := [vI z146046]) (st := []) (lm_9_54) rfl rfl (Nat.le_of_ble_eq_true rfl) w146040 g0 sh_42 (by decide) rfl (by decide) (s_170 w146040 g0 ⟨by omega, by omega⟩) (fun R146050 T146051 H146052 p146053 => ?_))
      obtain ⟨e146054, w146056, f146057, z146058, e146055, b146059⟩ := p146053
      subst e146054
      subst e146055
      have f146060 := f146048.tr f146057 rfl
      show wp _ _ 261 40 [(3, vI z146046), (0, .ref r0), (1, vI a1), (2, vI a2)] [vI z146058] _ H146052 _
      have k146061 : wKI H146052 r0 = wKI H146036 r0 := (wKI_fr w146040 g0 f146057 rfl)
      exact wp_ireturn e261 c261_40 rfl ⟨rfl, w146056, f146060, z146058, rfl, ⟨by omega, by omega⟩, by omega⟩
  · refine wp_of e261 c261_14 (rw_aload_n (pc' := 15) (v := .ref r0) rfl rfl rfl ?_)
    refine wp_of e261 c261_15 (rw_iload_n (pc' := 16) (z := a2) rfl rfl ?_)
    refine wp_of e261 c261_16 (xc_V (pc' := 19) (r := r0) (as := [vI a2]) (st := [.ref r0]) (lm_9_373) rfl rfl (Nat.le_of_ble_eq_true rfl) w146019 g0 sh_42 (by decide) rfl (by decide) (s_218 w146019 g0 ⟨by omega, by omega⟩) (fun R146062 T146063 H146064 p146065 => ?_))
    obtain ⟨e146066, e146068, z146070, e146067, b146071, p146069⟩ := p146065
    subst e146066
    subst e146067
    subst e146068
    show wp _ _ 261 19 [(0, .ref r0), (1, vI a1), (2, vI a2)] [vI z146070, .ref r0] _ H146017 _
    refine wp_of e261 c261_19 (rw_if_eq (p1 := 26) (p2 := 22) (by decide) rfl ⟨by omega, by omega⟩ (fun c146072 => ?_) (fun c146072 => ?_))
    · refine wp_of e261 c261_26 (rw_iconst (pc' := 27) rfl ?_)
      have k146073 : wKI H146017 r0 = wKI H r0 := (wKI_fr hW g0 ((wfr.rf (l := [(42, 0)])).put' e146018 g0 rfl) rfl)
      refine wp_of e261 c261_27 (xc_V (pc' := 30) (r := r0) (as := [vI 0]) (st := []) (lm_9_433) rfl rfl (Nat.le_of_ble_eq_true rfl) w146019 g0 sh_42 (by decide) rfl (by decide) (s_241 w146019 g0 ⟨by omega, by omega⟩ (by omega) (by omega)) (fun R146074 T146075 H146076 p146077 => ?_))
      obtain ⟨e146078, w146080, f146081, z146086, e146079, b146087, p146082, p146083, p146084, p146085⟩ := p146077
      subst e146078
      subst e146079
      have f146088 := f146020.tr f146081 rfl
      show wp _ _ 261 30 [(0, .ref r0), (1, vI a1), (2, vI a2)] [vI z146086] _ H146076 _
      refine wp_of e261 c261_30 (rw_istore_n (pc' := 31) (z := z146086) (L' := [(3, vI z146086), (0, .ref r0), (1, vI a1), (2, vI a2)]) rfl rfl rfl ?_)
      refine wp_of e261 c261_31 (rw_iload_n (pc' := 32) (z := z146086) rfl rfl ?_)
      refine wp_of e261 c261_32 (rw_if_le (p1 := 41) (p2 := 35) (by decide) rfl ⟨by omega, by omega⟩ (fun c146089 => ?_) (fun c146089 => ?_))
      · exfalso
        omega
      · refine wp_of e261 c261_35 (rw_aload_n (pc' := 36) (v := .ref r0) rfl rfl rfl ?_)
        refine wp_of e261 c261_36 (rw_iload_n (pc' := 37) (z := z146086) rfl rfl ?_)
        refine wp_of e261 c261_37 (xc_V (pc' := 40) (r := r0) (as := [vI z146086]) (st := []) (lm_9_54) rfl rfl (Nat.le_of_ble_eq_true rfl) w146080 g0 sh_42 (by decide) rfl (by decide) (s_170 w146080 g0 ⟨by omega, by omega⟩) (fun R146090 T146091 H146092 p146093 => ?_))
        obtain ⟨e146094, w146096, f146097, z146098, e146095, b146099⟩ := p146093
        subst e146094
        subst e146095
        have f146100 := f146088.tr f146097 rfl
        show wp _ _ 261 40 [(3, vI z146086), (0, .ref r0), (1, vI a1), (2, vI a2)] [vI z146098] _ H146092 _
        have k146101 : wKI H146092 r0 = wKI H146076 r0 := (wKI_fr w146080 g0 f146097 rfl)
        exact wp_ireturn e261 c261_40 rfl ⟨rfl, w146096, f146100, z146098, rfl, ⟨by omega, by omega⟩, by omega⟩
    · refine wp_of e261 c261_22 (rw_iconst (pc' := 23) rfl ?_)
      refine wp_of e261 c261_23 (rw_goto (p1 := 27) (by decide) ?_)
      have k146102 : wKI H146017 r0 = wKI H r0 := (wKI_fr hW g0 ((wfr.rf (l := [(42, 0)])).put' e146018 g0 rfl) rfl)
      refine wp_of e261 c261_27 (xc_V (pc' := 30) (r := r0) (as := [vI 1]) (st := []) (lm_9_433) rfl rfl (Nat.le_of_ble_eq_true rfl) w146019 g0 sh_42 (by decide) rfl (by decide) (s_241 w146019 g0 ⟨by omega, by omega⟩ (by omega) (by omega)) (fun R146103 T146104 H146105 p146106 => ?_))
      obtain ⟨e146107, w146109, f146110, z146115, e146108, b146116, p146111, p146112, p146113, p146114⟩ := p146106
      subst e146107
      subst e146108
      have f146117 := f146020.tr f146110 rfl
      show wp _ _ 261 30 [(0, .ref r0), (1, vI a1), (2, vI a2)] [vI z146115] _ H146105 _
      refine wp_of e261 c261_30 (rw_istore_n (pc' := 31) (z := z146115) (L' := [(3, vI z146115), (0, .ref r0), (1, vI a1), (2, vI a2)]) rfl rfl rfl ?_)
      refine wp_of e261 c261_31 (rw_iload_n (pc' := 32) (z := z146115) rfl rfl ?_)
      refine wp_of e261 c261_32 (rw_if_le (p1 := 41) (p2 := 35) (by decide) rfl ⟨by omega, by omega⟩ (fun c146118 => ?_) (fun c146118 => ?_))
      · refine wp_of e261 c261_41 (rw_iconst (pc' := 42) rfl ?_)
        refine wp_of e261 c261_42 (rw_istore (pc' := 44) (z := 0) (L' := [(4, vI 0), (3, vI z146115), (0, .ref r0), (1, vI a1), (2, vI a2)]) rfl rfl rfl ?_)
        refine wp_of e261 c261_44 (rw_iconst (pc' := 45) rfl ?_)
        refine wp_of e261 c261_45 (rw_istore (pc' := 47) (z := 0) (L' := [(5, vI 0), (4, vI 0), (3, vI z146115), (0, .ref r0), (1, vI a1), (2, vI a2)]) rfl rfl rfl ?_)
        have lp146567 : ∀ (n146568 : Nat) (v146570 : Int) (v146571 : Int) (H146572 : wq_H), WT T H146572 → wfr [(51, 999)] T H146105 H146572 → (0 ≤ v146570 ∧ v146570 ≤ 20000) → ((-2147483648) ≤ v146571 ∧ v146571 ≤ 2147483647) → (20000 - v146570).toNat = n146568 → wp kt 7 261 47 [(5, vI v146570), (4, vI v146571), (0, .ref r0), (1, vI a1), (2, vI a2)] [] T H146572 (q_261 r0 a1 a2 T H) := by
          intro n146568
          induction n146568 using Nat.strongRecOn with
          | _ n146568 ih146569 =>
            intro v146570 v146571 H146572 w146573 f146574 b146575 b146576 m146577
            have f146578 := f146117.tr f146574 rfl
            refine wp_of e261 c261_47 (rw_iload (pc' := 49) (z := v146570) rfl rfl ?_)
            refine wp_of e261 c261_49 (rw_aload_n (pc' := 50) (v := .ref r0) rfl rfl rfl ?_)
            have k146579 : H146572 r0 29 = H146105 r0 29 := (f146574 r0 29 _ g0 rfl)
            refine wp_of e261 c261_50 (xg_I (pc' := 53) lf_9_422 w146573 g0 sh_42 (by decide) (by decide) ty_42_29 rfl rfl (fun b146580 b146581 => ?_))
            refine wp_of e261 c261_53 (rw_icmp_ge (p1 := 110) (p2 := 56) (by decide) rfl ⟨by omega, by omega⟩ ⟨by omega, by omega⟩ (fun c146582 => ?_) (fun c146582 => ?_))
            · refine wp_of e261 c261_110 (rw_aload_n (pc' := 111) (v := .ref r0) rfl rfl rfl ?_)
              refine wp_of e261 c261_111 (rw_iload (pc' := 113) (z := v146571) rfl rfl ?_)
              refine wp_of e261 c261_113 (xc_V (pc' := 116) (r := r0) (as := [vI v146571]) (st := []) (lm_9_58) rfl rfl (Nat.le_of_ble_eq_true rfl) w146573 g0 sh_42 (by decide) rfl (by decide) (s_209 w146573 g0 ⟨by omega, by omega⟩) (fun R146583 T146584 H146585 p146586 => ?_))
              obtain ⟨e146587, w146589, f146590, z146591, e146588, b146592⟩ := p146586
              subst e146587
              subst e146588
              have f146593 := f146578.tr f146590 rfl
              show wp _ _ 261 116 [(5, vI v146570), (4, vI v146571), (0, .ref r0), (1, vI a1), (2, vI a2)] [vI z146591] _ H146585 _
              have k146594 : wKI H146585 r0 = wKI H146105 r0 := ((wKI_fr w146573 g0 f146590 rfl).trans (wKI_fr w146109 g0 f146574 rfl))
              exact wp_ireturn e261 c261_116 rfl ⟨rfl, w146589, f146593, z146591, rfl, ⟨by omega, by omega⟩, by omega⟩
            · refine wp_of e261 c261_56 (rw_aload_n (pc' := 57) (v := .ref r0) rfl rfl rfl ?_)
              refine wp_of e261 c261_57 (rw_aload_n (pc' := 58) (v := .ref r0) rfl rfl rfl ?_)
              refine wp_of e261 c261_58 (xg_R (pc' := 61) lf_9_42 w146573 g0 sh_42 (by decide) (by decide) ty_42_30 rfl rfl (fun r146595 q146596 g146597 => ?_))
              refine wp_of e261 c261_61 (rw_iload (pc' := 63) (z := v146570) rfl rfl ?_)
              refine wp_of e261 c261_63 (xa_I (so := 0) (pc' := 64) w146573 g146597 sh_52 (by decide) (ty_52 _) (by omega) (by omega) rfl (fun b146598 b146599 => ?_))
              have k146600 : wLM H146572 r0 = wLM H146105 r0 := (wLM_fr w146109 g0 f146574 rfl)
              have k146601 : H146572 r0 3 = H146017 r0 3 := ((f146574 r0 3 _ g0 rfl).trans (f146110 r0 3 _ g0 rfl))
              obtain ⟨r146602, q146603, g146604⟩ := (w146573.opt g0 (t' := 54) (n := 33) (j := 3) (p := 0) (q := 0) rfl (by decide) rfl).resolve_left (by omega)
              refine wp_of e261 c261_64 (xc_V (pc' := 67) (r := r0) (as := [vI (H146572 r146595 (v146570.toNat))]) (st := []) (lm_9_425) rfl rfl (Nat.le_of_ble_eq_true rfl) w146573 g0 sh_42 (by decide) rfl (by decide) (s_243 w146573 g0 ⟨by omega, by omega⟩ q146603 g146604 (by omega)) (fun R146605 T146606 H146607 p146608 => ?_))
              obtain ⟨e146609, w146611, f146612, e146610⟩ := p146608
              subst e146609
              subst e146610
              have f146613 := f146578.tr f146612 rfl
              have f146614 := f146574.tr f146612 rfl
              show wp _ _ 261 67 [(5, vI v146570), (4, vI v146571), (0, .ref r0), (1, vI a1), (2, vI a2)] [] _ H146607 _
              refine wp_of e261 c261_67 (rw_aload_n (pc' := 68) (v := .ref r0) rfl rfl rfl ?_)
              refine wp_of e261 c261_68 (xg_R (pc' := 71) lf_9_30 w146611 g0 sh_42 (by decide) (by decide) ty_42_24 rfl rfl (fun r146615 q146616 g146617 => ?_))
              refine wp_of e261 c261_71 (rw_bipush (pc' := 73) (z := 40) rfl (by decide) ?_)
              refine wp_of e261 c261_73 (rw_iload_n (pc' := 74) (z := a1) rfl rfl ?_)
              refine wp_of e261 c261_74 (rw_imul (pc' := 75) rfl ?_)
              refine wp_of e261 c261_75 (rw_aload_n (pc' := 76) (v := .ref r0) rfl rfl rfl ?_)
              refine wp_of e261 c261_76 (xg_R (pc' := 79) lf_9_39 w146611 g0 sh_42 (by decide) (by decide) ty_42_27 rfl rfl (fun r146618 q146619 g146620 => ?_))
              refine wp_of e261 c261_79 (rw_iload_n (pc' := 80) (z := a1) rfl rfl ?_)
              refine wp_of e261 c261_80 (xa_I (so := 0) (pc' := 81) w146611 g146620 sh_51 (by decide) (ty_51 _) (by omega) (by omega) rfl (fun b146621 b146622 => ?_))
              refine wp_of e261 c261_81 (rw_iadd (pc' := 82) rfl ?_)
              refine wp_of e261 c261_82 (xa_I (so := 0) (pc' := 83) w146611 g146617 sh_48 (by decide) (ty_48 _) (by omega) (by omega) rfl (fun b146623 b146624 => ?_))
              refine wp_of e261 c261_83 (rw_iload_n (pc' := 84) (z := a2) rfl rfl ?_)
              refine wp_of e261 c261_84 (xc_S (pc' := 87) (as := [vI (H146607 r146615 (((40 * a1) + (H146607 r146618 (a1.toNat))).toNat)), vI a2]) (st := []) (lm_9_346) rfl rfl (Nat.le_of_ble_eq_true rfl) rfl (by decide) (s_205 w146611 ⟨by omega, by omega⟩ ⟨by omega, by omega⟩) (fun R146625 T146626 H146627 p146628 => ?_))
              obtain ⟨e146629, e146631, z146632, e146630, b146633⟩ := p146628
              subst e146629
              subst e146630
              subst e146631
              show wp _ _ 261 87 [(5, vI v146570), (4, vI v146571), (0, .ref r0), (1, vI a1), (2, vI a2)] [vI z146632] _ H146607 _
              refine wp_of e261 c261_87 (rw_if_eq (p1 := 104) (p2 := 90) (by decide) rfl ⟨by omega, by omega⟩ (fun c146634 => ?_) (fun c146634 => ?_))
              · refine wp_of e261 c261_104 (rw_iinc (pc' := 107) (z := v146570) (L' := [(5, vI (v146570 + 1)), (4, vI v146571), (0, .ref r0), (1, vI a1), (2, vI a2)]) rfl rfl rfl rfl ?_)
                refine wp_of e261 c261_107 (rw_goto (p1 := 47) (by decide) ?_)
                exact wp_lc (ks := [5, 4, 0, 1, 2]) (wl_c rfl (wl_c rfl (wl_c rfl (wl_c rfl (wl_c rfl wl_n))))) rfl (by decide) (ih146569 _ (by omega) (v146570 + 1) v146571 H146607 w146611 f146614 ⟨by omega, by omega⟩ ⟨by omega, by omega⟩ rfl)
              · refine wp_of e261 c261_90 (rw_iload (pc' := 92) (z := v146571) rfl rfl ?_)
                refine wp_of e261 c261_92 (rw_aload_n (pc' := 93) (v := .ref r0) rfl rfl rfl ?_)
                refine wp_of e261 c261_93 (rw_aload_n (pc' := 94) (v := .ref r0) rfl rfl rfl ?_)
                refine wp_of e261 c261_94 (xg_K (pc' := 97) lf_9_39 w146611 g0 sh_42 (by decide) (by decide) rfl q146619 rfl ?_)
                refine wp_of e261 c261_97 (rw_iload_n (pc' := 98) (z := a2) rfl rfl ?_)
                have k146635 : H146607 r0 3 = H146572 r0 3 := (f146612 r0 3 _ g0 rfl)
                have q146636 : H146607 r0 3 = (r146602 : Int) := k146635.trans q146603
                refine wp_of e261 c261_98 (xc_V (pc' := 101) (r := r0) (as := [.ref r146618, vI a2]) (st := [vI v146571]) (lm_9_455) rfl rfl (Nat.le_of_ble_eq_true rfl) w146611 g0 sh_42 (by decide) rfl (by decide) (s_262_m_lot w146611 g0 g146620 ⟨by omega, by omega⟩ q146636 g146604) (fun R146637 T146638 H146639 p146640 => ?_))
                obtain ⟨e146641, e146643, z146644, e146642, b146645⟩ := p146640
                subst e146641
                subst e146642
                subst e146643
                show wp _ _ 261 101 [(5, vI v146570), (4, vI v146571), (0, .ref r0), (1, vI a1), (2, vI a2)] [vI z146644, vI v146571] _ H146607 _
                refine wp_of e261 c261_101 (rw_ior (pc' := 102) rfl ?_)
                obtain ⟨v146646, e146647⟩ : ∃ x : Int, x = wq_or v146571 z146644 := ⟨_, rfl⟩
                rw [← e146647]
                have b146648 : -2147483648 ≤ v146646 ∧ v146646 ≤ 2147483647 := by
                  rw [e146647]
                  exact wI_or _ _
                refine wp_of e261 c261_102 (rw_istore (pc' := 104) (z := v146646) (L' := [(4, vI v146646), (5, vI v146570), (0, .ref r0), (1, vI a1), (2, vI a2)]) rfl rfl rfl ?_)
                refine wp_of e261 c261_104 (rw_iinc (pc' := 107) (z := v146570) (L' := [(5, vI (v146570 + 1)), (4, vI v146646), (0, .ref r0), (1, vI a1), (2, vI a2)]) rfl rfl rfl rfl ?_)
                refine wp_of e261 c261_107 (rw_goto (p1 := 47) (by decide) ?_)
                exact wp_lc (ks := [5, 4, 0, 1, 2]) (wl_c rfl (wl_c rfl (wl_c rfl (wl_c rfl (wl_c rfl wl_n))))) rfl (by decide) (ih146569 _ (by omega) (v146570 + 1) v146646 H146607 w146611 f146614 ⟨by omega, by omega⟩ ⟨by omega, by omega⟩ rfl)
        exact wp_lc (ks := [5, 4, 3, 0, 1, 2]) (wl_c rfl (wl_c rfl (wl_c rfl (wl_c rfl (wl_c rfl wl_n))))) rfl (by decide) (lp146567 _ 0 0 H146105 w146109 wfr.rf ⟨by omega, by omega⟩ ⟨by omega, by omega⟩ rfl)
      · refine wp_of e261 c261_35 (rw_aload_n (pc' := 36) (v := .ref r0) rfl rfl rfl ?_)
        refine wp_of e261 c261_36 (rw_iload_n (pc' := 37) (z := z146115) rfl rfl ?_)
        refine wp_of e261 c261_37 (xc_V (pc' := 40) (r := r0) (as := [vI z146115]) (st := []) (lm_9_54) rfl rfl (Nat.le_of_ble_eq_true rfl) w146109 g0 sh_42 (by decide) rfl (by decide) (s_170 w146109 g0 ⟨by omega, by omega⟩) (fun R146649 T146650 H146651 p146652 => ?_))
        obtain ⟨e146653, w146655, f146656, z146657, e146654, b146658⟩ := p146652
        subst e146653
        subst e146654
        have f146659 := f146117.tr f146656 rfl
        show wp _ _ 261 40 [(3, vI z146115), (0, .ref r0), (1, vI a1), (2, vI a2)] [vI z146657] _ H146651 _
        have k146660 : wKI H146651 r0 = wKI H146105 r0 := (wKI_fr w146109 g0 f146656 rfl)
        exact wp_ireturn e261 c261_40 rfl ⟨rfl, w146655, f146659, z146657, rfl, ⟨by omega, by omega⟩, by omega⟩
/-! StrikeAwakeModel.extreme(I[IZ)I -/
theorem e264 : wq_en 264 = some (9, 7, false, some FieldType.int) := rfl
theorem cg264_0 : mc_cd 264 0 = some (.iconst 0, 1) ∧ mc_cd 264 1 = some (.istore 4, 2) ∧ mc_cd 264 3 = some (.iconst 0, 1) ∧ mc_cd 264 4 = some (.istore 5, 2) ∧ mc_cd 264 6 = some (.iload 5, 2) ∧ mc_cd 264 8 = some (.aload_n 0, 1) ∧ mc_cd 264 9 = some (.getfield 422, 3) ∧ mc_cd 264 12 = some (.if_icmp .ge 70, 3) := by decide +kernel
theorem c264_0 : mc_cd 264 0 = some (.iconst 0, 1) := cg264_0.1
theorem c264_1 : mc_cd 264 1 = some (.istore 4, 2) := cg264_0.2.1
theorem c264_3 : mc_cd 264 3 = some (.iconst 0, 1) := cg264_0.2.2.1
theorem c264_4 : mc_cd 264 4 = some (.istore 5, 2) := cg264_0.2.2.2.1
theorem c264_6 : mc_cd 264 6 = some (.iload 5, 2) := cg264_0.2.2.2.2.1
theorem c264_8 : mc_cd 264 8 = some (.aload_n 0, 1) := cg264_0.2.2.2.2.2.1
theorem c264_9 : mc_cd 264 9 = some (.getfield 422, 3) := cg264_0.2.2.2.2.2.2.1
theorem c264_12 : mc_cd 264 12 = some (.if_icmp .ge 70, 3) := cg264_0.2.2.2.2.2.2.2
theorem cg264_15 : mc_cd 264 15 = some (.aload_n 0, 1) ∧ mc_cd 264 16 = some (.aload_n 0, 1) ∧ mc_cd 264 17 = some (.getfield 42, 3) ∧ mc_cd 264 20 = some (.iload 5, 2) ∧ mc_cd 264 22 = some (.iaload, 1) ∧ mc_cd 264 23 = some (.invokevirtual 425, 3) ∧ mc_cd 264 26 = some (.aload_n 2, 1) ∧ mc_cd 264 27 = some (.bipush 40, 2) := by decide +kernel
theorem c264_15 : mc_cd 264 15 = some (.aload_n 0, 1) := cg264_15.1
theorem c264_16 : mc_cd 264 16 = some (.aload_n 0, 1) := cg264_15.2.1
theorem c264_17 : mc_cd 264 17 = some (.getfield 42, 3) := cg264_15.2.2.1
theorem c264_20 : mc_cd 264 20 = some (.iload 5, 2) := cg264_15.2.2.2.1
theorem c264_22 : mc_cd 264 22 = some (.iaload, 1) := cg264_15.2.2.2.2.1
theorem c264_23 : mc_cd 264 23 = some (.invokevirtual 425, 3) := cg264_15.2.2.2.2.2.1
theorem c264_26 : mc_cd 264 26 = some (.aload_n 2, 1) := cg264_15.2.2.2.2.2.2.1
theorem c264_27 : mc_cd 264 27 = some (.bipush 40, 2) := cg264_15.2.2.2.2.2.2.2
theorem cg264_29 : mc_cd 264 29 = some (.iload_n 1, 1) ∧ mc_cd 264 30 = some (.imul, 1) ∧ mc_cd 264 31 = some (.aload_n 0, 1) ∧ mc_cd 264 32 = some (.getfield 39, 3) ∧ mc_cd 264 35 = some (.iload_n 1, 1) ∧ mc_cd 264 36 = some (.iaload, 1) ∧ mc_cd 264 37 = some (.iadd, 1) ∧ mc_cd 264 38 = some (.iaload, 1) := by decide +kernel
theorem c264_29 : mc_cd 264 29 = some (.iload_n 1, 1) := cg264_29.1
theorem c264_30 : mc_cd 264 30 = some (.imul, 1) := cg264_29.2.1
theorem c264_31 : mc_cd 264 31 = some (.aload_n 0, 1) := cg264_29.2.2.1
theorem c264_32 : mc_cd 264 32 = some (.getfield 39, 3) := cg264_29.2.2.2.1
theorem c264_35 : mc_cd 264 35 = some (.iload_n 1, 1) := cg264_29.2.2.2.2.1
theorem c264_36 : mc_cd 264 36 = some (.iaload, 1) := cg264_29.2.2.2.2.2.1
theorem c264_37 : mc_cd 264 37 = some (.iadd, 1) := cg264_29.2.2.2.2.2.2.1
theorem c264_38 : mc_cd 264 38 = some (.iaload, 1) := cg264_29.2.2.2.2.2.2.2
theorem cg264_39 : mc_cd 264 39 = some (.istore 6, 2) ∧ mc_cd 264 41 = some (.iload 5, 2) ∧ mc_cd 264 43 = some (.ifCond .eq 24, 3) ∧ mc_cd 264 46 = some (.iload_n 3, 1) ∧ mc_cd 264 47 = some (.ifCond .eq 13, 3) ∧ mc_cd 264 50 = some (.iload 6, 2) ∧ mc_cd 264 52 = some (.iload 4, 2) ∧ mc_cd 264 54 = some (.if_icmp .le 18, 3) := by decide +kernel
theorem c264_39 : mc_cd 264 39 = some (.istore 6, 2) := cg264_39.1
theorem c264_41 : mc_cd 264 41 = some (.iload 5, 2) := cg264_39.2.1
theorem c264_43 : mc_cd 264 43 = some (.ifCond .eq 24, 3) := cg264_39.2.2.1
theorem c264_46 : mc_cd 264 46 = some (.iload_n 3, 1) := cg264_39.2.2.2.1
theorem c264_47 : mc_cd 264 47 = some (.ifCond .eq 13, 3) := cg264_39.2.2.2.2.1
theorem c264_50 : mc_cd 264 50 = some (.iload 6, 2) := cg264_39.2.2.2.2.2.1
theorem c264_52 : mc_cd 264 52 = some (.iload 4, 2) := cg264_39.2.2.2.2.2.2.1
theorem c264_54 : mc_cd 264 54 = some (.if_icmp .le 18, 3) := cg264_39.2.2.2.2.2.2.2
theorem cg264_57 : mc_cd 264 57 = some (.goto 10, 3) ∧ mc_cd 264 60 = some (.iload 6, 2) ∧ mc_cd 264 62 = some (.iload 4, 2) ∧ mc_cd 264 64 = some (.if_icmp .ge 8, 3) ∧ mc_cd 264 67 = some (.iload 6, 2) ∧ mc_cd 264 69 = some (.goto 5, 3) ∧ mc_cd 264 72 = some (.iload 4, 2) ∧ mc_cd 264 74 = some (.istore 4, 2) := by decide +kernel
theorem c264_57 : mc_cd 264 57 = some (.goto 10, 3) := cg264_57.1
theorem c264_60 : mc_cd 264 60 = some (.iload 6, 2) := cg264_57.2.1
theorem c264_62 : mc_cd 264 62 = some (.iload 4, 2) := cg264_57.2.2.1
theorem c264_64 : mc_cd 264 64 = some (.if_icmp .ge 8, 3) := cg264_57.2.2.2.1
theorem c264_67 : mc_cd 264 67 = some (.iload 6, 2) := cg264_57.2.2.2.2.1
theorem c264_69 : mc_cd 264 69 = some (.goto 5, 3) := cg264_57.2.2.2.2.2.1
theorem c264_72 : mc_cd 264 72 = some (.iload 4, 2) := cg264_57.2.2.2.2.2.2.1
theorem c264_74 : mc_cd 264 74 = some (.istore 4, 2) := cg264_57.2.2.2.2.2.2.2
theorem cg264_76 : mc_cd 264 76 = some (.iinc 5 1, 3) ∧ mc_cd 264 79 = some (.goto (-73), 3) ∧ mc_cd 264 82 = some (.iload 4, 2) ∧ mc_cd 264 84 = some (.ireturn, 1) := by decide +kernel
theorem c264_76 : mc_cd 264 76 = some (.iinc 5 1, 3) := cg264_76.1
theorem c264_79 : mc_cd 264 79 = some (.goto (-73), 3) := cg264_76.2.1
theorem c264_82 : mc_cd 264 82 = some (.iload 4, 2) := cg264_76.2.2.1
theorem c264_84 : mc_cd 264 84 = some (.ireturn, 1) := cg264_76.2.2.2
abbrev q_264_m_bed (r0 : Nat) (a1 : Int) (r2 : Nat) (a3 : Int) (pp : Nat) (T : wq_T) (H : wq_H) : Option Value → wq_T → wq_H → Prop := fun r T' H' => T = T' ∧ WT T H' ∧ wfr [(51, 999)] T H H' ∧ ∃ z : Int, some (vI z) = r ∧ ((-2147483648) ≤ z ∧ z ≤ 2147483647)
set_option maxHeartbeats 4000000 in
theorem s_264_m_bed {kt : Nat → Option mc_E} {T : wq_T} {H : wq_H} {r0 : Nat} {a1 : Int} {r2 : Nat} {a3 : Int} {pp : Nat} (hW : WT T H) (g0 : T.2.2.2 r0 = some 42) (i1 : 0 ≤ a1 ∧ a1 ≤ 5) (g2 : T.2.2.2 r2 = some 46) (i3 : 0 ≤ a3 ∧ a3 ≤ 1) (qpp : H r0 3 = (pp : Int)) (gpp : T.2.2.2 pp = some 54) (p0 : H r0 29 = 0 ∨ 0 < wLM H r0) : wpc kt 2 264 [.ref r0, vI a1, .ref r2, vI a3] T H (q_264_m_bed r0 a1 r2 a3 pp T H) := by
  refine wp_enter e264 (Nat.le_of_ble_eq_true rfl) rfl ?_
  have f0 : wfr [(51, 999)] T H H := wfr.rf
  show wp _ _ 264 0 [(0, .ref r0), (1, vI a1), (2, .ref r2), (3, vI a3)] [] _ H _
  have b146947 : 0 ≤ H r0 29 ∧ H r0 29 ≤ 20000 := hW.box g0 (n := 33) rfl (by decide) rfl
  refine wp_of e264 c264_0 (rw_iconst (pc' := 1) rfl ?_)
  refine wp_of e264 c264_1 (rw_istore (pc' := 3) (z := 0) (L' := [(4, vI 0), (0, .ref r0), (1, vI a1), (2, .ref r2), (3, vI a3)]) rfl rfl rfl ?_)
  refine wp_of e264 c264_3 (rw_iconst (pc' := 4) rfl ?_)
  refine wp_of e264 c264_4 (rw_istore (pc' := 6) (z := 0) (L' := [(5, vI 0), (4, vI 0), (0, .ref r0), (1, vI a1), (2, .ref r2), (3, vI a3)]) rfl rfl rfl ?_)
  have lp147201 : ∀ (n147202 : Nat) (v147204 : Int) (v147205 : Int) (H147206 : wq_H), WT T H147206 → wfr [(51, 999)] T H H147206 → (0 ≤ v147204 ∧ v147204 ≤ 20000) → (0 ≤ v147205 ∧ v147205 ≤ 30) → (20000 - v147204).toNat = n147202 → wp kt 1 264 6 [(5, vI v147204), (4, vI v147205), (0, .ref r0), (1, vI a1), (2, .ref r2), (3, vI a3)] [] T H147206 (q_264_m_bed r0 a1 r2 a3 pp T H) := by
    intro n147202
    induction n147202 using Nat.strongRecOn with
    | _ n147202 ih147203 =>
      intro v147204 v147205 H147206 w147207 f147208 b147209 b147210 m147211
      have f147212 := f0.tr f147208 rfl
      refine wp_of e264 c264_6 (rw_iload (pc' := 8) (z := v147204) rfl rfl ?_)
      refine wp_of e264 c264_8 (rw_aload_n (pc' := 9) (v := .ref r0) rfl rfl rfl ?_)
      have k147213 : H147206 r0 29 = H r0 29 := (f147208 r0 29 _ g0 rfl)
      refine wp_of e264 c264_9 (xg_I (pc' := 12) lf_9_422 w147207 g0 sh_42 (by decide) (by decide) ty_42_29 rfl rfl (fun b147214 b147215 => ?_))
      refine wp_of e264 c264_12 (rw_icmp_ge (p1 := 82) (p2 := 15) (by decide) rfl ⟨by omega, by omega⟩ ⟨by omega, by omega⟩ (fun c147216 => ?_) (fun c147216 => ?_))
      · refine wp_of e264 c264_82 (rw_iload (pc' := 84) (z := v147205) rfl rfl ?_)
        exact wp_ireturn e264 c264_84 rfl ⟨rfl, w147207, f147212, v147205, rfl, ⟨by omega, by omega⟩⟩
      · refine wp_of e264 c264_15 (rw_aload_n (pc' := 16) (v := .ref r0) rfl rfl rfl ?_)
        refine wp_of e264 c264_16 (rw_aload_n (pc' := 17) (v := .ref r0) rfl rfl rfl ?_)
        refine wp_of e264 c264_17 (xg_R (pc' := 20) lf_9_42 w147207 g0 sh_42 (by decide) (by decide) ty_42_30 rfl rfl (fun r147217 q147218 g147219 => ?_))
        refine wp_of e264 c264_20 (rw_iload (pc' := 22) (z := v147204) rfl rfl ?_)
        refine wp_of e264 c264_22 (xa_I (so := 0) (pc' := 23) w147207 g147219 sh_52 (by decide) (ty_52 _) (by omega) (by omega) rfl (fun b147220 b147221 => ?_))
        have k147222 : wLM H147206 r0 = wLM H r0 := (wLM_fr hW g0 f147208 rfl)
        have k147223 : H147206 r0 3 = H r0 3 := (f147208 r0 3 _ g0 rfl)
        have q147224 : H147206 r0 3 = (pp : Int) := k147223.trans qpp
        refine wp_of e264 c264_23 (xc_V (pc' := 26) (r := r0) (as := [vI (H147206 r147217 (v147204.toNat))]) (st := []) (lm_9_425) rfl rfl (Nat.le_of_ble_eq_true rfl) w147207 g0 sh_42 (by decide) rfl (by decide) (s_243 w147207 g0 ⟨by omega, by omega⟩ q147224 gpp (by omega)) (fun R147225 T147226 H147227 p147228 => ?_))
        obtain ⟨e147229, w147231, f147232, e147230⟩ := p147228
        subst e147229
        subst e147230
        have f147233 := f147212.tr f147232 rfl
        have f147234 := f147208.tr f147232 rfl
        show wp _ _ 264 26 [(5, vI v147204), (4, vI v147205), (0, .ref r0), (1, vI a1), (2, .ref r2), (3, vI a3)] [] _ H147227 _
        refine wp_of e264 c264_26 (rw_aload_n (pc' := 27) (v := .ref r2) rfl rfl rfl ?_)
        refine wp_of e264 c264_27 (rw_bipush (pc' := 29) (z := 40) rfl (by decide) ?_)
        refine wp_of e264 c264_29 (rw_iload_n (pc' := 30) (z := a1) rfl rfl ?_)
        refine wp_of e264 c264_30 (rw_imul (pc' := 31) rfl ?_)
        refine wp_of e264 c264_31 (rw_aload_n (pc' := 32) (v := .ref r0) rfl rfl rfl ?_)
        refine wp_of e264 c264_32 (xg_R (pc' := 35) lf_9_39 w147231 g0 sh_42 (by decide) (by decide) ty_42_27 rfl rfl (fun r147235 q147236 g147237 => ?_))
        refine wp_of e264 c264_35 (rw_iload_n (pc' := 36) (z := a1) rfl rfl ?_)
        refine wp_of e264 c264_36 (xa_I (so := 0) (pc' := 37) w147231 g147237 sh_51 (by decide) (ty_51 _) (by omega) (by omega) rfl (fun b147238 b147239 => ?_))
        refine wp_of e264 c264_37 (rw_iadd (pc' := 38) rfl ?_)
        refine wp_of e264 c264_38 (xa_I (so := 0) (pc' := 39) w147231 g2 sh_46 (by decide) (ty_46 _) (by omega) (by omega) rfl (fun b147240 b147241 => ?_))
        refine wp_of e264 c264_39 (rw_istore (pc' := 41) (z := H147227 r2 (((40 * a1) + (H147227 r147235 (a1.toNat))).toNat)) (L' := [(6, vI (H147227 r2 (((40 * a1) + (H147227 r147235 (a1.toNat))).toNat))), (5, vI v147204), (4, vI v147205), (0, .ref r0), (1, vI a1), (2, .ref r2), (3, vI a3)]) rfl rfl rfl ?_)
        refine wp_of e264 c264_41 (rw_iload (pc' := 43) (z := v147204) rfl rfl ?_)
        refine wp_of e264 c264_43 (rw_if_eq (p1 := 67) (p2 := 46) (by decide) rfl ⟨by omega, by omega⟩ (fun c147242 => ?_) (fun c147242 => ?_))
        · refine wp_of e264 c264_67 (rw_iload (pc' := 69) (z := H147227 r2 (((40 * a1) + (H147227 r147235 (a1.toNat))).toNat)) rfl rfl ?_)
          refine wp_of e264 c264_69 (rw_goto (p1 := 74) (by decide) ?_)
          refine wp_of e264 c264_74 (rw_istore (pc' := 76) (z := H147227 r2 (((40 * a1) + (H147227 r147235 (a1.toNat))).toNat)) (L' := [(4, vI (H147227 r2 (((40 * a1) + (H147227 r147235 (a1.toNat))).toNat))), (6, vI (H147227 r2 (((40 * a1) + (H147227 r147235 (a1.toNat))).toNat))), (5, vI v147204), (0, .ref r0), (1, vI a1), (2, .ref r2), (3, vI a3)]) rfl rfl rfl ?_)
          refine wp_of e264 c264_76 (rw_iinc (pc' := 79) (z := v147204) (L' := [(5, vI (v147204 + 1)), (4, vI (H147227 r2 (((40 * a1) + (H147227 r147235 (a1.toNat))).toNat))), (6, vI (H147227 r2 (((40 * a1) + (H147227 r147235 (a1.toNat))).toNat))), (0, .ref r0), (1, vI a1), (2, .ref r2), (3, vI a3)]) rfl rfl rfl rfl ?_)
          refine wp_of e264 c264_79 (rw_goto (p1 := 6) (by decide) ?_)
          exact wp_lc (ks := [5, 4, 6, 0, 1, 2, 3]) (wl_c rfl (wl_c rfl (wl_c rfl (wl_c rfl (wl_c rfl (wl_c rfl wl_n)))))) rfl (by decide) (ih147203 _ (by omega) (v147204 + 1) (H147227 r2 (((40 * a1) + (H147227 r147235 (a1.toNat))).toNat)) H147227 w147231 f147234 ⟨by omega, by omega⟩ ⟨by omega, by omega⟩ rfl)
        · refine wp_of e264 c264_46 (rw_iload_n (pc' := 47) (z := a3) rfl rfl ?_)
          refine wp_of e264 c264_47 (rw_if_eq (p1 := 60) (p2 := 50) (by decide) rfl ⟨by omega, by omega⟩ (fun c147243 => ?_) (fun c147243 => ?_))
          · refine wp_of e264 c264_60 (rw_iload (pc' := 62) (z := H147227 r2 (((40 * a1) + (H147227 r147235 (a1.toNat))).toNat)) rfl rfl ?_)
            refine wp_of e264 c264_62 (rw_iload (pc' := 64) (z := v147205) rfl rfl ?_)
            refine wp_of e264 c264_64 (rw_icmp_ge (p1 := 72) (p2 := 67) (by decide) rfl ⟨by omega, by omega⟩ ⟨by omega, by omega⟩ (fun c147244 => ?_) (fun c147244 => ?_))
            · refine wp_of e264 c264_72 (rw_iload (pc' := 74) (z := v147205) rfl rfl ?_)
              refine wp_of e264 c264_74 (rw_istore (pc' := 76) (z := v147205) (L' := [(4, vI v147205), (6, vI (H147227 r2 (((40 * a1) + (H147227 r147235 (a1.toNat))).toNat))), (5, vI v147204), (0, .ref r0), (1, vI a1), (2, .ref r2), (3, vI a3)]) rfl rfl rfl ?_)
              refine wp_of e264 c264_76 (rw_iinc (pc' := 79) (z := v147204) (L' := [(5, vI (v147204 + 1)), (4, vI v147205), (6, vI (H147227 r2 (((40 * a1) + (H147227 r147235 (a1.toNat))).toNat))), (0, .ref r0), (1, vI a1), (2, .ref r2), (3, vI a3)]) rfl rfl rfl rfl ?_)
              refine wp_of e264 c264_79 (rw_goto (p1 := 6) (by decide) ?_)
              exact wp_lc (ks := [5, 4, 6, 0, 1, 2, 3]) (wl_c rfl (wl_c rfl (wl_c rfl (wl_c rfl (wl_c rfl (wl_c rfl wl_n)))))) rfl (by decide) (ih147203 _ (by omega) (v147204 + 1) v147205 H147227 w147231 f147234 ⟨by omega, by omega⟩ ⟨by omega, by omega⟩ rfl)
            · refine wp_of e264 c264_67 (rw_iload (pc' := 69) (z := H147227 r2 (((40 * a1) + (H147227 r147235 (a1.toNat))).toNat)) rfl rfl ?_)
              refine wp_of e264 c264_69 (rw_goto (p1 := 74) (by decide) ?_)
              refine wp_of e264 c264_74 (rw_istore (pc' := 76) (z := H147227 r2 (((40 * a1) + (H147227 r147235 (a1.toNat))).toNat)) (L' := [(4, vI (H147227 r2 (((40 * a1) + (H147227 r147235 (a1.toNat))).toNat))), (6, vI (H147227 r2 (((40 * a1) + (H147227 r147235 (a1.toNat))).toNat))), (5, vI v147204), (0, .ref r0), (1, vI a1), (2, .ref r2), (3, vI a3)]) rfl rfl rfl ?_)
              refine wp_of e264 c264_76 (rw_iinc (pc' := 79) (z := v147204) (L' := [(5, vI (v147204 + 1)), (4, vI (H147227 r2 (((40 * a1) + (H147227 r147235 (a1.toNat))).toNat))), (6, vI (H147227 r2 (((40 * a1) + (H147227 r147235 (a1.toNat))).toNat))), (0, .ref r0), (1, vI a1), (2, .ref r2), (3, vI a3)]) rfl rfl rfl rfl ?_)
              refine wp_of e264 c264_79 (rw_goto (p1 := 6) (by decide) ?_)
              exact wp_lc (ks := [5, 4, 6, 0, 1, 2, 3]) (wl_c rfl (wl_c rfl (wl_c rfl (wl_c rfl (wl_c rfl (wl_c rfl wl_n)))))) rfl (by decide) (ih147203 _ (by omega) (v147204 + 1) (H147227 r2 (((40 * a1) + (H147227 r147235 (a1.toNat))).toNat)) H147227 w147231 f147234 ⟨by omega, by omega⟩ ⟨by omega, by omega⟩ rfl)
          · refine wp_of e264 c264_50 (rw_iload (pc' := 52) (z := H147227 r2 (((40 * a1) + (H147227 r147235 (a1.toNat))).toNat)) rfl rfl ?_)
            refine wp_of e264 c264_52 (rw_iload (pc' := 54) (z := v147205) rfl rfl ?_)
            refine wp_of e264 c264_54 (rw_icmp_le (p1 := 72) (p2 := 57) (by decide) rfl ⟨by omega, by omega⟩ ⟨by omega, by omega⟩ (fun c147245 => ?_) (fun c147245 => ?_))
            · refine wp_of e264 c264_72 (rw_iload (pc' := 74) (z := v147205) rfl rfl ?_)
              refine wp_of e264 c264_74 (rw_istore (pc' := 76) (z := v147205) (L' := [(4, vI v147205), (6, vI (H147227 r2 (((40 * a1) + (H147227 r147235 (a1.toNat))).toNat))), (5, vI v147204), (0, .ref r0), (1, vI a1), (2, .ref r2), (3, vI a3)]) rfl rfl rfl ?_)
              refine wp_of e264 c264_76 (rw_iinc (pc' := 79) (z := v147204) (L' := [(5, vI (v147204 + 1)), (4, vI v147205), (6, vI (H147227 r2 (((40 * a1) + (H147227 r147235 (a1.toNat))).toNat))), (0, .ref r0), (1, vI a1), (2, .ref r2), (3, vI a3)]) rfl rfl rfl rfl ?_)
              refine wp_of e264 c264_79 (rw_goto (p1 := 6) (by decide) ?_)
              exact wp_lc (ks := [5, 4, 6, 0, 1, 2, 3]) (wl_c rfl (wl_c rfl (wl_c rfl (wl_c rfl (wl_c rfl (wl_c rfl wl_n)))))) rfl (by decide) (ih147203 _ (by omega) (v147204 + 1) v147205 H147227 w147231 f147234 ⟨by omega, by omega⟩ ⟨by omega, by omega⟩ rfl)
            · refine wp_of e264 c264_57 (rw_goto (p1 := 67) (by decide) ?_)
              refine wp_of e264 c264_67 (rw_iload (pc' := 69) (z := H147227 r2 (((40 * a1) + (H147227 r147235 (a1.toNat))).toNat)) rfl rfl ?_)
              refine wp_of e264 c264_69 (rw_goto (p1 := 74) (by decide) ?_)
              refine wp_of e264 c264_74 (rw_istore (pc' := 76) (z := H147227 r2 (((40 * a1) + (H147227 r147235 (a1.toNat))).toNat)) (L' := [(4, vI (H147227 r2 (((40 * a1) + (H147227 r147235 (a1.toNat))).toNat))), (6, vI (H147227 r2 (((40 * a1) + (H147227 r147235 (a1.toNat))).toNat))), (5, vI v147204), (0, .ref r0), (1, vI a1), (2, .ref r2), (3, vI a3)]) rfl rfl rfl ?_)
              refine wp_of e264 c264_76 (rw_iinc (pc' := 79) (z := v147204) (L' := [(5, vI (v147204 + 1)), (4, vI (H147227 r2 (((40 * a1) + (H147227 r147235 (a1.toNat))).toNat))), (6, vI (H147227 r2 (((40 * a1) + (H147227 r147235 (a1.toNat))).toNat))), (0, .ref r0), (1, vI a1), (2, .ref r2), (3, vI a3)]) rfl rfl rfl rfl ?_)
              refine wp_of e264 c264_79 (rw_goto (p1 := 6) (by decide) ?_)
              exact wp_lc (ks := [5, 4, 6, 0, 1, 2, 3]) (wl_c rfl (wl_c rfl (wl_c rfl (wl_c rfl (wl_c rfl (wl_c rfl wl_n)))))) rfl (by decide) (ih147203 _ (by omega) (v147204 + 1) (H147227 r2 (((40 * a1) + (H147227 r147235 (a1.toNat))).toNat)) H147227 w147231 f147234 ⟨by omega, by omega⟩ ⟨by omega, by omega⟩ rfl)
  exact wp_lc (ks := [5, 4, 0, 1, 2, 3]) (wl_c rfl (wl_c rfl (wl_c rfl (wl_c rfl (wl_c rfl (wl_c rfl wl_n)))))) rfl (by decide) (lp147201 _ 0 0 H hW wfr.rf ⟨by omega, by omega⟩ ⟨by omega, by omega⟩ rfl)

/-! StrikeAwakeModel.extreme(I[IZ)I -/
abbrev q_264_m_length (r0 : Nat) (a1 : Int) (r2 : Nat) (a3 : Int) (pp : Nat) (T : wq_T) (H : wq_H) : Option Value → wq_T → wq_H → Prop := fun r T' H' => T = T' ∧ WT T H' ∧ wfr [(51, 999)] T H H' ∧ ∃ z : Int, some (vI z) = r ∧ ((-2147483648) ≤ z ∧ z ≤ 2147483647)
set_option maxHeartbeats 4000000 in
theorem s_264_m_length {kt : Nat → Option mc_E} {T : wq_T} {H : wq_H} {r0 : Nat} {a1 : Int} {r2 : Nat} {a3 : Int} {pp : Nat} (hW : WT T H) (g0 : T.2.2.2 r0 = some 42) (i1 : 0 ≤ a1 ∧ a1 ≤ 5) (g2 : T.2.2.2 r2 = some 47) (i3 : 0 ≤ a3 ∧ a3 ≤ 1) (qpp : H r0 3 = (pp : Int)) (gpp : T.2.2.2 pp = some 54) (p0 : H r0 29 = 0 ∨ 0 < wLM H r0) : wpc kt 2 264 [.ref r0, vI a1, .ref r2, vI a3] T H (q_264_m_length r0 a1 r2 a3 pp T H) := by
  refine wp_enter e264 (Nat.le_of_ble_eq_true rfl) rfl ?_
  have f0 : wfr [(51, 999)] T H H := wfr.rf
  show wp _ _ 264 0 [(0, .ref r0), (1, vI a1), (2, .ref r2), (3, vI a3)] [] _ H _
  have b147532 : 0 ≤ H r0 29 ∧ H r0 29 ≤ 20000 := hW.box g0 (n := 33) rfl (by decide) rfl
  refine wp_of e264 c264_0 (rw_iconst (pc' := 1) rfl ?_)
  refine wp_of e264 c264_1 (rw_istore (pc' := 3) (z := 0) (L' := [(4, vI 0), (0, .ref r0), (1, vI a1), (2, .ref r2), (3, vI a3)]) rfl rfl rfl ?_)
  refine wp_of e264 c264_3 (rw_iconst (pc' := 4) rfl ?_)
  refine wp_of e264 c264_4 (rw_istore (pc' := 6) (z := 0) (L' := [(5, vI 0), (4, vI 0), (0, .ref r0), (1, vI a1), (2, .ref r2), (3, vI a3)]) rfl rfl rfl ?_)
  have lp147786 : ∀ (n147787 : Nat) (v147789 : Int) (v147790 : Int) (H147791 : wq_H), WT T H147791 → wfr [(51, 999)] T H H147791 → (0 ≤ v147789 ∧ v147789 ≤ 20000) → (0 ≤ v147790 ∧ v147790 ≤ 16) → (20000 - v147789).toNat = n147787 → wp kt 1 264 6 [(5, vI v147789), (4, vI v147790), (0, .ref r0), (1, vI a1), (2, .ref r2), (3, vI a3)] [] T H147791 (q_264_m_length r0 a1 r2 a3 pp T H) := by
    intro n147787
    induction n147787 using Nat.strongRecOn with
    | _ n147787 ih147788 =>
      intro v147789 v147790 H147791 w147792 f147793 b147794 b147795 m147796
      have f147797 := f0.tr f147793 rfl
      refine wp_of e264 c264_6 (rw_iload (pc' := 8) (z := v147789) rfl rfl ?_)
      refine wp_of e264 c264_8 (rw_aload_n (pc' := 9) (v := .ref r0) rfl rfl rfl ?_)
      have k147798 : H147791 r0 29 = H r0 29 := (f147793 r0 29 _ g0 rfl)
      refine wp_of e264 c264_9 (xg_I (pc' := 12) lf_9_422 w147792 g0 sh_42 (by decide) (by decide) ty_42_29 rfl rfl (fun b147799 b147800 => ?_))
      refine wp_of e264 c264_12 (rw_icmp_ge (p1 := 82) (p2 := 15) (by decide) rfl ⟨by omega, by omega⟩ ⟨by omega, by omega⟩ (fun c147801 => ?_) (fun c147801 => ?_))
      · refine wp_of e264 c264_82 (rw_iload (pc' := 84) (z := v147790) rfl rfl ?_)
        exact wp_ireturn e264 c264_84 rfl ⟨rfl, w147792, f147797, v147790, rfl, ⟨by omega, by omega⟩⟩
      · refine wp_of e264 c264_15 (rw_aload_n (pc' := 16) (v := .ref r0) rfl rfl rfl ?_)
        refine wp_of e264 c264_16 (rw_aload_n (pc' := 17) (v := .ref r0) rfl rfl rfl ?_)
        refine wp_of e264 c264_17 (xg_R (pc' := 20) lf_9_42 w147792 g0 sh_42 (by decide) (by decide) ty_42_30 rfl rfl (fun r147802 q147803 g147804 => ?_))
        refine wp_of e264 c264_20 (rw_iload (pc' := 22) (z := v147789) rfl rfl ?_)
        refine wp_of e264 c264_22 (xa_I (so := 0) (pc' := 23) w147792 g147804 sh_52 (by decide) (ty_52 _) (by omega) (by omega) rfl (fun b147805 b147806 => ?_))
        have k147807 : wLM H147791 r0 = wLM H r0 := (wLM_fr hW g0 f147793 rfl)
        have k147808 : H147791 r0 3 = H r0 3 := (f147793 r0 3 _ g0 rfl)
        have q147809 : H147791 r0 3 = (pp : Int) := k147808.trans qpp
        refine wp_of e264 c264_23 (xc_V (pc' := 26) (r := r0) (as := [vI (H147791 r147802 (v147789.toNat))]) (st := []) (lm_9_425) rfl rfl (Nat.le_of_ble_eq_true rfl) w147792 g0 sh_42 (by decide) rfl (by decide) (s_243 w147792 g0 ⟨by omega, by omega⟩ q147809 gpp (by omega)) (fun R147810 T147811 H147812 p147813 => ?_))
        obtain ⟨e147814, w147816, f147817, e147815⟩ := p147813
        subst e147814
        subst e147815
        have f147818 := f147797.tr f147817 rfl
        have f147819 := f147793.tr f147817 rfl
        show wp _ _ 264 26 [(5, vI v147789), (4, vI v147790), (0, .ref r0), (1, vI a1), (2, .ref r2), (3, vI a3)] [] _ H147812 _
        refine wp_of e264 c264_26 (rw_aload_n (pc' := 27) (v := .ref r2) rfl rfl rfl ?_)
        refine wp_of e264 c264_27 (rw_bipush (pc' := 29) (z := 40) rfl (by decide) ?_)
        refine wp_of e264 c264_29 (rw_iload_n (pc' := 30) (z := a1) rfl rfl ?_)
        refine wp_of e264 c264_30 (rw_imul (pc' := 31) rfl ?_)
        refine wp_of e264 c264_31 (rw_aload_n (pc' := 32) (v := .ref r0) rfl rfl rfl ?_)
        refine wp_of e264 c264_32 (xg_R (pc' := 35) lf_9_39 w147816 g0 sh_42 (by decide) (by decide) ty_42_27 rfl rfl (fun r147820 q147821 g147822 => ?_))
        refine wp_of e264 c264_35 (rw_iload_n (pc' := 36) (z := a1) rfl rfl ?_)
        refine wp_of e264 c264_36 (xa_I (so := 0) (pc' := 37) w147816 g147822 sh_51 (by decide) (ty_51 _) (by omega) (by omega) rfl (fun b147823 b147824 => ?_))
        refine wp_of e264 c264_37 (rw_iadd (pc' := 38) rfl ?_)
        refine wp_of e264 c264_38 (xa_I (so := 0) (pc' := 39) w147816 g2 sh_47 (by decide) (ty_47 _) (by omega) (by omega) rfl (fun b147825 b147826 => ?_))
        refine wp_of e264 c264_39 (rw_istore (pc' := 41) (z := H147812 r2 (((40 * a1) + (H147812 r147820 (a1.toNat))).toNat)) (L' := [(6, vI (H147812 r2 (((40 * a1) + (H147812 r147820 (a1.toNat))).toNat))), (5, vI v147789), (4, vI v147790), (0, .ref r0), (1, vI a1), (2, .ref r2), (3, vI a3)]) rfl rfl rfl ?_)
        refine wp_of e264 c264_41 (rw_iload (pc' := 43) (z := v147789) rfl rfl ?_)
        refine wp_of e264 c264_43 (rw_if_eq (p1 := 67) (p2 := 46) (by decide) rfl ⟨by omega, by omega⟩ (fun c147827 => ?_) (fun c147827 => ?_))
        · refine wp_of e264 c264_67 (rw_iload (pc' := 69) (z := H147812 r2 (((40 * a1) + (H147812 r147820 (a1.toNat))).toNat)) rfl rfl ?_)
          refine wp_of e264 c264_69 (rw_goto (p1 := 74) (by decide) ?_)
          refine wp_of e264 c264_74 (rw_istore (pc' := 76) (z := H147812 r2 (((40 * a1) + (H147812 r147820 (a1.toNat))).toNat)) (L' := [(4, vI (H147812 r2 (((40 * a1) + (H147812 r147820 (a1.toNat))).toNat))), (6, vI (H147812 r2 (((40 * a1) + (H147812 r147820 (a1.toNat))).toNat))), (5, vI v147789), (0, .ref r0), (1, vI a1), (2, .ref r2), (3, vI a3)]) rfl rfl rfl ?_)
          refine wp_of e264 c264_76 (rw_iinc (pc' := 79) (z := v147789) (L' := [(5, vI (v147789 + 1)), (4, vI (H147812 r2 (((40 * a1) + (H147812 r147820 (a1.toNat))).toNat))), (6, vI (H147812 r2 (((40 * a1) + (H147812 r147820 (a1.toNat))).toNat))), (0, .ref r0), (1, vI a1), (2, .ref r2), (3, vI a3)]) rfl rfl rfl rfl ?_)
          refine wp_of e264 c264_79 (rw_goto (p1 := 6) (by decide) ?_)
          exact wp_lc (ks := [5, 4, 6, 0, 1, 2, 3]) (wl_c rfl (wl_c rfl (wl_c rfl (wl_c rfl (wl_c rfl (wl_c rfl wl_n)))))) rfl (by decide) (ih147788 _ (by omega) (v147789 + 1) (H147812 r2 (((40 * a1) + (H147812 r147820 (a1.toNat))).toNat)) H147812 w147816 f147819 ⟨by omega, by omega⟩ ⟨by omega, by omega⟩ rfl)
        · refine wp_of e264 c264_46 (rw_iload_n (pc' := 47) (z := a3) rfl rfl ?_)
          refine wp_of e264 c264_47 (rw_if_eq (p1 := 60) (p2 := 50) (by decide) rfl ⟨by omega, by omega⟩ (fun c147828 => ?_) (fun c147828 => ?_))
          · refine wp_of e264 c264_60 (rw_iload (pc' := 62) (z := H147812 r2 (((40 * a1) + (H147812 r147820 (a1.toNat))).toNat)) rfl rfl ?_)
            refine wp_of e264 c264_62 (rw_iload (pc' := 64) (z := v147790) rfl rfl ?_)
            refine wp_of e264 c264_64 (rw_icmp_ge (p1 := 72) (p2 := 67) (by decide) rfl ⟨by omega, by omega⟩ ⟨by omega, by omega⟩ (fun c147829 => ?_) (fun c147829 => ?_))
            · refine wp_of e264 c264_72 (rw_iload (pc' := 74) (z := v147790) rfl rfl ?_)
              refine wp_of e264 c264_74 (rw_istore (pc' := 76) (z := v147790) (L' := [(4, vI v147790), (6, vI (H147812 r2 (((40 * a1) + (H147812 r147820 (a1.toNat))).toNat))), (5, vI v147789), (0, .ref r0), (1, vI a1), (2, .ref r2), (3, vI a3)]) rfl rfl rfl ?_)
              refine wp_of e264 c264_76 (rw_iinc (pc' := 79) (z := v147789) (L' := [(5, vI (v147789 + 1)), (4, vI v147790), (6, vI (H147812 r2 (((40 * a1) + (H147812 r147820 (a1.toNat))).toNat))), (0, .ref r0), (1, vI a1), (2, .ref r2), (3, vI a3)]) rfl rfl rfl rfl ?_)
              refine wp_of e264 c264_79 (rw_goto (p1 := 6) (by decide) ?_)
              exact wp_lc (ks := [5, 4, 6, 0, 1, 2, 3]) (wl_c rfl (wl_c rfl (wl_c rfl (wl_c rfl (wl_c rfl (wl_c rfl wl_n)))))) rfl (by decide) (ih147788 _ (by omega) (v147789 + 1) v147790 H147812 w147816 f147819 ⟨by omega, by omega⟩ ⟨by omega, by omega⟩ rfl)
            · refine wp_of e264 c264_67 (rw_iload (pc' := 69) (z := H147812 r2 (((40 * a1) + (H147812 r147820 (a1.toNat))).toNat)) rfl rfl ?_)
              refine wp_of e264 c264_69 (rw_goto (p1 := 74) (by decide) ?_)
              refine wp_of e264 c264_74 (rw_istore (pc' := 76) (z := H147812 r2 (((40 * a1) + (H147812 r147820 (a1.toNat))).toNat)) (L' := [(4, vI (H147812 r2 (((40 * a1) + (H147812 r147820 (a1.toNat))).toNat))), (6, vI (H147812 r2 (((40 * a1) + (H147812 r147820 (a1.toNat))).toNat))), (5, vI v147789), (0, .ref r0), (1, vI a1), (2, .ref r2), (3, vI a3)]) rfl rfl rfl ?_)
              refine wp_of e264 c264_76 (rw_iinc (pc' := 79) (z := v147789) (L' := [(5, vI (v147789 + 1)), (4, vI (H147812 r2 (((40 * a1) + (H147812 r147820 (a1.toNat))).toNat))), (6, vI (H147812 r2 (((40 * a1) + (H147812 r147820 (a1.toNat))).toNat))), (0, .ref r0), (1, vI a1), (2, .ref r2), (3, vI a3)]) rfl rfl rfl rfl ?_)
              refine wp_of e264 c264_79 (rw_goto (p1 := 6) (by decide) ?_)
              exact wp_lc (ks := [5, 4, 6, 0, 1, 2, 3]) (wl_c rfl (wl_c rfl (wl_c rfl (wl_c rfl (wl_c rfl (wl_c rfl wl_n)))))) rfl (by decide) (ih147788 _ (by omega) (v147789 + 1) (H147812 r2 (((40 * a1) + (H147812 r147820 (a1.toNat))).toNat)) H147812 w147816 f147819 ⟨by omega, by omega⟩ ⟨by omega, by omega⟩ rfl)
          · refine wp_of e264 c264_50 (rw_iload (pc' := 52) (z := H147812 r2 (((40 * a1) + (H147812 r147820 (a1.toNat))).toNat)) rfl rfl ?_)
            refine wp_of e264 c264_52 (rw_iload (pc' := 54) (z := v147790) rfl rfl ?_)
            refine wp_of e264 c264_54 (rw_icmp_le (p1 := 72) (p2 := 57) (by decide) rfl ⟨by omega, by omega⟩ ⟨by omega, by omega⟩ (fun c147830 => ?_) (fun c147830 => ?_))
            · refine wp_of e264 c264_72 (rw_iload (pc' := 74) (z := v147790) rfl rfl ?_)
              refine wp_of e264 c264_74 (rw_istore (pc' := 76) (z := v147790) (L' := [(4, vI v147790), (6, vI (H147812 r2 (((40 * a1) + (H147812 r147820 (a1.toNat))).toNat))), (5, vI v147789), (0, .ref r0), (1, vI a1), (2, .ref r2), (3, vI a3)]) rfl rfl rfl ?_)
              refine wp_of e264 c264_76 (rw_iinc (pc' := 79) (z := v147789) (L' := [(5, vI (v147789 + 1)), (4, vI v147790), (6, vI (H147812 r2 (((40 * a1) + (H147812 r147820 (a1.toNat))).toNat))), (0, .ref r0), (1, vI a1), (2, .ref r2), (3, vI a3)]) rfl rfl rfl rfl ?_)
              refine wp_of e264 c264_79 (rw_goto (p1 := 6) (by decide) ?_)
              exact wp_lc (ks := [5, 4, 6, 0, 1, 2, 3]) (wl_c rfl (wl_c rfl (wl_c rfl (wl_c rfl (wl_c rfl (wl_c rfl wl_n)))))) rfl (by decide) (ih147788 _ (by omega) (v147789 + 1) v147790 H147812 w147816 f147819 ⟨by omega, by omega⟩ ⟨by omega, by omega⟩ rfl)
            · refine wp_of e264 c264_57 (rw_goto (p1 := 67) (by decide) ?_)
              refine wp_of e264 c264_67 (rw_iload (pc' := 69) (z := H147812 r2 (((40 * a1) + (H147812 r147820 (a1.toNat))).toNat)) rfl rfl ?_)
              refine wp_of e264 c264_69 (rw_goto (p1 := 74) (by decide) ?_)
              refine wp_of e264 c264_74 (rw_istore (pc' := 76) (z := H147812 r2 (((40 * a1) + (H147812 r147820 (a1.toNat))).toNat)) (L' := [(4, vI (H147812 r2 (((40 * a1) + (H147812 r147820 (a1.toNat))).toNat))), (6, vI (H147812 r2 (((40 * a1) + (H147812 r147820 (a1.toNat))).toNat))), (5, vI v147789), (0, .ref r0), (1, vI a1), (2, .ref r2), (3, vI a3)]) rfl rfl rfl ?_)
              refine wp_of e264 c264_76 (rw_iinc (pc' := 79) (z := v147789) (L' := [(5, vI (v147789 + 1)), (4, vI (H147812 r2 (((40 * a1) + (H147812 r147820 (a1.toNat))).toNat))), (6, vI (H147812 r2 (((40 * a1) + (H147812 r147820 (a1.toNat))).toNat))), (0, .ref r0), (1, vI a1), (2, .ref r2), (3, vI a3)]) rfl rfl rfl rfl ?_)
              refine wp_of e264 c264_79 (rw_goto (p1 := 6) (by decide) ?_)
              exact wp_lc (ks := [5, 4, 6, 0, 1, 2, 3]) (wl_c rfl (wl_c rfl (wl_c rfl (wl_c rfl (wl_c rfl (wl_c rfl wl_n)))))) rfl (by decide) (ih147788 _ (by omega) (v147789 + 1) (H147812 r2 (((40 * a1) + (H147812 r147820 (a1.toNat))).toNat)) H147812 w147816 f147819 ⟨by omega, by omega⟩ ⟨by omega, by omega⟩ rfl)
  exact wp_lc (ks := [5, 4, 0, 1, 2, 3]) (wl_c rfl (wl_c rfl (wl_c rfl (wl_c rfl (wl_c rfl (wl_c rfl wl_n)))))) rfl (by decide) (lp147786 _ 0 0 H hW wfr.rf ⟨by omega, by omega⟩ ⟨by omega, by omega⟩ rfl)
