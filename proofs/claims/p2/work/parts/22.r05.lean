/-! methods of the reference (own work, written by wip/gen2/sx.py) -/
/-! StrikeAwakeModel.strikes(I)I -/
theorem e226 : wq_en 226 = some (9, 2, false, some FieldType.int) := rfl
theorem c226_0 : mc_cd 226 0 = some (.aload_n 0, 1) := by decide +kernel
theorem c226_1 : mc_cd 226 1 = some (.iconst 0, 1) := by decide +kernel
theorem c226_2 : mc_cd 226 2 = some (.putfield 48, 3) := by decide +kernel
theorem c226_5 : mc_cd 226 5 = some (.aload_n 0, 1) := by decide +kernel
theorem c226_6 : mc_cd 226 6 = some (.iload_n 1, 1) := by decide +kernel
theorem c226_7 : mc_cd 226 7 = some (.invokevirtual 373, 3) := by decide +kernel
theorem c226_10 : mc_cd 226 10 = some (.ifCond .ne 9, 3) := by decide +kernel
theorem c226_13 : mc_cd 226 13 = some (.aload_n 0, 1) := by decide +kernel
theorem c226_14 : mc_cd 226 14 = some (.iconst 1, 1) := by decide +kernel
theorem c226_15 : mc_cd 226 15 = some (.invokevirtual 54, 3) := by decide +kernel
theorem c226_18 : mc_cd 226 18 = some (.ireturn, 1) := by decide +kernel
theorem c226_19 : mc_cd 226 19 = some (.aload_n 0, 1) := by decide +kernel
theorem c226_20 : mc_cd 226 20 = some (.invokevirtual 406, 3) := by decide +kernel
theorem c226_23 : mc_cd 226 23 = some (.ifCond .eq 11, 3) := by decide +kernel
theorem c226_26 : mc_cd 226 26 = some (.aload_n 0, 1) := by decide +kernel
theorem c226_27 : mc_cd 226 27 = some (.iconst 5, 1) := by decide +kernel
theorem c226_28 : mc_cd 226 28 = some (.invokevirtual 54, 3) := by decide +kernel
theorem c226_31 : mc_cd 226 31 = some (.goto 16, 3) := by decide +kernel
theorem c226_34 : mc_cd 226 34 = some (.aload_n 0, 1) := by decide +kernel
theorem c226_35 : mc_cd 226 35 = some (.aload_n 0, 1) := by decide +kernel
theorem c226_36 : mc_cd 226 36 = some (.aload_n 0, 1) := by decide +kernel
theorem c226_37 : mc_cd 226 37 = some (.getfield 36, 3) := by decide +kernel
theorem c226_40 : mc_cd 226 40 = some (.iload_n 1, 1) := by decide +kernel
theorem c226_41 : mc_cd 226 41 = some (.invokevirtual 386, 3) := by decide +kernel
theorem c226_44 : mc_cd 226 44 = some (.invokevirtual 58, 3) := by decide +kernel
theorem c226_47 : mc_cd 226 47 = some (.ireturn, 1) := by decide +kernel
abbrev q_226 (r0 : Nat) (a1 : Int) (T : wq_T) (H : wq_H) : Option Value → wq_T → wq_H → Prop := fun r T' H' => T = T' ∧ WT T H' ∧ wfr [(42, 0), (42, 1), (42, 2)] T H H' ∧ ∃ z : Int, some (vI z) = r ∧ ((-2147483648) ≤ z ∧ z ≤ 2147483647) ∧ (wKI H' r0 = 1)
set_option maxHeartbeats 4000000 in
theorem s_226 {kt : Nat → Option mc_E} {T : wq_T} {H : wq_H} {r0 : Nat} {a1 : Int} (hW : WT T H) (g0 : T.2.2.2 r0 = some 42) (i1 : (-2147483648) ≤ a1 ∧ a1 ≤ 2147483647) (p0 : wKI H r0 = 1) : wpc kt 3 226 [.ref r0, vI a1] T H (q_226 r0 a1 T H) := by
  refine wp_enter e226 (Nat.le_of_ble_eq_true rfl) rfl ?_
  have f0 : wfr [(42, 0), (42, 1), (42, 2)] T H H := wfr.rf
  show wp _ _ 226 0 [(0, .ref r0), (1, vI a1)] [] _ H _
  refine wp_of e226 c226_0 (rw_aload_n (pc' := 1) (v := .ref r0) rfl rfl rfl ?_)
  refine wp_of e226 c226_1 (rw_iconst (pc' := 2) rfl ?_)
  refine wp_of e226 c226_2 (xp_I (pc' := 5) lf_9_48 hW g0 sh_42 (by decide) (by decide) ty_42_0 rfl rfl (by omega) (by omega) ⟨by omega, by omega⟩ rfl (fun H127510 e127511 w127512 => ?_))
  have f127513 := f0.put' e127511 g0 rfl
  have k127514 : H127510 r0 0 = 0 := wq_u_s e127511
  refine wp_of e226 c226_5 (rw_aload_n (pc' := 6) (v := .ref r0) rfl rfl rfl ?_)
  refine wp_of e226 c226_6 (rw_iload_n (pc' := 7) (z := a1) rfl rfl ?_)
  refine wp_of e226 c226_7 (xc_V (pc' := 10) (r := r0) (as := [vI a1]) (st := []) (lm_9_373) rfl rfl (Nat.le_of_ble_eq_true rfl) w127512 g0 sh_42 (by decide) rfl (by decide) (s_218 w127512 g0 ⟨by omega, by omega⟩) (fun R127515 T127516 H127517 p127518 => ?_))
  obtain ⟨e127519, e127521, z127523, e127520, b127524, p127522⟩ := p127518
  subst e127519
  subst e127520
  subst e127521
  show wp _ _ 226 10 [(0, .ref r0), (1, vI a1)] [vI z127523] _ H127510 _
  refine wp_of e226 c226_10 (rw_if_ne (p1 := 19) (p2 := 13) (by decide) rfl ⟨by omega, by omega⟩ (fun c127525 => ?_) (fun c127525 => ?_))
  · refine wp_of e226 c226_19 (rw_aload_n (pc' := 20) (v := .ref r0) rfl rfl rfl ?_)
    obtain ⟨r127526, q127527, g127528⟩ := (w127512.opt g0 (t' := 54) (n := 33) (j := 3) (p := 0) (q := 0) rfl (by decide) rfl).resolve_left (by omega)
    refine wp_of e226 c226_20 (xc_V (pc' := 23) (r := r0) (as := []) (st := []) (lm_9_406) rfl rfl (Nat.le_of_ble_eq_true rfl) w127512 g0 sh_42 (by decide) rfl (by decide) (s_227 w127512 g0 q127527 g127528) (fun R127529 T127530 H127531 p127532 => ?_))
    obtain ⟨e127533, e127535, z127536, e127534, b127537⟩ := p127532
    subst e127533
    subst e127534
    subst e127535
    show wp _ _ 226 23 [(0, .ref r0), (1, vI a1)] [vI z127536] _ H127510 _
    refine wp_of e226 c226_23 (rw_if_eq (p1 := 34) (p2 := 26) (by decide) rfl ⟨by omega, by omega⟩ (fun c127538 => ?_) (fun c127538 => ?_))
    · refine wp_of e226 c226_34 (rw_aload_n (pc' := 35) (v := .ref r0) rfl rfl rfl ?_)
      refine wp_of e226 c226_35 (rw_aload_n (pc' := 36) (v := .ref r0) rfl rfl rfl ?_)
      refine wp_of e226 c226_36 (rw_aload_n (pc' := 37) (v := .ref r0) rfl rfl rfl ?_)
      refine wp_of e226 c226_37 (xg_R (pc' := 40) lf_9_36 w127512 g0 sh_42 (by decide) (by decide) ty_42_26 rfl rfl (fun r127539 q127540 g127541 => ?_))
      refine wp_of e226 c226_40 (rw_iload_n (pc' := 41) (z := a1) rfl rfl ?_)
      refine wp_of e226 c226_41 (xc_V (pc' := 44) (r := r0) (as := [.ref r127539, vI a1]) (st := [.ref r0]) (lm_9_386) rfl rfl (Nat.le_of_ble_eq_true rfl) w127512 g0 sh_42 (by decide) rfl (by decide) (s_228_m_said w127512 g0 g127541 ⟨by omega, by omega⟩ q127527 g127528) (fun R127542 T127543 H127544 p127545 => ?_))
      obtain ⟨e127546, e127548, z127549, e127547, b127550⟩ := p127545
      subst e127546
      subst e127547
      subst e127548
      show wp _ _ 226 44 [(0, .ref r0), (1, vI a1)] [vI z127549, .ref r0] _ H127510 _
      refine wp_of e226 c226_44 (xc_V (pc' := 47) (r := r0) (as := [vI z127549]) (st := []) (lm_9_58) rfl rfl (Nat.le_of_ble_eq_true rfl) w127512 g0 sh_42 (by decide) rfl (by decide) (s_209 w127512 g0 ⟨by omega, by omega⟩) (fun R127551 T127552 H127553 p127554 => ?_))
      obtain ⟨e127555, w127557, f127558, z127559, e127556, b127560⟩ := p127554
      subst e127555
      subst e127556
      have f127561 := f127513.tr f127558 rfl
      show wp _ _ 226 47 [(0, .ref r0), (1, vI a1)] [vI z127559] _ H127553 _
      have k127562 : wKI H127553 r0 = wKI H r0 := ((wKI_fr w127512 g0 f127558 rfl).trans (wKI_fr hW g0 ((wfr.rf (l := [(42, 0)])).put' e127511 g0 rfl) rfl))
      exact wp_ireturn e226 c226_47 rfl ⟨rfl, w127557, f127561, z127559, rfl, ⟨by omega, by omega⟩, by omega⟩
    · refine wp_of e226 c226_26 (rw_aload_n (pc' := 27) (v := .ref r0) rfl rfl rfl ?_)
      refine wp_of e226 c226_27 (rw_iconst (pc' := 28) rfl ?_)
      refine wp_of e226 c226_28 (xc_V (pc' := 31) (r := r0) (as := [vI 5]) (st := []) (lm_9_54) rfl rfl (Nat.le_of_ble_eq_true rfl) w127512 g0 sh_42 (by decide) rfl (by decide) (s_170 w127512 g0 ⟨by omega, by omega⟩) (fun R127563 T127564 H127565 p127566 => ?_))
      obtain ⟨e127567, w127569, f127570, z127571, e127568, b127572⟩ := p127566
      subst e127567
      subst e127568
      have f127573 := f127513.tr f127570 rfl
      show wp _ _ 226 31 [(0, .ref r0), (1, vI a1)] [vI z127571] _ H127565 _
      refine wp_of e226 c226_31 (rw_goto (p1 := 47) (by decide) ?_)
      have k127574 : wKI H127565 r0 = wKI H r0 := ((wKI_fr w127512 g0 f127570 rfl).trans (wKI_fr hW g0 ((wfr.rf (l := [(42, 0)])).put' e127511 g0 rfl) rfl))
      exact wp_ireturn e226 c226_47 rfl ⟨rfl, w127569, f127573, z127571, rfl, ⟨by omega, by omega⟩, by omega⟩
  · refine wp_of e226 c226_13 (rw_aload_n (pc' := 14) (v := .ref r0) rfl rfl rfl ?_)
    refine wp_of e226 c226_14 (rw_iconst (pc' := 15) rfl ?_)
    refine wp_of e226 c226_15 (xc_V (pc' := 18) (r := r0) (as := [vI 1]) (st := []) (lm_9_54) rfl rfl (Nat.le_of_ble_eq_true rfl) w127512 g0 sh_42 (by decide) rfl (by decide) (s_170 w127512 g0 ⟨by omega, by omega⟩) (fun R127575 T127576 H127577 p127578 => ?_))
    obtain ⟨e127579, w127581, f127582, z127583, e127580, b127584⟩ := p127578
    subst e127579
    subst e127580
    have f127585 := f127513.tr f127582 rfl
    show wp _ _ 226 18 [(0, .ref r0), (1, vI a1)] [vI z127583] _ H127577 _
    have k127586 : wKI H127577 r0 = wKI H r0 := ((wKI_fr w127512 g0 f127582 rfl).trans (wKI_fr hW g0 ((wfr.rf (l := [(42, 0)])).put' e127511 g0 rfl) rfl))
    exact wp_ireturn e226 c226_18 rfl ⟨rfl, w127581, f127585, z127583, rfl, ⟨by omega, by omega⟩, by omega⟩
/-! StrikeAwakeModel.refusesSaid()I -/
theorem e231 : wq_en 231 = some (9, 1, false, some FieldType.int) := rfl
theorem c231_0 : mc_cd 231 0 = some (.aload_n 0, 1) := by decide +kernel
theorem c231_1 : mc_cd 231 1 = some (.getfield 337, 3) := by decide +kernel
theorem c231_4 : mc_cd 231 4 = some (.ifnonnull 7, 3) := by decide +kernel
theorem c231_7 : mc_cd 231 7 = some (.iconst 1, 1) := by decide +kernel
theorem c231_8 : mc_cd 231 8 = some (.goto 15, 3) := by decide +kernel
theorem c231_11 : mc_cd 231 11 = some (.aload_n 0, 1) := by decide +kernel
theorem c231_12 : mc_cd 231 12 = some (.invokevirtual 406, 3) := by decide +kernel
theorem c231_15 : mc_cd 231 15 = some (.ifCond .eq 7, 3) := by decide +kernel
theorem c231_18 : mc_cd 231 18 = some (.iconst 5, 1) := by decide +kernel
theorem c231_19 : mc_cd 231 19 = some (.goto 4, 3) := by decide +kernel
theorem c231_22 : mc_cd 231 22 = some (.iconst 0, 1) := by decide +kernel
theorem c231_23 : mc_cd 231 23 = some (.ireturn, 1) := by decide +kernel
abbrev q_231 (r0 : Nat) (T : wq_T) (H : wq_H) : Option Value → wq_T → wq_H → Prop := fun r T' H' => T = T' ∧ H = H' ∧ ∃ z : Int, some (vI z) = r ∧ (0 ≤ z ∧ z ≤ 5) ∧ (z ≠ 0 ∨ H r0 3 ≠ -1)
set_option maxHeartbeats 4000000 in
theorem s_231 {kt : Nat → Option mc_E} {T : wq_T} {H : wq_H} {r0 : Nat} (hW : WT T H) (g0 : T.2.2.2 r0 = some 42) : wpc kt 3 231 [.ref r0] T H (q_231 r0 T H) := by
  refine wp_enter e231 (Nat.le_of_ble_eq_true rfl) rfl ?_
  show wp _ _ 231 0 [(0, .ref r0)] [] _ H _
  refine wp_of e231 c231_0 (rw_aload_n (pc' := 1) (v := .ref r0) rfl rfl rfl ?_)
  refine wp_of e231 c231_1 (xg_O (pc' := 4) lf_9_337 hW g0 sh_42 (by decide) (by decide) ty_42_3 rfl rfl (fun q127601 => ?_) (fun r127600 q127601 g127602 => ?_))
  · refine wp_of e231 c231_4 (rw_ifnonnull_n (p1 := 11) (p2 := 7) (by decide) rfl ?_)
    refine wp_of e231 c231_7 (rw_iconst (pc' := 8) rfl ?_)
    refine wp_of e231 c231_8 (rw_goto (p1 := 23) (by decide) ?_)
    exact wp_ireturn e231 c231_23 rfl ⟨rfl, rfl, 1, rfl, ⟨by omega, by omega⟩, by omega⟩
  · refine wp_of e231 c231_4 (rw_ifnonnull_r (p1 := 11) (p2 := 7) (by decide) rfl ?_)
    refine wp_of e231 c231_11 (rw_aload_n (pc' := 12) (v := .ref r0) rfl rfl rfl ?_)
    refine wp_of e231 c231_12 (xc_V (pc' := 15) (r := r0) (as := []) (st := []) (lm_9_406) rfl rfl (Nat.le_of_ble_eq_true rfl) hW g0 sh_42 (by decide) rfl (by decide) (s_227 hW g0 q127601 g127602) (fun R127603 T127604 H127605 p127606 => ?_))
    obtain ⟨e127607, e127609, z127610, e127608, b127611⟩ := p127606
    subst e127607
    subst e127608
    subst e127609
    show wp _ _ 231 15 [(0, .ref r0)] [vI z127610] _ H _
    refine wp_of e231 c231_15 (rw_if_eq (p1 := 22) (p2 := 18) (by decide) rfl ⟨by omega, by omega⟩ (fun c127612 => ?_) (fun c127612 => ?_))
    · refine wp_of e231 c231_22 (rw_iconst (pc' := 23) rfl ?_)
      exact wp_ireturn e231 c231_23 rfl ⟨rfl, rfl, 0, rfl, ⟨by omega, by omega⟩, by omega⟩
    · refine wp_of e231 c231_18 (rw_iconst (pc' := 19) rfl ?_)
      refine wp_of e231 c231_19 (rw_goto (p1 := 23) (by decide) ?_)
      exact wp_ireturn e231 c231_23 rfl ⟨rfl, rfl, 5, rfl, ⟨by omega, by omega⟩, by omega⟩
/-! StrikeAwakeModel.offIn([II)I -/
theorem e234 : wq_en 234 = some (9, 4, false, some FieldType.int) := rfl
theorem c234_0 : mc_cd 234 0 = some (.aload_n 0, 1) := by decide +kernel
theorem c234_1 : mc_cd 234 1 = some (.getfield 17, 3) := by decide +kernel
theorem c234_4 : mc_cd 234 4 = some (.iload_n 2, 1) := by decide +kernel
theorem c234_5 : mc_cd 234 5 = some (.iaload, 1) := by decide +kernel
theorem c234_6 : mc_cd 234 6 = some (.iconst 1, 1) := by decide +kernel
theorem c234_7 : mc_cd 234 7 = some (.isub, 1) := by decide +kernel
theorem c234_8 : mc_cd 234 8 = some (.aload_n 0, 1) := by decide +kernel
theorem c234_9 : mc_cd 234 9 = some (.aload_n 1, 1) := by decide +kernel
theorem c234_10 : mc_cd 234 10 = some (.iload_n 2, 1) := by decide +kernel
theorem c234_11 : mc_cd 234 11 = some (.invokevirtual 386, 3) := by decide +kernel
theorem c234_14 : mc_cd 234 14 = some (.isub, 1) := by decide +kernel
theorem c234_15 : mc_cd 234 15 = some (.istore_n 3, 1) := by decide +kernel
theorem c234_16 : mc_cd 234 16 = some (.iload_n 3, 1) := by decide +kernel
theorem c234_17 : mc_cd 234 17 = some (.iconst 0, 1) := by decide +kernel
theorem c234_18 : mc_cd 234 18 = some (.aload_n 0, 1) := by decide +kernel
theorem c234_19 : mc_cd 234 19 = some (.getfield 337, 3) := by decide +kernel
theorem c234_22 : mc_cd 234 22 = some (.getfield 222, 3) := by decide +kernel
theorem c234_25 : mc_cd 234 25 = some (.invokestatic 125, 3) := by decide +kernel
theorem c234_28 : mc_cd 234 28 = some (.ifCond .eq 5, 3) := by decide +kernel
theorem c234_31 : mc_cd 234 31 = some (.iconst 0, 1) := by decide +kernel
theorem c234_32 : mc_cd 234 32 = some (.ireturn, 1) := by decide +kernel
theorem c234_33 : mc_cd 234 33 = some (.iload_n 3, 1) := by decide +kernel
theorem c234_34 : mc_cd 234 34 = some (.iconst (-1), 1) := by decide +kernel
theorem c234_35 : mc_cd 234 35 = some (.if_icmp .eq 16, 3) := by decide +kernel
theorem c234_38 : mc_cd 234 38 = some (.iload_n 3, 1) := by decide +kernel
theorem c234_39 : mc_cd 234 39 = some (.aload_n 0, 1) := by decide +kernel
theorem c234_40 : mc_cd 234 40 = some (.getfield 337, 3) := by decide +kernel
theorem c234_43 : mc_cd 234 43 = some (.getfield 222, 3) := by decide +kernel
theorem c234_46 : mc_cd 234 46 = some (.iconst 1, 1) := by decide +kernel
theorem c234_47 : mc_cd 234 47 = some (.iadd, 1) := by decide +kernel
theorem c234_48 : mc_cd 234 48 = some (.if_icmp .ne 7, 3) := by decide +kernel
theorem c234_51 : mc_cd 234 51 = some (.iconst 1, 1) := by decide +kernel
theorem c234_52 : mc_cd 234 52 = some (.goto 4, 3) := by decide +kernel
theorem c234_55 : mc_cd 234 55 = some (.iconst 2, 1) := by decide +kernel
theorem c234_56 : mc_cd 234 56 = some (.ireturn, 1) := by decide +kernel
abbrev q_234_m_lot (r0 : Nat) (r1 : Nat) (a2 : Int) (pp : Nat) (T : wq_T) (H : wq_H) : Option Value → wq_T → wq_H → Prop := fun r T' H' => T = T' ∧ H = H' ∧ ∃ z : Int, some (vI z) = r ∧ (0 ≤ z ∧ z ≤ 2)
set_option maxHeartbeats 4000000 in
theorem s_234_m_lot {kt : Nat → Option mc_E} {T : wq_T} {H : wq_H} {r0 : Nat} {r1 : Nat} {a2 : Int} {pp : Nat} (hW : WT T H) (g0 : T.2.2.2 r0 = some 42) (g1 : T.2.2.2 r1 = some 51) (i2 : 0 ≤ a2 ∧ a2 ≤ 23) (qpp : H r0 3 = (pp : Int)) (gpp : T.2.2.2 pp = some 54) : wpc kt 3 234 [.ref r0, .ref r1, vI a2] T H (q_234_m_lot r0 r1 a2 pp T H) := by
  refine wp_enter e234 (Nat.le_of_ble_eq_true rfl) rfl ?_
  show wp _ _ 234 0 [(0, .ref r0), (1, .ref r1), (2, vI a2)] [] _ H _
  refine wp_of e234 c234_0 (rw_aload_n (pc' := 1) (v := .ref r0) rfl rfl rfl ?_)
  refine wp_of e234 c234_1 (xg_R (pc' := 4) lf_9_17 hW g0 sh_42 (by decide) (by decide) ty_42_20 rfl rfl (fun r127650 q127651 g127652 => ?_))
  refine wp_of e234 c234_4 (rw_iload_n (pc' := 5) (z := a2) rfl rfl ?_)
  refine wp_of e234 c234_5 (xa_I (so := 0) (pc' := 6) hW g127652 sh_44 (by decide) (ty_44 _) (by omega) (by omega) rfl (fun b127653 b127654 => ?_))
  refine wp_of e234 c234_6 (rw_iconst (pc' := 7) rfl ?_)
  refine wp_of e234 c234_7 (rw_isubw (pc' := 8) rfl ?_)
  obtain ⟨v127655, e127656⟩ : ∃ x : Int, x = wq_w ((H r127650 (a2.toNat)) - 1) := ⟨_, rfl⟩
  rw [← e127656]
  have b127657 : -2147483648 ≤ v127655 ∧ v127655 ≤ 2147483647 := by
    rw [e127656]
    exact wI_w _
  refine wp_of e234 c234_8 (rw_aload_n (pc' := 9) (v := .ref r0) rfl rfl rfl ?_)
  refine wp_of e234 c234_9 (rw_aload_n (pc' := 10) (v := .ref r1) rfl rfl rfl ?_)
  refine wp_of e234 c234_10 (rw_iload_n (pc' := 11) (z := a2) rfl rfl ?_)
  refine wp_of e234 c234_11 (xc_V (pc' := 14) (r := r0) (as := [.ref r1, vI a2]) (st := [vI v127655]) (lm_9_386) rfl rfl (Nat.le_of_ble_eq_true rfl) hW g0 sh_42 (by decide) rfl (by decide) (s_228_m_lot hW g0 g1 ⟨by omega, by omega⟩ qpp gpp) (fun R127658 T127659 H127660 p127661 => ?_))
  obtain ⟨e127662, e127664, z127665, e127663, b127666⟩ := p127661
  subst e127662
  subst e127663
  subst e127664
  show wp _ _ 234 14 [(0, .ref r0), (1, .ref r1), (2, vI a2)] [vI z127665, vI v127655] _ H _
  refine wp_of e234 c234_14 (rw_isubw (pc' := 15) rfl ?_)
  obtain ⟨v127667, e127668⟩ : ∃ x : Int, x = wq_w (v127655 - z127665) := ⟨_, rfl⟩
  rw [← e127668]
  have b127669 : -2147483648 ≤ v127667 ∧ v127667 ≤ 2147483647 := by
    rw [e127668]
    exact wI_w _
  refine wp_of e234 c234_15 (rw_istore_n (pc' := 16) (z := v127667) (L' := [(3, vI v127667), (0, .ref r0), (1, .ref r1), (2, vI a2)]) rfl rfl rfl ?_)
  refine wp_of e234 c234_16 (rw_iload_n (pc' := 17) (z := v127667) rfl rfl ?_)
  refine wp_of e234 c234_17 (rw_iconst (pc' := 18) rfl ?_)
  refine wp_of e234 c234_18 (rw_aload_n (pc' := 19) (v := .ref r0) rfl rfl rfl ?_)
  refine wp_of e234 c234_19 (xg_K (pc' := 22) lf_9_337 hW g0 sh_42 (by decide) (by decide) rfl qpp rfl ?_)
  refine wp_of e234 c234_22 (xg_I (pc' := 25) lf_9_222 hW gpp sh_54 (by decide) (by decide) ty_54_1 rfl rfl (fun b127670 b127671 => ?_))
  refine wp_of e234 c234_25 (xc_S (pc' := 28) (as := [vI v127667, vI 0, vI (H pp 1)]) (st := []) (lm_9_125) rfl rfl (Nat.le_of_ble_eq_true rfl) rfl (by decide) (s_186 hW ⟨by omega, by omega⟩ ⟨by omega, by omega⟩ ⟨by omega, by omega⟩) (fun R127672 T127673 H127674 p127675 => ?_))
  obtain ⟨e127676, e127678, z127680, e127677, b127681, p127679⟩ := p127675
  subst e127676
  subst e127677
  subst e127678
  show wp _ _ 234 28 [(3, vI v127667), (0, .ref r0), (1, .ref r1), (2, vI a2)] [vI z127680] _ H _
  refine wp_of e234 c234_28 (rw_if_eq (p1 := 33) (p2 := 31) (by decide) rfl ⟨by omega, by omega⟩ (fun c127682 => ?_) (fun c127682 => ?_))
  · refine wp_of e234 c234_33 (rw_iload_n (pc' := 34) (z := v127667) rfl rfl ?_)
    refine wp_of e234 c234_34 (rw_iconst (pc' := 35) rfl ?_)
    refine wp_of e234 c234_35 (rw_icmp_eq (p1 := 51) (p2 := 38) (by decide) rfl ⟨by omega, by omega⟩ ⟨by omega, by omega⟩ (fun c127683 => ?_) (fun c127683 => ?_))
    · refine wp_of e234 c234_51 (rw_iconst (pc' := 52) rfl ?_)
      refine wp_of e234 c234_52 (rw_goto (p1 := 56) (by decide) ?_)
      exact wp_ireturn e234 c234_56 rfl ⟨rfl, rfl, 1, rfl, ⟨by omega, by omega⟩⟩
    · refine wp_of e234 c234_38 (rw_iload_n (pc' := 39) (z := v127667) rfl rfl ?_)
      refine wp_of e234 c234_39 (rw_aload_n (pc' := 40) (v := .ref r0) rfl rfl rfl ?_)
      refine wp_of e234 c234_40 (xg_K (pc' := 43) lf_9_337 hW g0 sh_42 (by decide) (by decide) rfl qpp rfl ?_)
      refine wp_of e234 c234_43 (xg_I (pc' := 46) lf_9_222 hW gpp sh_54 (by decide) (by decide) ty_54_1 rfl rfl (fun b127684 b127685 => ?_))
      refine wp_of e234 c234_46 (rw_iconst (pc' := 47) rfl ?_)
      refine wp_of e234 c234_47 (rw_iaddw (pc' := 48) rfl ?_)
      obtain ⟨v127686, e127687⟩ : ∃ x : Int, x = wq_w ((H pp 1) + 1) := ⟨_, rfl⟩
      rw [← e127687]
      have b127688 : -2147483648 ≤ v127686 ∧ v127686 ≤ 2147483647 := by
        rw [e127687]
        exact wI_w _
      refine wp_of e234 c234_48 (rw_icmp_ne (p1 := 55) (p2 := 51) (by decide) rfl ⟨by omega, by omega⟩ ⟨by omega, by omega⟩ (fun c127689 => ?_) (fun c127689 => ?_))
      · refine wp_of e234 c234_55 (rw_iconst (pc' := 56) rfl ?_)
        exact wp_ireturn e234 c234_56 rfl ⟨rfl, rfl, 2, rfl, ⟨by omega, by omega⟩⟩
      · refine wp_of e234 c234_51 (rw_iconst (pc' := 52) rfl ?_)
        refine wp_of e234 c234_52 (rw_goto (p1 := 56) (by decide) ?_)
        exact wp_ireturn e234 c234_56 rfl ⟨rfl, rfl, 1, rfl, ⟨by omega, by omega⟩⟩
  · refine wp_of e234 c234_31 (rw_iconst (pc' := 32) rfl ?_)
    exact wp_ireturn e234 c234_32 rfl ⟨rfl, rfl, 0, rfl, ⟨by omega, by omega⟩⟩

/-! StrikeAwakeModel.offIn([II)I -/
abbrev q_234_m_said (r0 : Nat) (r1 : Nat) (a2 : Int) (pp : Nat) (T : wq_T) (H : wq_H) : Option Value → wq_T → wq_H → Prop := fun r T' H' => T = T' ∧ H = H' ∧ ∃ z : Int, some (vI z) = r ∧ (0 ≤ z ∧ z ≤ 2)
set_option maxHeartbeats 4000000 in
theorem s_234_m_said {kt : Nat → Option mc_E} {T : wq_T} {H : wq_H} {r0 : Nat} {r1 : Nat} {a2 : Int} {pp : Nat} (hW : WT T H) (g0 : T.2.2.2 r0 = some 42) (g1 : T.2.2.2 r1 = some 50) (i2 : 0 ≤ a2 ∧ a2 ≤ 23) (qpp : H r0 3 = (pp : Int)) (gpp : T.2.2.2 pp = some 54) : wpc kt 3 234 [.ref r0, .ref r1, vI a2] T H (q_234_m_said r0 r1 a2 pp T H) := by
  refine wp_enter e234 (Nat.le_of_ble_eq_true rfl) rfl ?_
  show wp _ _ 234 0 [(0, .ref r0), (1, .ref r1), (2, vI a2)] [] _ H _
  refine wp_of e234 c234_0 (rw_aload_n (pc' := 1) (v := .ref r0) rfl rfl rfl ?_)
  refine wp_of e234 c234_1 (xg_R (pc' := 4) lf_9_17 hW g0 sh_42 (by decide) (by decide) ty_42_20 rfl rfl (fun r127727 q127728 g127729 => ?_))
  refine wp_of e234 c234_4 (rw_iload_n (pc' := 5) (z := a2) rfl rfl ?_)
  refine wp_of e234 c234_5 (xa_I (so := 0) (pc' := 6) hW g127729 sh_44 (by decide) (ty_44 _) (by omega) (by omega) rfl (fun b127730 b127731 => ?_))
  refine wp_of e234 c234_6 (rw_iconst (pc' := 7) rfl ?_)
  refine wp_of e234 c234_7 (rw_isubw (pc' := 8) rfl ?_)
  obtain ⟨v127732, e127733⟩ : ∃ x : Int, x = wq_w ((H r127727 (a2.toNat)) - 1) := ⟨_, rfl⟩
  rw [← e127733]
  have b127734 : -2147483648 ≤ v127732 ∧ v127732 ≤ 2147483647 := by
    rw [e127733]
    exact wI_w _
  refine wp_of e234 c234_8 (rw_aload_n (pc' := 9) (v := .ref r0) rfl rfl rfl ?_)
  refine wp_of e234 c234_9 (rw_aload_n (pc' := 10) (v := .ref r1) rfl rfl rfl ?_)
  refine wp_of e234 c234_10 (rw_iload_n (pc' := 11) (z := a2) rfl rfl ?_)
  refine wp_of e234 c234_11 (xc_V (pc' := 14) (r := r0) (as := [.ref r1, vI a2]) (st := [vI v127732]) (lm_9_386) rfl rfl (Nat.le_of_ble_eq_true rfl) hW g0 sh_42 (by decide) rfl (by decide) (s_228_m_said hW g0 g1 ⟨by omega, by omega⟩ qpp gpp) (fun R127735 T127736 H127737 p127738 => ?_))
  obtain ⟨e127739, e127741, z127742, e127740, b127743⟩ := p127738
  subst e127739
  subst e127740
  subst e127741
  show wp _ _ 234 14 [(0, .ref r0), (1, .ref r1), (2, vI a2)] [vI z127742, vI v127732] _ H _
  refine wp_of e234 c234_14 (rw_isubw (pc' := 15) rfl ?_)
  obtain ⟨v127744, e127745⟩ : ∃ x : Int, x = wq_w (v127732 - z127742) := ⟨_, rfl⟩
  rw [← e127745]
  have b127746 : -2147483648 ≤ v127744 ∧ v127744 ≤ 2147483647 := by
    rw [e127745]
    exact wI_w _
  refine wp_of e234 c234_15 (rw_istore_n (pc' := 16) (z := v127744) (L' := [(3, vI v127744), (0, .ref r0), (1, .ref r1), (2, vI a2)]) rfl rfl rfl ?_)
  refine wp_of e234 c234_16 (rw_iload_n (pc' := 17) (z := v127744) rfl rfl ?_)
  refine wp_of e234 c234_17 (rw_iconst (pc' := 18) rfl ?_)
  refine wp_of e234 c234_18 (rw_aload_n (pc' := 19) (v := .ref r0) rfl rfl rfl ?_)
  refine wp_of e234 c234_19 (xg_K (pc' := 22) lf_9_337 hW g0 sh_42 (by decide) (by decide) rfl qpp rfl ?_)
  refine wp_of e234 c234_22 (xg_I (pc' := 25) lf_9_222 hW gpp sh_54 (by decide) (by decide) ty_54_1 rfl rfl (fun b127747 b127748 => ?_))
  refine wp_of e234 c234_25 (xc_S (pc' := 28) (as := [vI v127744, vI 0, vI (H pp 1)]) (st := []) (lm_9_125) rfl rfl (Nat.le_of_ble_eq_true rfl) rfl (by decide) (s_186 hW ⟨by omega, by omega⟩ ⟨by omega, by omega⟩ ⟨by omega, by omega⟩) (fun R127749 T127750 H127751 p127752 => ?_))
  obtain ⟨e127753, e127755, z127757, e127754, b127758, p127756⟩ := p127752
  subst e127753
  subst e127754
  subst e127755
  show wp _ _ 234 28 [(3, vI v127744), (0, .ref r0), (1, .ref r1), (2, vI a2)] [vI z127757] _ H _
  refine wp_of e234 c234_28 (rw_if_eq (p1 := 33) (p2 := 31) (by decide) rfl ⟨by omega, by omega⟩ (fun c127759 => ?_) (fun c127759 => ?_))
  · refine wp_of e234 c234_33 (rw_iload_n (pc' := 34) (z := v127744) rfl rfl ?_)
    refine wp_of e234 c234_34 (rw_iconst (pc' := 35) rfl ?_)
    refine wp_of e234 c234_35 (rw_icmp_eq (p1 := 51) (p2 := 38) (by decide) rfl ⟨by omega, by omega⟩ ⟨by omega, by omega⟩ (fun c127760 => ?_) (fun c127760 => ?_))
    · refine wp_of e234 c234_51 (rw_iconst (pc' := 52) rfl ?_)
      refine wp_of e234 c234_52 (rw_goto (p1 := 56) (by decide) ?_)
      exact wp_ireturn e234 c234_56 rfl ⟨rfl, rfl, 1, rfl, ⟨by omega, by omega⟩⟩
    · refine wp_of e234 c234_38 (rw_iload_n (pc' := 39) (z := v127744) rfl rfl ?_)
      refine wp_of e234 c234_39 (rw_aload_n (pc' := 40) (v := .ref r0) rfl rfl rfl ?_)
      refine wp_of e234 c234_40 (xg_K (pc' := 43) lf_9_337 hW g0 sh_42 (by decide) (by decide) rfl qpp rfl ?_)
      refine wp_of e234 c234_43 (xg_I (pc' := 46) lf_9_222 hW gpp sh_54 (by decide) (by decide) ty_54_1 rfl rfl (fun b127761 b127762 => ?_))
      refine wp_of e234 c234_46 (rw_iconst (pc' := 47) rfl ?_)
      refine wp_of e234 c234_47 (rw_iaddw (pc' := 48) rfl ?_)
      obtain ⟨v127763, e127764⟩ : ∃ x : Int, x = wq_w ((H pp 1) + 1) := ⟨_, rfl⟩
      rw [← e127764]
      have b127765 : -2147483648 ≤ v127763 ∧ v127763 ≤ 2147483647 := by
        rw [e127764]
        exact wI_w _
      refine wp_of e234 c234_48 (rw_icmp_ne (p1 := 55) (p2 := 51) (by decide) rfl ⟨by omega, by omega⟩ ⟨by omega, by omega⟩ (fun c127766 => ?_) (fun c127766 => ?_))
      · refine wp_of e234 c234_55 (rw_iconst (pc' := 56) rfl ?_)
        exact wp_ireturn e234 c234_56 rfl ⟨rfl, rfl, 2, rfl, ⟨by omega, by omega⟩⟩
      · refine wp_of e234 c234_51 (rw_iconst (pc' := 52) rfl ?_)
        refine wp_of e234 c234_52 (rw_goto (p1 := 56) (by decide) ?_)
        exact wp_ireturn e234 c234_56 rfl ⟨rfl, rfl, 1, rfl, ⟨by omega, by omega⟩⟩
  · refine wp_of e234 c234_31 (rw_iconst (pc' := 32) rfl ?_)
    exact wp_ireturn e234 c234_32 rfl ⟨rfl, rfl, 0, rfl, ⟨by omega, by omega⟩⟩
/-! StrikeAwakeModel.bothAsleep([I)I -/
theorem e235 : wq_en 235 = some (9, 4, false, some FieldType.int) := rfl
theorem c235_0 : mc_cd 235 0 = some (.iconst 0, 1) := by decide +kernel
theorem c235_1 : mc_cd 235 1 = some (.istore_n 2, 1) := by decide +kernel
theorem c235_2 : mc_cd 235 2 = some (.iconst 0, 1) := by decide +kernel
theorem c235_3 : mc_cd 235 3 = some (.istore_n 3, 1) := by decide +kernel
theorem c235_4 : mc_cd 235 4 = some (.iload_n 3, 1) := by decide +kernel
theorem c235_5 : mc_cd 235 5 = some (.aload_n 0, 1) := by decide +kernel
theorem c235_6 : mc_cd 235 6 = some (.getfield 337, 3) := by decide +kernel
theorem c235_9 : mc_cd 235 9 = some (.getfield 276, 3) := by decide +kernel
theorem c235_12 : mc_cd 235 12 = some (.if_icmp .ge 71, 3) := by decide +kernel
theorem c235_15 : mc_cd 235 15 = some (.iload_n 2, 1) := by decide +kernel
theorem c235_16 : mc_cd 235 16 = some (.aload_n 0, 1) := by decide +kernel
theorem c235_17 : mc_cd 235 17 = some (.getfield 30, 3) := by decide +kernel
theorem c235_20 : mc_cd 235 20 = some (.bipush 40, 2) := by decide +kernel
theorem c235_22 : mc_cd 235 22 = some (.aload_n 0, 1) := by decide +kernel
theorem c235_23 : mc_cd 235 23 = some (.getfield 337, 3) := by decide +kernel
theorem c235_26 : mc_cd 235 26 = some (.getfield 282, 3) := by decide +kernel
theorem c235_29 : mc_cd 235 29 = some (.iload_n 3, 1) := by decide +kernel
theorem c235_30 : mc_cd 235 30 = some (.iaload, 1) := by decide +kernel
theorem c235_31 : mc_cd 235 31 = some (.imul, 1) := by decide +kernel
theorem c235_32 : mc_cd 235 32 = some (.aload_n 1, 1) := by decide +kernel
theorem c235_33 : mc_cd 235 33 = some (.aload_n 0, 1) := by decide +kernel
theorem c235_34 : mc_cd 235 34 = some (.getfield 337, 3) := by decide +kernel
theorem c235_37 : mc_cd 235 37 = some (.getfield 282, 3) := by decide +kernel
theorem c235_40 : mc_cd 235 40 = some (.iload_n 3, 1) := by decide +kernel
theorem c235_41 : mc_cd 235 41 = some (.iaload, 1) := by decide +kernel
theorem c235_42 : mc_cd 235 42 = some (.iaload, 1) := by decide +kernel
theorem c235_43 : mc_cd 235 43 = some (.iadd, 1) := by decide +kernel
theorem c235_44 : mc_cd 235 44 = some (.iaload, 1) := by decide +kernel
theorem c235_45 : mc_cd 235 45 = some (.aload_n 0, 1) := by decide +kernel
theorem c235_46 : mc_cd 235 46 = some (.getfield 30, 3) := by decide +kernel
theorem c235_49 : mc_cd 235 49 = some (.bipush 40, 2) := by decide +kernel
theorem c235_51 : mc_cd 235 51 = some (.aload_n 0, 1) := by decide +kernel
theorem c235_52 : mc_cd 235 52 = some (.getfield 337, 3) := by decide +kernel
theorem c235_55 : mc_cd 235 55 = some (.getfield 285, 3) := by decide +kernel
theorem c235_58 : mc_cd 235 58 = some (.iload_n 3, 1) := by decide +kernel
theorem c235_59 : mc_cd 235 59 = some (.iaload, 1) := by decide +kernel
theorem c235_60 : mc_cd 235 60 = some (.imul, 1) := by decide +kernel
theorem c235_61 : mc_cd 235 61 = some (.aload_n 1, 1) := by decide +kernel
theorem c235_62 : mc_cd 235 62 = some (.aload_n 0, 1) := by decide +kernel
theorem c235_63 : mc_cd 235 63 = some (.getfield 337, 3) := by decide +kernel
theorem c235_66 : mc_cd 235 66 = some (.getfield 285, 3) := by decide +kernel
theorem c235_69 : mc_cd 235 69 = some (.iload_n 3, 1) := by decide +kernel
theorem c235_70 : mc_cd 235 70 = some (.iaload, 1) := by decide +kernel
theorem c235_71 : mc_cd 235 71 = some (.iaload, 1) := by decide +kernel
theorem c235_72 : mc_cd 235 72 = some (.iadd, 1) := by decide +kernel
theorem c235_73 : mc_cd 235 73 = some (.iaload, 1) := by decide +kernel
theorem c235_74 : mc_cd 235 74 = some (.iand, 1) := by decide +kernel
theorem c235_75 : mc_cd 235 75 = some (.ior, 1) := by decide +kernel
theorem c235_76 : mc_cd 235 76 = some (.istore_n 2, 1) := by decide +kernel
theorem c235_77 : mc_cd 235 77 = some (.iinc 3 1, 3) := by decide +kernel
theorem c235_80 : mc_cd 235 80 = some (.goto (-76), 3) := by decide +kernel
theorem c235_83 : mc_cd 235 83 = some (.iload_n 2, 1) := by decide +kernel
theorem c235_84 : mc_cd 235 84 = some (.ireturn, 1) := by decide +kernel
abbrev q_235_m_lot (r0 : Nat) (r1 : Nat) (pp : Nat) (T : wq_T) (H : wq_H) : Option Value → wq_T → wq_H → Prop := fun r T' H' => T = T' ∧ H = H' ∧ ∃ z : Int, some (vI z) = r ∧ ((-2147483648) ≤ z ∧ z ≤ 2147483647)
set_option maxHeartbeats 4000000 in
theorem s_235_m_lot {kt : Nat → Option mc_E} {T : wq_T} {H : wq_H} {r0 : Nat} {r1 : Nat} {pp : Nat} (hW : WT T H) (g0 : T.2.2.2 r0 = some 42) (g1 : T.2.2.2 r1 = some 51) (qpp : H r0 3 = (pp : Int)) (gpp : T.2.2.2 pp = some 54) : wpc kt 1 235 [.ref r0, .ref r1] T H (q_235_m_lot r0 r1 pp T H) := by
  refine wp_enter e235 (Nat.le_of_ble_eq_true rfl) rfl ?_
  show wp _ _ 235 0 [(0, .ref r0), (1, .ref r1)] [] _ H _
  refine wp_of e235 c235_0 (rw_iconst (pc' := 1) rfl ?_)
  refine wp_of e235 c235_1 (rw_istore_n (pc' := 2) (z := 0) (L' := [(2, vI 0), (0, .ref r0), (1, .ref r1)]) rfl rfl rfl ?_)
  refine wp_of e235 c235_2 (rw_iconst (pc' := 3) rfl ?_)
  refine wp_of e235 c235_3 (rw_istore_n (pc' := 4) (z := 0) (L' := [(3, vI 0), (2, vI 0), (0, .ref r0), (1, .ref r1)]) rfl rfl rfl ?_)
  have lp128072 : ∀ (n128073 : Nat) (v128075 : Int) (v128076 : Int), (0 ≤ v128075 ∧ v128075 ≤ 3) → ((-2147483648) ≤ v128076 ∧ v128076 ≤ 2147483647) → (3 - v128075).toNat = n128073 → wp kt 0 235 4 [(3, vI v128075), (2, vI v128076), (0, .ref r0), (1, .ref r1)] [] T H (q_235_m_lot r0 r1 pp T H) := by
    intro n128073
    induction n128073 using Nat.strongRecOn with
    | _ n128073 ih128074 =>
      intro v128075 v128076 b128079 b128080 m128081
      refine wp_of e235 c235_4 (rw_iload_n (pc' := 5) (z := v128075) rfl rfl ?_)
      refine wp_of e235 c235_5 (rw_aload_n (pc' := 6) (v := .ref r0) rfl rfl rfl ?_)
      refine wp_of e235 c235_6 (xg_K (pc' := 9) lf_9_337 hW g0 sh_42 (by decide) (by decide) rfl qpp rfl ?_)
      refine wp_of e235 c235_9 (xg_I (pc' := 12) lf_9_276 hW gpp sh_54 (by decide) (by decide) ty_54_4 rfl rfl (fun b128082 b128083 => ?_))
      refine wp_of e235 c235_12 (rw_icmp_ge (p1 := 83) (p2 := 15) (by decide) rfl ⟨by omega, by omega⟩ ⟨by omega, by omega⟩ (fun c128084 => ?_) (fun c128084 => ?_))
      · refine wp_of e235 c235_83 (rw_iload_n (pc' := 84) (z := v128076) rfl rfl ?_)
        exact wp_ireturn e235 c235_84 rfl ⟨rfl, rfl, v128076, rfl, ⟨by omega, by omega⟩⟩
      · refine wp_of e235 c235_15 (rw_iload_n (pc' := 16) (z := v128076) rfl rfl ?_)
        refine wp_of e235 c235_16 (rw_aload_n (pc' := 17) (v := .ref r0) rfl rfl rfl ?_)
        refine wp_of e235 c235_17 (xg_R (pc' := 20) lf_9_30 hW g0 sh_42 (by decide) (by decide) ty_42_24 rfl rfl (fun r128085 q128086 g128087 => ?_))
        refine wp_of e235 c235_20 (rw_bipush (pc' := 22) (z := 40) rfl (by decide) ?_)
        refine wp_of e235 c235_22 (rw_aload_n (pc' := 23) (v := .ref r0) rfl rfl rfl ?_)
        refine wp_of e235 c235_23 (xg_K (pc' := 26) lf_9_337 hW g0 sh_42 (by decide) (by decide) rfl qpp rfl ?_)
        refine wp_of e235 c235_26 (xg_R (pc' := 29) lf_9_282 hW gpp sh_54 (by decide) (by decide) ty_54_18 rfl rfl (fun r128088 q128089 g128090 => ?_))
        refine wp_of e235 c235_29 (rw_iload_n (pc' := 30) (z := v128075) rfl rfl ?_)
        refine wp_of e235 c235_30 (xa_I (so := 0) (pc' := 31) hW g128090 sh_64 (by decide) (ty_64 _) (by omega) (by omega) rfl (fun b128091 b128092 => ?_))
        refine wp_of e235 c235_31 (rw_imul (pc' := 32) rfl ?_)
        refine wp_of e235 c235_32 (rw_aload_n (pc' := 33) (v := .ref r1) rfl rfl rfl ?_)
        refine wp_of e235 c235_33 (rw_aload_n (pc' := 34) (v := .ref r0) rfl rfl rfl ?_)
        refine wp_of e235 c235_34 (xg_K (pc' := 37) lf_9_337 hW g0 sh_42 (by decide) (by decide) rfl qpp rfl ?_)
        refine wp_of e235 c235_37 (xg_K (pc' := 40) lf_9_282 hW gpp sh_54 (by decide) (by decide) rfl q128089 rfl ?_)
        refine wp_of e235 c235_40 (rw_iload_n (pc' := 41) (z := v128075) rfl rfl ?_)
        refine wp_of e235 c235_41 (xa_I (so := 0) (pc' := 42) hW g128090 sh_64 (by decide) (ty_64 _) (by omega) (by omega) rfl (fun b128093 b128094 => ?_))
        refine wp_of e235 c235_42 (xa_I (so := 0) (pc' := 43) hW g1 sh_51 (by decide) (ty_51 _) (by omega) (by omega) rfl (fun b128095 b128096 => ?_))
        refine wp_of e235 c235_43 (rw_iadd (pc' := 44) rfl ?_)
        refine wp_of e235 c235_44 (xa_I (so := 0) (pc' := 45) hW g128087 sh_48 (by decide) (ty_48 _) (by omega) (by omega) rfl (fun b128097 b128098 => ?_))
        refine wp_of e235 c235_45 (rw_aload_n (pc' := 46) (v := .ref r0) rfl rfl rfl ?_)
        refine wp_of e235 c235_46 (xg_K (pc' := 49) lf_9_30 hW g0 sh_42 (by decide) (by decide) rfl q128086 rfl ?_)
        refine wp_of e235 c235_49 (rw_bipush (pc' := 51) (z := 40) rfl (by decide) ?_)
        refine wp_of e235 c235_51 (rw_aload_n (pc' := 52) (v := .ref r0) rfl rfl rfl ?_)
        refine wp_of e235 c235_52 (xg_K (pc' := 55) lf_9_337 hW g0 sh_42 (by decide) (by decide) rfl qpp rfl ?_)
        refine wp_of e235 c235_55 (xg_R (pc' := 58) lf_9_285 hW gpp sh_54 (by decide) (by decide) ty_54_19 rfl rfl (fun r128099 q128100 g128101 => ?_))
        refine wp_of e235 c235_58 (rw_iload_n (pc' := 59) (z := v128075) rfl rfl ?_)
        refine wp_of e235 c235_59 (xa_I (so := 0) (pc' := 60) hW g128101 sh_65 (by decide) (ty_65 _) (by omega) (by omega) rfl (fun b128102 b128103 => ?_))
        refine wp_of e235 c235_60 (rw_imul (pc' := 61) rfl ?_)
        refine wp_of e235 c235_61 (rw_aload_n (pc' := 62) (v := .ref r1) rfl rfl rfl ?_)
        refine wp_of e235 c235_62 (rw_aload_n (pc' := 63) (v := .ref r0) rfl rfl rfl ?_)
        refine wp_of e235 c235_63 (xg_K (pc' := 66) lf_9_337 hW g0 sh_42 (by decide) (by decide) rfl qpp rfl ?_)
        refine wp_of e235 c235_66 (xg_K (pc' := 69) lf_9_285 hW gpp sh_54 (by decide) (by decide) rfl q128100 rfl ?_)
        refine wp_of e235 c235_69 (rw_iload_n (pc' := 70) (z := v128075) rfl rfl ?_)
        refine wp_of e235 c235_70 (xa_I (so := 0) (pc' := 71) hW g128101 sh_65 (by decide) (ty_65 _) (by omega) (by omega) rfl (fun b128104 b128105 => ?_))
        refine wp_of e235 c235_71 (xa_I (so := 0) (pc' := 72) hW g1 sh_51 (by decide) (ty_51 _) (by omega) (by omega) rfl (fun b128106 b128107 => ?_))
        refine wp_of e235 c235_72 (rw_iadd (pc' := 73) rfl ?_)
        refine wp_of e235 c235_73 (xa_I (so := 0) (pc' := 74) hW g128087 sh_48 (by decide) (ty_48 _) (by omega) (by omega) rfl (fun b128108 b128109 => ?_))
        refine wp_of e235 c235_74 (rw_iand (pc' := 75) rfl ?_)
        obtain ⟨v128110, e128111⟩ : ∃ x : Int, x = wq_and (H r128085 (((40 * (H r128088 (v128075.toNat))) + (H r1 ((H r128088 (v128075.toNat)).toNat))).toNat)) (H r128085 (((40 * (H r128099 (v128075.toNat))) + (H r1 ((H r128099 (v128075.toNat)).toNat))).toNat)) := ⟨_, rfl⟩
        rw [← e128111]
        have b128112 : -2147483648 ≤ v128110 ∧ v128110 ≤ 2147483647 := by
          rw [e128111]
          exact wI_and _ _
        refine wp_of e235 c235_75 (rw_ior (pc' := 76) rfl ?_)
        obtain ⟨v128113, e128114⟩ : ∃ x : Int, x = wq_or v128076 v128110 := ⟨_, rfl⟩
        rw [← e128114]
        have b128115 : -2147483648 ≤ v128113 ∧ v128113 ≤ 2147483647 := by
          rw [e128114]
          exact wI_or _ _
        refine wp_of e235 c235_76 (rw_istore_n (pc' := 77) (z := v128113) (L' := [(2, vI v128113), (3, vI v128075), (0, .ref r0), (1, .ref r1)]) rfl rfl rfl ?_)
        refine wp_of e235 c235_77 (rw_iinc (pc' := 80) (z := v128075) (L' := [(3, vI (v128075 + 1)), (2, vI v128113), (0, .ref r0), (1, .ref r1)]) rfl rfl rfl rfl ?_)
        refine wp_of e235 c235_80 (rw_goto (p1 := 4) (by decide) ?_)
        exact wp_lc (ks := [3, 2, 0, 1]) (wl_c rfl (wl_c rfl (wl_c rfl (wl_c rfl wl_n)))) rfl (by decide) (ih128074 _ (by omega) (v128075 + 1) v128113 ⟨by omega, by omega⟩ ⟨by omega, by omega⟩ rfl)
  exact wp_lc (ks := [3, 2, 0, 1]) (wl_c rfl (wl_c rfl (wl_c rfl (wl_c rfl wl_n)))) rfl (by decide) (lp128072 _ 0 0 ⟨by omega, by omega⟩ ⟨by omega, by omega⟩ rfl)

/-! StrikeAwakeModel.bothAsleep([I)I -/
abbrev q_235_m_said (r0 : Nat) (r1 : Nat) (pp : Nat) (T : wq_T) (H : wq_H) : Option Value → wq_T → wq_H → Prop := fun r T' H' => T = T' ∧ H = H' ∧ ∃ z : Int, some (vI z) = r ∧ ((-2147483648) ≤ z ∧ z ≤ 2147483647)
set_option maxHeartbeats 4000000 in
theorem s_235_m_said {kt : Nat → Option mc_E} {T : wq_T} {H : wq_H} {r0 : Nat} {r1 : Nat} {pp : Nat} (hW : WT T H) (g0 : T.2.2.2 r0 = some 42) (g1 : T.2.2.2 r1 = some 50) (qpp : H r0 3 = (pp : Int)) (gpp : T.2.2.2 pp = some 54) : wpc kt 1 235 [.ref r0, .ref r1] T H (q_235_m_said r0 r1 pp T H) := by
  refine wp_enter e235 (Nat.le_of_ble_eq_true rfl) rfl ?_
  show wp _ _ 235 0 [(0, .ref r0), (1, .ref r1)] [] _ H _
  refine wp_of e235 c235_0 (rw_iconst (pc' := 1) rfl ?_)
  refine wp_of e235 c235_1 (rw_istore_n (pc' := 2) (z := 0) (L' := [(2, vI 0), (0, .ref r0), (1, .ref r1)]) rfl rfl rfl ?_)
  refine wp_of e235 c235_2 (rw_iconst (pc' := 3) rfl ?_)
  refine wp_of e235 c235_3 (rw_istore_n (pc' := 4) (z := 0) (L' := [(3, vI 0), (2, vI 0), (0, .ref r0), (1, .ref r1)]) rfl rfl rfl ?_)
  have lp128421 : ∀ (n128422 : Nat) (v128424 : Int) (v128425 : Int), (0 ≤ v128424 ∧ v128424 ≤ 3) → ((-2147483648) ≤ v128425 ∧ v128425 ≤ 2147483647) → (3 - v128424).toNat = n128422 → wp kt 0 235 4 [(3, vI v128424), (2, vI v128425), (0, .ref r0), (1, .ref r1)] [] T H (q_235_m_said r0 r1 pp T H) := by
    intro n128422
    induction n128422 using Nat.strongRecOn with
    | _ n128422 ih128423 =>
      intro v128424 v128425 b128428 b128429 m128430
      refine wp_of e235 c235_4 (rw_iload_n (pc' := 5) (z := v128424) rfl rfl ?_)
      refine wp_of e235 c235_5 (rw_aload_n (pc' := 6) (v := .ref r0) rfl rfl rfl ?_)
      refine wp_of e235 c235_6 (xg_K (pc' := 9) lf_9_337 hW g0 sh_42 (by decide) (by decide) rfl qpp rfl ?_)
      refine wp_of e235 c235_9 (xg_I (pc' := 12) lf_9_276 hW gpp sh_54 (by decide) (by decide) ty_54_4 rfl rfl (fun b128431 b128432 => ?_))
      refine wp_of e235 c235_12 (rw_icmp_ge (p1 := 83) (p2 := 15) (by decide) rfl ⟨by omega, by omega⟩ ⟨by omega, by omega⟩ (fun c128433 => ?_) (fun c128433 => ?_))
      · refine wp_of e235 c235_83 (rw_iload_n (pc' := 84) (z := v128425) rfl rfl ?_)
        exact wp_ireturn e235 c235_84 rfl ⟨rfl, rfl, v128425, rfl, ⟨by omega, by omega⟩⟩
      · refine wp_of e235 c235_15 (rw_iload_n (pc' := 16) (z := v128425) rfl rfl ?_)
        refine wp_of e235 c235_16 (rw_aload_n (pc' := 17) (v := .ref r0) rfl rfl rfl ?_)
        refine wp_of e235 c235_17 (xg_R (pc' := 20) lf_9_30 hW g0 sh_42 (by decide) (by decide) ty_42_24 rfl rfl (fun r128434 q128435 g128436 => ?_))
        refine wp_of e235 c235_20 (rw_bipush (pc' := 22) (z := 40) rfl (by decide) ?_)
        refine wp_of e235 c235_22 (rw_aload_n (pc' := 23) (v := .ref r0) rfl rfl rfl ?_)
        refine wp_of e235 c235_23 (xg_K (pc' := 26) lf_9_337 hW g0 sh_42 (by decide) (by decide) rfl qpp rfl ?_)
        refine wp_of e235 c235_26 (xg_R (pc' := 29) lf_9_282 hW gpp sh_54 (by decide) (by decide) ty_54_18 rfl rfl (fun r128437 q128438 g128439 => ?_))
        refine wp_of e235 c235_29 (rw_iload_n (pc' := 30) (z := v128424) rfl rfl ?_)
        refine wp_of e235 c235_30 (xa_I (so := 0) (pc' := 31) hW g128439 sh_64 (by decide) (ty_64 _) (by omega) (by omega) rfl (fun b128440 b128441 => ?_))
        refine wp_of e235 c235_31 (rw_imul (pc' := 32) rfl ?_)
        refine wp_of e235 c235_32 (rw_aload_n (pc' := 33) (v := .ref r1) rfl rfl rfl ?_)
        refine wp_of e235 c235_33 (rw_aload_n (pc' := 34) (v := .ref r0) rfl rfl rfl ?_)
        refine wp_of e235 c235_34 (xg_K (pc' := 37) lf_9_337 hW g0 sh_42 (by decide) (by decide) rfl qpp rfl ?_)
        refine wp_of e235 c235_37 (xg_K (pc' := 40) lf_9_282 hW gpp sh_54 (by decide) (by decide) rfl q128438 rfl ?_)
        refine wp_of e235 c235_40 (rw_iload_n (pc' := 41) (z := v128424) rfl rfl ?_)
        refine wp_of e235 c235_41 (xa_I (so := 0) (pc' := 42) hW g128439 sh_64 (by decide) (ty_64 _) (by omega) (by omega) rfl (fun b128442 b128443 => ?_))
        refine wp_of e235 c235_42 (xa_I (so := 0) (pc' := 43) hW g1 sh_50 (by decide) (ty_50 _) (by omega) (by omega) rfl (fun b128444 b128445 => ?_))
        refine wp_of e235 c235_43 (rw_iadd (pc' := 44) rfl ?_)
        refine wp_of e235 c235_44 (xa_I (so := 0) (pc' := 45) hW g128436 sh_48 (by decide) (ty_48 _) (by omega) (by omega) rfl (fun b128446 b128447 => ?_))
        refine wp_of e235 c235_45 (rw_aload_n (pc' := 46) (v := .ref r0) rfl rfl rfl ?_)
        refine wp_of e235 c235_46 (xg_K (pc' := 49) lf_9_30 hW g0 sh_42 (by decide) (by decide) rfl q128435 rfl ?_)
        refine wp_of e235 c235_49 (rw_bipush (pc' := 51) (z := 40) rfl (by decide) ?_)
        refine wp_of e235 c235_51 (rw_aload_n (pc' := 52) (v := .ref r0) rfl rfl rfl ?_)
        refine wp_of e235 c235_52 (xg_K (pc' := 55) lf_9_337 hW g0 sh_42 (by decide) (by decide) rfl qpp rfl ?_)
        refine wp_of e235 c235_55 (xg_R (pc' := 58) lf_9_285 hW gpp sh_54 (by decide) (by decide) ty_54_19 rfl rfl (fun r128448 q128449 g128450 => ?_))
        refine wp_of e235 c235_58 (rw_iload_n (pc' := 59) (z := v128424) rfl rfl ?_)
        refine wp_of e235 c235_59 (xa_I (so := 0) (pc' := 60) hW g128450 sh_65 (by decide) (ty_65 _) (by omega) (by omega) rfl (fun b128451 b128452 => ?_))
        refine wp_of e235 c235_60 (rw_imul (pc' := 61) rfl ?_)
        refine wp_of e235 c235_61 (rw_aload_n (pc' := 62) (v := .ref r1) rfl rfl rfl ?_)
        refine wp_of e235 c235_62 (rw_aload_n (pc' := 63) (v := .ref r0) rfl rfl rfl ?_)
        refine wp_of e235 c235_63 (xg_K (pc' := 66) lf_9_337 hW g0 sh_42 (by decide) (by decide) rfl qpp rfl ?_)
        refine wp_of e235 c235_66 (xg_K (pc' := 69) lf_9_285 hW gpp sh_54 (by decide) (by decide) rfl q128449 rfl ?_)
        refine wp_of e235 c235_69 (rw_iload_n (pc' := 70) (z := v128424) rfl rfl ?_)
        refine wp_of e235 c235_70 (xa_I (so := 0) (pc' := 71) hW g128450 sh_65 (by decide) (ty_65 _) (by omega) (by omega) rfl (fun b128453 b128454 => ?_))
        refine wp_of e235 c235_71 (xa_I (so := 0) (pc' := 72) hW g1 sh_50 (by decide) (ty_50 _) (by omega) (by omega) rfl (fun b128455 b128456 => ?_))
        refine wp_of e235 c235_72 (rw_iadd (pc' := 73) rfl ?_)
        refine wp_of e235 c235_73 (xa_I (so := 0) (pc' := 74) hW g128436 sh_48 (by decide) (ty_48 _) (by omega) (by omega) rfl (fun b128457 b128458 => ?_))
        refine wp_of e235 c235_74 (rw_iand (pc' := 75) rfl ?_)
        obtain ⟨v128459, e128460⟩ : ∃ x : Int, x = wq_and (H r128434 (((40 * (H r128437 (v128424.toNat))) + (H r1 ((H r128437 (v128424.toNat)).toNat))).toNat)) (H r128434 (((40 * (H r128448 (v128424.toNat))) + (H r1 ((H r128448 (v128424.toNat)).toNat))).toNat)) := ⟨_, rfl⟩
        rw [← e128460]
        have b128461 : -2147483648 ≤ v128459 ∧ v128459 ≤ 2147483647 := by
          rw [e128460]
          exact wI_and _ _
        refine wp_of e235 c235_75 (rw_ior (pc' := 76) rfl ?_)
        obtain ⟨v128462, e128463⟩ : ∃ x : Int, x = wq_or v128425 v128459 := ⟨_, rfl⟩
        rw [← e128463]
        have b128464 : -2147483648 ≤ v128462 ∧ v128462 ≤ 2147483647 := by
          rw [e128463]
          exact wI_or _ _
        refine wp_of e235 c235_76 (rw_istore_n (pc' := 77) (z := v128462) (L' := [(2, vI v128462), (3, vI v128424), (0, .ref r0), (1, .ref r1)]) rfl rfl rfl ?_)
        refine wp_of e235 c235_77 (rw_iinc (pc' := 80) (z := v128424) (L' := [(3, vI (v128424 + 1)), (2, vI v128462), (0, .ref r0), (1, .ref r1)]) rfl rfl rfl rfl ?_)
        refine wp_of e235 c235_80 (rw_goto (p1 := 4) (by decide) ?_)
        exact wp_lc (ks := [3, 2, 0, 1]) (wl_c rfl (wl_c rfl (wl_c rfl (wl_c rfl wl_n)))) rfl (by decide) (ih128423 _ (by omega) (v128424 + 1) v128462 ⟨by omega, by omega⟩ ⟨by omega, by omega⟩ rfl)
  exact wp_lc (ks := [3, 2, 0, 1]) (wl_c rfl (wl_c rfl (wl_c rfl (wl_c rfl wl_n)))) rfl (by decide) (lp128421 _ 0 0 ⟨by omega, by omega⟩ ⟨by omega, by omega⟩ rfl)
/-! StrikeAwakeModel.wrongIn(I)I -/
theorem e233 : wq_en 233 = some (9, 2, false, some FieldType.int) := rfl
theorem c233_0 : mc_cd 233 0 = some (.aload_n 0, 1) := by decide +kernel
theorem c233_1 : mc_cd 233 1 = some (.getfield 17, 3) := by decide +kernel
theorem c233_4 : mc_cd 233 4 = some (.iload_n 1, 1) := by decide +kernel
theorem c233_5 : mc_cd 233 5 = some (.iaload, 1) := by decide +kernel
theorem c233_6 : mc_cd 233 6 = some (.ifCond .le 19, 3) := by decide +kernel
theorem c233_9 : mc_cd 233 9 = some (.aload_n 0, 1) := by decide +kernel
theorem c233_10 : mc_cd 233 10 = some (.aload_n 0, 1) := by decide +kernel
theorem c233_11 : mc_cd 233 11 = some (.getfield 36, 3) := by decide +kernel
theorem c233_14 : mc_cd 233 14 = some (.iload_n 1, 1) := by decide +kernel
theorem c233_15 : mc_cd 233 15 = some (.invokevirtual 390, 3) := by decide +kernel
theorem c233_18 : mc_cd 233 18 = some (.ifCond .le 7, 3) := by decide +kernel
theorem c233_21 : mc_cd 233 21 = some (.iconst 1, 1) := by decide +kernel
theorem c233_22 : mc_cd 233 22 = some (.goto 23, 3) := by decide +kernel
theorem c233_25 : mc_cd 233 25 = some (.aload_n 0, 1) := by decide +kernel
theorem c233_26 : mc_cd 233 26 = some (.aload_n 0, 1) := by decide +kernel
theorem c233_27 : mc_cd 233 27 = some (.getfield 36, 3) := by decide +kernel
theorem c233_30 : mc_cd 233 30 = some (.invokevirtual 393, 3) := by decide +kernel
theorem c233_33 : mc_cd 233 33 = some (.iload_n 1, 1) := by decide +kernel
theorem c233_34 : mc_cd 233 34 = some (.invokestatic 346, 3) := by decide +kernel
theorem c233_37 : mc_cd 233 37 = some (.ifCond .eq 7, 3) := by decide +kernel
theorem c233_40 : mc_cd 233 40 = some (.iconst 2, 1) := by decide +kernel
theorem c233_41 : mc_cd 233 41 = some (.goto 4, 3) := by decide +kernel
theorem c233_44 : mc_cd 233 44 = some (.iconst 0, 1) := by decide +kernel
theorem c233_45 : mc_cd 233 45 = some (.ireturn, 1) := by decide +kernel
abbrev q_233 (r0 : Nat) (a1 : Int) (pp : Nat) (T : wq_T) (H : wq_H) : Option Value → wq_T → wq_H → Prop := fun r T' H' => T = T' ∧ H = H' ∧ ∃ z : Int, some (vI z) = r ∧ (0 ≤ z ∧ z ≤ 2)
set_option maxHeartbeats 4000000 in
theorem s_233 {kt : Nat → Option mc_E} {T : wq_T} {H : wq_H} {r0 : Nat} {a1 : Int} {pp : Nat} (hW : WT T H) (g0 : T.2.2.2 r0 = some 42) (i1 : 0 ≤ a1 ∧ a1 ≤ 23) (qpp : H r0 3 = (pp : Int)) (gpp : T.2.2.2 pp = some 54) : wpc kt 4 233 [.ref r0, vI a1] T H (q_233 r0 a1 pp T H) := by
  refine wp_enter e233 (Nat.le_of_ble_eq_true rfl) rfl ?_
  show wp _ _ 233 0 [(0, .ref r0), (1, vI a1)] [] _ H _
  refine wp_of e233 c233_0 (rw_aload_n (pc' := 1) (v := .ref r0) rfl rfl rfl ?_)
  refine wp_of e233 c233_1 (xg_R (pc' := 4) lf_9_17 hW g0 sh_42 (by decide) (by decide) ty_42_20 rfl rfl (fun r128525 q128526 g128527 => ?_))
  refine wp_of e233 c233_4 (rw_iload_n (pc' := 5) (z := a1) rfl rfl ?_)
  refine wp_of e233 c233_5 (xa_I (so := 0) (pc' := 6) hW g128527 sh_44 (by decide) (ty_44 _) (by omega) (by omega) rfl (fun b128528 b128529 => ?_))
  refine wp_of e233 c233_6 (rw_if_le (p1 := 25) (p2 := 9) (by decide) rfl ⟨by omega, by omega⟩ (fun c128530 => ?_) (fun c128530 => ?_))
  · refine wp_of e233 c233_25 (rw_aload_n (pc' := 26) (v := .ref r0) rfl rfl rfl ?_)
    refine wp_of e233 c233_26 (rw_aload_n (pc' := 27) (v := .ref r0) rfl rfl rfl ?_)
    refine wp_of e233 c233_27 (xg_R (pc' := 30) lf_9_36 hW g0 sh_42 (by decide) (by decide) ty_42_26 rfl rfl (fun r128531 q128532 g128533 => ?_))
    refine wp_of e233 c233_30 (xc_V (pc' := 33) (r := r0) (as := [.ref r128531]) (st := []) (lm_9_393) rfl rfl (Nat.le_of_ble_eq_true rfl) hW g0 sh_42 (by decide) rfl (by decide) (s_235_m_said hW g0 g128533 qpp gpp) (fun R128534 T128535 H128536 p128537 => ?_))
    obtain ⟨e128538, e128540, z128541, e128539, b128542⟩ := p128537
    subst e128538
    subst e128539
    subst e128540
    show wp _ _ 233 33 [(0, .ref r0), (1, vI a1)] [vI z128541] _ H _
    refine wp_of e233 c233_33 (rw_iload_n (pc' := 34) (z := a1) rfl rfl ?_)
    refine wp_of e233 c233_34 (xc_S (pc' := 37) (as := [vI z128541, vI a1]) (st := []) (lm_9_346) rfl rfl (Nat.le_of_ble_eq_true rfl) rfl (by decide) (s_205 hW ⟨by omega, by omega⟩ ⟨by omega, by omega⟩) (fun R128543 T128544 H128545 p128546 => ?_))
    obtain ⟨e128547, e128549, z128550, e128548, b128551⟩ := p128546
    subst e128547
    subst e128548
    subst e128549
    show wp _ _ 233 37 [(0, .ref r0), (1, vI a1)] [vI z128550] _ H _
    refine wp_of e233 c233_37 (rw_if_eq (p1 := 44) (p2 := 40) (by decide) rfl ⟨by omega, by omega⟩ (fun c128552 => ?_) (fun c128552 => ?_))
    · refine wp_of e233 c233_44 (rw_iconst (pc' := 45) rfl ?_)
      exact wp_ireturn e233 c233_45 rfl ⟨rfl, rfl, 0, rfl, ⟨by omega, by omega⟩⟩
    · refine wp_of e233 c233_40 (rw_iconst (pc' := 41) rfl ?_)
      refine wp_of e233 c233_41 (rw_goto (p1 := 45) (by decide) ?_)
      exact wp_ireturn e233 c233_45 rfl ⟨rfl, rfl, 2, rfl, ⟨by omega, by omega⟩⟩
  · refine wp_of e233 c233_9 (rw_aload_n (pc' := 10) (v := .ref r0) rfl rfl rfl ?_)
    refine wp_of e233 c233_10 (rw_aload_n (pc' := 11) (v := .ref r0) rfl rfl rfl ?_)
    refine wp_of e233 c233_11 (xg_R (pc' := 14) lf_9_36 hW g0 sh_42 (by decide) (by decide) ty_42_26 rfl rfl (fun r128553 q128554 g128555 => ?_))
    refine wp_of e233 c233_14 (rw_iload_n (pc' := 15) (z := a1) rfl rfl ?_)
    refine wp_of e233 c233_15 (xc_V (pc' := 18) (r := r0) (as := [.ref r128553, vI a1]) (st := []) (lm_9_390) rfl rfl (Nat.le_of_ble_eq_true rfl) hW g0 sh_42 (by decide) rfl (by decide) (s_234_m_said hW g0 g128555 ⟨by omega, by omega⟩ qpp gpp) (fun R128556 T128557 H128558 p128559 => ?_))
    obtain ⟨e128560, e128562, z128563, e128561, b128564⟩ := p128559
    subst e128560
    subst e128561
    subst e128562
    show wp _ _ 233 18 [(0, .ref r0), (1, vI a1)] [vI z128563] _ H _
    refine wp_of e233 c233_18 (rw_if_le (p1 := 25) (p2 := 21) (by decide) rfl ⟨by omega, by omega⟩ (fun c128565 => ?_) (fun c128565 => ?_))
    · refine wp_of e233 c233_25 (rw_aload_n (pc' := 26) (v := .ref r0) rfl rfl rfl ?_)
      refine wp_of e233 c233_26 (rw_aload_n (pc' := 27) (v := .ref r0) rfl rfl rfl ?_)
      refine wp_of e233 c233_27 (xg_K (pc' := 30) lf_9_36 hW g0 sh_42 (by decide) (by decide) rfl q128554 rfl ?_)
      refine wp_of e233 c233_30 (xc_V (pc' := 33) (r := r0) (as := [.ref r128553]) (st := []) (lm_9_393) rfl rfl (Nat.le_of_ble_eq_true rfl) hW g0 sh_42 (by decide) rfl (by decide) (s_235_m_said hW g0 g128555 qpp gpp) (fun R128566 T128567 H128568 p128569 => ?_))
      obtain ⟨e128570, e128572, z128573, e128571, b128574⟩ := p128569
      subst e128570
      subst e128571
      subst e128572
      show wp _ _ 233 33 [(0, .ref r0), (1, vI a1)] [vI z128573] _ H _
      refine wp_of e233 c233_33 (rw_iload_n (pc' := 34) (z := a1) rfl rfl ?_)
      refine wp_of e233 c233_34 (xc_S (pc' := 37) (as := [vI z128573, vI a1]) (st := []) (lm_9_346) rfl rfl (Nat.le_of_ble_eq_true rfl) rfl (by decide) (s_205 hW ⟨by omega, by omega⟩ ⟨by omega, by omega⟩) (fun R128575 T128576 H128577 p128578 => ?_))
      obtain ⟨e128579, e128581, z128582, e128580, b128583⟩ := p128578
      subst e128579
      subst e128580
      subst e128581
      show wp _ _ 233 37 [(0, .ref r0), (1, vI a1)] [vI z128582] _ H _
      refine wp_of e233 c233_37 (rw_if_eq (p1 := 44) (p2 := 40) (by decide) rfl ⟨by omega, by omega⟩ (fun c128584 => ?_) (fun c128584 => ?_))
      · refine wp_of e233 c233_44 (rw_iconst (pc' := 45) rfl ?_)
        exact wp_ireturn e233 c233_45 rfl ⟨rfl, rfl, 0, rfl, ⟨by omega, by omega⟩⟩
      · refine wp_of e233 c233_40 (rw_iconst (pc' := 41) rfl ?_)
        refine wp_of e233 c233_41 (rw_goto (p1 := 45) (by decide) ?_)
        exact wp_ireturn e233 c233_45 rfl ⟨rfl, rfl, 2, rfl, ⟨by omega, by omega⟩⟩
    · refine wp_of e233 c233_21 (rw_iconst (pc' := 22) rfl ?_)
      refine wp_of e233 c233_22 (rw_goto (p1 := 45) (by decide) ?_)
      exact wp_ireturn e233 c233_45 rfl ⟨rfl, rfl, 1, rfl, ⟨by omega, by omega⟩⟩
/-! StrikeAwakeModel.firstWrong()I -/
theorem e232 : wq_en 232 = some (9, 2, false, some FieldType.int) := rfl
theorem c232_0 : mc_cd 232 0 = some (.iconst 0, 1) := by decide +kernel
theorem c232_1 : mc_cd 232 1 = some (.istore_n 1, 1) := by decide +kernel
theorem c232_2 : mc_cd 232 2 = some (.iload_n 1, 1) := by decide +kernel
theorem c232_3 : mc_cd 232 3 = some (.aload_n 0, 1) := by decide +kernel
theorem c232_4 : mc_cd 232 4 = some (.getfield 337, 3) := by decide +kernel
theorem c232_7 : mc_cd 232 7 = some (.getfield 185, 3) := by decide +kernel
theorem c232_10 : mc_cd 232 10 = some (.if_icmp .ge 19, 3) := by decide +kernel
theorem c232_13 : mc_cd 232 13 = some (.aload_n 0, 1) := by decide +kernel
theorem c232_14 : mc_cd 232 14 = some (.iload_n 1, 1) := by decide +kernel
theorem c232_15 : mc_cd 232 15 = some (.invokevirtual 409, 3) := by decide +kernel
theorem c232_18 : mc_cd 232 18 = some (.ifCond .le 5, 3) := by decide +kernel
theorem c232_21 : mc_cd 232 21 = some (.iload_n 1, 1) := by decide +kernel
theorem c232_22 : mc_cd 232 22 = some (.ireturn, 1) := by decide +kernel
theorem c232_23 : mc_cd 232 23 = some (.iinc 1 1, 3) := by decide +kernel
theorem c232_26 : mc_cd 232 26 = some (.goto (-24), 3) := by decide +kernel
theorem c232_29 : mc_cd 232 29 = some (.bipush (-2), 2) := by decide +kernel
theorem c232_31 : mc_cd 232 31 = some (.ireturn, 1) := by decide +kernel
abbrev q_232 (r0 : Nat) (pp : Nat) (T : wq_T) (H : wq_H) : Option Value → wq_T → wq_H → Prop := fun r T' H' => T = T' ∧ H = H' ∧ ∃ z : Int, some (vI z) = r ∧ ((-2) ≤ z ∧ z ≤ 23)
set_option maxHeartbeats 4000000 in
theorem s_232 {kt : Nat → Option mc_E} {T : wq_T} {H : wq_H} {r0 : Nat} {pp : Nat} (hW : WT T H) (g0 : T.2.2.2 r0 = some 42) (qpp : H r0 3 = (pp : Int)) (gpp : T.2.2.2 pp = some 54) : wpc kt 5 232 [.ref r0] T H (q_232 r0 pp T H) := by
  refine wp_enter e232 (Nat.le_of_ble_eq_true rfl) rfl ?_
  show wp _ _ 232 0 [(0, .ref r0)] [] _ H _
  refine wp_of e232 c232_0 (rw_iconst (pc' := 1) rfl ?_)
  refine wp_of e232 c232_1 (rw_istore_n (pc' := 2) (z := 0) (L' := [(1, vI 0), (0, .ref r0)]) rfl rfl rfl ?_)
  have lp128839 : ∀ (n128840 : Nat) (v128842 : Int), (0 ≤ v128842 ∧ v128842 ≤ 24) → (24 - v128842).toNat = n128840 → wp kt 4 232 2 [(1, vI v128842), (0, .ref r0)] [] T H (q_232 r0 pp T H) := by
    intro n128840
    induction n128840 using Nat.strongRecOn with
    | _ n128840 ih128841 =>
      intro v128842 b128845 m128846
      refine wp_of e232 c232_2 (rw_iload_n (pc' := 3) (z := v128842) rfl rfl ?_)
      refine wp_of e232 c232_3 (rw_aload_n (pc' := 4) (v := .ref r0) rfl rfl rfl ?_)
      refine wp_of e232 c232_4 (xg_K (pc' := 7) lf_9_337 hW g0 sh_42 (by decide) (by decide) rfl qpp rfl ?_)
      refine wp_of e232 c232_7 (xg_I (pc' := 10) lf_9_185 hW gpp sh_54 (by decide) (by decide) ty_54_0 rfl rfl (fun b128847 b128848 => ?_))
      refine wp_of e232 c232_10 (rw_icmp_ge (p1 := 29) (p2 := 13) (by decide) rfl ⟨by omega, by omega⟩ ⟨by omega, by omega⟩ (fun c128849 => ?_) (fun c128849 => ?_))
      · refine wp_of e232 c232_29 (rw_bipush (pc' := 31) (z := -2) rfl (by decide) ?_)
        exact wp_ireturn e232 c232_31 rfl ⟨rfl, rfl, -2, rfl, ⟨by omega, by omega⟩⟩
      · refine wp_of e232 c232_13 (rw_aload_n (pc' := 14) (v := .ref r0) rfl rfl rfl ?_)
        refine wp_of e232 c232_14 (rw_iload_n (pc' := 15) (z := v128842) rfl rfl ?_)
        refine wp_of e232 c232_15 (xc_V (pc' := 18) (r := r0) (as := [vI v128842]) (st := []) (lm_9_409) rfl rfl (Nat.le_of_ble_eq_true rfl) hW g0 sh_42 (by decide) rfl (by decide) (s_233 hW g0 ⟨by omega, by omega⟩ qpp gpp) (fun R128850 T128851 H128852 p128853 => ?_))
        obtain ⟨e128854, e128856, z128857, e128855, b128858⟩ := p128853
        subst e128854
        subst e128855
        subst e128856
        show wp _ _ 232 18 [(1, vI v128842), (0, .ref r0)] [vI z128857] _ H _
        refine wp_of e232 c232_18 (rw_if_le (p1 := 23) (p2 := 21) (by decide) rfl ⟨by omega, by omega⟩ (fun c128859 => ?_) (fun c128859 => ?_))
        · refine wp_of e232 c232_23 (rw_iinc (pc' := 26) (z := v128842) (L' := [(1, vI (v128842 + 1)), (0, .ref r0)]) rfl rfl rfl rfl ?_)
          refine wp_of e232 c232_26 (rw_goto (p1 := 2) (by decide) ?_)
          exact wp_lc (ks := [1, 0]) (wl_c rfl (wl_c rfl wl_n)) rfl (by decide) (ih128841 _ (by omega) (v128842 + 1) ⟨by omega, by omega⟩ rfl)
        · refine wp_of e232 c232_21 (rw_iload_n (pc' := 22) (z := v128842) rfl rfl ?_)
          exact wp_ireturn e232 c232_22 rfl ⟨rfl, rfl, v128842, rfl, ⟨by omega, by omega⟩⟩
  exact wp_lc (ks := [1, 0]) (wl_c rfl (wl_c rfl wl_n)) rfl (by decide) (lp128839 _ 0 ⟨by omega, by omega⟩ rfl)
/-! StrikeAwakeModel.judge()I -/
theorem e230 : wq_en 230 = some (9, 2, false, some FieldType.int) := rfl
theorem c230_0 : mc_cd 230 0 = some (.aload_n 0, 1) := by decide +kernel
theorem c230_1 : mc_cd 230 1 = some (.iconst 0, 1) := by decide +kernel
theorem c230_2 : mc_cd 230 2 = some (.putfield 48, 3) := by decide +kernel
theorem c230_5 : mc_cd 230 5 = some (.aload_n 0, 1) := by decide +kernel
theorem c230_6 : mc_cd 230 6 = some (.invokevirtual 412, 3) := by decide +kernel
theorem c230_9 : mc_cd 230 9 = some (.istore_n 1, 1) := by decide +kernel
theorem c230_10 : mc_cd 230 10 = some (.iload_n 1, 1) := by decide +kernel
theorem c230_11 : mc_cd 230 11 = some (.ifCond .le 11, 3) := by decide +kernel
theorem c230_14 : mc_cd 230 14 = some (.aload_n 0, 1) := by decide +kernel
theorem c230_15 : mc_cd 230 15 = some (.iload_n 1, 1) := by decide +kernel
theorem c230_16 : mc_cd 230 16 = some (.invokevirtual 54, 3) := by decide +kernel
theorem c230_19 : mc_cd 230 19 = some (.goto 11, 3) := by decide +kernel
theorem c230_22 : mc_cd 230 22 = some (.aload_n 0, 1) := by decide +kernel
theorem c230_23 : mc_cd 230 23 = some (.aload_n 0, 1) := by decide +kernel
theorem c230_24 : mc_cd 230 24 = some (.invokevirtual 415, 3) := by decide +kernel
theorem c230_27 : mc_cd 230 27 = some (.invokevirtual 58, 3) := by decide +kernel
theorem c230_30 : mc_cd 230 30 = some (.ireturn, 1) := by decide +kernel
abbrev q_230 (r0 : Nat) (T : wq_T) (H : wq_H) : Option Value → wq_T → wq_H → Prop := fun r T' H' => T = T' ∧ WT T H' ∧ wfr [(42, 0), (42, 1), (42, 2)] T H H' ∧ ∃ z : Int, some (vI z) = r ∧ ((-2147483648) ≤ z ∧ z ≤ 2147483647) ∧ (wKI H' r0 = 1)
set_option maxHeartbeats 4000000 in
theorem s_230 {kt : Nat → Option mc_E} {T : wq_T} {H : wq_H} {r0 : Nat} (hW : WT T H) (g0 : T.2.2.2 r0 = some 42) (p0 : wKI H r0 = 1) : wpc kt 6 230 [.ref r0] T H (q_230 r0 T H) := by
  refine wp_enter e230 (Nat.le_of_ble_eq_true rfl) rfl ?_
  have f0 : wfr [(42, 0), (42, 1), (42, 2)] T H H := wfr.rf
  show wp _ _ 230 0 [(0, .ref r0)] [] _ H _
  refine wp_of e230 c230_0 (rw_aload_n (pc' := 1) (v := .ref r0) rfl rfl rfl ?_)
  refine wp_of e230 c230_1 (rw_iconst (pc' := 2) rfl ?_)
  refine wp_of e230 c230_2 (xp_I (pc' := 5) lf_9_48 hW g0 sh_42 (by decide) (by decide) ty_42_0 rfl rfl (by omega) (by omega) ⟨by omega, by omega⟩ rfl (fun H128912 e128913 w128914 => ?_))
  have f128915 := f0.put' e128913 g0 rfl
  have k128916 : H128912 r0 0 = 0 := wq_u_s e128913
  refine wp_of e230 c230_5 (rw_aload_n (pc' := 6) (v := .ref r0) rfl rfl rfl ?_)
  refine wp_of e230 c230_6 (xc_V (pc' := 9) (r := r0) (as := []) (st := []) (lm_9_412) rfl rfl (Nat.le_of_ble_eq_true rfl) w128914 g0 sh_42 (by decide) rfl (by decide) (s_231 w128914 g0) (fun R128917 T128918 H128919 p128920 => ?_))
  obtain ⟨e128921, e128923, z128925, e128922, b128926, p128924⟩ := p128920
  subst e128921
  subst e128922
  subst e128923
  show wp _ _ 230 9 [(0, .ref r0)] [vI z128925] _ H128912 _
  refine wp_of e230 c230_9 (rw_istore_n (pc' := 10) (z := z128925) (L' := [(1, vI z128925), (0, .ref r0)]) rfl rfl rfl ?_)
  refine wp_of e230 c230_10 (rw_iload_n (pc' := 11) (z := z128925) rfl rfl ?_)
  refine wp_of e230 c230_11 (rw_if_le (p1 := 22) (p2 := 14) (by decide) rfl ⟨by omega, by omega⟩ (fun c128927 => ?_) (fun c128927 => ?_))
  · refine wp_of e230 c230_22 (rw_aload_n (pc' := 23) (v := .ref r0) rfl rfl rfl ?_)
    refine wp_of e230 c230_23 (rw_aload_n (pc' := 24) (v := .ref r0) rfl rfl rfl ?_)
    obtain ⟨r128928, q128929, g128930⟩ := (w128914.opt g0 (t' := 54) (n := 33) (j := 3) (p := 0) (q := 0) rfl (by decide) rfl).resolve_left (by omega)
    refine wp_of e230 c230_24 (xc_V (pc' := 27) (r := r0) (as := []) (st := [.ref r0]) (lm_9_415) rfl rfl (Nat.le_of_ble_eq_true rfl) w128914 g0 sh_42 (by decide) rfl (by decide) (s_232 w128914 g0 q128929 g128930) (fun R128931 T128932 H128933 p128934 => ?_))
    obtain ⟨e128935, e128937, z128938, e128936, b128939⟩ := p128934
    subst e128935
    subst e128936
    subst e128937
    show wp _ _ 230 27 [(1, vI z128925), (0, .ref r0)] [vI z128938, .ref r0] _ H128912 _
    refine wp_of e230 c230_27 (xc_V (pc' := 30) (r := r0) (as := [vI z128938]) (st := []) (lm_9_58) rfl rfl (Nat.le_of_ble_eq_true rfl) w128914 g0 sh_42 (by decide) rfl (by decide) (s_209 w128914 g0 ⟨by omega, by omega⟩) (fun R128940 T128941 H128942 p128943 => ?_))
    obtain ⟨e128944, w128946, f128947, z128948, e128945, b128949⟩ := p128943
    subst e128944
    subst e128945
    have f128950 := f128915.tr f128947 rfl
    show wp _ _ 230 30 [(1, vI z128925), (0, .ref r0)] [vI z128948] _ H128942 _
    have k128951 : wKI H128942 r0 = wKI H r0 := ((wKI_fr w128914 g0 f128947 rfl).trans (wKI_fr hW g0 ((wfr.rf (l := [(42, 0)])).put' e128913 g0 rfl) rfl))
    exact wp_ireturn e230 c230_30 rfl ⟨rfl, w128946, f128950, z128948, rfl, ⟨by omega, by omega⟩, by omega⟩
  · refine wp_of e230 c230_14 (rw_aload_n (pc' := 15) (v := .ref r0) rfl rfl rfl ?_)
    refine wp_of e230 c230_15 (rw_iload_n (pc' := 16) (z := z128925) rfl rfl ?_)
    refine wp_of e230 c230_16 (xc_V (pc' := 19) (r := r0) (as := [vI z128925]) (st := []) (lm_9_54) rfl rfl (Nat.le_of_ble_eq_true rfl) w128914 g0 sh_42 (by decide) rfl (by decide) (s_170 w128914 g0 ⟨by omega, by omega⟩) (fun R128952 T128953 H128954 p128955 => ?_))
    obtain ⟨e128956, w128958, f128959, z128960, e128957, b128961⟩ := p128955
    subst e128956
    subst e128957
    have f128962 := f128915.tr f128959 rfl
    show wp _ _ 230 19 [(1, vI z128925), (0, .ref r0)] [vI z128960] _ H128954 _
    refine wp_of e230 c230_19 (rw_goto (p1 := 30) (by decide) ?_)
    have k128963 : wKI H128954 r0 = wKI H r0 := ((wKI_fr w128914 g0 f128959 rfl).trans (wKI_fr hW g0 ((wfr.rf (l := [(42, 0)])).put' e128913 g0 rfl) rfl))
    exact wp_ireturn e230 c230_30 rfl ⟨rfl, w128958, f128962, z128960, rfl, ⟨by omega, by omega⟩, by omega⟩
/-! StrikeAwakeModel.why()I -/
theorem e236 : wq_en 236 = some (9, 3, false, some FieldType.int) := rfl
theorem c236_0 : mc_cd 236 0 = some (.aload_n 0, 1) := by decide +kernel
theorem c236_1 : mc_cd 236 1 = some (.iconst 0, 1) := by decide +kernel
theorem c236_2 : mc_cd 236 2 = some (.putfield 48, 3) := by decide +kernel
theorem c236_5 : mc_cd 236 5 = some (.aload_n 0, 1) := by decide +kernel
theorem c236_6 : mc_cd 236 6 = some (.invokevirtual 412, 3) := by decide +kernel
theorem c236_9 : mc_cd 236 9 = some (.istore_n 1, 1) := by decide +kernel
theorem c236_10 : mc_cd 236 10 = some (.iload_n 1, 1) := by decide +kernel
theorem c236_11 : mc_cd 236 11 = some (.ifCond .le 9, 3) := by decide +kernel
theorem c236_14 : mc_cd 236 14 = some (.aload_n 0, 1) := by decide +kernel
theorem c236_15 : mc_cd 236 15 = some (.iload_n 1, 1) := by decide +kernel
theorem c236_16 : mc_cd 236 16 = some (.invokevirtual 54, 3) := by decide +kernel
theorem c236_19 : mc_cd 236 19 = some (.ireturn, 1) := by decide +kernel
theorem c236_20 : mc_cd 236 20 = some (.aload_n 0, 1) := by decide +kernel
theorem c236_21 : mc_cd 236 21 = some (.invokevirtual 415, 3) := by decide +kernel
theorem c236_24 : mc_cd 236 24 = some (.istore_n 2, 1) := by decide +kernel
theorem c236_25 : mc_cd 236 25 = some (.aload_n 0, 1) := by decide +kernel
theorem c236_26 : mc_cd 236 26 = some (.iload_n 2, 1) := by decide +kernel
theorem c236_27 : mc_cd 236 27 = some (.bipush (-2), 2) := by decide +kernel
theorem c236_29 : mc_cd 236 29 = some (.if_icmp .ne 7, 3) := by decide +kernel
theorem c236_32 : mc_cd 236 32 = some (.iconst 0, 1) := by decide +kernel
theorem c236_33 : mc_cd 236 33 = some (.goto 8, 3) := by decide +kernel
theorem c236_36 : mc_cd 236 36 = some (.aload_n 0, 1) := by decide +kernel
theorem c236_37 : mc_cd 236 37 = some (.iload_n 2, 1) := by decide +kernel
theorem c236_38 : mc_cd 236 38 = some (.invokevirtual 409, 3) := by decide +kernel
theorem c236_41 : mc_cd 236 41 = some (.invokevirtual 58, 3) := by decide +kernel
theorem c236_44 : mc_cd 236 44 = some (.ireturn, 1) := by decide +kernel
abbrev q_236 (r0 : Nat) (T : wq_T) (H : wq_H) : Option Value → wq_T → wq_H → Prop := fun r T' H' => T = T' ∧ WT T H' ∧ wfr [(42, 0), (42, 1), (42, 2)] T H H' ∧ ∃ z : Int, some (vI z) = r ∧ ((-2147483648) ≤ z ∧ z ≤ 2147483647) ∧ (wKI H' r0 = 1)
set_option maxHeartbeats 4000000 in
theorem s_236 {kt : Nat → Option mc_E} {T : wq_T} {H : wq_H} {r0 : Nat} (hW : WT T H) (g0 : T.2.2.2 r0 = some 42) (p0 : wKI H r0 = 1) : wpc kt 6 236 [.ref r0] T H (q_236 r0 T H) := by
  refine wp_enter e236 (Nat.le_of_ble_eq_true rfl) rfl ?_
  have f0 : wfr [(42, 0), (42, 1), (42, 2)] T H H := wfr.rf
  show wp _ _ 236 0 [(0, .ref r0)] [] _ H _
  refine wp_of e236 c236_0 (rw_aload_n (pc' := 1) (v := .ref r0) rfl rfl rfl ?_)
  refine wp_of e236 c236_1 (rw_iconst (pc' := 2) rfl ?_)
  refine wp_of e236 c236_2 (xp_I (pc' := 5) lf_9_48 hW g0 sh_42 (by decide) (by decide) ty_42_0 rfl rfl (by omega) (by omega) ⟨by omega, by omega⟩ rfl (fun H129038 e129039 w129040 => ?_))
  have f129041 := f0.put' e129039 g0 rfl
  have k129042 : H129038 r0 0 = 0 := wq_u_s e129039
  refine wp_of e236 c236_5 (rw_aload_n (pc' := 6) (v := .ref r0) rfl rfl rfl ?_)
  refine wp_of e236 c236_6 (xc_V (pc' := 9) (r := r0) (as := []) (st := []) (lm_9_412) rfl rfl (Nat.le_of_ble_eq_true rfl) w129040 g0 sh_42 (by decide) rfl (by decide) (s_231 w129040 g0) (fun R129043 T129044 H129045 p129046 => ?_))
  obtain ⟨e129047, e129049, z129051, e129048, b129052, p129050⟩ := p129046
  subst e129047
  subst e129048
  subst e129049
  show wp _ _ 236 9 [(0, .ref r0)] [vI z129051] _ H129038 _
  refine wp_of e236 c236_9 (rw_istore_n (pc' := 10) (z := z129051) (L' := [(1, vI z129051), (0, .ref r0)]) rfl rfl rfl ?_)
  refine wp_of e236 c236_10 (rw_iload_n (pc' := 11) (z := z129051) rfl rfl ?_)
  refine wp_of e236 c236_11 (rw_if_le (p1 := 20) (p2 := 14) (by decide) rfl ⟨by omega, by omega⟩ (fun c129053 => ?_) (fun c129053 => ?_))
  · refine wp_of e236 c236_20 (rw_aload_n (pc' := 21) (v := .ref r0) rfl rfl rfl ?_)
    obtain ⟨r129054, q129055, g129056⟩ := (w129040.opt g0 (t' := 54) (n := 33) (j := 3) (p := 0) (q := 0) rfl (by decide) rfl).resolve_left (by omega)
    refine wp_of e236 c236_21 (xc_V (pc' := 24) (r := r0) (as := []) (st := []) (lm_9_415) rfl rfl (Nat.le_of_ble_eq_true rfl) w129040 g0 sh_42 (by decide) rfl (by decide) (s_232 w129040 g0 q129055 g129056) (fun R129057 T129058 H129059 p129060 => ?_))
    obtain ⟨e129061, e129063, z129064, e129062, b129065⟩ := p129060
    subst e129061
    subst e129062
    subst e129063
    show wp _ _ 236 24 [(1, vI z129051), (0, .ref r0)] [vI z129064] _ H129038 _
    refine wp_of e236 c236_24 (rw_istore_n (pc' := 25) (z := z129064) (L' := [(2, vI z129064), (1, vI z129051), (0, .ref r0)]) rfl rfl rfl ?_)
    refine wp_of e236 c236_25 (rw_aload_n (pc' := 26) (v := .ref r0) rfl rfl rfl ?_)
    refine wp_of e236 c236_26 (rw_iload_n (pc' := 27) (z := z129064) rfl rfl ?_)
    refine wp_of e236 c236_27 (rw_bipush (pc' := 29) (z := -2) rfl (by decide) ?_)
    refine wp_of e236 c236_29 (rw_icmp_ne (p1 := 36) (p2 := 32) (by decide) rfl ⟨by omega, by omega⟩ ⟨by omega, by omega⟩ (fun c129066 => ?_) (fun c129066 => ?_))
    · refine wp_of e236 c236_36 (rw_aload_n (pc' := 37) (v := .ref r0) rfl rfl rfl ?_)
      refine wp_of e236 c236_37 (rw_iload_n (pc' := 38) (z := z129064) rfl rfl ?_)
      refine wp_of e236 c236_38 (xc_V (pc' := 41) (r := r0) (as := [vI z129064]) (st := [.ref r0]) (lm_9_409) rfl rfl (Nat.le_of_ble_eq_true rfl) w129040 g0 sh_42 (by decide) rfl (by decide) (s_233 w129040 g0 ⟨by omega, by omega⟩ q129055 g129056) (fun R129067 T129068 H129069 p129070 => ?_))
      obtain ⟨e129071, e129073, z129074, e129072, b129075⟩ := p129070
      subst e129071
      subst e129072
      subst e129073
      show wp _ _ 236 41 [(2, vI z129064), (1, vI z129051), (0, .ref r0)] [vI z129074, .ref r0] _ H129038 _
      refine wp_of e236 c236_41 (xc_V (pc' := 44) (r := r0) (as := [vI z129074]) (st := []) (lm_9_58) rfl rfl (Nat.le_of_ble_eq_true rfl) w129040 g0 sh_42 (by decide) rfl (by decide) (s_209 w129040 g0 ⟨by omega, by omega⟩) (fun R129076 T129077 H129078 p129079 => ?_))
      obtain ⟨e129080, w129082, f129083, z129084, e129081, b129085⟩ := p129079
      subst e129080
      subst e129081
      have f129086 := f129041.tr f129083 rfl
      show wp _ _ 236 44 [(2, vI z129064), (1, vI z129051), (0, .ref r0)] [vI z129084] _ H129078 _
      have k129087 : wKI H129078 r0 = wKI H r0 := ((wKI_fr w129040 g0 f129083 rfl).trans (wKI_fr hW g0 ((wfr.rf (l := [(42, 0)])).put' e129039 g0 rfl) rfl))
      exact wp_ireturn e236 c236_44 rfl ⟨rfl, w129082, f129086, z129084, rfl, ⟨by omega, by omega⟩, by omega⟩
    · refine wp_of e236 c236_32 (rw_iconst (pc' := 33) rfl ?_)
      refine wp_of e236 c236_33 (rw_goto (p1 := 41) (by decide) ?_)
      refine wp_of e236 c236_41 (xc_V (pc' := 44) (r := r0) (as := [vI 0]) (st := []) (lm_9_58) rfl rfl (Nat.le_of_ble_eq_true rfl) w129040 g0 sh_42 (by decide) rfl (by decide) (s_209 w129040 g0 ⟨by omega, by omega⟩) (fun R129088 T129089 H129090 p129091 => ?_))
      obtain ⟨e129092, w129094, f129095, z129096, e129093, b129097⟩ := p129091
      subst e129092
      subst e129093
      have f129098 := f129041.tr f129095 rfl
      show wp _ _ 236 44 [(2, vI z129064), (1, vI z129051), (0, .ref r0)] [vI z129096] _ H129090 _
      have k129099 : wKI H129090 r0 = wKI H r0 := ((wKI_fr w129040 g0 f129095 rfl).trans (wKI_fr hW g0 ((wfr.rf (l := [(42, 0)])).put' e129039 g0 rfl) rfl))
      exact wp_ireturn e236 c236_44 rfl ⟨rfl, w129094, f129098, z129096, rfl, ⟨by omega, by omega⟩, by omega⟩
  · refine wp_of e236 c236_14 (rw_aload_n (pc' := 15) (v := .ref r0) rfl rfl rfl ?_)
    refine wp_of e236 c236_15 (rw_iload_n (pc' := 16) (z := z129051) rfl rfl ?_)
    refine wp_of e236 c236_16 (xc_V (pc' := 19) (r := r0) (as := [vI z129051]) (st := []) (lm_9_54) rfl rfl (Nat.le_of_ble_eq_true rfl) w129040 g0 sh_42 (by decide) rfl (by decide) (s_170 w129040 g0 ⟨by omega, by omega⟩) (fun R129100 T129101 H129102 p129103 => ?_))
    obtain ⟨e129104, w129106, f129107, z129108, e129105, b129109⟩ := p129103
    subst e129104
    subst e129105
    have f129110 := f129041.tr f129107 rfl
    show wp _ _ 236 19 [(1, vI z129051), (0, .ref r0)] [vI z129108] _ H129102 _
    have k129111 : wKI H129102 r0 = wKI H r0 := ((wKI_fr w129040 g0 f129107 rfl).trans (wKI_fr hW g0 ((wfr.rf (l := [(42, 0)])).put' e129039 g0 rfl) rfl))
    exact wp_ireturn e236 c236_19 rfl ⟨rfl, w129106, f129110, z129108, rfl, ⟨by omega, by omega⟩, by omega⟩
/-! StrikeAwakeModel.barredAt([II)I -/
theorem e239 : wq_en 239 = some (9, 6, false, some FieldType.int) := rfl
theorem c239_0 : mc_cd 239 0 = some (.iconst 0, 1) := by decide +kernel
theorem c239_1 : mc_cd 239 1 = some (.istore_n 3, 1) := by decide +kernel
theorem c239_2 : mc_cd 239 2 = some (.iconst 0, 1) := by decide +kernel
theorem c239_3 : mc_cd 239 3 = some (.istore 4, 2) := by decide +kernel
theorem c239_5 : mc_cd 239 5 = some (.iload 4, 2) := by decide +kernel
theorem c239_7 : mc_cd 239 7 = some (.aload_n 0, 1) := by decide +kernel
theorem c239_8 : mc_cd 239 8 = some (.getfield 337, 3) := by decide +kernel
theorem c239_11 : mc_cd 239 11 = some (.getfield 185, 3) := by decide +kernel
theorem c239_14 : mc_cd 239 14 = some (.if_icmp .ge 65, 3) := by decide +kernel
theorem c239_17 : mc_cd 239 17 = some (.iload_n 2, 1) := by decide +kernel
theorem c239_18 : mc_cd 239 18 = some (.iload 4, 2) := by decide +kernel
theorem c239_20 : mc_cd 239 20 = some (.invokestatic 346, 3) := by decide +kernel
theorem c239_23 : mc_cd 239 23 = some (.ifCond .eq 50, 3) := by decide +kernel
theorem c239_26 : mc_cd 239 26 = some (.aload_n 0, 1) := by decide +kernel
theorem c239_27 : mc_cd 239 27 = some (.getfield 17, 3) := by decide +kernel
theorem c239_30 : mc_cd 239 30 = some (.iload 4, 2) := by decide +kernel
theorem c239_32 : mc_cd 239 32 = some (.iaload, 1) := by decide +kernel
theorem c239_33 : mc_cd 239 33 = some (.ifCond .ne 6, 3) := by decide +kernel
theorem c239_36 : mc_cd 239 36 = some (.goto 37, 3) := by decide +kernel
theorem c239_39 : mc_cd 239 39 = some (.aload_n 0, 1) := by decide +kernel
theorem c239_40 : mc_cd 239 40 = some (.aload_n 1, 1) := by decide +kernel
theorem c239_41 : mc_cd 239 41 = some (.iload 4, 2) := by decide +kernel
theorem c239_43 : mc_cd 239 43 = some (.invokevirtual 390, 3) := by decide +kernel
theorem c239_46 : mc_cd 239 46 = some (.istore 5, 2) := by decide +kernel
theorem c239_48 : mc_cd 239 48 = some (.iload_n 3, 1) := by decide +kernel
theorem c239_49 : mc_cd 239 49 = some (.iload 5, 2) := by decide +kernel
theorem c239_51 : mc_cd 239 51 = some (.iadd, 1) := by decide +kernel
theorem c239_52 : mc_cd 239 52 = some (.istore_n 3, 1) := by decide +kernel
theorem c239_53 : mc_cd 239 53 = some (.iload 5, 2) := by decide +kernel
theorem c239_55 : mc_cd 239 55 = some (.iconst 2, 1) := by decide +kernel
theorem c239_56 : mc_cd 239 56 = some (.if_icmp .eq 14, 3) := by decide +kernel
theorem c239_59 : mc_cd 239 59 = some (.iload_n 3, 1) := by decide +kernel
theorem c239_60 : mc_cd 239 60 = some (.aload_n 0, 1) := by decide +kernel
theorem c239_61 : mc_cd 239 61 = some (.getfield 337, 3) := by decide +kernel
theorem c239_64 : mc_cd 239 64 = some (.getfield 226, 3) := by decide +kernel
theorem c239_67 : mc_cd 239 67 = some (.if_icmp .le 6, 3) := by decide +kernel
theorem c239_70 : mc_cd 239 70 = some (.iload 4, 2) := by decide +kernel
theorem c239_72 : mc_cd 239 72 = some (.ireturn, 1) := by decide +kernel
theorem c239_73 : mc_cd 239 73 = some (.iinc 4 1, 3) := by decide +kernel
theorem c239_76 : mc_cd 239 76 = some (.goto (-71), 3) := by decide +kernel
theorem c239_79 : mc_cd 239 79 = some (.bipush 24, 2) := by decide +kernel
theorem c239_81 : mc_cd 239 81 = some (.ireturn, 1) := by decide +kernel
abbrev q_239_m_lot (r0 : Nat) (r1 : Nat) (a2 : Int) (pp : Nat) (T : wq_T) (H : wq_H) : Option Value → wq_T → wq_H → Prop := fun r T' H' => T = T' ∧ H = H' ∧ ∃ z : Int, some (vI z) = r ∧ (0 ≤ z ∧ z ≤ 24)
set_option maxHeartbeats 4000000 in
theorem s_239_m_lot {kt : Nat → Option mc_E} {T : wq_T} {H : wq_H} {r0 : Nat} {r1 : Nat} {a2 : Int} {pp : Nat} (hW : WT T H) (g0 : T.2.2.2 r0 = some 42) (g1 : T.2.2.2 r1 = some 51) (i2 : (-2147483648) ≤ a2 ∧ a2 ≤ 2147483647) (qpp : H r0 3 = (pp : Int)) (gpp : T.2.2.2 pp = some 54) : wpc kt 4 239 [.ref r0, .ref r1, vI a2] T H (q_239_m_lot r0 r1 a2 pp T H) := by
  refine wp_enter e239 (Nat.le_of_ble_eq_true rfl) rfl ?_
  show wp _ _ 239 0 [(0, .ref r0), (1, .ref r1), (2, vI a2)] [] _ H _
  refine wp_of e239 c239_0 (rw_iconst (pc' := 1) rfl ?_)
  refine wp_of e239 c239_1 (rw_istore_n (pc' := 2) (z := 0) (L' := [(3, vI 0), (0, .ref r0), (1, .ref r1), (2, vI a2)]) rfl rfl rfl ?_)
  refine wp_of e239 c239_2 (rw_iconst (pc' := 3) rfl ?_)
  refine wp_of e239 c239_3 (rw_istore (pc' := 5) (z := 0) (L' := [(4, vI 0), (3, vI 0), (0, .ref r0), (1, .ref r1), (2, vI a2)]) rfl rfl rfl ?_)
  have lp129767 : ∀ (n129768 : Nat) (v129770 : Int) (v129771 : Int), (0 ≤ v129770 ∧ v129770 ≤ 24) → ((-2147483648) ≤ v129771 ∧ v129771 ≤ 2147483647) → (24 - v129770).toNat = n129768 → wp kt 3 239 5 [(4, vI v129770), (3, vI v129771), (0, .ref r0), (1, .ref r1), (2, vI a2)] [] T H (q_239_m_lot r0 r1 a2 pp T H) := by
    intro n129768
    induction n129768 using Nat.strongRecOn with
    | _ n129768 ih129769 =>
      intro v129770 v129771 b129774 b129775 m129776
      refine wp_of e239 c239_5 (rw_iload (pc' := 7) (z := v129770) rfl rfl ?_)
      refine wp_of e239 c239_7 (rw_aload_n (pc' := 8) (v := .ref r0) rfl rfl rfl ?_)
      refine wp_of e239 c239_8 (xg_K (pc' := 11) lf_9_337 hW g0 sh_42 (by decide) (by decide) rfl qpp rfl ?_)
      refine wp_of e239 c239_11 (xg_I (pc' := 14) lf_9_185 hW gpp sh_54 (by decide) (by decide) ty_54_0 rfl rfl (fun b129777 b129778 => ?_))
      refine wp_of e239 c239_14 (rw_icmp_ge (p1 := 79) (p2 := 17) (by decide) rfl ⟨by omega, by omega⟩ ⟨by omega, by omega⟩ (fun c129779 => ?_) (fun c129779 => ?_))
      · refine wp_of e239 c239_79 (rw_bipush (pc' := 81) (z := 24) rfl (by decide) ?_)
        exact wp_ireturn e239 c239_81 rfl ⟨rfl, rfl, 24, rfl, ⟨by omega, by omega⟩⟩
      · refine wp_of e239 c239_17 (rw_iload_n (pc' := 18) (z := a2) rfl rfl ?_)
        refine wp_of e239 c239_18 (rw_iload (pc' := 20) (z := v129770) rfl rfl ?_)
        refine wp_of e239 c239_20 (xc_S (pc' := 23) (as := [vI a2, vI v129770]) (st := []) (lm_9_346) rfl rfl (Nat.le_of_ble_eq_true rfl) rfl (by decide) (s_205 hW ⟨by omega, by omega⟩ ⟨by omega, by omega⟩) (fun R129780 T129781 H129782 p129783 => ?_))
        obtain ⟨e129784, e129786, z129787, e129785, b129788⟩ := p129783
        subst e129784
        subst e129785
        subst e129786
        show wp _ _ 239 23 [(4, vI v129770), (3, vI v129771), (0, .ref r0), (1, .ref r1), (2, vI a2)] [vI z129787] _ H _
        refine wp_of e239 c239_23 (rw_if_eq (p1 := 73) (p2 := 26) (by decide) rfl ⟨by omega, by omega⟩ (fun c129789 => ?_) (fun c129789 => ?_))
        · refine wp_of e239 c239_73 (rw_iinc (pc' := 76) (z := v129770) (L' := [(4, vI (v129770 + 1)), (3, vI v129771), (0, .ref r0), (1, .ref r1), (2, vI a2)]) rfl rfl rfl rfl ?_)
          refine wp_of e239 c239_76 (rw_goto (p1 := 5) (by decide) ?_)
          exact wp_lc (ks := [4, 3, 0, 1, 2]) (wl_c rfl (wl_c rfl (wl_c rfl (wl_c rfl (wl_c rfl wl_n))))) rfl (by decide) (ih129769 _ (by omega) (v129770 + 1) v129771 ⟨by omega, by omega⟩ ⟨by omega, by omega⟩ rfl)
        · refine wp_of e239 c239_26 (rw_aload_n (pc' := 27) (v := .ref r0) rfl rfl rfl ?_)
          refine wp_of e239 c239_27 (xg_R (pc' := 30) lf_9_17 hW g0 sh_42 (by decide) (by decide) ty_42_20 rfl rfl (fun r129790 q129791 g129792 => ?_))
          refine wp_of e239 c239_30 (rw_iload (pc' := 32) (z := v129770) rfl rfl ?_)
          refine wp_of e239 c239_32 (xa_I (so := 0) (pc' := 33) hW g129792 sh_44 (by decide) (ty_44 _) (by omega) (by omega) rfl (fun b129793 b129794 => ?_))
          refine wp_of e239 c239_33 (rw_if_ne (p1 := 39) (p2 := 36) (by decide) rfl ⟨by omega, by omega⟩ (fun c129795 => ?_) (fun c129795 => ?_))
          · refine wp_of e239 c239_39 (rw_aload_n (pc' := 40) (v := .ref r0) rfl rfl rfl ?_)
            refine wp_of e239 c239_40 (rw_aload_n (pc' := 41) (v := .ref r1) rfl rfl rfl ?_)
            refine wp_of e239 c239_41 (rw_iload (pc' := 43) (z := v129770) rfl rfl ?_)
            refine wp_of e239 c239_43 (xc_V (pc' := 46) (r := r0) (as := [.ref r1, vI v129770]) (st := []) (lm_9_390) rfl rfl (Nat.le_of_ble_eq_true rfl) hW g0 sh_42 (by decide) rfl (by decide) (s_234_m_lot hW g0 g1 ⟨by omega, by omega⟩ qpp gpp) (fun R129796 T129797 H129798 p129799 => ?_))
            obtain ⟨e129800, e129802, z129803, e129801, b129804⟩ := p129799
            subst e129800
            subst e129801
            subst e129802
            show wp _ _ 239 46 [(4, vI v129770), (3, vI v129771), (0, .ref r0), (1, .ref r1), (2, vI a2)] [vI z129803] _ H _
            refine wp_of e239 c239_46 (rw_istore (pc' := 48) (z := z129803) (L' := [(5, vI z129803), (4, vI v129770), (3, vI v129771), (0, .ref r0), (1, .ref r1), (2, vI a2)]) rfl rfl rfl ?_)
            refine wp_of e239 c239_48 (rw_iload_n (pc' := 49) (z := v129771) rfl rfl ?_)
            refine wp_of e239 c239_49 (rw_iload (pc' := 51) (z := z129803) rfl rfl ?_)
            refine wp_of e239 c239_51 (rw_iaddw (pc' := 52) rfl ?_)
            obtain ⟨v129805, e129806⟩ : ∃ x : Int, x = wq_w (v129771 + z129803) := ⟨_, rfl⟩
            rw [← e129806]
            have b129807 : -2147483648 ≤ v129805 ∧ v129805 ≤ 2147483647 := by
              rw [e129806]
              exact wI_w _
            refine wp_of e239 c239_52 (rw_istore_n (pc' := 53) (z := v129805) (L' := [(3, vI v129805), (5, vI z129803), (4, vI v129770), (0, .ref r0), (1, .ref r1), (2, vI a2)]) rfl rfl rfl ?_)
            refine wp_of e239 c239_53 (rw_iload (pc' := 55) (z := z129803) rfl rfl ?_)
            refine wp_of e239 c239_55 (rw_iconst (pc' := 56) rfl ?_)
            refine wp_of e239 c239_56 (rw_icmp_eq (p1 := 70) (p2 := 59) (by decide) rfl ⟨by omega, by omega⟩ ⟨by omega, by omega⟩ (fun c129808 => ?_) (fun c129808 => ?_))
            · refine wp_of e239 c239_70 (rw_iload (pc' := 72) (z := v129770) rfl rfl ?_)
              exact wp_ireturn e239 c239_72 rfl ⟨rfl, rfl, v129770, rfl, ⟨by omega, by omega⟩⟩
            · refine wp_of e239 c239_59 (rw_iload_n (pc' := 60) (z := v129805) rfl rfl ?_)
              refine wp_of e239 c239_60 (rw_aload_n (pc' := 61) (v := .ref r0) rfl rfl rfl ?_)
              refine wp_of e239 c239_61 (xg_K (pc' := 64) lf_9_337 hW g0 sh_42 (by decide) (by decide) rfl qpp rfl ?_)
              refine wp_of e239 c239_64 (xg_I (pc' := 67) lf_9_226 hW gpp sh_54 (by decide) (by decide) ty_54_2 rfl rfl (fun b129809 b129810 => ?_))
              refine wp_of e239 c239_67 (rw_icmp_le (p1 := 73) (p2 := 70) (by decide) rfl ⟨by omega, by omega⟩ ⟨by omega, by omega⟩ (fun c129811 => ?_) (fun c129811 => ?_))
              · refine wp_of e239 c239_73 (rw_iinc (pc' := 76) (z := v129770) (L' := [(4, vI (v129770 + 1)), (3, vI v129805), (5, vI z129803), (0, .ref r0), (1, .ref r1), (2, vI a2)]) rfl rfl rfl rfl ?_)
                refine wp_of e239 c239_76 (rw_goto (p1 := 5) (by decide) ?_)
                exact wp_lc (ks := [4, 3, 5, 0, 1, 2]) (wl_c rfl (wl_c rfl (wl_c rfl (wl_c rfl (wl_c rfl wl_n))))) rfl (by decide) (ih129769 _ (by omega) (v129770 + 1) v129805 ⟨by omega, by omega⟩ ⟨by omega, by omega⟩ rfl)
              · refine wp_of e239 c239_70 (rw_iload (pc' := 72) (z := v129770) rfl rfl ?_)
                exact wp_ireturn e239 c239_72 rfl ⟨rfl, rfl, v129770, rfl, ⟨by omega, by omega⟩⟩
          · refine wp_of e239 c239_36 (rw_goto (p1 := 73) (by decide) ?_)
            refine wp_of e239 c239_73 (rw_iinc (pc' := 76) (z := v129770) (L' := [(4, vI (v129770 + 1)), (3, vI v129771), (0, .ref r0), (1, .ref r1), (2, vI a2)]) rfl rfl rfl rfl ?_)
            refine wp_of e239 c239_76 (rw_goto (p1 := 5) (by decide) ?_)
            exact wp_lc (ks := [4, 3, 0, 1, 2]) (wl_c rfl (wl_c rfl (wl_c rfl (wl_c rfl (wl_c rfl wl_n))))) rfl (by decide) (ih129769 _ (by omega) (v129770 + 1) v129771 ⟨by omega, by omega⟩ ⟨by omega, by omega⟩ rfl)
  exact wp_lc (ks := [4, 3, 0, 1, 2]) (wl_c rfl (wl_c rfl (wl_c rfl (wl_c rfl (wl_c rfl wl_n))))) rfl (by decide) (lp129767 _ 0 0 ⟨by omega, by omega⟩ ⟨by omega, by omega⟩ rfl)

/-! StrikeAwakeModel.barredAt([II)I -/
abbrev q_239_m_said (r0 : Nat) (r1 : Nat) (a2 : Int) (pp : Nat) (T : wq_T) (H : wq_H) : Option Value → wq_T → wq_H → Prop := fun r T' H' => T = T' ∧ H = H' ∧ ∃ z : Int, some (vI z) = r ∧ (0 ≤ z ∧ z ≤ 24)
set_option maxHeartbeats 4000000 in
theorem s_239_m_said {kt : Nat → Option mc_E} {T : wq_T} {H : wq_H} {r0 : Nat} {r1 : Nat} {a2 : Int} {pp : Nat} (hW : WT T H) (g0 : T.2.2.2 r0 = some 42) (g1 : T.2.2.2 r1 = some 50) (i2 : (-2147483648) ≤ a2 ∧ a2 ≤ 2147483647) (qpp : H r0 3 = (pp : Int)) (gpp : T.2.2.2 pp = some 54) : wpc kt 4 239 [.ref r0, .ref r1, vI a2] T H (q_239_m_said r0 r1 a2 pp T H) := by
  refine wp_enter e239 (Nat.le_of_ble_eq_true rfl) rfl ?_
  show wp _ _ 239 0 [(0, .ref r0), (1, .ref r1), (2, vI a2)] [] _ H _
  refine wp_of e239 c239_0 (rw_iconst (pc' := 1) rfl ?_)
  refine wp_of e239 c239_1 (rw_istore_n (pc' := 2) (z := 0) (L' := [(3, vI 0), (0, .ref r0), (1, .ref r1), (2, vI a2)]) rfl rfl rfl ?_)
  refine wp_of e239 c239_2 (rw_iconst (pc' := 3) rfl ?_)
  refine wp_of e239 c239_3 (rw_istore (pc' := 5) (z := 0) (L' := [(4, vI 0), (3, vI 0), (0, .ref r0), (1, .ref r1), (2, vI a2)]) rfl rfl rfl ?_)
  have lp130467 : ∀ (n130468 : Nat) (v130470 : Int) (v130471 : Int), (0 ≤ v130470 ∧ v130470 ≤ 24) → ((-2147483648) ≤ v130471 ∧ v130471 ≤ 2147483647) → (24 - v130470).toNat = n130468 → wp kt 3 239 5 [(4, vI v130470), (3, vI v130471), (0, .ref r0), (1, .ref r1), (2, vI a2)] [] T H (q_239_m_said r0 r1 a2 pp T H) := by
    intro n130468
    induction n130468 using Nat.strongRecOn with
    | _ n130468 ih130469 =>
      intro v130470 v130471 b130474 b130475 m130476
      refine wp_of e239 c239_5 (rw_iload (pc' := 7) (z := v130470) rfl rfl ?_)
      refine wp_of e239 c239_7 (rw_aload_n (pc' := 8) (v := .ref r0) rfl rfl rfl ?_)
      refine wp_of e239 c239_8 (xg_K (pc' := 11) lf_9_337 hW g0 sh_42 (by decide) (by decide) rfl qpp rfl ?_)
      refine wp_of e239 c239_11 (xg_I (pc' := 14) lf_9_185 hW gpp sh_54 (by decide) (by decide) ty_54_0 rfl rfl (fun b130477 b130478 => ?_))
      refine wp_of e239 c239_14 (rw_icmp_ge (p1 := 79) (p2 := 17) (by decide) rfl ⟨by omega, by omega⟩ ⟨by omega, by omega⟩ (fun c130479 => ?_) (fun c130479 => ?_))
      · refine wp_of e239 c239_79 (rw_bipush (pc' := 81) (z := 24) rfl (by decide) ?_)
        exact wp_ireturn e239 c239_81 rfl ⟨rfl, rfl, 24, rfl, ⟨by omega, by omega⟩⟩
      · refine wp_of e239 c239_17 (rw_iload_n (pc' := 18) (z := a2) rfl rfl ?_)
        refine wp_of e239 c239_18 (rw_iload (pc' := 20) (z := v130470) rfl rfl ?_)
        refine wp_of e239 c239_20 (xc_S (pc' := 23) (as := [vI a2, vI v130470]) (st := []) (lm_9_346) rfl rfl (Nat.le_of_ble_eq_true rfl) rfl (by decide) (s_205 hW ⟨by omega, by omega⟩ ⟨by omega, by omega⟩) (fun R130480 T130481 H130482 p130483 => ?_))
        obtain ⟨e130484, e130486, z130487, e130485, b130488⟩ := p130483
        subst e130484
        subst e130485
        subst e130486
        show wp _ _ 239 23 [(4, vI v130470), (3, vI v130471), (0, .ref r0), (1, .ref r1), (2, vI a2)] [vI z130487] _ H _
        refine wp_of e239 c239_23 (rw_if_eq (p1 := 73) (p2 := 26) (by decide) rfl ⟨by omega, by omega⟩ (fun c130489 => ?_) (fun c130489 => ?_))
        · refine wp_of e239 c239_73 (rw_iinc (pc' := 76) (z := v130470) (L' := [(4, vI (v130470 + 1)), (3, vI v130471), (0, .ref r0), (1, .ref r1), (2, vI a2)]) rfl rfl rfl rfl ?_)
          refine wp_of e239 c239_76 (rw_goto (p1 := 5) (by decide) ?_)
          exact wp_lc (ks := [4, 3, 0, 1, 2]) (wl_c rfl (wl_c rfl (wl_c rfl (wl_c rfl (wl_c rfl wl_n))))) rfl (by decide) (ih130469 _ (by omega) (v130470 + 1) v130471 ⟨by omega, by omega⟩ ⟨by omega, by omega⟩ rfl)
        · refine wp_of e239 c239_26 (rw_aload_n (pc' := 27) (v := .ref r0) rfl rfl rfl ?_)
          refine wp_of e239 c239_27 (xg_R (pc' := 30) lf_9_17 hW g0 sh_42 (by decide) (by decide) ty_42_20 rfl rfl (fun r130490 q130491 g130492 => ?_))
          refine wp_of e239 c239_30 (rw_iload (pc' := 32) (z := v130470) rfl rfl ?_)
          refine wp_of e239 c239_32 (xa_I (so := 0) (pc' := 33) hW g130492 sh_44 (by decide) (ty_44 _) (by omega) (by omega) rfl (fun b130493 b130494 => ?_))
          refine wp_of e239 c239_33 (rw_if_ne (p1 := 39) (p2 := 36) (by decide) rfl ⟨by omega, by omega⟩ (fun c130495 => ?_) (fun c130495 => ?_))
          · refine wp_of e239 c239_39 (rw_aload_n (pc' := 40) (v := .ref r0) rfl rfl rfl ?_)
            refine wp_of e239 c239_40 (rw_aload_n (pc' := 41) (v := .ref r1) rfl rfl rfl ?_)
            refine wp_of e239 c239_41 (rw_iload (pc' := 43) (z := v130470) rfl rfl ?_)
            refine wp_of e239 c239_43 (xc_V (pc' := 46) (r := r0) (as := [.ref r1, vI v130470]) (st := []) (lm_9_390) rfl rfl (Nat.le_of_ble_eq_true rfl) hW g0 sh_42 (by decide) rfl (by decide) (s_234_m_said hW g0 g1 ⟨by omega, by omega⟩ qpp gpp) (fun R130496 T130497 H130498 p130499 => ?_))
            obtain ⟨e130500, e130502, z130503, e130501, b130504⟩ := p130499
            subst e130500
            subst e130501
            subst e130502
            show wp _ _ 239 46 [(4, vI v130470), (3, vI v130471), (0, .ref r0), (1, .ref r1), (2, vI a2)] [vI z130503] _ H _
            refine wp_of e239 c239_46 (rw_istore (pc' := 48) (z := z130503) (L' := [(5, vI z130503), (4, vI v130470), (3, vI v130471), (0, .ref r0), (1, .ref r1), (2, vI a2)]) rfl rfl rfl ?_)
            refine wp_of e239 c239_48 (rw_iload_n (pc' := 49) (z := v130471) rfl rfl ?_)
            refine wp_of e239 c239_49 (rw_iload (pc' := 51) (z := z130503) rfl rfl ?_)
            refine wp_of e239 c239_51 (rw_iaddw (pc' := 52) rfl ?_)
            obtain ⟨v130505, e130506⟩ : ∃ x : Int, x = wq_w (v130471 + z130503) := ⟨_, rfl⟩
            rw [← e130506]
            have b130507 : -2147483648 ≤ v130505 ∧ v130505 ≤ 2147483647 := by
              rw [e130506]
              exact wI_w _
            refine wp_of e239 c239_52 (rw_istore_n (pc' := 53) (z := v130505) (L' := [(3, vI v130505), (5, vI z130503), (4, vI v130470), (0, .ref r0), (1, .ref r1), (2, vI a2)]) rfl rfl rfl ?_)
            refine wp_of e239 c239_53 (rw_iload (pc' := 55) (z := z130503) rfl rfl ?_)
            refine wp_of e239 c239_55 (rw_iconst (pc' := 56) rfl ?_)
            refine wp_of e239 c239_56 (rw_icmp_eq (p1 := 70) (p2 := 59) (by decide) rfl ⟨by omega, by omega⟩ ⟨by omega, by omega⟩ (fun c130508 => ?_) (fun c130508 => ?_))
            · refine wp_of e239 c239_70 (rw_iload (pc' := 72) (z := v130470) rfl rfl ?_)
              exact wp_ireturn e239 c239_72 rfl ⟨rfl, rfl, v130470, rfl, ⟨by omega, by omega⟩⟩
            · refine wp_of e239 c239_59 (rw_iload_n (pc' := 60) (z := v130505) rfl rfl ?_)
              refine wp_of e239 c239_60 (rw_aload_n (pc' := 61) (v := .ref r0) rfl rfl rfl ?_)
              refine wp_of e239 c239_61 (xg_K (pc' := 64) lf_9_337 hW g0 sh_42 (by decide) (by decide) rfl qpp rfl ?_)
              refine wp_of e239 c239_64 (xg_I (pc' := 67) lf_9_226 hW gpp sh_54 (by decide) (by decide) ty_54_2 rfl rfl (fun b130509 b130510 => ?_))
              refine wp_of e239 c239_67 (rw_icmp_le (p1 := 73) (p2 := 70) (by decide) rfl ⟨by omega, by omega⟩ ⟨by omega, by omega⟩ (fun c130511 => ?_) (fun c130511 => ?_))
              · refine wp_of e239 c239_73 (rw_iinc (pc' := 76) (z := v130470) (L' := [(4, vI (v130470 + 1)), (3, vI v130505), (5, vI z130503), (0, .ref r0), (1, .ref r1), (2, vI a2)]) rfl rfl rfl rfl ?_)
                refine wp_of e239 c239_76 (rw_goto (p1 := 5) (by decide) ?_)
                exact wp_lc (ks := [4, 3, 5, 0, 1, 2]) (wl_c rfl (wl_c rfl (wl_c rfl (wl_c rfl (wl_c rfl wl_n))))) rfl (by decide) (ih130469 _ (by omega) (v130470 + 1) v130505 ⟨by omega, by omega⟩ ⟨by omega, by omega⟩ rfl)
              · refine wp_of e239 c239_70 (rw_iload (pc' := 72) (z := v130470) rfl rfl ?_)
                exact wp_ireturn e239 c239_72 rfl ⟨rfl, rfl, v130470, rfl, ⟨by omega, by omega⟩⟩
          · refine wp_of e239 c239_36 (rw_goto (p1 := 73) (by decide) ?_)
            refine wp_of e239 c239_73 (rw_iinc (pc' := 76) (z := v130470) (L' := [(4, vI (v130470 + 1)), (3, vI v130471), (0, .ref r0), (1, .ref r1), (2, vI a2)]) rfl rfl rfl rfl ?_)
            refine wp_of e239 c239_76 (rw_goto (p1 := 5) (by decide) ?_)
            exact wp_lc (ks := [4, 3, 0, 1, 2]) (wl_c rfl (wl_c rfl (wl_c rfl (wl_c rfl (wl_c rfl wl_n))))) rfl (by decide) (ih130469 _ (by omega) (v130470 + 1) v130471 ⟨by omega, by omega⟩ ⟨by omega, by omega⟩ rfl)
  exact wp_lc (ks := [4, 3, 0, 1, 2]) (wl_c rfl (wl_c rfl (wl_c rfl (wl_c rfl (wl_c rfl wl_n))))) rfl (by decide) (lp130467 _ 0 0 ⟨by omega, by omega⟩ ⟨by omega, by omega⟩ rfl)
/-! StrikeAwakeModel.isWorld([I)Z -/
theorem e238 : wq_en 238 = some (9, 2, false, some FieldType.boolean) := rfl
theorem c238_0 : mc_cd 238 0 = some (.aload_n 0, 1) := by decide +kernel
theorem c238_1 : mc_cd 238 1 = some (.aload_n 1, 1) := by decide +kernel
theorem c238_2 : mc_cd 238 2 = some (.invokevirtual 393, 3) := by decide +kernel
theorem c238_5 : mc_cd 238 5 = some (.ifCond .ne 21, 3) := by decide +kernel
theorem c238_8 : mc_cd 238 8 = some (.aload_n 0, 1) := by decide +kernel
theorem c238_9 : mc_cd 238 9 = some (.aload_n 1, 1) := by decide +kernel
theorem c238_10 : mc_cd 238 10 = some (.aload_n 0, 1) := by decide +kernel
theorem c238_11 : mc_cd 238 11 = some (.getfield 343, 3) := by decide +kernel
theorem c238_14 : mc_cd 238 14 = some (.invokevirtual 397, 3) := by decide +kernel
theorem c238_17 : mc_cd 238 17 = some (.bipush 24, 2) := by decide +kernel
theorem c238_19 : mc_cd 238 19 = some (.if_icmp .ne 7, 3) := by decide +kernel
theorem c238_22 : mc_cd 238 22 = some (.iconst 1, 1) := by decide +kernel
theorem c238_23 : mc_cd 238 23 = some (.goto 4, 3) := by decide +kernel
theorem c238_26 : mc_cd 238 26 = some (.iconst 0, 1) := by decide +kernel
theorem c238_27 : mc_cd 238 27 = some (.ireturn, 1) := by decide +kernel
abbrev q_238_m_lot (r0 : Nat) (r1 : Nat) (pp : Nat) (T : wq_T) (H : wq_H) : Option Value → wq_T → wq_H → Prop := fun r T' H' => T = T' ∧ H = H' ∧ ∃ z : Int, some (vI z) = r ∧ (0 ≤ z ∧ z ≤ 1)
set_option maxHeartbeats 4000000 in
theorem s_238_m_lot {kt : Nat → Option mc_E} {T : wq_T} {H : wq_H} {r0 : Nat} {r1 : Nat} {pp : Nat} (hW : WT T H) (g0 : T.2.2.2 r0 = some 42) (g1 : T.2.2.2 r1 = some 51) (qpp : H r0 3 = (pp : Int)) (gpp : T.2.2.2 pp = some 54) : wpc kt 5 238 [.ref r0, .ref r1] T H (q_238_m_lot r0 r1 pp T H) := by
  refine wp_enter e238 (Nat.le_of_ble_eq_true rfl) rfl ?_
  show wp _ _ 238 0 [(0, .ref r0), (1, .ref r1)] [] _ H _
  refine wp_of e238 c238_0 (rw_aload_n (pc' := 1) (v := .ref r0) rfl rfl rfl ?_)
  refine wp_of e238 c238_1 (rw_aload_n (pc' := 2) (v := .ref r1) rfl rfl rfl ?_)
  refine wp_of e238 c238_2 (xc_V (pc' := 5) (r := r0) (as := [.ref r1]) (st := []) (lm_9_393) rfl rfl (Nat.le_of_ble_eq_true rfl) hW g0 sh_42 (by decide) rfl (by decide) (s_235_m_lot hW g0 g1 qpp gpp) (fun R130534 T130535 H130536 p130537 => ?_))
  obtain ⟨e130538, e130540, z130541, e130539, b130542⟩ := p130537
  subst e130538
  subst e130539
  subst e130540
  show wp _ _ 238 5 [(0, .ref r0), (1, .ref r1)] [vI z130541] _ H _
  refine wp_of e238 c238_5 (rw_if_ne (p1 := 26) (p2 := 8) (by decide) rfl ⟨by omega, by omega⟩ (fun c130543 => ?_) (fun c130543 => ?_))
  · refine wp_of e238 c238_26 (rw_iconst (pc' := 27) rfl ?_)
    exact wp_zreturn e238 c238_27 rfl (by omega) ⟨rfl, rfl, 0, rfl, ⟨by omega, by omega⟩⟩
  · refine wp_of e238 c238_8 (rw_aload_n (pc' := 9) (v := .ref r0) rfl rfl rfl ?_)
    refine wp_of e238 c238_9 (rw_aload_n (pc' := 10) (v := .ref r1) rfl rfl rfl ?_)
    refine wp_of e238 c238_10 (rw_aload_n (pc' := 11) (v := .ref r0) rfl rfl rfl ?_)
    refine wp_of e238 c238_11 (xg_I (pc' := 14) lf_9_343 hW g0 sh_42 (by decide) (by decide) ty_42_19 rfl rfl (fun b130544 b130545 => ?_))
    refine wp_of e238 c238_14 (xc_V (pc' := 17) (r := r0) (as := [.ref r1, vI (H r0 19)]) (st := []) (lm_9_397) rfl rfl (Nat.le_of_ble_eq_true rfl) hW g0 sh_42 (by decide) rfl (by decide) (s_239_m_lot hW g0 g1 ⟨by omega, by omega⟩ qpp gpp) (fun R130546 T130547 H130548 p130549 => ?_))
    obtain ⟨e130550, e130552, z130553, e130551, b130554⟩ := p130549
    subst e130550
    subst e130551
    subst e130552
    show wp _ _ 238 17 [(0, .ref r0), (1, .ref r1)] [vI z130553] _ H _
    refine wp_of e238 c238_17 (rw_bipush (pc' := 19) (z := 24) rfl (by decide) ?_)
    refine wp_of e238 c238_19 (rw_icmp_ne (p1 := 26) (p2 := 22) (by decide) rfl ⟨by omega, by omega⟩ ⟨by omega, by omega⟩ (fun c130555 => ?_) (fun c130555 => ?_))
    · refine wp_of e238 c238_26 (rw_iconst (pc' := 27) rfl ?_)
      exact wp_zreturn e238 c238_27 rfl (by omega) ⟨rfl, rfl, 0, rfl, ⟨by omega, by omega⟩⟩
    · refine wp_of e238 c238_22 (rw_iconst (pc' := 23) rfl ?_)
      refine wp_of e238 c238_23 (rw_goto (p1 := 27) (by decide) ?_)
      exact wp_zreturn e238 c238_27 rfl (by omega) ⟨rfl, rfl, 1, rfl, ⟨by omega, by omega⟩⟩

/-! StrikeAwakeModel.isWorld([I)Z -/
abbrev q_238_m_said (r0 : Nat) (r1 : Nat) (pp : Nat) (T : wq_T) (H : wq_H) : Option Value → wq_T → wq_H → Prop := fun r T' H' => T = T' ∧ H = H' ∧ ∃ z : Int, some (vI z) = r ∧ (0 ≤ z ∧ z ≤ 1)
set_option maxHeartbeats 4000000 in
theorem s_238_m_said {kt : Nat → Option mc_E} {T : wq_T} {H : wq_H} {r0 : Nat} {r1 : Nat} {pp : Nat} (hW : WT T H) (g0 : T.2.2.2 r0 = some 42) (g1 : T.2.2.2 r1 = some 50) (qpp : H r0 3 = (pp : Int)) (gpp : T.2.2.2 pp = some 54) : wpc kt 5 238 [.ref r0, .ref r1] T H (q_238_m_said r0 r1 pp T H) := by
  refine wp_enter e238 (Nat.le_of_ble_eq_true rfl) rfl ?_
  show wp _ _ 238 0 [(0, .ref r0), (1, .ref r1)] [] _ H _
  refine wp_of e238 c238_0 (rw_aload_n (pc' := 1) (v := .ref r0) rfl rfl rfl ?_)
  refine wp_of e238 c238_1 (rw_aload_n (pc' := 2) (v := .ref r1) rfl rfl rfl ?_)
  refine wp_of e238 c238_2 (xc_V (pc' := 5) (r := r0) (as := [.ref r1]) (st := []) (lm_9_393) rfl rfl (Nat.le_of_ble_eq_true rfl) hW g0 sh_42 (by decide) rfl (by decide) (s_235_m_said hW g0 g1 qpp gpp) (fun R130578 T130579 H130580 p130581 => ?_))
  obtain ⟨e130582, e130584, z130585, e130583, b130586⟩ := p130581
  subst e130582
  subst e130583
  subst e130584
  show wp _ _ 238 5 [(0, .ref r0), (1, .ref r1)] [vI z130585] _ H _
  refine wp_of e238 c238_5 (rw_if_ne (p1 := 26) (p2 := 8) (by decide) rfl ⟨by omega, by omega⟩ (fun c130587 => ?_) (fun c130587 => ?_))
  · refine wp_of e238 c238_26 (rw_iconst (pc' := 27) rfl ?_)
    exact wp_zreturn e238 c238_27 rfl (by omega) ⟨rfl, rfl, 0, rfl, ⟨by omega, by omega⟩⟩
  · refine wp_of e238 c238_8 (rw_aload_n (pc' := 9) (v := .ref r0) rfl rfl rfl ?_)
    refine wp_of e238 c238_9 (rw_aload_n (pc' := 10) (v := .ref r1) rfl rfl rfl ?_)
    refine wp_of e238 c238_10 (rw_aload_n (pc' := 11) (v := .ref r0) rfl rfl rfl ?_)
    refine wp_of e238 c238_11 (xg_I (pc' := 14) lf_9_343 hW g0 sh_42 (by decide) (by decide) ty_42_19 rfl rfl (fun b130588 b130589 => ?_))
    refine wp_of e238 c238_14 (xc_V (pc' := 17) (r := r0) (as := [.ref r1, vI (H r0 19)]) (st := []) (lm_9_397) rfl rfl (Nat.le_of_ble_eq_true rfl) hW g0 sh_42 (by decide) rfl (by decide) (s_239_m_said hW g0 g1 ⟨by omega, by omega⟩ qpp gpp) (fun R130590 T130591 H130592 p130593 => ?_))
    obtain ⟨e130594, e130596, z130597, e130595, b130598⟩ := p130593
    subst e130594
    subst e130595
    subst e130596
    show wp _ _ 238 17 [(0, .ref r0), (1, .ref r1)] [vI z130597] _ H _
    refine wp_of e238 c238_17 (rw_bipush (pc' := 19) (z := 24) rfl (by decide) ?_)
    refine wp_of e238 c238_19 (rw_icmp_ne (p1 := 26) (p2 := 22) (by decide) rfl ⟨by omega, by omega⟩ ⟨by omega, by omega⟩ (fun c130599 => ?_) (fun c130599 => ?_))
    · refine wp_of e238 c238_26 (rw_iconst (pc' := 27) rfl ?_)
      exact wp_zreturn e238 c238_27 rfl (by omega) ⟨rfl, rfl, 0, rfl, ⟨by omega, by omega⟩⟩
    · refine wp_of e238 c238_22 (rw_iconst (pc' := 23) rfl ?_)
      refine wp_of e238 c238_23 (rw_goto (p1 := 27) (by decide) ?_)
      exact wp_zreturn e238 c238_27 rfl (by omega) ⟨rfl, rfl, 1, rfl, ⟨by omega, by omega⟩⟩
