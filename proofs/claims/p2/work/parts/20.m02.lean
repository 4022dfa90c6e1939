/-! methods (own work, written by wip/gen2/sx.py) -/
/-! StrikeAwake$Reader.knownPerson(LStrikeAwake$Parish;)I -/
theorem e33 : wq_en 33 = some (1, 3, false, some FieldType.int) := rfl
theorem c33_0 : mc_cd 33 0 = some (.aload_n 0, 1) := by decide +kernel
theorem c33_1 : mc_cd 33 1 = some (.invokevirtual 131, 3) := by decide +kernel
theorem c33_4 : mc_cd 33 4 = some (.ifCond .ne 11, 3) := by decide +kernel
theorem c33_7 : mc_cd 33 7 = some (.aload_n 0, 1) := by decide +kernel
theorem c33_8 : mc_cd 33 8 = some (.iconst 1, 1) := by decide +kernel
theorem c33_9 : mc_cd 33 9 = some (.invokevirtual 47, 3) := by decide +kernel
theorem c33_12 : mc_cd 33 12 = some (.pop, 1) := by decide +kernel
theorem c33_13 : mc_cd 33 13 = some (.iconst (-1), 1) := by decide +kernel
theorem c33_14 : mc_cd 33 14 = some (.ireturn, 1) := by decide +kernel
theorem c33_15 : mc_cd 33 15 = some (.aload_n 1, 1) := by decide +kernel
theorem c33_16 : mc_cd 33 16 = some (.aload_n 0, 1) := by decide +kernel
theorem c33_17 : mc_cd 33 17 = some (.getfield 12, 3) := by decide +kernel
theorem c33_20 : mc_cd 33 20 = some (.getfield 135, 3) := by decide +kernel
theorem c33_23 : mc_cd 33 23 = some (.invokevirtual 139, 3) := by decide +kernel
theorem c33_26 : mc_cd 33 26 = some (.istore_n 2, 1) := by decide +kernel
theorem c33_27 : mc_cd 33 27 = some (.iload_n 2, 1) := by decide +kernel
theorem c33_28 : mc_cd 33 28 = some (.ifCond .ge 9, 3) := by decide +kernel
theorem c33_31 : mc_cd 33 31 = some (.aload_n 0, 1) := by decide +kernel
theorem c33_32 : mc_cd 33 32 = some (.iconst 2, 1) := by decide +kernel
theorem c33_33 : mc_cd 33 33 = some (.invokevirtual 47, 3) := by decide +kernel
theorem c33_36 : mc_cd 33 36 = some (.pop, 1) := by decide +kernel
theorem c33_37 : mc_cd 33 37 = some (.iload_n 2, 1) := by decide +kernel
theorem c33_38 : mc_cd 33 38 = some (.ireturn, 1) := by decide +kernel
abbrev q_33 (r0 : Nat) (r1 : Nat) (tk : Nat) (rb : Nat) (T : wq_T) (H : wq_H) : Option Value → wq_T → wq_H → Prop := fun r T' H' => T = T' ∧ WT T H' ∧ wfr [(3, 3), (3, 4)] T H H' ∧ ∃ z : Int, some (vI z) = r ∧ ((-1) ≤ z ∧ z ≤ 5)
set_option maxHeartbeats 4000000 in
theorem s_33 {kt : Nat → Option mc_E} {T : wq_T} {H : wq_H} {r0 : Nat} {r1 : Nat} {tk : Nat} {rb : Nat} (hW : WT T H) (g0 : T.2.2.2 r0 = some 3) (g1 : T.2.2.2 r1 = some 27) (qtk : H r0 0 = (tk : Int)) (gtk : T.2.2.2 tk = some 4) (qrb : H tk 0 = (rb : Int)) (grb : T.2.2.2 rb = some 2) : wpc kt 4 33 [.ref r0, .ref r1] T H (q_33 r0 r1 tk rb T H) := by
  refine wp_enter e33 (Nat.le_of_ble_eq_true rfl) rfl ?_
  have f0 : wfr [(3, 3), (3, 4)] T H H := wfr.rf
  show wp _ _ 33 0 [(0, .ref r0), (1, .ref r1)] [] _ H _
  refine wp_of e33 c33_0 (rw_aload_n (pc' := 1) (v := .ref r0) rfl rfl rfl ?_)
  refine wp_of e33 c33_1 (xc_V (pc' := 4) (r := r0) (as := []) (st := []) (lm_1_131) rfl rfl (Nat.le_of_ble_eq_true rfl) hW g0 sh_3 (by decide) rfl (by decide) (s_26 hW g0) (fun R10526 T10527 H10528 p10529 => ?_))
  obtain ⟨e10530, e10532, z10533, e10531, b10534⟩ := p10529
  subst e10530
  subst e10531
  subst e10532
  show wp _ _ 33 4 [(0, .ref r0), (1, .ref r1)] [vI z10533] _ H _
  refine wp_of e33 c33_4 (rw_if_ne (p1 := 15) (p2 := 7) (by decide) rfl ⟨by omega, by omega⟩ (fun c10535 => ?_) (fun c10535 => ?_))
  · refine wp_of e33 c33_15 (rw_aload_n (pc' := 16) (v := .ref r1) rfl rfl rfl ?_)
    refine wp_of e33 c33_16 (rw_aload_n (pc' := 17) (v := .ref r0) rfl rfl rfl ?_)
    refine wp_of e33 c33_17 (xg_K (pc' := 20) lf_1_12 hW g0 sh_3 (by decide) (by decide) rfl qtk rfl ?_)
    refine wp_of e33 c33_20 (xg_L (pc' := 23) lf_1_135 hW gtk sh_4 (by decide) (by decide) ty_4_6 rfl rfl (fun b10536 b10537 => ?_))
    refine wp_of e33 c33_23 (xc_V (pc' := 26) (r := r1) (as := [vL (H tk 6)]) (st := []) (lm_1_139) rfl rfl (Nat.le_of_ble_eq_true rfl) hW g1 sh_27 (by decide) rfl (by decide) (s_27 hW g1 ⟨by omega, by omega⟩) (fun R10538 T10539 H10540 p10541 => ?_))
    obtain ⟨e10542, e10544, z10545, e10543, b10546⟩ := p10541
    subst e10542
    subst e10543
    subst e10544
    show wp _ _ 33 26 [(0, .ref r0), (1, .ref r1)] [vI z10545] _ H _
    refine wp_of e33 c33_26 (rw_istore_n (pc' := 27) (z := z10545) (L' := [(2, vI z10545), (0, .ref r0), (1, .ref r1)]) rfl rfl rfl ?_)
    refine wp_of e33 c33_27 (rw_iload_n (pc' := 28) (z := z10545) rfl rfl ?_)
    refine wp_of e33 c33_28 (rw_if_ge (p1 := 37) (p2 := 31) (by decide) rfl ⟨by omega, by omega⟩ (fun c10547 => ?_) (fun c10547 => ?_))
    · refine wp_of e33 c33_37 (rw_iload_n (pc' := 38) (z := z10545) rfl rfl ?_)
      exact wp_ireturn e33 c33_38 rfl ⟨rfl, hW, f0, z10545, rfl, ⟨by omega, by omega⟩⟩
    · refine wp_of e33 c33_31 (rw_aload_n (pc' := 32) (v := .ref r0) rfl rfl rfl ?_)
      refine wp_of e33 c33_32 (rw_iconst (pc' := 33) rfl ?_)
      refine wp_of e33 c33_33 (xc_V (pc' := 36) (r := r0) (as := [vI 2]) (st := []) (lm_1_47) rfl rfl (Nat.le_of_ble_eq_true rfl) hW g0 sh_3 (by decide) rfl (by decide) (s_20 hW g0 ⟨by omega, by omega⟩) (fun R10548 T10549 H10550 p10551 => ?_))
      obtain ⟨e10552, w10554, f10555, z10556, e10553, b10557⟩ := p10551
      subst e10552
      subst e10553
      have f10558 := f0.tr f10555 rfl
      show wp _ _ 33 36 [(2, vI z10545), (0, .ref r0), (1, .ref r1)] [vI z10556] _ H10550 _
      refine wp_of e33 c33_36 (rw_pop (pc' := 37) rfl rfl ?_)
      refine wp_of e33 c33_37 (rw_iload_n (pc' := 38) (z := z10545) rfl rfl ?_)
      exact wp_ireturn e33 c33_38 rfl ⟨rfl, w10554, f10558, z10545, rfl, ⟨by omega, by omega⟩⟩
  · refine wp_of e33 c33_7 (rw_aload_n (pc' := 8) (v := .ref r0) rfl rfl rfl ?_)
    refine wp_of e33 c33_8 (rw_iconst (pc' := 9) rfl ?_)
    refine wp_of e33 c33_9 (xc_V (pc' := 12) (r := r0) (as := [vI 1]) (st := []) (lm_1_47) rfl rfl (Nat.le_of_ble_eq_true rfl) hW g0 sh_3 (by decide) rfl (by decide) (s_20 hW g0 ⟨by omega, by omega⟩) (fun R10559 T10560 H10561 p10562 => ?_))
    obtain ⟨e10563, w10565, f10566, z10567, e10564, b10568⟩ := p10562
    subst e10563
    subst e10564
    have f10569 := f0.tr f10566 rfl
    show wp _ _ 33 12 [(0, .ref r0), (1, .ref r1)] [vI z10567] _ H10561 _
    refine wp_of e33 c33_12 (rw_pop (pc' := 13) rfl rfl ?_)
    refine wp_of e33 c33_13 (rw_iconst (pc' := 14) rfl ?_)
    exact wp_ireturn e33 c33_14 rfl ⟨rfl, w10565, f10569, -1, rfl, ⟨by omega, by omega⟩⟩
/-! StrikeAwake$Reader.readsSexton(LStrikeAwake$Parish;)Z -/
theorem e32 : wq_en 32 = some (1, 3, false, some FieldType.boolean) := rfl
theorem c32_0 : mc_cd 32 0 = some (.aload_n 0, 1) := by decide +kernel
theorem c32_1 : mc_cd 32 1 = some (.aload_n 1, 1) := by decide +kernel
theorem c32_2 : mc_cd 32 2 = some (.invokevirtual 207, 3) := by decide +kernel
theorem c32_5 : mc_cd 32 5 = some (.istore_n 2, 1) := by decide +kernel
theorem c32_6 : mc_cd 32 6 = some (.iload_n 2, 1) := by decide +kernel
theorem c32_7 : mc_cd 32 7 = some (.ifCond .ge 5, 3) := by decide +kernel
theorem c32_10 : mc_cd 32 10 = some (.iconst 0, 1) := by decide +kernel
theorem c32_11 : mc_cd 32 11 = some (.ireturn, 1) := by decide +kernel
theorem c32_12 : mc_cd 32 12 = some (.aload_n 0, 1) := by decide +kernel
theorem c32_13 : mc_cd 32 13 = some (.getfield 12, 3) := by decide +kernel
theorem c32_16 : mc_cd 32 16 = some (.invokevirtual 74, 3) := by decide +kernel
theorem c32_19 : mc_cd 32 19 = some (.aload_n 1, 1) := by decide +kernel
theorem c32_20 : mc_cd 32 20 = some (.iload_n 2, 1) := by decide +kernel
theorem c32_21 : mc_cd 32 21 = some (.putfield 211, 3) := by decide +kernel
theorem c32_24 : mc_cd 32 24 = some (.iconst 1, 1) := by decide +kernel
theorem c32_25 : mc_cd 32 25 = some (.ireturn, 1) := by decide +kernel
abbrev q_32 (r0 : Nat) (r1 : Nat) (tk : Nat) (rb : Nat) (T : wq_T) (H : wq_H) : Option Value → wq_T → wq_H → Prop := fun r T' H' => T = T' ∧ WT T H' ∧ wfr [(27, 15), (3, 3), (3, 4), (4, 2), (4, 3), (4, 4), (4, 5), (4, 6)] T H H' ∧ ∃ z : Int, some (vI z) = r ∧ (0 ≤ z ∧ z ≤ 1)
set_option maxHeartbeats 4000000 in
theorem s_32 {kt : Nat → Option mc_E} {T : wq_T} {H : wq_H} {r0 : Nat} {r1 : Nat} {tk : Nat} {rb : Nat} (hW : WT T H) (g0 : T.2.2.2 r0 = some 3) (g1 : T.2.2.2 r1 = some 27) (qtk : H r0 0 = (tk : Int)) (gtk : T.2.2.2 tk = some 4) (qrb : H tk 0 = (rb : Int)) (grb : T.2.2.2 rb = some 2) : wpc kt 5 32 [.ref r0, .ref r1] T H (q_32 r0 r1 tk rb T H) := by
  refine wp_enter e32 (Nat.le_of_ble_eq_true rfl) rfl ?_
  have f0 : wfr [(27, 15), (3, 3), (3, 4), (4, 2), (4, 3), (4, 4), (4, 5), (4, 6)] T H H := wfr.rf
  show wp _ _ 32 0 [(0, .ref r0), (1, .ref r1)] [] _ H _
  refine wp_of e32 c32_0 (rw_aload_n (pc' := 1) (v := .ref r0) rfl rfl rfl ?_)
  refine wp_of e32 c32_1 (rw_aload_n (pc' := 2) (v := .ref r1) rfl rfl rfl ?_)
  refine wp_of e32 c32_2 (xc_V (pc' := 5) (r := r0) (as := [.ref r1]) (st := []) (lm_1_207) rfl rfl (Nat.le_of_ble_eq_true rfl) hW g0 sh_3 (by decide) rfl (by decide) (s_33 hW g0 g1 qtk gtk qrb grb) (fun R10600 T10601 H10602 p10603 => ?_))
  obtain ⟨e10604, w10606, f10607, z10608, e10605, b10609⟩ := p10603
  subst e10604
  subst e10605
  have f10610 := f0.tr f10607 rfl
  show wp _ _ 32 5 [(0, .ref r0), (1, .ref r1)] [vI z10608] _ H10602 _
  refine wp_of e32 c32_5 (rw_istore_n (pc' := 6) (z := z10608) (L' := [(2, vI z10608), (0, .ref r0), (1, .ref r1)]) rfl rfl rfl ?_)
  refine wp_of e32 c32_6 (rw_iload_n (pc' := 7) (z := z10608) rfl rfl ?_)
  refine wp_of e32 c32_7 (rw_if_ge (p1 := 12) (p2 := 10) (by decide) rfl ⟨by omega, by omega⟩ (fun c10611 => ?_) (fun c10611 => ?_))
  · refine wp_of e32 c32_12 (rw_aload_n (pc' := 13) (v := .ref r0) rfl rfl rfl ?_)
    have k10612 : H10602 r0 0 = H r0 0 := (f10607 r0 0 _ g0 rfl)
    have q10613 : H10602 r0 0 = (tk : Int) := k10612.trans qtk
    refine wp_of e32 c32_13 (xg_K (pc' := 16) lf_1_12 w10606 g0 sh_3 (by decide) (by decide) rfl q10613 rfl ?_)
    have k10614 : H10602 tk 0 = H tk 0 := (f10607 tk 0 _ gtk rfl)
    have q10615 : H10602 tk 0 = (rb : Int) := k10614.trans qrb
    refine wp_of e32 c32_16 (xc_V (pc' := 19) (r := tk) (as := []) (st := []) (lm_1_74) rfl rfl (Nat.le_of_ble_eq_true rfl) w10606 gtk sh_4 (by decide) rfl (by decide) (s_16 w10606 gtk q10615 grb) (fun R10616 T10617 H10618 p10619 => ?_))
    obtain ⟨e10620, w10622, f10623, e10621⟩ := p10619
    subst e10620
    subst e10621
    have f10624 := f10610.tr f10623 rfl
    show wp _ _ 32 19 [(2, vI z10608), (0, .ref r0), (1, .ref r1)] [] _ H10618 _
    refine wp_of e32 c32_19 (rw_aload_n (pc' := 20) (v := .ref r1) rfl rfl rfl ?_)
    refine wp_of e32 c32_20 (rw_iload_n (pc' := 21) (z := z10608) rfl rfl ?_)
    refine wp_of e32 c32_21 (xp_I (pc' := 24) lf_1_211 w10622 g1 sh_27 (by decide) (by decide) ty_27_15 rfl rfl (by omega) (by omega) ⟨by omega, by omega⟩ rfl (fun H10625 e10626 w10627 => ?_))
    have f10628 := f10624.put' e10626 g1 rfl
    have k10629 : H10625 r1 15 = z10608 := wq_u_s e10626
    refine wp_of e32 c32_24 (rw_iconst (pc' := 25) rfl ?_)
    exact wp_zreturn e32 c32_25 rfl (by omega) ⟨rfl, w10627, f10628, 1, rfl, ⟨by omega, by omega⟩⟩
  · refine wp_of e32 c32_10 (rw_iconst (pc' := 11) rfl ?_)
    exact wp_zreturn e32 c32_11 rfl (by omega) ⟨rfl, w10606, f10610, 0, rfl, ⟨by omega, by omega⟩⟩
/-! StrikeAwake$Reader.takes(I)Z -/
theorem e35 : wq_en 35 = some (1, 2, false, some FieldType.boolean) := rfl
theorem c35_0 : mc_cd 35 0 = some (.aload_n 0, 1) := by decide +kernel
theorem c35_1 : mc_cd 35 1 = some (.getfield 12, 3) := by decide +kernel
theorem c35_4 : mc_cd 35 4 = some (.getfield 38, 3) := by decide +kernel
theorem c35_7 : mc_cd 35 7 = some (.iload_n 1, 1) := by decide +kernel
theorem c35_8 : mc_cd 35 8 = some (.if_icmp .eq 9, 3) := by decide +kernel
theorem c35_11 : mc_cd 35 11 = some (.aload_n 0, 1) := by decide +kernel
theorem c35_12 : mc_cd 35 12 = some (.iconst 1, 1) := by decide +kernel
theorem c35_13 : mc_cd 35 13 = some (.invokevirtual 47, 3) := by decide +kernel
theorem c35_16 : mc_cd 35 16 = some (.ireturn, 1) := by decide +kernel
theorem c35_17 : mc_cd 35 17 = some (.aload_n 0, 1) := by decide +kernel
theorem c35_18 : mc_cd 35 18 = some (.getfield 12, 3) := by decide +kernel
theorem c35_21 : mc_cd 35 21 = some (.invokevirtual 74, 3) := by decide +kernel
theorem c35_24 : mc_cd 35 24 = some (.iconst 1, 1) := by decide +kernel
theorem c35_25 : mc_cd 35 25 = some (.ireturn, 1) := by decide +kernel
abbrev q_35 (r0 : Nat) (a1 : Int) (tk : Nat) (rb : Nat) (T : wq_T) (H : wq_H) : Option Value → wq_T → wq_H → Prop := fun r T' H' => T = T' ∧ WT T H' ∧ wfr [(3, 3), (3, 4), (4, 2), (4, 3), (4, 4), (4, 5), (4, 6)] T H H' ∧ ∃ z : Int, some (vI z) = r ∧ (0 ≤ z ∧ z ≤ 1)
set_option maxHeartbeats 4000000 in
theorem s_35 {kt : Nat → Option mc_E} {T : wq_T} {H : wq_H} {r0 : Nat} {a1 : Int} {tk : Nat} {rb : Nat} (hW : WT T H) (g0 : T.2.2.2 r0 = some 3) (i1 : (-2147483648) ≤ a1 ∧ a1 ≤ 2147483647) (qtk : H r0 0 = (tk : Int)) (gtk : T.2.2.2 tk = some 4) (qrb : H tk 0 = (rb : Int)) (grb : T.2.2.2 rb = some 2) : wpc kt 2 35 [.ref r0, vI a1] T H (q_35 r0 a1 tk rb T H) := by
  refine wp_enter e35 (Nat.le_of_ble_eq_true rfl) rfl ?_
  have f0 : wfr [(3, 3), (3, 4), (4, 2), (4, 3), (4, 4), (4, 5), (4, 6)] T H H := wfr.rf
  show wp _ _ 35 0 [(0, .ref r0), (1, vI a1)] [] _ H _
  refine wp_of e35 c35_0 (rw_aload_n (pc' := 1) (v := .ref r0) rfl rfl rfl ?_)
  refine wp_of e35 c35_1 (xg_K (pc' := 4) lf_1_12 hW g0 sh_3 (by decide) (by decide) rfl qtk rfl ?_)
  refine wp_of e35 c35_4 (xg_I (pc' := 7) lf_1_38 hW gtk sh_4 (by decide) (by decide) ty_4_3 rfl rfl (fun b10653 b10654 => ?_))
  refine wp_of e35 c35_7 (rw_iload_n (pc' := 8) (z := a1) rfl rfl ?_)
  refine wp_of e35 c35_8 (rw_icmp_eq (p1 := 17) (p2 := 11) (by decide) rfl ⟨by omega, by omega⟩ ⟨by omega, by omega⟩ (fun c10655 => ?_) (fun c10655 => ?_))
  · refine wp_of e35 c35_17 (rw_aload_n (pc' := 18) (v := .ref r0) rfl rfl rfl ?_)
    refine wp_of e35 c35_18 (xg_K (pc' := 21) lf_1_12 hW g0 sh_3 (by decide) (by decide) rfl qtk rfl ?_)
    refine wp_of e35 c35_21 (xc_V (pc' := 24) (r := tk) (as := []) (st := []) (lm_1_74) rfl rfl (Nat.le_of_ble_eq_true rfl) hW gtk sh_4 (by decide) rfl (by decide) (s_16 hW gtk qrb grb) (fun R10656 T10657 H10658 p10659 => ?_))
    obtain ⟨e10660, w10662, f10663, e10661⟩ := p10659
    subst e10660
    subst e10661
    have f10664 := f0.tr f10663 rfl
    show wp _ _ 35 24 [(0, .ref r0), (1, vI a1)] [] _ H10658 _
    refine wp_of e35 c35_24 (rw_iconst (pc' := 25) rfl ?_)
    exact wp_zreturn e35 c35_25 rfl (by omega) ⟨rfl, w10662, f10664, 1, rfl, ⟨by omega, by omega⟩⟩
  · refine wp_of e35 c35_11 (rw_aload_n (pc' := 12) (v := .ref r0) rfl rfl rfl ?_)
    refine wp_of e35 c35_12 (rw_iconst (pc' := 13) rfl ?_)
    refine wp_of e35 c35_13 (xc_V (pc' := 16) (r := r0) (as := [vI 1]) (st := []) (lm_1_47) rfl rfl (Nat.le_of_ble_eq_true rfl) hW g0 sh_3 (by decide) rfl (by decide) (s_20 hW g0 ⟨by omega, by omega⟩) (fun R10665 T10666 H10667 p10668 => ?_))
    obtain ⟨e10669, w10671, f10672, z10673, e10670, b10674⟩ := p10668
    subst e10669
    subst e10670
    have f10675 := f0.tr f10672 rfl
    show wp _ _ 35 16 [(0, .ref r0), (1, vI a1)] [vI z10673] _ H10667 _
    exact wp_zreturn e35 c35_16 rfl (by omega) ⟨rfl, w10671, f10675, z10673, rfl, ⟨by omega, by omega⟩⟩
/-! StrikeAwake.hasBit(II)Z -/
theorem e36 : wq_en 36 = some (0, 2, false, some FieldType.boolean) := rfl
theorem c36_0 : mc_cd 36 0 = some (.iload_n 0, 1) := by decide +kernel
theorem c36_1 : mc_cd 36 1 = some (.iload_n 1, 1) := by decide +kernel
theorem c36_2 : mc_cd 36 2 = some (.ishr, 1) := by decide +kernel
theorem c36_3 : mc_cd 36 3 = some (.iconst 1, 1) := by decide +kernel
theorem c36_4 : mc_cd 36 4 = some (.iand, 1) := by decide +kernel
theorem c36_5 : mc_cd 36 5 = some (.ifCond .eq 7, 3) := by decide +kernel
theorem c36_8 : mc_cd 36 8 = some (.iconst 1, 1) := by decide +kernel
theorem c36_9 : mc_cd 36 9 = some (.goto 4, 3) := by decide +kernel
theorem c36_12 : mc_cd 36 12 = some (.iconst 0, 1) := by decide +kernel
theorem c36_13 : mc_cd 36 13 = some (.ireturn, 1) := by decide +kernel
abbrev q_36 (a0 : Int) (a1 : Int) (T : wq_T) (H : wq_H) : Option Value → wq_T → wq_H → Prop := fun r T' H' => T = T' ∧ H = H' ∧ ∃ z : Int, some (vI z) = r ∧ (0 ≤ z ∧ z ≤ 1)
set_option maxHeartbeats 4000000 in
theorem s_36 {kt : Nat → Option mc_E} {T : wq_T} {H : wq_H} {a0 : Int} {a1 : Int} (hW : WT T H) (i0 : (-2147483648) ≤ a0 ∧ a0 ≤ 2147483647) (i1 : (-2147483648) ≤ a1 ∧ a1 ≤ 2147483647) : wpc kt 1 36 [vI a0, vI a1] T H (q_36 a0 a1 T H) := by
  refine wp_enter e36 (Nat.le_of_ble_eq_true rfl) rfl ?_
  show wp _ _ 36 0 [(0, vI a0), (1, vI a1)] [] _ H _
  refine wp_of e36 c36_0 (rw_iload_n (pc' := 1) (z := a0) rfl rfl ?_)
  refine wp_of e36 c36_1 (rw_iload_n (pc' := 2) (z := a1) rfl rfl ?_)
  refine wp_of e36 c36_2 (rw_ishr (pc' := 3) rfl ?_)
  obtain ⟨v10681, e10682⟩ : ∃ x : Int, x = wq_shr a0 a1 := ⟨_, rfl⟩
  rw [← e10682]
  have b10683 : -2147483648 ≤ v10681 ∧ v10681 ≤ 2147483647 := by
    rw [e10682]
    exact wI_shr _ _
  refine wp_of e36 c36_3 (rw_iconst (pc' := 4) rfl ?_)
  refine wp_of e36 c36_4 (rw_iand (pc' := 5) rfl ?_)
  obtain ⟨v10684, e10685⟩ : ∃ x : Int, x = wq_and v10681 1 := ⟨_, rfl⟩
  rw [← e10685]
  have b10686 : 0 ≤ v10684 ∧ v10684 ≤ 1 := by
    rw [e10685]
    exact wq_and_b _ (by omega) (by omega)
  refine wp_of e36 c36_5 (rw_if_eq (p1 := 12) (p2 := 8) (by decide) rfl ⟨by omega, by omega⟩ (fun c10687 => ?_) (fun c10687 => ?_))
  · refine wp_of e36 c36_12 (rw_iconst (pc' := 13) rfl ?_)
    exact wp_zreturn e36 c36_13 rfl (by omega) ⟨rfl, rfl, 0, rfl, ⟨by omega, by omega⟩⟩
  · refine wp_of e36 c36_8 (rw_iconst (pc' := 9) rfl ?_)
    refine wp_of e36 c36_9 (rw_goto (p1 := 13) (by decide) ?_)
    exact wp_zreturn e36 c36_13 rfl (by omega) ⟨rfl, rfl, 1, rfl, ⟨by omega, by omega⟩⟩
/-! StrikeAwake$Reader.readsApart(LStrikeAwake$Parish;)Z -/
theorem e34 : wq_en 34 = some (1, 4, false, some FieldType.boolean) := rfl
theorem c34_0 : mc_cd 34 0 = some (.aload_n 0, 1) := by decide +kernel
theorem c34_1 : mc_cd 34 1 = some (.aload_n 1, 1) := by decide +kernel
theorem c34_2 : mc_cd 34 2 = some (.invokevirtual 207, 3) := by decide +kernel
theorem c34_5 : mc_cd 34 5 = some (.istore_n 2, 1) := by decide +kernel
theorem c34_6 : mc_cd 34 6 = some (.iload_n 2, 1) := by decide +kernel
theorem c34_7 : mc_cd 34 7 = some (.ifCond .ge 5, 3) := by decide +kernel
theorem c34_10 : mc_cd 34 10 = some (.iconst 0, 1) := by decide +kernel
theorem c34_11 : mc_cd 34 11 = some (.ireturn, 1) := by decide +kernel
theorem c34_12 : mc_cd 34 12 = some (.aload_n 0, 1) := by decide +kernel
theorem c34_13 : mc_cd 34 13 = some (.getfield 12, 3) := by decide +kernel
theorem c34_16 : mc_cd 34 16 = some (.invokevirtual 74, 3) := by decide +kernel
theorem c34_19 : mc_cd 34 19 = some (.aload_n 0, 1) := by decide +kernel
theorem c34_20 : mc_cd 34 20 = some (.iconst 4, 1) := by decide +kernel
theorem c34_21 : mc_cd 34 21 = some (.invokevirtual 51, 3) := by decide +kernel
theorem c34_24 : mc_cd 34 24 = some (.ifCond .ne 5, 3) := by decide +kernel
theorem c34_27 : mc_cd 34 27 = some (.iconst 0, 1) := by decide +kernel
theorem c34_28 : mc_cd 34 28 = some (.ireturn, 1) := by decide +kernel
theorem c34_29 : mc_cd 34 29 = some (.aload_n 0, 1) := by decide +kernel
theorem c34_30 : mc_cd 34 30 = some (.aload_n 1, 1) := by decide +kernel
theorem c34_31 : mc_cd 34 31 = some (.invokevirtual 207, 3) := by decide +kernel
theorem c34_34 : mc_cd 34 34 = some (.istore_n 3, 1) := by decide +kernel
theorem c34_35 : mc_cd 34 35 = some (.iload_n 3, 1) := by decide +kernel
theorem c34_36 : mc_cd 34 36 = some (.ifCond .ge 5, 3) := by decide +kernel
theorem c34_39 : mc_cd 34 39 = some (.iconst 0, 1) := by decide +kernel
theorem c34_40 : mc_cd 34 40 = some (.ireturn, 1) := by decide +kernel
theorem c34_41 : mc_cd 34 41 = some (.iload_n 3, 1) := by decide +kernel
theorem c34_42 : mc_cd 34 42 = some (.iload_n 2, 1) := by decide +kernel
theorem c34_43 : mc_cd 34 43 = some (.if_icmp .eq 19, 3) := by decide +kernel
theorem c34_46 : mc_cd 34 46 = some (.aload_n 1, 1) := by decide +kernel
theorem c34_47 : mc_cd 34 47 = some (.getfield 143, 3) := by decide +kernel
theorem c34_50 : mc_cd 34 50 = some (.iload_n 2, 1) := by decide +kernel
theorem c34_51 : mc_cd 34 51 = some (.aaload, 1) := by decide +kernel
theorem c34_52 : mc_cd 34 52 = some (.getfield 214, 3) := by decide +kernel
theorem c34_55 : mc_cd 34 55 = some (.iload_n 3, 1) := by decide +kernel
theorem c34_56 : mc_cd 34 56 = some (.invokestatic 217, 3) := by decide +kernel
theorem c34_59 : mc_cd 34 59 = some (.ifCond .eq 9, 3) := by decide +kernel
theorem c34_62 : mc_cd 34 62 = some (.aload_n 0, 1) := by decide +kernel
theorem c34_63 : mc_cd 34 63 = some (.iconst 3, 1) := by decide +kernel
theorem c34_64 : mc_cd 34 64 = some (.invokevirtual 47, 3) := by decide +kernel
theorem c34_67 : mc_cd 34 67 = some (.ireturn, 1) := by decide +kernel
theorem c34_68 : mc_cd 34 68 = some (.aload_n 0, 1) := by decide +kernel
theorem c34_69 : mc_cd 34 69 = some (.getfield 12, 3) := by decide +kernel
theorem c34_72 : mc_cd 34 72 = some (.invokevirtual 74, 3) := by decide +kernel
theorem c34_75 : mc_cd 34 75 = some (.aload_n 1, 1) := by decide +kernel
theorem c34_76 : mc_cd 34 76 = some (.getfield 143, 3) := by decide +kernel
theorem c34_79 : mc_cd 34 79 = some (.iload_n 2, 1) := by decide +kernel
theorem c34_80 : mc_cd 34 80 = some (.aaload, 1) := by decide +kernel
theorem c34_81 : mc_cd 34 81 = some (.dup, 1) := by decide +kernel
theorem c34_82 : mc_cd 34 82 = some (.getfield 214, 3) := by decide +kernel
theorem c34_85 : mc_cd 34 85 = some (.iconst 1, 1) := by decide +kernel
theorem c34_86 : mc_cd 34 86 = some (.iload_n 3, 1) := by decide +kernel
theorem c34_87 : mc_cd 34 87 = some (.ishl, 1) := by decide +kernel
theorem c34_88 : mc_cd 34 88 = some (.ior, 1) := by decide +kernel
theorem c34_89 : mc_cd 34 89 = some (.putfield 214, 3) := by decide +kernel
theorem c34_92 : mc_cd 34 92 = some (.aload_n 1, 1) := by decide +kernel
theorem c34_93 : mc_cd 34 93 = some (.getfield 143, 3) := by decide +kernel
theorem c34_96 : mc_cd 34 96 = some (.iload_n 3, 1) := by decide +kernel
theorem c34_97 : mc_cd 34 97 = some (.aaload, 1) := by decide +kernel
theorem c34_98 : mc_cd 34 98 = some (.dup, 1) := by decide +kernel
theorem c34_99 : mc_cd 34 99 = some (.getfield 214, 3) := by decide +kernel
theorem c34_102 : mc_cd 34 102 = some (.iconst 1, 1) := by decide +kernel
theorem c34_103 : mc_cd 34 103 = some (.iload_n 2, 1) := by decide +kernel
theorem c34_104 : mc_cd 34 104 = some (.ishl, 1) := by decide +kernel
theorem c34_105 : mc_cd 34 105 = some (.ior, 1) := by decide +kernel
theorem c34_106 : mc_cd 34 106 = some (.putfield 214, 3) := by decide +kernel
theorem c34_109 : mc_cd 34 109 = some (.aload_n 1, 1) := by decide +kernel
theorem c34_110 : mc_cd 34 110 = some (.dup, 1) := by decide +kernel
theorem c34_111 : mc_cd 34 111 = some (.getfield 221, 3) := by decide +kernel
theorem c34_114 : mc_cd 34 114 = some (.iconst 1, 1) := by decide +kernel
theorem c34_115 : mc_cd 34 115 = some (.iadd, 1) := by decide +kernel
theorem c34_116 : mc_cd 34 116 = some (.putfield 221, 3) := by decide +kernel
theorem c34_119 : mc_cd 34 119 = some (.iconst 1, 1) := by decide +kernel
theorem c34_120 : mc_cd 34 120 = some (.ireturn, 1) := by decide +kernel
abbrev q_34 (r0 : Nat) (r1 : Nat) (tk : Nat) (rb : Nat) (T : wq_T) (H : wq_H) : Option Value → wq_T → wq_H → Prop := fun r T' H' => T = T' ∧ WT T H' ∧ wfr [(27, 11), (35, 14), (3, 3), (3, 4), (4, 2), (4, 3), (4, 4), (4, 5), (4, 6)] T H H' ∧ ∃ z : Int, some (vI z) = r ∧ (0 ≤ z ∧ z ≤ 1)
set_option maxHeartbeats 4000000 in
theorem s_34 {kt : Nat → Option mc_E} {T : wq_T} {H : wq_H} {r0 : Nat} {r1 : Nat} {tk : Nat} {rb : Nat} (hW : WT T H) (g0 : T.2.2.2 r0 = some 3) (g1 : T.2.2.2 r1 = some 27) (qtk : H r0 0 = (tk : Int)) (gtk : T.2.2.2 tk = some 4) (qrb : H tk 0 = (rb : Int)) (grb : T.2.2.2 rb = some 2) : wpc kt 5 34 [.ref r0, .ref r1] T H (q_34 r0 r1 tk rb T H) := by
  refine wp_enter e34 (Nat.le_of_ble_eq_true rfl) rfl ?_
  have f0 : wfr [(27, 11), (35, 14), (3, 3), (3, 4), (4, 2), (4, 3), (4, 4), (4, 5), (4, 6)] T H H := wfr.rf
  show wp _ _ 34 0 [(0, .ref r0), (1, .ref r1)] [] _ H _
  refine wp_of e34 c34_0 (rw_aload_n (pc' := 1) (v := .ref r0) rfl rfl rfl ?_)
  refine wp_of e34 c34_1 (rw_aload_n (pc' := 2) (v := .ref r1) rfl rfl rfl ?_)
  refine wp_of e34 c34_2 (xc_V (pc' := 5) (r := r0) (as := [.ref r1]) (st := []) (lm_1_207) rfl rfl (Nat.le_of_ble_eq_true rfl) hW g0 sh_3 (by decide) rfl (by decide) (s_33 hW g0 g1 qtk gtk qrb grb) (fun R10840 T10841 H10842 p10843 => ?_))
  obtain ⟨e10844, w10846, f10847, z10848, e10845, b10849⟩ := p10843
  subst e10844
  subst e10845
  have f10850 := f0.tr f10847 rfl
  show wp _ _ 34 5 [(0, .ref r0), (1, .ref r1)] [vI z10848] _ H10842 _
  refine wp_of e34 c34_5 (rw_istore_n (pc' := 6) (z := z10848) (L' := [(2, vI z10848), (0, .ref r0), (1, .ref r1)]) rfl rfl rfl ?_)
  refine wp_of e34 c34_6 (rw_iload_n (pc' := 7) (z := z10848) rfl rfl ?_)
  refine wp_of e34 c34_7 (rw_if_ge (p1 := 12) (p2 := 10) (by decide) rfl ⟨by omega, by omega⟩ (fun c10851 => ?_) (fun c10851 => ?_))
  · refine wp_of e34 c34_12 (rw_aload_n (pc' := 13) (v := .ref r0) rfl rfl rfl ?_)
    have k10852 : H10842 r0 0 = H r0 0 := (f10847 r0 0 _ g0 rfl)
    have q10853 : H10842 r0 0 = (tk : Int) := k10852.trans qtk
    refine wp_of e34 c34_13 (xg_K (pc' := 16) lf_1_12 w10846 g0 sh_3 (by decide) (by decide) rfl q10853 rfl ?_)
    have k10854 : H10842 tk 0 = H tk 0 := (f10847 tk 0 _ gtk rfl)
    have q10855 : H10842 tk 0 = (rb : Int) := k10854.trans qrb
    refine wp_of e34 c34_16 (xc_V (pc' := 19) (r := tk) (as := []) (st := []) (lm_1_74) rfl rfl (Nat.le_of_ble_eq_true rfl) w10846 gtk sh_4 (by decide) rfl (by decide) (s_16 w10846 gtk q10855 grb) (fun R10856 T10857 H10858 p10859 => ?_))
    obtain ⟨e10860, w10862, f10863, e10861⟩ := p10859
    subst e10860
    subst e10861
    have f10864 := f10850.tr f10863 rfl
    show wp _ _ 34 19 [(2, vI z10848), (0, .ref r0), (1, .ref r1)] [] _ H10858 _
    refine wp_of e34 c34_19 (rw_aload_n (pc' := 20) (v := .ref r0) rfl rfl rfl ?_)
    refine wp_of e34 c34_20 (rw_iconst (pc' := 21) rfl ?_)
    have k10865 : H10858 r0 0 = H10842 r0 0 := (f10863 r0 0 _ g0 rfl)
    have q10866 : H10858 r0 0 = (tk : Int) := k10865.trans q10853
    have k10867 : H10858 tk 0 = H10842 tk 0 := (f10863 tk 0 _ gtk rfl)
    have q10868 : H10858 tk 0 = (rb : Int) := k10867.trans q10855
    refine wp_of e34 c34_21 (xc_V (pc' := 24) (r := r0) (as := [vI 4]) (st := []) (lm_1_51) rfl rfl (Nat.le_of_ble_eq_true rfl) w10862 g0 sh_3 (by decide) rfl (by decide) (s_35 w10862 g0 ⟨by omega, by omega⟩ q10866 gtk q10868 grb) (fun R10869 T10870 H10871 p10872 => ?_))
    obtain ⟨e10873, w10875, f10876, z10877, e10874, b10878⟩ := p10872
    subst e10873
    subst e10874
    have f10879 := f10864.tr f10876 rfl
    show wp _ _ 34 24 [(2, vI z10848), (0, .ref r0), (1, .ref r1)] [vI z10877] _ H10871 _
    refine wp_of e34 c34_24 (rw_if_ne (p1 := 29) (p2 := 27) (by decide) rfl ⟨by omega, by omega⟩ (fun c10880 => ?_) (fun c10880 => ?_))
    · refine wp_of e34 c34_29 (rw_aload_n (pc' := 30) (v := .ref r0) rfl rfl rfl ?_)
      refine wp_of e34 c34_30 (rw_aload_n (pc' := 31) (v := .ref r1) rfl rfl rfl ?_)
      have k10881 : H10871 r0 0 = H10858 r0 0 := (f10876 r0 0 _ g0 rfl)
      have q10882 : H10871 r0 0 = (tk : Int) := k10881.trans q10866
      have k10883 : H10871 tk 0 = H10858 tk 0 := (f10876 tk 0 _ gtk rfl)
      have q10884 : H10871 tk 0 = (rb : Int) := k10883.trans q10868
      refine wp_of e34 c34_31 (xc_V (pc' := 34) (r := r0) (as := [.ref r1]) (st := []) (lm_1_207) rfl rfl (Nat.le_of_ble_eq_true rfl) w10875 g0 sh_3 (by decide) rfl (by decide) (s_33 w10875 g0 g1 q10882 gtk q10884 grb) (fun R10885 T10886 H10887 p10888 => ?_))
      obtain ⟨e10889, w10891, f10892, z10893, e10890, b10894⟩ := p10888
      subst e10889
      subst e10890
      have f10895 := f10879.tr f10892 rfl
      show wp _ _ 34 34 [(2, vI z10848), (0, .ref r0), (1, .ref r1)] [vI z10893] _ H10887 _
      refine wp_of e34 c34_34 (rw_istore_n (pc' := 35) (z := z10893) (L' := [(3, vI z10893), (2, vI z10848), (0, .ref r0), (1, .ref r1)]) rfl rfl rfl ?_)
      refine wp_of e34 c34_35 (rw_iload_n (pc' := 36) (z := z10893) rfl rfl ?_)
      refine wp_of e34 c34_36 (rw_if_ge (p1 := 41) (p2 := 39) (by decide) rfl ⟨by omega, by omega⟩ (fun c10896 => ?_) (fun c10896 => ?_))
      · refine wp_of e34 c34_41 (rw_iload_n (pc' := 42) (z := z10893) rfl rfl ?_)
        refine wp_of e34 c34_42 (rw_iload_n (pc' := 43) (z := z10848) rfl rfl ?_)
        refine wp_of e34 c34_43 (rw_icmp_eq (p1 := 62) (p2 := 46) (by decide) rfl ⟨by omega, by omega⟩ ⟨by omega, by omega⟩ (fun c10897 => ?_) (fun c10897 => ?_))
        · refine wp_of e34 c34_62 (rw_aload_n (pc' := 63) (v := .ref r0) rfl rfl rfl ?_)
          refine wp_of e34 c34_63 (rw_iconst (pc' := 64) rfl ?_)
          refine wp_of e34 c34_64 (xc_V (pc' := 67) (r := r0) (as := [vI 3]) (st := []) (lm_1_47) rfl rfl (Nat.le_of_ble_eq_true rfl) w10891 g0 sh_3 (by decide) rfl (by decide) (s_20 w10891 g0 ⟨by omega, by omega⟩) (fun R10898 T10899 H10900 p10901 => ?_))
          obtain ⟨e10902, w10904, f10905, z10906, e10903, b10907⟩ := p10901
          subst e10902
          subst e10903
          have f10908 := f10895.tr f10905 rfl
          show wp _ _ 34 67 [(3, vI z10893), (2, vI z10848), (0, .ref r0), (1, .ref r1)] [vI z10906] _ H10900 _
          exact wp_zreturn e34 c34_67 rfl (by omega) ⟨rfl, w10904, f10908, z10906, rfl, ⟨by omega, by omega⟩⟩
        · refine wp_of e34 c34_46 (rw_aload_n (pc' := 47) (v := .ref r1) rfl rfl rfl ?_)
          refine wp_of e34 c34_47 (xg_R (pc' := 50) lf_1_143 w10891 g1 sh_27 (by decide) (by decide) ty_27_0 rfl rfl (fun r10909 q10910 g10911 => ?_))
          refine wp_of e34 c34_50 (rw_iload_n (pc' := 51) (z := z10848) rfl rfl ?_)
          refine wp_of e34 c34_51 (xa_R (pc' := 52) (by decide) w10891 g10911 sh_28 (by decide) (ty_28 _) (by omega) (by omega) rfl (fun r10912 q10913 g10914 => ?_))
          refine wp_of e34 c34_52 (xg_I (pc' := 55) lf_1_214 w10891 g10914 sh_35 (by decide) (by decide) ty_35_14 rfl rfl (fun b10915 b10916 => ?_))
          refine wp_of e34 c34_55 (rw_iload_n (pc' := 56) (z := z10893) rfl rfl ?_)
          refine wp_of e34 c34_56 (xc_S (pc' := 59) (as := [vI (H10887 r10912 14), vI z10893]) (st := []) (lm_1_217) rfl rfl (Nat.le_of_ble_eq_true rfl) rfl (by decide) (s_36 w10891 ⟨by omega, by omega⟩ ⟨by omega, by omega⟩) (fun R10917 T10918 H10919 p10920 => ?_))
          obtain ⟨e10921, e10923, z10924, e10922, b10925⟩ := p10920
          subst e10921
          subst e10922
          subst e10923
          show wp _ _ 34 59 [(3, vI z10893), (2, vI z10848), (0, .ref r0), (1, .ref r1)] [vI z10924] _ H10887 _
          refine wp_of e34 c34_59 (rw_if_eq (p1 := 68) (p2 := 62) (by decide) rfl ⟨by omega, by omega⟩ (fun c10926 => ?_) (fun c10926 => ?_))
          · refine wp_of e34 c34_68 (rw_aload_n (pc' := 69) (v := .ref r0) rfl rfl rfl ?_)
            have k10927 : H10887 r0 0 = H10871 r0 0 := (f10892 r0 0 _ g0 rfl)
            have q10928 : H10887 r0 0 = (tk : Int) := k10927.trans q10882
            refine wp_of e34 c34_69 (xg_K (pc' := 72) lf_1_12 w10891 g0 sh_3 (by decide) (by decide) rfl q10928 rfl ?_)
            have k10929 : H10887 tk 0 = H10871 tk 0 := (f10892 tk 0 _ gtk rfl)
            have q10930 : H10887 tk 0 = (rb : Int) := k10929.trans q10884
            refine wp_of e34 c34_72 (xc_V (pc' := 75) (r := tk) (as := []) (st := []) (lm_1_74) rfl rfl (Nat.le_of_ble_eq_true rfl) w10891 gtk sh_4 (by decide) rfl (by decide) (s_16 w10891 gtk q10930 grb) (fun R10931 T10932 H10933 p10934 => ?_))
            obtain ⟨e10935, w10937, f10938, e10936⟩ := p10934
            subst e10935
            subst e10936
            have f10939 := f10895.tr f10938 rfl
            show wp _ _ 34 75 [(3, vI z10893), (2, vI z10848), (0, .ref r0), (1, .ref r1)] [] _ H10933 _
            refine wp_of e34 c34_75 (rw_aload_n (pc' := 76) (v := .ref r1) rfl rfl rfl ?_)
            have k10940 : H10933 r1 0 = H10887 r1 0 := (f10938 r1 0 _ g1 rfl)
            have q10941 : H10933 r1 0 = (r10909 : Int) := k10940.trans q10910
            refine wp_of e34 c34_76 (xg_K (pc' := 79) lf_1_143 w10937 g1 sh_27 (by decide) (by decide) rfl q10941 rfl ?_)
            refine wp_of e34 c34_79 (rw_iload_n (pc' := 80) (z := z10848) rfl rfl ?_)
            have k10942 : H10933 r10909 (z10848.toNat) = H10887 r10909 (z10848.toNat) := (f10938 r10909 (z10848.toNat) _ g10911 rfl)
            have q10943 : H10933 r10909 (z10848.toNat) = (r10912 : Int) := k10942.trans q10913
            refine wp_of e34 c34_80 (xa_K (pc' := 81) (by decide) w10937 g10911 sh_28 (by decide) (by omega) (by omega) q10943 rfl ?_)
            refine wp_of e34 c34_81 (rw_dup (pc' := 82) rfl rfl ?_)
            have k10944 : H10933 r10912 14 = H10887 r10912 14 := (f10938 r10912 14 _ g10914 rfl)
            refine wp_of e34 c34_82 (xg_I (pc' := 85) lf_1_214 w10937 g10914 sh_35 (by decide) (by decide) ty_35_14 rfl rfl (fun b10945 b10946 => ?_))
            refine wp_of e34 c34_85 (rw_iconst (pc' := 86) rfl ?_)
            refine wp_of e34 c34_86 (rw_iload_n (pc' := 87) (z := z10893) rfl rfl ?_)
            refine wp_of e34 c34_87 (rw_ishl (pc' := 88) rfl ?_)
            obtain ⟨v10947, e10948⟩ : ∃ x : Int, x = wq_shl 1 z10893 := ⟨_, rfl⟩
            rw [← e10948]
            have b10949 : -2147483648 ≤ v10947 ∧ v10947 ≤ 2147483647 := by
              rw [e10948]
              exact wI_shl _ _
            refine wp_of e34 c34_88 (rw_ior (pc' := 89) rfl ?_)
            obtain ⟨v10950, e10951⟩ : ∃ x : Int, x = wq_or (H10933 r10912 14) v10947 := ⟨_, rfl⟩
            rw [← e10951]
            have b10952 : -2147483648 ≤ v10950 ∧ v10950 ≤ 2147483647 := by
              rw [e10951]
              exact wI_or _ _
            refine wp_of e34 c34_89 (xp_I (pc' := 92) lf_1_214 w10937 g10914 sh_35 (by decide) (by decide) ty_35_14 rfl rfl (by omega) (by omega) ⟨by omega, by omega⟩ rfl (fun H10953 e10954 w10955 => ?_))
            have f10956 := f10939.put' e10954 g10914 rfl
            have k10957 : H10953 r10912 14 = v10950 := wq_u_s e10954
            refine wp_of e34 c34_92 (rw_aload_n (pc' := 93) (v := .ref r1) rfl rfl rfl ?_)
            have k10958 : H10953 r1 0 = H10933 r1 0 := (wq_u_t e10954 g10914 g1 rfl 0)
            have q10959 : H10953 r1 0 = (r10909 : Int) := k10958.trans q10941
            refine wp_of e34 c34_93 (xg_K (pc' := 96) lf_1_143 w10955 g1 sh_27 (by decide) (by decide) rfl q10959 rfl ?_)
            refine wp_of e34 c34_96 (rw_iload_n (pc' := 97) (z := z10893) rfl rfl ?_)
            refine wp_of e34 c34_97 (xa_R (pc' := 98) (by decide) w10955 g10911 sh_28 (by decide) (ty_28 _) (by omega) (by omega) rfl (fun r10960 q10961 g10962 => ?_))
            refine wp_of e34 c34_98 (rw_dup (pc' := 99) rfl rfl ?_)
            refine wp_of e34 c34_99 (xg_I (pc' := 102) lf_1_214 w10955 g10962 sh_35 (by decide) (by decide) ty_35_14 rfl rfl (fun b10963 b10964 => ?_))
            refine wp_of e34 c34_102 (rw_iconst (pc' := 103) rfl ?_)
            refine wp_of e34 c34_103 (rw_iload_n (pc' := 104) (z := z10848) rfl rfl ?_)
            refine wp_of e34 c34_104 (rw_ishl (pc' := 105) rfl ?_)
            obtain ⟨v10965, e10966⟩ : ∃ x : Int, x = wq_shl 1 z10848 := ⟨_, rfl⟩
            rw [← e10966]
            have b10967 : -2147483648 ≤ v10965 ∧ v10965 ≤ 2147483647 := by
              rw [e10966]
              exact wI_shl _ _
            refine wp_of e34 c34_105 (rw_ior (pc' := 106) rfl ?_)
            obtain ⟨v10968, e10969⟩ : ∃ x : Int, x = wq_or (H10953 r10960 14) v10965 := ⟨_, rfl⟩
            rw [← e10969]
            have b10970 : -2147483648 ≤ v10968 ∧ v10968 ≤ 2147483647 := by
              rw [e10969]
              exact wI_or _ _
            refine wp_of e34 c34_106 (xp_I (pc' := 109) lf_1_214 w10955 g10962 sh_35 (by decide) (by decide) ty_35_14 rfl rfl (by omega) (by omega) ⟨by omega, by omega⟩ rfl (fun H10971 e10972 w10973 => ?_))
            have f10974 := f10956.put' e10972 g10962 rfl
            have k10975 : H10971 r10960 14 = v10968 := wq_u_s e10972
            refine wp_of e34 c34_109 (rw_aload_n (pc' := 110) (v := .ref r1) rfl rfl rfl ?_)
            refine wp_of e34 c34_110 (rw_dup (pc' := 111) rfl rfl ?_)
            refine wp_of e34 c34_111 (xg_I (pc' := 114) lf_1_221 w10973 g1 sh_27 (by decide) (by decide) ty_27_11 rfl rfl (fun b10976 b10977 => ?_))
            refine wp_of e34 c34_114 (rw_iconst (pc' := 115) rfl ?_)
            refine wp_of e34 c34_115 (rw_iaddw (pc' := 116) rfl ?_)
            obtain ⟨v10978, e10979⟩ : ∃ x : Int, x = wq_w ((H10971 r1 11) + 1) := ⟨_, rfl⟩
            rw [← e10979]
            have b10980 : -2147483648 ≤ v10978 ∧ v10978 ≤ 2147483647 := by
              rw [e10979]
              exact wI_w _
            refine wp_of e34 c34_116 (xp_I (pc' := 119) lf_1_221 w10973 g1 sh_27 (by decide) (by decide) ty_27_11 rfl rfl (by omega) (by omega) ⟨by omega, by omega⟩ rfl (fun H10981 e10982 w10983 => ?_))
            have f10984 := f10974.put' e10982 g1 rfl
            have k10985 : H10981 r1 11 = v10978 := wq_u_s e10982
            refine wp_of e34 c34_119 (rw_iconst (pc' := 120) rfl ?_)
            exact wp_zreturn e34 c34_120 rfl (by omega) ⟨rfl, w10983, f10984, 1, rfl, ⟨by omega, by omega⟩⟩
          · refine wp_of e34 c34_62 (rw_aload_n (pc' := 63) (v := .ref r0) rfl rfl rfl ?_)
            refine wp_of e34 c34_63 (rw_iconst (pc' := 64) rfl ?_)
            refine wp_of e34 c34_64 (xc_V (pc' := 67) (r := r0) (as := [vI 3]) (st := []) (lm_1_47) rfl rfl (Nat.le_of_ble_eq_true rfl) w10891 g0 sh_3 (by decide) rfl (by decide) (s_20 w10891 g0 ⟨by omega, by omega⟩) (fun R10986 T10987 H10988 p10989 => ?_))
            obtain ⟨e10990, w10992, f10993, z10994, e10991, b10995⟩ := p10989
            subst e10990
            subst e10991
            have f10996 := f10895.tr f10993 rfl
            show wp _ _ 34 67 [(3, vI z10893), (2, vI z10848), (0, .ref r0), (1, .ref r1)] [vI z10994] _ H10988 _
            exact wp_zreturn e34 c34_67 rfl (by omega) ⟨rfl, w10992, f10996, z10994, rfl, ⟨by omega, by omega⟩⟩
      · refine wp_of e34 c34_39 (rw_iconst (pc' := 40) rfl ?_)
        exact wp_zreturn e34 c34_40 rfl (by omega) ⟨rfl, w10891, f10895, 0, rfl, ⟨by omega, by omega⟩⟩
    · refine wp_of e34 c34_27 (rw_iconst (pc' := 28) rfl ?_)
      exact wp_zreturn e34 c34_28 rfl (by omega) ⟨rfl, w10875, f10879, 0, rfl, ⟨by omega, by omega⟩⟩
  · refine wp_of e34 c34_10 (rw_iconst (pc' := 11) rfl ?_)
    exact wp_zreturn e34 c34_11 rfl (by omega) ⟨rfl, w10846, f10850, 0, rfl, ⟨by omega, by omega⟩⟩
/-! StrikeAwake$Reader.readsBorn(LStrikeAwake$Parish;)Z -/
theorem e37 : wq_en 37 = some (1, 3, false, some FieldType.boolean) := rfl
theorem c37_0 : mc_cd 37 0 = some (.aload_n 0, 1) := by decide +kernel
theorem c37_1 : mc_cd 37 1 = some (.iconst 0, 1) := by decide +kernel
theorem c37_2 : mc_cd 37 2 = some (.bipush 23, 2) := by decide +kernel
theorem c37_4 : mc_cd 37 4 = some (.invokevirtual 119, 3) := by decide +kernel
theorem c37_7 : mc_cd 37 7 = some (.istore_n 2, 1) := by decide +kernel
theorem c37_8 : mc_cd 37 8 = some (.iload_n 2, 1) := by decide +kernel
theorem c37_9 : mc_cd 37 9 = some (.ifCond .ge 5, 3) := by decide +kernel
theorem c37_12 : mc_cd 37 12 = some (.iconst 0, 1) := by decide +kernel
theorem c37_13 : mc_cd 37 13 = some (.ireturn, 1) := by decide +kernel
theorem c37_14 : mc_cd 37 14 = some (.aload_n 1, 1) := by decide +kernel
theorem c37_15 : mc_cd 37 15 = some (.getfield 224, 3) := by decide +kernel
theorem c37_18 : mc_cd 37 18 = some (.aload_n 1, 1) := by decide +kernel
theorem c37_19 : mc_cd 37 19 = some (.getfield 227, 3) := by decide +kernel
theorem c37_22 : mc_cd 37 22 = some (.iload_n 2, 1) := by decide +kernel
theorem c37_23 : mc_cd 37 23 = some (.iastore, 1) := by decide +kernel
theorem c37_24 : mc_cd 37 24 = some (.aload_n 1, 1) := by decide +kernel
theorem c37_25 : mc_cd 37 25 = some (.dup, 1) := by decide +kernel
theorem c37_26 : mc_cd 37 26 = some (.getfield 227, 3) := by decide +kernel
theorem c37_29 : mc_cd 37 29 = some (.iconst 1, 1) := by decide +kernel
theorem c37_30 : mc_cd 37 30 = some (.iadd, 1) := by decide +kernel
theorem c37_31 : mc_cd 37 31 = some (.putfield 227, 3) := by decide +kernel
theorem c37_34 : mc_cd 37 34 = some (.iconst 1, 1) := by decide +kernel
theorem c37_35 : mc_cd 37 35 = some (.ireturn, 1) := by decide +kernel
abbrev q_37 (r0 : Nat) (r1 : Nat) (tk : Nat) (rb : Nat) (T : wq_T) (H : wq_H) : Option Value → wq_T → wq_H → Prop := fun r T' H' => T = T' ∧ WT T H' ∧ wfr [(27, 12), (3, 3), (3, 4), (4, 2), (4, 3), (4, 4), (4, 5), (4, 6), (31, 999)] T H H' ∧ ∃ z : Int, some (vI z) = r ∧ (0 ≤ z ∧ z ≤ 1)
set_option maxHeartbeats 4000000 in
theorem s_37 {kt : Nat → Option mc_E} {T : wq_T} {H : wq_H} {r0 : Nat} {r1 : Nat} {tk : Nat} {rb : Nat} (hW : WT T H) (g0 : T.2.2.2 r0 = some 3) (g1 : T.2.2.2 r1 = some 27) (qtk : H r0 0 = (tk : Int)) (gtk : T.2.2.2 tk = some 4) (qrb : H tk 0 = (rb : Int)) (grb : T.2.2.2 rb = some 2) (p0 : H r1 12 ≤ 2) : wpc kt 3 37 [.ref r0, .ref r1] T H (q_37 r0 r1 tk rb T H) := by
  refine wp_enter e37 (Nat.le_of_ble_eq_true rfl) rfl ?_
  have f0 : wfr [(27, 12), (3, 3), (3, 4), (4, 2), (4, 3), (4, 4), (4, 5), (4, 6), (31, 999)] T H H := wfr.rf
  show wp _ _ 37 0 [(0, .ref r0), (1, .ref r1)] [] _ H _
  refine wp_of e37 c37_0 (rw_aload_n (pc' := 1) (v := .ref r0) rfl rfl rfl ?_)
  refine wp_of e37 c37_1 (rw_iconst (pc' := 2) rfl ?_)
  refine wp_of e37 c37_2 (rw_bipush (pc' := 4) (z := 23) rfl (by decide) ?_)
  refine wp_of e37 c37_4 (xc_V (pc' := 7) (r := r0) (as := [vI 0, vI 23]) (st := []) (lm_1_119) rfl rfl (Nat.le_of_ble_eq_true rfl) hW g0 sh_3 (by decide) rfl (by decide) (s_24 hW g0 ⟨by omega, by omega⟩ ⟨by omega, by omega⟩ qtk gtk qrb grb) (fun R11028 T11029 H11030 p11031 => ?_))
  obtain ⟨e11032, w11034, f11035, z11037, e11033, b11038, p11036⟩ := p11031
  subst e11032
  subst e11033
  have f11039 := f0.tr f11035 rfl
  show wp _ _ 37 7 [(0, .ref r0), (1, .ref r1)] [vI z11037] _ H11030 _
  refine wp_of e37 c37_7 (rw_istore_n (pc' := 8) (z := z11037) (L' := [(2, vI z11037), (0, .ref r0), (1, .ref r1)]) rfl rfl rfl ?_)
  refine wp_of e37 c37_8 (rw_iload_n (pc' := 9) (z := z11037) rfl rfl ?_)
  refine wp_of e37 c37_9 (rw_if_ge (p1 := 14) (p2 := 12) (by decide) rfl ⟨by omega, by omega⟩ (fun c11040 => ?_) (fun c11040 => ?_))
  · refine wp_of e37 c37_14 (rw_aload_n (pc' := 15) (v := .ref r1) rfl rfl rfl ?_)
    refine wp_of e37 c37_15 (xg_R (pc' := 18) lf_1_224 w11034 g1 sh_27 (by decide) (by decide) ty_27_3 rfl rfl (fun r11041 q11042 g11043 => ?_))
    refine wp_of e37 c37_18 (rw_aload_n (pc' := 19) (v := .ref r1) rfl rfl rfl ?_)
    have k11044 : H11030 r1 12 = H r1 12 := (f11035 r1 12 _ g1 rfl)
    refine wp_of e37 c37_19 (xg_I (pc' := 22) lf_1_227 w11034 g1 sh_27 (by decide) (by decide) ty_27_12 rfl rfl (fun b11045 b11046 => ?_))
    refine wp_of e37 c37_22 (rw_iload_n (pc' := 23) (z := z11037) rfl rfl ?_)
    refine wp_of e37 c37_23 (xs_I (pc' := 24) w11034 g11043 (by decide) sh_31 (by decide) (ty_31 _) (by omega) (by omega) ⟨by omega, by omega⟩ (by omega) (by omega) rfl (fun H11047 e11048 w11049 => ?_))
    have f11050 := f11039.put' e11048 g11043 rfl
    refine wp_of e37 c37_24 (rw_aload_n (pc' := 25) (v := .ref r1) rfl rfl rfl ?_)
    refine wp_of e37 c37_25 (rw_dup (pc' := 26) rfl rfl ?_)
    have k11051 : H11047 r1 12 = H11030 r1 12 := (wq_u_t e11048 g11043 g1 rfl 12)
    refine wp_of e37 c37_26 (xg_I (pc' := 29) lf_1_227 w11049 g1 sh_27 (by decide) (by decide) ty_27_12 rfl rfl (fun b11052 b11053 => ?_))
    refine wp_of e37 c37_29 (rw_iconst (pc' := 30) rfl ?_)
    refine wp_of e37 c37_30 (rw_iadd (pc' := 31) rfl ?_)
    refine wp_of e37 c37_31 (xp_I (pc' := 34) lf_1_227 w11049 g1 sh_27 (by decide) (by decide) ty_27_12 rfl rfl (by omega) (by omega) ⟨by omega, by omega⟩ rfl (fun H11054 e11055 w11056 => ?_))
    have f11057 := f11050.put' e11055 g1 rfl
    have k11058 : H11054 r1 12 = (H11047 r1 12) + 1 := wq_u_s e11055
    refine wp_of e37 c37_34 (rw_iconst (pc' := 35) rfl ?_)
    exact wp_zreturn e37 c37_35 rfl (by omega) ⟨rfl, w11056, f11057, 1, rfl, ⟨by omega, by omega⟩⟩
  · refine wp_of e37 c37_12 (rw_iconst (pc' := 13) rfl ?_)
    exact wp_zreturn e37 c37_13 rfl (by omega) ⟨rfl, w11034, f11039, 0, rfl, ⟨by omega, by omega⟩⟩
/-! StrikeAwake$Parish.isStruck(I)Z -/
theorem e39 : wq_en 39 = some (7, 2, false, some FieldType.boolean) := rfl
theorem c39_0 : mc_cd 39 0 = some (.iload_n 1, 1) := by decide +kernel
theorem c39_1 : mc_cd 39 1 = some (.ifCond .lt 22, 3) := by decide +kernel
theorem c39_4 : mc_cd 39 4 = some (.iload_n 1, 1) := by decide +kernel
theorem c39_5 : mc_cd 39 5 = some (.bipush 24, 2) := by decide +kernel
theorem c39_7 : mc_cd 39 7 = some (.if_icmp .ge 16, 3) := by decide +kernel
theorem c39_10 : mc_cd 39 10 = some (.aload_n 0, 1) := by decide +kernel
theorem c39_11 : mc_cd 39 11 = some (.getfield 17, 3) := by decide +kernel
theorem c39_14 : mc_cd 39 14 = some (.iload_n 1, 1) := by decide +kernel
theorem c39_15 : mc_cd 39 15 = some (.iaload, 1) := by decide +kernel
theorem c39_16 : mc_cd 39 16 = some (.ifCond .lt 7, 3) := by decide +kernel
theorem c39_19 : mc_cd 39 19 = some (.iconst 1, 1) := by decide +kernel
theorem c39_20 : mc_cd 39 20 = some (.goto 4, 3) := by decide +kernel
theorem c39_23 : mc_cd 39 23 = some (.iconst 0, 1) := by decide +kernel
theorem c39_24 : mc_cd 39 24 = some (.ireturn, 1) := by decide +kernel
abbrev q_39 (r0 : Nat) (a1 : Int) (T : wq_T) (H : wq_H) : Option Value → wq_T → wq_H → Prop := fun r T' H' => T = T' ∧ H = H' ∧ ∃ z : Int, some (vI z) = r ∧ (0 ≤ z ∧ z ≤ 1)
set_option maxHeartbeats 4000000 in
theorem s_39 {kt : Nat → Option mc_E} {T : wq_T} {H : wq_H} {r0 : Nat} {a1 : Int} (hW : WT T H) (g0 : T.2.2.2 r0 = some 27) (i1 : (-2147483648) ≤ a1 ∧ a1 ≤ 2147483647) : wpc kt 1 39 [.ref r0, vI a1] T H (q_39 r0 a1 T H) := by
  refine wp_enter e39 (Nat.le_of_ble_eq_true rfl) rfl ?_
  show wp _ _ 39 0 [(0, .ref r0), (1, vI a1)] [] _ H _
  refine wp_of e39 c39_0 (rw_iload_n (pc' := 1) (z := a1) rfl rfl ?_)
  refine wp_of e39 c39_1 (rw_if_lt (p1 := 23) (p2 := 4) (by decide) rfl ⟨by omega, by omega⟩ (fun c11067 => ?_) (fun c11067 => ?_))
  · refine wp_of e39 c39_23 (rw_iconst (pc' := 24) rfl ?_)
    exact wp_zreturn e39 c39_24 rfl (by omega) ⟨rfl, rfl, 0, rfl, ⟨by omega, by omega⟩⟩
  · refine wp_of e39 c39_4 (rw_iload_n (pc' := 5) (z := a1) rfl rfl ?_)
    refine wp_of e39 c39_5 (rw_bipush (pc' := 7) (z := 24) rfl (by decide) ?_)
    refine wp_of e39 c39_7 (rw_icmp_ge (p1 := 23) (p2 := 10) (by decide) rfl ⟨by omega, by omega⟩ ⟨by omega, by omega⟩ (fun c11068 => ?_) (fun c11068 => ?_))
    · refine wp_of e39 c39_23 (rw_iconst (pc' := 24) rfl ?_)
      exact wp_zreturn e39 c39_24 rfl (by omega) ⟨rfl, rfl, 0, rfl, ⟨by omega, by omega⟩⟩
    · refine wp_of e39 c39_10 (rw_aload_n (pc' := 11) (v := .ref r0) rfl rfl rfl ?_)
      refine wp_of e39 c39_11 (xg_R (pc' := 14) lf_7_17 hW g0 sh_27 (by decide) (by decide) ty_27_1 rfl rfl (fun r11069 q11070 g11071 => ?_))
      refine wp_of e39 c39_14 (rw_iload_n (pc' := 15) (z := a1) rfl rfl ?_)
      refine wp_of e39 c39_15 (xa_I (so := 0) (pc' := 16) hW g11071 sh_29 (by decide) (ty_29 _) (by omega) (by omega) rfl (fun b11072 b11073 => ?_))
      refine wp_of e39 c39_16 (rw_if_lt (p1 := 23) (p2 := 19) (by decide) rfl ⟨by omega, by omega⟩ (fun c11074 => ?_) (fun c11074 => ?_))
      · refine wp_of e39 c39_23 (rw_iconst (pc' := 24) rfl ?_)
        exact wp_zreturn e39 c39_24 rfl (by omega) ⟨rfl, rfl, 0, rfl, ⟨by omega, by omega⟩⟩
      · refine wp_of e39 c39_19 (rw_iconst (pc' := 20) rfl ?_)
        refine wp_of e39 c39_20 (rw_goto (p1 := 24) (by decide) ?_)
        exact wp_zreturn e39 c39_24 rfl (by omega) ⟨rfl, rfl, 1, rfl, ⟨by omega, by omega⟩⟩
/-! StrikeAwake$Parish.listStruck()V -/
theorem e41 : wq_en 41 = some (7, 2, false, none) := rfl
theorem c41_0 : mc_cd 41 0 = some (.aload_n 0, 1) := by decide +kernel
theorem c41_1 : mc_cd 41 1 = some (.iconst 0, 1) := by decide +kernel
theorem c41_2 : mc_cd 41 2 = some (.putfield 65, 3) := by decide +kernel
theorem c41_5 : mc_cd 41 5 = some (.iconst 0, 1) := by decide +kernel
theorem c41_6 : mc_cd 41 6 = some (.istore_n 1, 1) := by decide +kernel
theorem c41_7 : mc_cd 41 7 = some (.iload_n 1, 1) := by decide +kernel
theorem c41_8 : mc_cd 41 8 = some (.bipush 24, 2) := by decide +kernel
theorem c41_10 : mc_cd 41 10 = some (.if_icmp .ge 38, 3) := by decide +kernel
theorem c41_13 : mc_cd 41 13 = some (.aload_n 0, 1) := by decide +kernel
theorem c41_14 : mc_cd 41 14 = some (.getfield 17, 3) := by decide +kernel
theorem c41_17 : mc_cd 41 17 = some (.iload_n 1, 1) := by decide +kernel
theorem c41_18 : mc_cd 41 18 = some (.iaload, 1) := by decide +kernel
theorem c41_19 : mc_cd 41 19 = some (.ifCond .lt 23, 3) := by decide +kernel
theorem c41_22 : mc_cd 41 22 = some (.aload_n 0, 1) := by decide +kernel
theorem c41_23 : mc_cd 41 23 = some (.getfield 21, 3) := by decide +kernel
theorem c41_26 : mc_cd 41 26 = some (.aload_n 0, 1) := by decide +kernel
theorem c41_27 : mc_cd 41 27 = some (.getfield 65, 3) := by decide +kernel
theorem c41_30 : mc_cd 41 30 = some (.iload_n 1, 1) := by decide +kernel
theorem c41_31 : mc_cd 41 31 = some (.iastore, 1) := by decide +kernel
theorem c41_32 : mc_cd 41 32 = some (.aload_n 0, 1) := by decide +kernel
theorem c41_33 : mc_cd 41 33 = some (.dup, 1) := by decide +kernel
theorem c41_34 : mc_cd 41 34 = some (.getfield 65, 3) := by decide +kernel
theorem c41_37 : mc_cd 41 37 = some (.iconst 1, 1) := by decide +kernel
theorem c41_38 : mc_cd 41 38 = some (.iadd, 1) := by decide +kernel
theorem c41_39 : mc_cd 41 39 = some (.putfield 65, 3) := by decide +kernel
theorem c41_42 : mc_cd 41 42 = some (.iinc 1 1, 3) := by decide +kernel
theorem c41_45 : mc_cd 41 45 = some (.goto (-38), 3) := by decide +kernel
theorem c41_48 : mc_cd 41 48 = some (.return_, 1) := by decide +kernel
abbrev q_41 (r0 : Nat) (T : wq_T) (H : wq_H) : Option Value → wq_T → wq_H → Prop := fun r T' H' => T = T' ∧ WT T H' ∧ wfr [(27, 16), (30, 999)] T H H' ∧ none = r
set_option maxHeartbeats 4000000 in
theorem s_41 {kt : Nat → Option mc_E} {T : wq_T} {H : wq_H} {r0 : Nat} (hW : WT T H) (g0 : T.2.2.2 r0 = some 27) : wpc kt 1 41 [.ref r0] T H (q_41 r0 T H) := by
  refine wp_enter e41 (Nat.le_of_ble_eq_true rfl) rfl ?_
  have f0 : wfr [(27, 16), (30, 999)] T H H := wfr.rf
  show wp _ _ 41 0 [(0, .ref r0)] [] _ H _
  refine wp_of e41 c41_0 (rw_aload_n (pc' := 1) (v := .ref r0) rfl rfl rfl ?_)
  refine wp_of e41 c41_1 (rw_iconst (pc' := 2) rfl ?_)
  refine wp_of e41 c41_2 (xp_I (pc' := 5) lf_7_65 hW g0 sh_27 (by decide) (by decide) ty_27_16 rfl rfl (by omega) (by omega) ⟨by omega, by omega⟩ rfl (fun H11298 e11299 w11300 => ?_))
  have f11301 := f0.put' e11299 g0 rfl
  have k11302 : H11298 r0 16 = 0 := wq_u_s e11299
  refine wp_of e41 c41_5 (rw_iconst (pc' := 6) rfl ?_)
  refine wp_of e41 c41_6 (rw_istore_n (pc' := 7) (z := 0) (L' := [(1, vI 0), (0, .ref r0)]) rfl rfl rfl ?_)
  have lp11496 : ∀ (n11497 : Nat) (v11499 : Int) (H11500 : wq_H), WT T H11500 → wfr [(27, 16), (30, 999)] T H11298 H11500 → (0 ≤ v11499 ∧ v11499 ≤ 24) → (H11500 r0 16 ≤ v11499) → (24 - v11499).toNat = n11497 → wp kt 0 41 7 [(1, vI v11499), (0, .ref r0)] [] T H11500 (q_41 r0 T H) := by
    intro n11497
    induction n11497 using Nat.strongRecOn with
    | _ n11497 ih11498 =>
      intro v11499 H11500 w11501 f11502 b11503 x11504 m11505
      have f11506 := f11301.tr f11502 rfl
      refine wp_of e41 c41_7 (rw_iload_n (pc' := 8) (z := v11499) rfl rfl ?_)
      refine wp_of e41 c41_8 (rw_bipush (pc' := 10) (z := 24) rfl (by decide) ?_)
      refine wp_of e41 c41_10 (rw_icmp_ge (p1 := 48) (p2 := 13) (by decide) rfl ⟨by omega, by omega⟩ ⟨by omega, by omega⟩ (fun c11507 => ?_) (fun c11507 => ?_))
      · exact wp_return e41 c41_48 rfl ⟨rfl, w11501, f11506, rfl⟩
      · refine wp_of e41 c41_13 (rw_aload_n (pc' := 14) (v := .ref r0) rfl rfl rfl ?_)
        refine wp_of e41 c41_14 (xg_R (pc' := 17) lf_7_17 w11501 g0 sh_27 (by decide) (by decide) ty_27_1 rfl rfl (fun r11508 q11509 g11510 => ?_))
        refine wp_of e41 c41_17 (rw_iload_n (pc' := 18) (z := v11499) rfl rfl ?_)
        refine wp_of e41 c41_18 (xa_I (so := 0) (pc' := 19) w11501 g11510 sh_29 (by decide) (ty_29 _) (by omega) (by omega) rfl (fun b11511 b11512 => ?_))
        refine wp_of e41 c41_19 (rw_if_lt (p1 := 42) (p2 := 22) (by decide) rfl ⟨by omega, by omega⟩ (fun c11513 => ?_) (fun c11513 => ?_))
        · refine wp_of e41 c41_42 (rw_iinc (pc' := 45) (z := v11499) (L' := [(1, vI (v11499 + 1)), (0, .ref r0)]) rfl rfl rfl rfl ?_)
          refine wp_of e41 c41_45 (rw_goto (p1 := 7) (by decide) ?_)
          exact wp_lc (ks := [1, 0]) (wl_c rfl (wl_c rfl wl_n)) rfl (by decide) (ih11498 _ (by omega) (v11499 + 1) H11500 w11501 f11502 ⟨by omega, by omega⟩ (by omega) rfl)
        · refine wp_of e41 c41_22 (rw_aload_n (pc' := 23) (v := .ref r0) rfl rfl rfl ?_)
          refine wp_of e41 c41_23 (xg_R (pc' := 26) lf_7_21 w11501 g0 sh_27 (by decide) (by decide) ty_27_2 rfl rfl (fun r11514 q11515 g11516 => ?_))
          refine wp_of e41 c41_26 (rw_aload_n (pc' := 27) (v := .ref r0) rfl rfl rfl ?_)
          refine wp_of e41 c41_27 (xg_I (pc' := 30) lf_7_65 w11501 g0 sh_27 (by decide) (by decide) ty_27_16 rfl rfl (fun b11517 b11518 => ?_))
          refine wp_of e41 c41_30 (rw_iload_n (pc' := 31) (z := v11499) rfl rfl ?_)
          refine wp_of e41 c41_31 (xs_I (pc' := 32) w11501 g11516 (by decide) sh_30 (by decide) (ty_30 _) (by omega) (by omega) ⟨by omega, by omega⟩ (by omega) (by omega) rfl (fun H11519 e11520 w11521 => ?_))
          have f11522 := f11506.put' e11520 g11516 rfl
          have f11523 := f11502.put' e11520 g11516 rfl
          refine wp_of e41 c41_32 (rw_aload_n (pc' := 33) (v := .ref r0) rfl rfl rfl ?_)
          refine wp_of e41 c41_33 (rw_dup (pc' := 34) rfl rfl ?_)
          have k11524 : H11519 r0 16 = H11500 r0 16 := (wq_u_t e11520 g11516 g0 rfl 16)
          refine wp_of e41 c41_34 (xg_I (pc' := 37) lf_7_65 w11521 g0 sh_27 (by decide) (by decide) ty_27_16 rfl rfl (fun b11525 b11526 => ?_))
          refine wp_of e41 c41_37 (rw_iconst (pc' := 38) rfl ?_)
          refine wp_of e41 c41_38 (rw_iadd (pc' := 39) rfl ?_)
          refine wp_of e41 c41_39 (xp_I (pc' := 42) lf_7_65 w11521 g0 sh_27 (by decide) (by decide) ty_27_16 rfl rfl (by omega) (by omega) ⟨by omega, by omega⟩ rfl (fun H11527 e11528 w11529 => ?_))
          have f11530 := f11522.put' e11528 g0 rfl
          have f11531 := f11523.put' e11528 g0 rfl
          have k11532 : H11527 r0 16 = (H11519 r0 16) + 1 := wq_u_s e11528
          refine wp_of e41 c41_42 (rw_iinc (pc' := 45) (z := v11499) (L' := [(1, vI (v11499 + 1)), (0, .ref r0)]) rfl rfl rfl rfl ?_)
          refine wp_of e41 c41_45 (rw_goto (p1 := 7) (by decide) ?_)
          exact wp_lc (ks := [1, 0]) (wl_c rfl (wl_c rfl wl_n)) rfl (by decide) (ih11498 _ (by omega) (v11499 + 1) H11527 w11529 f11531 ⟨by omega, by omega⟩ (by omega) rfl)
  exact wp_lc (ks := [1, 0]) (wl_c rfl (wl_c rfl wl_n)) rfl (by decide) (lp11496 _ 0 H11298 w11300 wfr.rf ⟨by omega, by omega⟩ (by omega) rfl)
/-! StrikeAwake$Parish.setStroke(II)V -/
theorem e40 : wq_en 40 = some (7, 3, false, none) := rfl
theorem c40_0 : mc_cd 40 0 = some (.aload_n 0, 1) := by decide +kernel
theorem c40_1 : mc_cd 40 1 = some (.getfield 17, 3) := by decide +kernel
theorem c40_4 : mc_cd 40 4 = some (.iload_n 1, 1) := by decide +kernel
theorem c40_5 : mc_cd 40 5 = some (.iload_n 2, 1) := by decide +kernel
theorem c40_6 : mc_cd 40 6 = some (.iastore, 1) := by decide +kernel
theorem c40_7 : mc_cd 40 7 = some (.aload_n 0, 1) := by decide +kernel
theorem c40_8 : mc_cd 40 8 = some (.invokevirtual 89, 3) := by decide +kernel
theorem c40_11 : mc_cd 40 11 = some (.return_, 1) := by decide +kernel
abbrev q_40 (r0 : Nat) (a1 : Int) (a2 : Int) (T : wq_T) (H : wq_H) : Option Value → wq_T → wq_H → Prop := fun r T' H' => T = T' ∧ WT T H' ∧ wfr [(27, 16), (29, 999), (30, 999)] T H H' ∧ none = r
set_option maxHeartbeats 4000000 in
theorem s_40 {kt : Nat → Option mc_E} {T : wq_T} {H : wq_H} {r0 : Nat} {a1 : Int} {a2 : Int} (hW : WT T H) (g0 : T.2.2.2 r0 = some 27) (i1 : 0 ≤ a1 ∧ a1 ≤ 23) (i2 : (-2147483648) ≤ a2 ∧ a2 ≤ 2147483647) : wpc kt 2 40 [.ref r0, vI a1, vI a2] T H (q_40 r0 a1 a2 T H) := by
  refine wp_enter e40 (Nat.le_of_ble_eq_true rfl) rfl ?_
  have f0 : wfr [(27, 16), (29, 999), (30, 999)] T H H := wfr.rf
  show wp _ _ 40 0 [(0, .ref r0), (1, vI a1), (2, vI a2)] [] _ H _
  refine wp_of e40 c40_0 (rw_aload_n (pc' := 1) (v := .ref r0) rfl rfl rfl ?_)
  refine wp_of e40 c40_1 (xg_R (pc' := 4) lf_7_17 hW g0 sh_27 (by decide) (by decide) ty_27_1 rfl rfl (fun r11549 q11550 g11551 => ?_))
  refine wp_of e40 c40_4 (rw_iload_n (pc' := 5) (z := a1) rfl rfl ?_)
  refine wp_of e40 c40_5 (rw_iload_n (pc' := 6) (z := a2) rfl rfl ?_)
  refine wp_of e40 c40_6 (xs_I (pc' := 7) hW g11551 (by decide) sh_29 (by decide) (ty_29 _) (by omega) (by omega) ⟨by omega, by omega⟩ (by omega) (by omega) rfl (fun H11552 e11553 w11554 => ?_))
  have f11555 := f0.put' e11553 g11551 rfl
  refine wp_of e40 c40_7 (rw_aload_n (pc' := 8) (v := .ref r0) rfl rfl rfl ?_)
  refine wp_of e40 c40_8 (xc_V (pc' := 11) (r := r0) (as := []) (st := []) (lm_7_89) rfl rfl (Nat.le_of_ble_eq_true rfl) w11554 g0 sh_27 (by decide) rfl (by decide) (s_41 w11554 g0) (fun R11556 T11557 H11558 p11559 => ?_))
  obtain ⟨e11560, w11562, f11563, e11561⟩ := p11559
  subst e11560
  subst e11561
  have f11564 := f11555.tr f11563 rfl
  show wp _ _ 40 11 [(0, .ref r0), (1, vI a1), (2, vI a2)] [] _ H11558 _
  exact wp_return e40 c40_11 rfl ⟨rfl, w11562, f11564, rfl⟩
/-! StrikeAwake$Reader.readsStruck(LStrikeAwake$Parish;)Z -/
theorem e38 : wq_en 38 = some (1, 4, false, some FieldType.boolean) := rfl
theorem c38_0 : mc_cd 38 0 = some (.aload_n 0, 1) := by decide +kernel
theorem c38_1 : mc_cd 38 1 = some (.getfield 12, 3) := by decide +kernel
theorem c38_4 : mc_cd 38 4 = some (.getfield 38, 3) := by decide +kernel
theorem c38_7 : mc_cd 38 7 = some (.iconst 2, 1) := by decide +kernel
theorem c38_8 : mc_cd 38 8 = some (.if_icmp .ne 23, 3) := by decide +kernel
theorem c38_11 : mc_cd 38 11 = some (.aload_n 1, 1) := by decide +kernel
theorem c38_12 : mc_cd 38 12 = some (.aload_n 0, 1) := by decide +kernel
theorem c38_13 : mc_cd 38 13 = some (.getfield 12, 3) := by decide +kernel
theorem c38_16 : mc_cd 38 16 = some (.getfield 230, 3) := by decide +kernel
theorem c38_19 : mc_cd 38 19 = some (.invokevirtual 233, 3) := by decide +kernel
theorem c38_22 : mc_cd 38 22 = some (.ifCond .eq 9, 3) := by decide +kernel
theorem c38_25 : mc_cd 38 25 = some (.aload_n 0, 1) := by decide +kernel
theorem c38_26 : mc_cd 38 26 = some (.iconst 3, 1) := by decide +kernel
theorem c38_27 : mc_cd 38 27 = some (.invokevirtual 47, 3) := by decide +kernel
theorem c38_30 : mc_cd 38 30 = some (.ireturn, 1) := by decide +kernel
theorem c38_31 : mc_cd 38 31 = some (.aload_n 0, 1) := by decide +kernel
theorem c38_32 : mc_cd 38 32 = some (.iconst 0, 1) := by decide +kernel
theorem c38_33 : mc_cd 38 33 = some (.bipush 23, 2) := by decide +kernel
theorem c38_35 : mc_cd 38 35 = some (.invokevirtual 119, 3) := by decide +kernel
theorem c38_38 : mc_cd 38 38 = some (.istore_n 2, 1) := by decide +kernel
theorem c38_39 : mc_cd 38 39 = some (.iload_n 2, 1) := by decide +kernel
theorem c38_40 : mc_cd 38 40 = some (.ifCond .lt 22, 3) := by decide +kernel
theorem c38_43 : mc_cd 38 43 = some (.aload_n 0, 1) := by decide +kernel
theorem c38_44 : mc_cd 38 44 = some (.ldc 236, 2) := by decide +kernel
theorem c38_46 : mc_cd 38 46 = some (.invokevirtual 115, 3) := by decide +kernel
theorem c38_49 : mc_cd 38 49 = some (.ifCond .eq 13, 3) := by decide +kernel
theorem c38_52 : mc_cd 38 52 = some (.aload_n 0, 1) := by decide +kernel
theorem c38_53 : mc_cd 38 53 = some (.iconst 0, 1) := by decide +kernel
theorem c38_54 : mc_cd 38 54 = some (.bipush 99, 2) := by decide +kernel
theorem c38_56 : mc_cd 38 56 = some (.invokevirtual 119, 3) := by decide +kernel
theorem c38_59 : mc_cd 38 59 = some (.goto 4, 3) := by decide +kernel
theorem c38_62 : mc_cd 38 62 = some (.iconst (-1), 1) := by decide +kernel
theorem c38_63 : mc_cd 38 63 = some (.istore_n 3, 1) := by decide +kernel
theorem c38_64 : mc_cd 38 64 = some (.iload_n 3, 1) := by decide +kernel
theorem c38_65 : mc_cd 38 65 = some (.ifCond .ge 5, 3) := by decide +kernel
theorem c38_68 : mc_cd 38 68 = some (.iconst 0, 1) := by decide +kernel
theorem c38_69 : mc_cd 38 69 = some (.ireturn, 1) := by decide +kernel
theorem c38_70 : mc_cd 38 70 = some (.aload_n 1, 1) := by decide +kernel
theorem c38_71 : mc_cd 38 71 = some (.iload_n 2, 1) := by decide +kernel
theorem c38_72 : mc_cd 38 72 = some (.iload_n 3, 1) := by decide +kernel
theorem c38_73 : mc_cd 38 73 = some (.invokevirtual 238, 3) := by decide +kernel
theorem c38_76 : mc_cd 38 76 = some (.iconst 1, 1) := by decide +kernel
theorem c38_77 : mc_cd 38 77 = some (.ireturn, 1) := by decide +kernel
abbrev q_38 (r0 : Nat) (r1 : Nat) (tk : Nat) (rb : Nat) (T : wq_T) (H : wq_H) : Option Value → wq_T → wq_H → Prop := fun r T' H' => T = T' ∧ WT T H' ∧ wfr [(27, 16), (3, 3), (3, 4), (4, 2), (4, 3), (4, 4), (4, 5), (4, 6), (29, 999), (30, 999)] T H H' ∧ ∃ z : Int, some (vI z) = r ∧ (0 ≤ z ∧ z ≤ 1)
set_option maxHeartbeats 4000000 in
theorem s_38 {kt : Nat → Option mc_E} {T : wq_T} {H : wq_H} {r0 : Nat} {r1 : Nat} {tk : Nat} {rb : Nat} (hW : WT T H) (g0 : T.2.2.2 r0 = some 3) (g1 : T.2.2.2 r1 = some 27) (qtk : H r0 0 = (tk : Int)) (gtk : T.2.2.2 tk = some 4) (qrb : H tk 0 = (rb : Int)) (grb : T.2.2.2 rb = some 2) : wpc kt 3 38 [.ref r0, .ref r1] T H (q_38 r0 r1 tk rb T H) := by
  refine wp_enter e38 (Nat.le_of_ble_eq_true rfl) rfl ?_
  have f0 : wfr [(27, 16), (3, 3), (3, 4), (4, 2), (4, 3), (4, 4), (4, 5), (4, 6), (29, 999), (30, 999)] T H H := wfr.rf
  show wp _ _ 38 0 [(0, .ref r0), (1, .ref r1)] [] _ H _
  refine wp_of e38 c38_0 (rw_aload_n (pc' := 1) (v := .ref r0) rfl rfl rfl ?_)
  refine wp_of e38 c38_1 (xg_K (pc' := 4) lf_1_12 hW g0 sh_3 (by decide) (by decide) rfl qtk rfl ?_)
  refine wp_of e38 c38_4 (xg_I (pc' := 7) lf_1_38 hW gtk sh_4 (by decide) (by decide) ty_4_3 rfl rfl (fun b11705 b11706 => ?_))
  refine wp_of e38 c38_7 (rw_iconst (pc' := 8) rfl ?_)
  refine wp_of e38 c38_8 (rw_icmp_ne (p1 := 31) (p2 := 11) (by decide) rfl ⟨by omega, by omega⟩ ⟨by omega, by omega⟩ (fun c11707 => ?_) (fun c11707 => ?_))
  · refine wp_of e38 c38_31 (rw_aload_n (pc' := 32) (v := .ref r0) rfl rfl rfl ?_)
    refine wp_of e38 c38_32 (rw_iconst (pc' := 33) rfl ?_)
    refine wp_of e38 c38_33 (rw_bipush (pc' := 35) (z := 23) rfl (by decide) ?_)
    refine wp_of e38 c38_35 (xc_V (pc' := 38) (r := r0) (as := [vI 0, vI 23]) (st := []) (lm_1_119) rfl rfl (Nat.le_of_ble_eq_true rfl) hW g0 sh_3 (by decide) rfl (by decide) (s_24 hW g0 ⟨by omega, by omega⟩ ⟨by omega, by omega⟩ qtk gtk qrb grb) (fun R11708 T11709 H11710 p11711 => ?_))
    obtain ⟨e11712, w11714, f11715, z11717, e11713, b11718, p11716⟩ := p11711
    subst e11712
    subst e11713
    have f11719 := f0.tr f11715 rfl
    show wp _ _ 38 38 [(0, .ref r0), (1, .ref r1)] [vI z11717] _ H11710 _
    refine wp_of e38 c38_38 (rw_istore_n (pc' := 39) (z := z11717) (L' := [(2, vI z11717), (0, .ref r0), (1, .ref r1)]) rfl rfl rfl ?_)
    refine wp_of e38 c38_39 (rw_iload_n (pc' := 40) (z := z11717) rfl rfl ?_)
    refine wp_of e38 c38_40 (rw_if_lt (p1 := 62) (p2 := 43) (by decide) rfl ⟨by omega, by omega⟩ (fun c11720 => ?_) (fun c11720 => ?_))
    · refine wp_of e38 c38_62 (rw_iconst (pc' := 63) rfl ?_)
      refine wp_of e38 c38_63 (rw_istore_n (pc' := 64) (z := -1) (L' := [(3, vI (-1)), (2, vI z11717), (0, .ref r0), (1, .ref r1)]) rfl rfl rfl ?_)
      refine wp_of e38 c38_64 (rw_iload_n (pc' := 65) (z := -1) rfl rfl ?_)
      refine wp_of e38 c38_65 (rw_if_ge (p1 := 70) (p2 := 68) (by decide) rfl ⟨by omega, by omega⟩ (fun c11721 => ?_) (fun c11721 => ?_))
      · exfalso
        omega
      · refine wp_of e38 c38_68 (rw_iconst (pc' := 69) rfl ?_)
        exact wp_zreturn e38 c38_69 rfl (by omega) ⟨rfl, w11714, f11719, 0, rfl, ⟨by omega, by omega⟩⟩
    · refine wp_of e38 c38_43 (rw_aload_n (pc' := 44) (v := .ref r0) rfl rfl rfl ?_)
      refine wp_of e38 c38_44 (rw_ldcS (pc' := 46) (k := 70) rfl rfl rfl rfl ?_)
      have k11722 : H11710 r0 0 = H r0 0 := (f11715 r0 0 _ g0 rfl)
      have q11723 : H11710 r0 0 = (tk : Int) := k11722.trans qtk
      have k11724 : H11710 tk 0 = H tk 0 := (f11715 tk 0 _ gtk rfl)
      have q11725 : H11710 tk 0 = (rb : Int) := k11724.trans qrb
      refine wp_of e38 c38_46 (xc_V (pc' := 49) (r := r0) (as := [.ref 70]) (st := []) (lm_1_115) rfl rfl (Nat.le_of_ble_eq_true rfl) w11714 g0 sh_3 (by decide) rfl (by decide) (s_23 w11714 g0 rfl q11723 gtk q11725 grb) (fun R11726 T11727 H11728 p11729 => ?_))
      obtain ⟨e11730, w11732, f11733, z11734, e11731, b11735⟩ := p11729
      subst e11730
      subst e11731
      have f11736 := f11719.tr f11733 rfl
      show wp _ _ 38 49 [(2, vI z11717), (0, .ref r0), (1, .ref r1)] [vI z11734] _ H11728 _
      refine wp_of e38 c38_49 (rw_if_eq (p1 := 62) (p2 := 52) (by decide) rfl ⟨by omega, by omega⟩ (fun c11737 => ?_) (fun c11737 => ?_))
      · refine wp_of e38 c38_62 (rw_iconst (pc' := 63) rfl ?_)
        refine wp_of e38 c38_63 (rw_istore_n (pc' := 64) (z := -1) (L' := [(3, vI (-1)), (2, vI z11717), (0, .ref r0), (1, .ref r1)]) rfl rfl rfl ?_)
        refine wp_of e38 c38_64 (rw_iload_n (pc' := 65) (z := -1) rfl rfl ?_)
        refine wp_of e38 c38_65 (rw_if_ge (p1 := 70) (p2 := 68) (by decide) rfl ⟨by omega, by omega⟩ (fun c11738 => ?_) (fun c11738 => ?_))
        · exfalso
          omega
        · refine wp_of e38 c38_68 (rw_iconst (pc' := 69) rfl ?_)
          exact wp_zreturn e38 c38_69 rfl (by omega) ⟨rfl, w11732, f11736, 0, rfl, ⟨by omega, by omega⟩⟩
      · refine wp_of e38 c38_52 (rw_aload_n (pc' := 53) (v := .ref r0) rfl rfl rfl ?_)
        refine wp_of e38 c38_53 (rw_iconst (pc' := 54) rfl ?_)
        refine wp_of e38 c38_54 (rw_bipush (pc' := 56) (z := 99) rfl (by decide) ?_)
        have k11739 : H11728 r0 0 = H11710 r0 0 := (f11733 r0 0 _ g0 rfl)
        have q11740 : H11728 r0 0 = (tk : Int) := k11739.trans q11723
        have k11741 : H11728 tk 0 = H11710 tk 0 := (f11733 tk 0 _ gtk rfl)
        have q11742 : H11728 tk 0 = (rb : Int) := k11741.trans q11725
        refine wp_of e38 c38_56 (xc_V (pc' := 59) (r := r0) (as := [vI 0, vI 99]) (st := []) (lm_1_119) rfl rfl (Nat.le_of_ble_eq_true rfl) w11732 g0 sh_3 (by decide) rfl (by decide) (s_24 w11732 g0 ⟨by omega, by omega⟩ ⟨by omega, by omega⟩ q11740 gtk q11742 grb) (fun R11743 T11744 H11745 p11746 => ?_))
        obtain ⟨e11747, w11749, f11750, z11752, e11748, b11753, p11751⟩ := p11746
        subst e11747
        subst e11748
        have f11754 := f11736.tr f11750 rfl
        show wp _ _ 38 59 [(2, vI z11717), (0, .ref r0), (1, .ref r1)] [vI z11752] _ H11745 _
        refine wp_of e38 c38_59 (rw_goto (p1 := 63) (by decide) ?_)
        refine wp_of e38 c38_63 (rw_istore_n (pc' := 64) (z := z11752) (L' := [(3, vI z11752), (2, vI z11717), (0, .ref r0), (1, .ref r1)]) rfl rfl rfl ?_)
        refine wp_of e38 c38_64 (rw_iload_n (pc' := 65) (z := z11752) rfl rfl ?_)
        refine wp_of e38 c38_65 (rw_if_ge (p1 := 70) (p2 := 68) (by decide) rfl ⟨by omega, by omega⟩ (fun c11755 => ?_) (fun c11755 => ?_))
        · refine wp_of e38 c38_70 (rw_aload_n (pc' := 71) (v := .ref r1) rfl rfl rfl ?_)
          refine wp_of e38 c38_71 (rw_iload_n (pc' := 72) (z := z11717) rfl rfl ?_)
          refine wp_of e38 c38_72 (rw_iload_n (pc' := 73) (z := z11752) rfl rfl ?_)
          refine wp_of e38 c38_73 (xc_V (pc' := 76) (r := r1) (as := [vI z11717, vI z11752]) (st := []) (lm_1_238) rfl rfl (Nat.le_of_ble_eq_true rfl) w11749 g1 sh_27 (by decide) rfl (by decide) (s_40 w11749 g1 ⟨by omega, by omega⟩ ⟨by omega, by omega⟩) (fun R11756 T11757 H11758 p11759 => ?_))
          obtain ⟨e11760, w11762, f11763, e11761⟩ := p11759
          subst e11760
          subst e11761
          have f11764 := f11754.tr f11763 rfl
          show wp _ _ 38 76 [(3, vI z11752), (2, vI z11717), (0, .ref r0), (1, .ref r1)] [] _ H11758 _
          refine wp_of e38 c38_76 (rw_iconst (pc' := 77) rfl ?_)
          exact wp_zreturn e38 c38_77 rfl (by omega) ⟨rfl, w11762, f11764, 1, rfl, ⟨by omega, by omega⟩⟩
        · refine wp_of e38 c38_68 (rw_iconst (pc' := 69) rfl ?_)
          exact wp_zreturn e38 c38_69 rfl (by omega) ⟨rfl, w11749, f11754, 0, rfl, ⟨by omega, by omega⟩⟩
  · refine wp_of e38 c38_11 (rw_aload_n (pc' := 12) (v := .ref r1) rfl rfl rfl ?_)
    refine wp_of e38 c38_12 (rw_aload_n (pc' := 13) (v := .ref r0) rfl rfl rfl ?_)
    refine wp_of e38 c38_13 (xg_K (pc' := 16) lf_1_12 hW g0 sh_3 (by decide) (by decide) rfl qtk rfl ?_)
    refine wp_of e38 c38_16 (xg_I (pc' := 19) lf_1_230 hW gtk sh_4 (by decide) (by decide) ty_4_5 rfl rfl (fun b11765 b11766 => ?_))
    refine wp_of e38 c38_19 (xc_V (pc' := 22) (r := r1) (as := [vI (H tk 5)]) (st := []) (lm_1_233) rfl rfl (Nat.le_of_ble_eq_true rfl) hW g1 sh_27 (by decide) rfl (by decide) (s_39 hW g1 ⟨by omega, by omega⟩) (fun R11767 T11768 H11769 p11770 => ?_))
    obtain ⟨e11771, e11773, z11774, e11772, b11775⟩ := p11770
    subst e11771
    subst e11772
    subst e11773
    show wp _ _ 38 22 [(0, .ref r0), (1, .ref r1)] [vI z11774] _ H _
    refine wp_of e38 c38_22 (rw_if_eq (p1 := 31) (p2 := 25) (by decide) rfl ⟨by omega, by omega⟩ (fun c11776 => ?_) (fun c11776 => ?_))
    · refine wp_of e38 c38_31 (rw_aload_n (pc' := 32) (v := .ref r0) rfl rfl rfl ?_)
      refine wp_of e38 c38_32 (rw_iconst (pc' := 33) rfl ?_)
      refine wp_of e38 c38_33 (rw_bipush (pc' := 35) (z := 23) rfl (by decide) ?_)
      refine wp_of e38 c38_35 (xc_V (pc' := 38) (r := r0) (as := [vI 0, vI 23]) (st := []) (lm_1_119) rfl rfl (Nat.le_of_ble_eq_true rfl) hW g0 sh_3 (by decide) rfl (by decide) (s_24 hW g0 ⟨by omega, by omega⟩ ⟨by omega, by omega⟩ qtk gtk qrb grb) (fun R11777 T11778 H11779 p11780 => ?_))
      obtain ⟨e11781, w11783, f11784, z11786, e11782, b11787, p11785⟩ := p11780
      subst e11781
      subst e11782
      have f11788 := f0.tr f11784 rfl
      show wp _ _ 38 38 [(0, .ref r0), (1, .ref r1)] [vI z11786] _ H11779 _
      refine wp_of e38 c38_38 (rw_istore_n (pc' := 39) (z := z11786) (L' := [(2, vI z11786), (0, .ref r0), (1, .ref r1)]) rfl rfl rfl ?_)
      refine wp_of e38 c38_39 (rw_iload_n (pc' := 40) (z := z11786) rfl rfl ?_)
      refine wp_of e38 c38_40 (rw_if_lt (p1 := 62) (p2 := 43) (by decide) rfl ⟨by omega, by omega⟩ (fun c11789 => ?_) (fun c11789 => ?_))
      · refine wp_of e38 c38_62 (rw_iconst (pc' := 63) rfl ?_)
        refine wp_of e38 c38_63 (rw_istore_n (pc' := 64) (z := -1) (L' := [(3, vI (-1)), (2, vI z11786), (0, .ref r0), (1, .ref r1)]) rfl rfl rfl ?_)
        refine wp_of e38 c38_64 (rw_iload_n (pc' := 65) (z := -1) rfl rfl ?_)
        refine wp_of e38 c38_65 (rw_if_ge (p1 := 70) (p2 := 68) (by decide) rfl ⟨by omega, by omega⟩ (fun c11790 => ?_) (fun c11790 => ?_))
        · exfalso
          omega
        · refine wp_of e38 c38_68 (rw_iconst (pc' := 69) rfl ?_)
          exact wp_zreturn e38 c38_69 rfl (by omega) ⟨rfl, w11783, f11788, 0, rfl, ⟨by omega, by omega⟩⟩
      · refine wp_of e38 c38_43 (rw_aload_n (pc' := 44) (v := .ref r0) rfl rfl rfl ?_)
        refine wp_of e38 c38_44 (rw_ldcS (pc' := 46) (k := 70) rfl rfl rfl rfl ?_)
        have k11791 : H11779 r0 0 = H r0 0 := (f11784 r0 0 _ g0 rfl)
        have q11792 : H11779 r0 0 = (tk : Int) := k11791.trans qtk
        have k11793 : H11779 tk 0 = H tk 0 := (f11784 tk 0 _ gtk rfl)
        have q11794 : H11779 tk 0 = (rb : Int) := k11793.trans qrb
        refine wp_of e38 c38_46 (xc_V (pc' := 49) (r := r0) (as := [.ref 70]) (st := []) (lm_1_115) rfl rfl (Nat.le_of_ble_eq_true rfl) w11783 g0 sh_3 (by decide) rfl (by decide) (s_23 w11783 g0 rfl q11792 gtk q11794 grb) (fun R11795 T11796 H11797 p11798 => ?_))
        obtain ⟨e11799, w11801, f11802, z11803, e11800, b11804⟩ := p11798
        subst e11799
        subst e11800
        have f11805 := f11788.tr f11802 rfl
        show wp _ _ 38 49 [(2, vI z11786), (0, .ref r0), (1, .ref r1)] [vI z11803] _ H11797 _
        refine wp_of e38 c38_49 (rw_if_eq (p1 := 62) (p2 := 52) (by decide) rfl ⟨by omega, by omega⟩ (fun c11806 => ?_) (fun c11806 => ?_))
        · refine wp_of e38 c38_62 (rw_iconst (pc' := 63) rfl ?_)
          refine wp_of e38 c38_63 (rw_istore_n (pc' := 64) (z := -1) (L' := [(3, vI (-1)), (2, vI z11786), (0, .ref r0), (1, .ref r1)]) rfl rfl rfl ?_)
          refine wp_of e38 c38_64 (rw_iload_n (pc' := 65) (z := -1) rfl rfl ?_)
          refine wp_of e38 c38_65 (rw_if_ge (p1 := 70) (p2 := 68) (by decide) rfl ⟨by omega, by omega⟩ (fun c11807 => ?_) (fun c11807 => ?_))
          · exfalso
            omega
          · refine wp_of e38 c38_68 (rw_iconst (pc' := 69) rfl ?_)
            exact wp_zreturn e38 c38_69 rfl (by omega) ⟨rfl, w11801, f11805, 0, rfl, ⟨by omega, by omega⟩⟩
        · refine wp_of e38 c38_52 (rw_aload_n (pc' := 53) (v := .ref r0) rfl rfl rfl ?_)
          refine wp_of e38 c38_53 (rw_iconst (pc' := 54) rfl ?_)
          refine wp_of e38 c38_54 (rw_bipush (pc' := 56) (z := 99) rfl (by decide) ?_)
          have k11808 : H11797 r0 0 = H11779 r0 0 := (f11802 r0 0 _ g0 rfl)
          have q11809 : H11797 r0 0 = (tk : Int) := k11808.trans q11792
          have k11810 : H11797 tk 0 = H11779 tk 0 := (f11802 tk 0 _ gtk rfl)
          have q11811 : H11797 tk 0 = (rb : Int) := k11810.trans q11794
          refine wp_of e38 c38_56 (xc_V (pc' := 59) (r := r0) (as := [vI 0, vI 99]) (st := []) (lm_1_119) rfl rfl (Nat.le_of_ble_eq_true rfl) w11801 g0 sh_3 (by decide) rfl (by decide) (s_24 w11801 g0 ⟨by omega, by omega⟩ ⟨by omega, by omega⟩ q11809 gtk q11811 grb) (fun R11812 T11813 H11814 p11815 => ?_))
          obtain ⟨e11816, w11818, f11819, z11821, e11817, b11822, p11820⟩ := p11815
          subst e11816
          subst e11817
          have f11823 := f11805.tr f11819 rfl
          show wp _ _ 38 59 [(2, vI z11786), (0, .ref r0), (1, .ref r1)] [vI z11821] _ H11814 _
          refine wp_of e38 c38_59 (rw_goto (p1 := 63) (by decide) ?_)
          refine wp_of e38 c38_63 (rw_istore_n (pc' := 64) (z := z11821) (L' := [(3, vI z11821), (2, vI z11786), (0, .ref r0), (1, .ref r1)]) rfl rfl rfl ?_)
          refine wp_of e38 c38_64 (rw_iload_n (pc' := 65) (z := z11821) rfl rfl ?_)
          refine wp_of e38 c38_65 (rw_if_ge (p1 := 70) (p2 := 68) (by decide) rfl ⟨by omega, by omega⟩ (fun c11824 => ?_) (fun c11824 => ?_))
          · refine wp_of e38 c38_70 (rw_aload_n (pc' := 71) (v := .ref r1) rfl rfl rfl ?_)
            refine wp_of e38 c38_71 (rw_iload_n (pc' := 72) (z := z11786) rfl rfl ?_)
            refine wp_of e38 c38_72 (rw_iload_n (pc' := 73) (z := z11821) rfl rfl ?_)
            refine wp_of e38 c38_73 (xc_V (pc' := 76) (r := r1) (as := [vI z11786, vI z11821]) (st := []) (lm_1_238) rfl rfl (Nat.le_of_ble_eq_true rfl) w11818 g1 sh_27 (by decide) rfl (by decide) (s_40 w11818 g1 ⟨by omega, by omega⟩ ⟨by omega, by omega⟩) (fun R11825 T11826 H11827 p11828 => ?_))
            obtain ⟨e11829, w11831, f11832, e11830⟩ := p11828
            subst e11829
            subst e11830
            have f11833 := f11823.tr f11832 rfl
            show wp _ _ 38 76 [(3, vI z11821), (2, vI z11786), (0, .ref r0), (1, .ref r1)] [] _ H11827 _
            refine wp_of e38 c38_76 (rw_iconst (pc' := 77) rfl ?_)
            exact wp_zreturn e38 c38_77 rfl (by omega) ⟨rfl, w11831, f11833, 1, rfl, ⟨by omega, by omega⟩⟩
          · refine wp_of e38 c38_68 (rw_iconst (pc' := 69) rfl ?_)
            exact wp_zreturn e38 c38_69 rfl (by omega) ⟨rfl, w11818, f11823, 0, rfl, ⟨by omega, by omega⟩⟩
    · refine wp_of e38 c38_25 (rw_aload_n (pc' := 26) (v := .ref r0) rfl rfl rfl ?_)
      refine wp_of e38 c38_26 (rw_iconst (pc' := 27) rfl ?_)
      refine wp_of e38 c38_27 (xc_V (pc' := 30) (r := r0) (as := [vI 3]) (st := []) (lm_1_47) rfl rfl (Nat.le_of_ble_eq_true rfl) hW g0 sh_3 (by decide) rfl (by decide) (s_20 hW g0 ⟨by omega, by omega⟩) (fun R11834 T11835 H11836 p11837 => ?_))
      obtain ⟨e11838, w11840, f11841, z11842, e11839, b11843⟩ := p11837
      subst e11838
      subst e11839
      have f11844 := f0.tr f11841 rfl
      show wp _ _ 38 30 [(0, .ref r0), (1, .ref r1)] [vI z11842] _ H11836 _
      exact wp_zreturn e38 c38_30 rfl (by omega) ⟨rfl, w11840, f11844, z11842, rfl, ⟨by omega, by omega⟩⟩
/-! StrikeAwake$Reader.readsTold(LStrikeAwake$Parish;)Z -/
theorem e42 : wq_en 42 = some (1, 3, false, some FieldType.boolean) := rfl
theorem c42_0 : mc_cd 42 0 = some (.aload_n 0, 1) := by decide +kernel
theorem c42_1 : mc_cd 42 1 = some (.aload_n 1, 1) := by decide +kernel
theorem c42_2 : mc_cd 42 2 = some (.invokevirtual 207, 3) := by decide +kernel
theorem c42_5 : mc_cd 42 5 = some (.istore_n 2, 1) := by decide +kernel
theorem c42_6 : mc_cd 42 6 = some (.iload_n 2, 1) := by decide +kernel
theorem c42_7 : mc_cd 42 7 = some (.ifCond .ge 5, 3) := by decide +kernel
theorem c42_10 : mc_cd 42 10 = some (.iconst 0, 1) := by decide +kernel
theorem c42_11 : mc_cd 42 11 = some (.ireturn, 1) := by decide +kernel
theorem c42_12 : mc_cd 42 12 = some (.aload_n 0, 1) := by decide +kernel
theorem c42_13 : mc_cd 42 13 = some (.getfield 12, 3) := by decide +kernel
theorem c42_16 : mc_cd 42 16 = some (.invokevirtual 74, 3) := by decide +kernel
theorem c42_19 : mc_cd 42 19 = some (.aload_n 0, 1) := by decide +kernel
theorem c42_20 : mc_cd 42 20 = some (.bipush 23, 2) := by decide +kernel
theorem c42_22 : mc_cd 42 22 = some (.iconst 1, 1) := by decide +kernel
theorem c42_23 : mc_cd 42 23 = some (.bipush 24, 2) := by decide +kernel
theorem c42_25 : mc_cd 42 25 = some (.bipush 24, 2) := by decide +kernel
theorem c42_27 : mc_cd 42 27 = some (.invokevirtual 154, 3) := by decide +kernel
theorem c42_30 : mc_cd 42 30 = some (.ifCond .ne 5, 3) := by decide +kernel
theorem c42_33 : mc_cd 42 33 = some (.iconst 0, 1) := by decide +kernel
theorem c42_34 : mc_cd 42 34 = some (.ireturn, 1) := by decide +kernel
theorem c42_35 : mc_cd 42 35 = some (.aload_n 1, 1) := by decide +kernel
theorem c42_36 : mc_cd 42 36 = some (.getfield 242, 3) := by decide +kernel
theorem c42_39 : mc_cd 42 39 = some (.aload_n 1, 1) := by decide +kernel
theorem c42_40 : mc_cd 42 40 = some (.getfield 245, 3) := by decide +kernel
theorem c42_43 : mc_cd 42 43 = some (.iload_n 2, 1) := by decide +kernel
theorem c42_44 : mc_cd 42 44 = some (.iastore, 1) := by decide +kernel
theorem c42_45 : mc_cd 42 45 = some (.aload_n 1, 1) := by decide +kernel
theorem c42_46 : mc_cd 42 46 = some (.getfield 248, 3) := by decide +kernel
theorem c42_49 : mc_cd 42 49 = some (.aload_n 1, 1) := by decide +kernel
theorem c42_50 : mc_cd 42 50 = some (.getfield 245, 3) := by decide +kernel
theorem c42_53 : mc_cd 42 53 = some (.aload_n 0, 1) := by decide +kernel
theorem c42_54 : mc_cd 42 54 = some (.getfield 158, 3) := by decide +kernel
theorem c42_57 : mc_cd 42 57 = some (.aload_n 0, 1) := by decide +kernel
theorem c42_58 : mc_cd 42 58 = some (.getfield 164, 3) := by decide +kernel
theorem c42_61 : mc_cd 42 61 = some (.invokestatic 194, 3) := by decide +kernel
theorem c42_64 : mc_cd 42 64 = some (.iastore, 1) := by decide +kernel
theorem c42_65 : mc_cd 42 65 = some (.aload_n 1, 1) := by decide +kernel
theorem c42_66 : mc_cd 42 66 = some (.dup, 1) := by decide +kernel
theorem c42_67 : mc_cd 42 67 = some (.getfield 245, 3) := by decide +kernel
theorem c42_70 : mc_cd 42 70 = some (.iconst 1, 1) := by decide +kernel
theorem c42_71 : mc_cd 42 71 = some (.iadd, 1) := by decide +kernel
theorem c42_72 : mc_cd 42 72 = some (.putfield 245, 3) := by decide +kernel
theorem c42_75 : mc_cd 42 75 = some (.iconst 1, 1) := by decide +kernel
theorem c42_76 : mc_cd 42 76 = some (.ireturn, 1) := by decide +kernel
abbrev q_42 (r0 : Nat) (r1 : Nat) (tk : Nat) (rb : Nat) (T : wq_T) (H : wq_H) : Option Value → wq_T → wq_H → Prop := fun r T' H' => T = T' ∧ WT T H' ∧ wfr [(27, 13), (3, 1), (3, 2), (3, 3), (3, 4), (4, 2), (4, 3), (4, 4), (4, 5), (4, 6), (33, 999), (32, 999)] T H H' ∧ ∃ z : Int, some (vI z) = r ∧ (0 ≤ z ∧ z ≤ 1)
set_option maxHeartbeats 4000000 in
theorem s_42 {kt : Nat → Option mc_E} {T : wq_T} {H : wq_H} {r0 : Nat} {r1 : Nat} {tk : Nat} {rb : Nat} (hW : WT T H) (g0 : T.2.2.2 r0 = some 3) (g1 : T.2.2.2 r1 = some 27) (qtk : H r0 0 = (tk : Int)) (gtk : T.2.2.2 tk = some 4) (qrb : H tk 0 = (rb : Int)) (grb : T.2.2.2 rb = some 2) (p0 : H r1 13 ≤ 3) : wpc kt 5 42 [.ref r0, .ref r1] T H (q_42 r0 r1 tk rb T H) := by
  refine wp_enter e42 (Nat.le_of_ble_eq_true rfl) rfl ?_
  have f0 : wfr [(27, 13), (3, 1), (3, 2), (3, 3), (3, 4), (4, 2), (4, 3), (4, 4), (4, 5), (4, 6), (33, 999), (32, 999)] T H H := wfr.rf
  show wp _ _ 42 0 [(0, .ref r0), (1, .ref r1)] [] _ H _
  refine wp_of e42 c42_0 (rw_aload_n (pc' := 1) (v := .ref r0) rfl rfl rfl ?_)
  refine wp_of e42 c42_1 (rw_aload_n (pc' := 2) (v := .ref r1) rfl rfl rfl ?_)
  refine wp_of e42 c42_2 (xc_V (pc' := 5) (r := r0) (as := [.ref r1]) (st := []) (lm_1_207) rfl rfl (Nat.le_of_ble_eq_true rfl) hW g0 sh_3 (by decide) rfl (by decide) (s_33 hW g0 g1 qtk gtk qrb grb) (fun R11927 T11928 H11929 p11930 => ?_))
  obtain ⟨e11931, w11933, f11934, z11935, e11932, b11936⟩ := p11930
  subst e11931
  subst e11932
  have f11937 := f0.tr f11934 rfl
  show wp _ _ 42 5 [(0, .ref r0), (1, .ref r1)] [vI z11935] _ H11929 _
  refine wp_of e42 c42_5 (rw_istore_n (pc' := 6) (z := z11935) (L' := [(2, vI z11935), (0, .ref r0), (1, .ref r1)]) rfl rfl rfl ?_)
  refine wp_of e42 c42_6 (rw_iload_n (pc' := 7) (z := z11935) rfl rfl ?_)
  refine wp_of e42 c42_7 (rw_if_ge (p1 := 12) (p2 := 10) (by decide) rfl ⟨by omega, by omega⟩ (fun c11938 => ?_) (fun c11938 => ?_))
  · refine wp_of e42 c42_12 (rw_aload_n (pc' := 13) (v := .ref r0) rfl rfl rfl ?_)
    have k11939 : H11929 r0 0 = H r0 0 := (f11934 r0 0 _ g0 rfl)
    have q11940 : H11929 r0 0 = (tk : Int) := k11939.trans qtk
    refine wp_of e42 c42_13 (xg_K (pc' := 16) lf_1_12 w11933 g0 sh_3 (by decide) (by decide) rfl q11940 rfl ?_)
    have k11941 : H11929 tk 0 = H tk 0 := (f11934 tk 0 _ gtk rfl)
    have q11942 : H11929 tk 0 = (rb : Int) := k11941.trans qrb
    refine wp_of e42 c42_16 (xc_V (pc' := 19) (r := tk) (as := []) (st := []) (lm_1_74) rfl rfl (Nat.le_of_ble_eq_true rfl) w11933 gtk sh_4 (by decide) rfl (by decide) (s_16 w11933 gtk q11942 grb) (fun R11943 T11944 H11945 p11946 => ?_))
    obtain ⟨e11947, w11949, f11950, e11948⟩ := p11946
    subst e11947
    subst e11948
    have f11951 := f11937.tr f11950 rfl
    show wp _ _ 42 19 [(2, vI z11935), (0, .ref r0), (1, .ref r1)] [] _ H11945 _
    refine wp_of e42 c42_19 (rw_aload_n (pc' := 20) (v := .ref r0) rfl rfl rfl ?_)
    refine wp_of e42 c42_20 (rw_bipush (pc' := 22) (z := 23) rfl (by decide) ?_)
    refine wp_of e42 c42_22 (rw_iconst (pc' := 23) rfl ?_)
    refine wp_of e42 c42_23 (rw_bipush (pc' := 25) (z := 24) rfl (by decide) ?_)
    refine wp_of e42 c42_25 (rw_bipush (pc' := 27) (z := 24) rfl (by decide) ?_)
    have k11952 : H11945 r0 0 = H11929 r0 0 := (f11950 r0 0 _ g0 rfl)
    have q11953 : H11945 r0 0 = (tk : Int) := k11952.trans q11940
    have k11954 : H11945 tk 0 = H11929 tk 0 := (f11950 tk 0 _ gtk rfl)
    have q11955 : H11945 tk 0 = (rb : Int) := k11954.trans q11942
    refine wp_of e42 c42_27 (xc_V (pc' := 30) (r := r0) (as := [vI 23, vI 1, vI 24, vI 24]) (st := []) (lm_1_154) rfl rfl (Nat.le_of_ble_eq_true rfl) w11949 g0 sh_3 (by decide) rfl (by decide) (s_29 w11949 g0 ⟨by omega, by omega⟩ ⟨by omega, by omega⟩ ⟨by omega, by omega⟩ ⟨by omega, by omega⟩ q11953 gtk q11955 grb) (fun R11956 T11957 H11958 p11959 => ?_))
    obtain ⟨e11960, w11962, f11963, z11964, e11961, b11965⟩ := p11959
    subst e11960
    subst e11961
    have f11966 := f11951.tr f11963 rfl
    show wp _ _ 42 30 [(2, vI z11935), (0, .ref r0), (1, .ref r1)] [vI z11964] _ H11958 _
    refine wp_of e42 c42_30 (rw_if_ne (p1 := 35) (p2 := 33) (by decide) rfl ⟨by omega, by omega⟩ (fun c11967 => ?_) (fun c11967 => ?_))
    · refine wp_of e42 c42_35 (rw_aload_n (pc' := 36) (v := .ref r1) rfl rfl rfl ?_)
      refine wp_of e42 c42_36 (xg_R (pc' := 39) lf_1_242 w11962 g1 sh_27 (by decide) (by decide) ty_27_4 rfl rfl (fun r11968 q11969 g11970 => ?_))
      refine wp_of e42 c42_39 (rw_aload_n (pc' := 40) (v := .ref r1) rfl rfl rfl ?_)
      have k11971 : H11958 r1 13 = H r1 13 := ((f11963 r1 13 _ g1 rfl).trans ((f11950 r1 13 _ g1 rfl).trans (f11934 r1 13 _ g1 rfl)))
      refine wp_of e42 c42_40 (xg_I (pc' := 43) lf_1_245 w11962 g1 sh_27 (by decide) (by decide) ty_27_13 rfl rfl (fun b11972 b11973 => ?_))
      refine wp_of e42 c42_43 (rw_iload_n (pc' := 44) (z := z11935) rfl rfl ?_)
      refine wp_of e42 c42_44 (xs_I (pc' := 45) w11962 g11970 (by decide) sh_32 (by decide) (ty_32 _) (by omega) (by omega) ⟨by omega, by omega⟩ (by omega) (by omega) rfl (fun H11974 e11975 w11976 => ?_))
      have f11977 := f11966.put' e11975 g11970 rfl
      refine wp_of e42 c42_45 (rw_aload_n (pc' := 46) (v := .ref r1) rfl rfl rfl ?_)
      refine wp_of e42 c42_46 (xg_R (pc' := 49) lf_1_248 w11976 g1 sh_27 (by decide) (by decide) ty_27_5 rfl rfl (fun r11978 q11979 g11980 => ?_))
      refine wp_of e42 c42_49 (rw_aload_n (pc' := 50) (v := .ref r1) rfl rfl rfl ?_)
      have k11981 : H11974 r1 13 = H11958 r1 13 := (wq_u_t e11975 g11970 g1 rfl 13)
      refine wp_of e42 c42_50 (xg_I (pc' := 53) lf_1_245 w11976 g1 sh_27 (by decide) (by decide) ty_27_13 rfl rfl (fun b11982 b11983 => ?_))
      refine wp_of e42 c42_53 (rw_aload_n (pc' := 54) (v := .ref r0) rfl rfl rfl ?_)
      refine wp_of e42 c42_54 (xg_I (pc' := 57) lf_1_158 w11976 g0 sh_3 (by decide) (by decide) ty_3_1 rfl rfl (fun b11984 b11985 => ?_))
      refine wp_of e42 c42_57 (rw_aload_n (pc' := 58) (v := .ref r0) rfl rfl rfl ?_)
      refine wp_of e42 c42_58 (xg_I (pc' := 61) lf_1_164 w11976 g0 sh_3 (by decide) (by decide) ty_3_2 rfl rfl (fun b11986 b11987 => ?_))
      refine wp_of e42 c42_61 (xc_S (pc' := 64) (as := [vI (H11974 r0 1), vI (H11974 r0 2)]) (st := [vI (H11974 r1 13), .ref r11978]) (lm_1_194) rfl rfl (Nat.le_of_ble_eq_true rfl) rfl (by decide) (s_31 w11976 ⟨by omega, by omega⟩ ⟨by omega, by omega⟩) (fun R11988 T11989 H11990 p11991 => ?_))
      obtain ⟨e11992, e11994, z11995, e11993, b11996⟩ := p11991
      subst e11992
      subst e11993
      subst e11994
      show wp _ _ 42 64 [(2, vI z11935), (0, .ref r0), (1, .ref r1)] [vI z11995, vI (H11974 r1 13), .ref r11978] _ H11974 _
      refine wp_of e42 c42_64 (xs_I (pc' := 65) w11976 g11980 (by decide) sh_33 (by decide) (ty_33 _) (by omega) (by omega) ⟨by omega, by omega⟩ (by omega) (by omega) rfl (fun H11997 e11998 w11999 => ?_))
      have f12000 := f11977.put' e11998 g11980 rfl
      refine wp_of e42 c42_65 (rw_aload_n (pc' := 66) (v := .ref r1) rfl rfl rfl ?_)
      refine wp_of e42 c42_66 (rw_dup (pc' := 67) rfl rfl ?_)
      have k12001 : H11997 r1 13 = H11974 r1 13 := (wq_u_t e11998 g11980 g1 rfl 13)
      refine wp_of e42 c42_67 (xg_I (pc' := 70) lf_1_245 w11999 g1 sh_27 (by decide) (by decide) ty_27_13 rfl rfl (fun b12002 b12003 => ?_))
      refine wp_of e42 c42_70 (rw_iconst (pc' := 71) rfl ?_)
      refine wp_of e42 c42_71 (rw_iadd (pc' := 72) rfl ?_)
      refine wp_of e42 c42_72 (xp_I (pc' := 75) lf_1_245 w11999 g1 sh_27 (by decide) (by decide) ty_27_13 rfl rfl (by omega) (by omega) ⟨by omega, by omega⟩ rfl (fun H12004 e12005 w12006 => ?_))
      have f12007 := f12000.put' e12005 g1 rfl
      have k12008 : H12004 r1 13 = (H11997 r1 13) + 1 := wq_u_s e12005
      refine wp_of e42 c42_75 (rw_iconst (pc' := 76) rfl ?_)
      exact wp_zreturn e42 c42_76 rfl (by omega) ⟨rfl, w12006, f12007, 1, rfl, ⟨by omega, by omega⟩⟩
    · refine wp_of e42 c42_33 (rw_iconst (pc' := 34) rfl ?_)
      exact wp_zreturn e42 c42_34 rfl (by omega) ⟨rfl, w11962, f11966, 0, rfl, ⟨by omega, by omega⟩⟩
  · refine wp_of e42 c42_10 (rw_iconst (pc' := 11) rfl ?_)
    exact wp_zreturn e42 c42_11 rfl (by omega) ⟨rfl, w11933, f11937, 0, rfl, ⟨by omega, by omega⟩⟩
/-! StrikeAwake$Reader.readsOffer(LStrikeAwake$Parish;)Z -/
theorem e43 : wq_en 43 = some (1, 2, false, some FieldType.boolean) := rfl
theorem c43_0 : mc_cd 43 0 = some (.aload_n 0, 1) := by decide +kernel
theorem c43_1 : mc_cd 43 1 = some (.aload_n 1, 1) := by decide +kernel
theorem c43_2 : mc_cd 43 2 = some (.invokevirtual 207, 3) := by decide +kernel
theorem c43_5 : mc_cd 43 5 = some (.ifCond .ge 5, 3) := by decide +kernel
theorem c43_8 : mc_cd 43 8 = some (.iconst 0, 1) := by decide +kernel
theorem c43_9 : mc_cd 43 9 = some (.ireturn, 1) := by decide +kernel
theorem c43_10 : mc_cd 43 10 = some (.aload_n 0, 1) := by decide +kernel
theorem c43_11 : mc_cd 43 11 = some (.getfield 12, 3) := by decide +kernel
theorem c43_14 : mc_cd 43 14 = some (.invokevirtual 74, 3) := by decide +kernel
theorem c43_17 : mc_cd 43 17 = some (.aload_n 0, 1) := by decide +kernel
theorem c43_18 : mc_cd 43 18 = some (.bipush 23, 2) := by decide +kernel
theorem c43_20 : mc_cd 43 20 = some (.iconst 1, 1) := by decide +kernel
theorem c43_21 : mc_cd 43 21 = some (.bipush 24, 2) := by decide +kernel
theorem c43_23 : mc_cd 43 23 = some (.bipush 24, 2) := by decide +kernel
theorem c43_25 : mc_cd 43 25 = some (.invokevirtual 154, 3) := by decide +kernel
theorem c43_28 : mc_cd 43 28 = some (.ifCond .ne 5, 3) := by decide +kernel
theorem c43_31 : mc_cd 43 31 = some (.iconst 0, 1) := by decide +kernel
theorem c43_32 : mc_cd 43 32 = some (.ireturn, 1) := by decide +kernel
theorem c43_33 : mc_cd 43 33 = some (.aload_n 1, 1) := by decide +kernel
theorem c43_34 : mc_cd 43 34 = some (.getfield 251, 3) := by decide +kernel
theorem c43_37 : mc_cd 43 37 = some (.aload_n 1, 1) := by decide +kernel
theorem c43_38 : mc_cd 43 38 = some (.getfield 254, 3) := by decide +kernel
theorem c43_41 : mc_cd 43 41 = some (.aload_n 0, 1) := by decide +kernel
theorem c43_42 : mc_cd 43 42 = some (.getfield 158, 3) := by decide +kernel
theorem c43_45 : mc_cd 43 45 = some (.aload_n 0, 1) := by decide +kernel
theorem c43_46 : mc_cd 43 46 = some (.getfield 164, 3) := by decide +kernel
theorem c43_49 : mc_cd 43 49 = some (.invokestatic 194, 3) := by decide +kernel
theorem c43_52 : mc_cd 43 52 = some (.iastore, 1) := by decide +kernel
theorem c43_53 : mc_cd 43 53 = some (.aload_n 1, 1) := by decide +kernel
theorem c43_54 : mc_cd 43 54 = some (.dup, 1) := by decide +kernel
theorem c43_55 : mc_cd 43 55 = some (.getfield 254, 3) := by decide +kernel
theorem c43_58 : mc_cd 43 58 = some (.iconst 1, 1) := by decide +kernel
theorem c43_59 : mc_cd 43 59 = some (.iadd, 1) := by decide +kernel
theorem c43_60 : mc_cd 43 60 = some (.putfield 254, 3) := by decide +kernel
theorem c43_63 : mc_cd 43 63 = some (.iconst 1, 1) := by decide +kernel
theorem c43_64 : mc_cd 43 64 = some (.ireturn, 1) := by decide +kernel
abbrev q_43 (r0 : Nat) (r1 : Nat) (tk : Nat) (rb : Nat) (T : wq_T) (H : wq_H) : Option Value → wq_T → wq_H → Prop := fun r T' H' => T = T' ∧ WT T H' ∧ wfr [(27, 14), (3, 1), (3, 2), (3, 3), (3, 4), (4, 2), (4, 3), (4, 4), (4, 5), (4, 6), (34, 999)] T H H' ∧ ∃ z : Int, some (vI z) = r ∧ (0 ≤ z ∧ z ≤ 1)
set_option maxHeartbeats 4000000 in
theorem s_43 {kt : Nat → Option mc_E} {T : wq_T} {H : wq_H} {r0 : Nat} {r1 : Nat} {tk : Nat} {rb : Nat} (hW : WT T H) (g0 : T.2.2.2 r0 = some 3) (g1 : T.2.2.2 r1 = some 27) (qtk : H r0 0 = (tk : Int)) (gtk : T.2.2.2 tk = some 4) (qrb : H tk 0 = (rb : Int)) (grb : T.2.2.2 rb = some 2) (p0 : H r1 14 ≤ 5) : wpc kt 5 43 [.ref r0, .ref r1] T H (q_43 r0 r1 tk rb T H) := by
  refine wp_enter e43 (Nat.le_of_ble_eq_true rfl) rfl ?_
  have f0 : wfr [(27, 14), (3, 1), (3, 2), (3, 3), (3, 4), (4, 2), (4, 3), (4, 4), (4, 5), (4, 6), (34, 999)] T H H := wfr.rf
  show wp _ _ 43 0 [(0, .ref r0), (1, .ref r1)] [] _ H _
  refine wp_of e43 c43_0 (rw_aload_n (pc' := 1) (v := .ref r0) rfl rfl rfl ?_)
  refine wp_of e43 c43_1 (rw_aload_n (pc' := 2) (v := .ref r1) rfl rfl rfl ?_)
  refine wp_of e43 c43_2 (xc_V (pc' := 5) (r := r0) (as := [.ref r1]) (st := []) (lm_1_207) rfl rfl (Nat.le_of_ble_eq_true rfl) hW g0 sh_3 (by decide) rfl (by decide) (s_33 hW g0 g1 qtk gtk qrb grb) (fun R12081 T12082 H12083 p12084 => ?_))
  obtain ⟨e12085, w12087, f12088, z12089, e12086, b12090⟩ := p12084
  subst e12085
  subst e12086
  have f12091 := f0.tr f12088 rfl
  show wp _ _ 43 5 [(0, .ref r0), (1, .ref r1)] [vI z12089] _ H12083 _
  refine wp_of e43 c43_5 (rw_if_ge (p1 := 10) (p2 := 8) (by decide) rfl ⟨by omega, by omega⟩ (fun c12092 => ?_) (fun c12092 => ?_))
  · refine wp_of e43 c43_10 (rw_aload_n (pc' := 11) (v := .ref r0) rfl rfl rfl ?_)
    have k12093 : H12083 r0 0 = H r0 0 := (f12088 r0 0 _ g0 rfl)
    have q12094 : H12083 r0 0 = (tk : Int) := k12093.trans qtk
    refine wp_of e43 c43_11 (xg_K (pc' := 14) lf_1_12 w12087 g0 sh_3 (by decide) (by decide) rfl q12094 rfl ?_)
    have k12095 : H12083 tk 0 = H tk 0 := (f12088 tk 0 _ gtk rfl)
    have q12096 : H12083 tk 0 = (rb : Int) := k12095.trans qrb
    refine wp_of e43 c43_14 (xc_V (pc' := 17) (r := tk) (as := []) (st := []) (lm_1_74) rfl rfl (Nat.le_of_ble_eq_true rfl) w12087 gtk sh_4 (by decide) rfl (by decide) (s_16 w12087 gtk q12096 grb) (fun R12097 T12098 H12099 p12100 => ?_))
    obtain ⟨e12101, w12103, f12104, e12102⟩ := p12100
    subst e12101
    subst e12102
    have f12105 := f12091.tr f12104 rfl
    show wp _ _ 43 17 [(0, .ref r0), (1, .ref r1)] [] _ H12099 _
    refine wp_of e43 c43_17 (rw_aload_n (pc' := 18) (v := .ref r0) rfl rfl rfl ?_)
    refine wp_of e43 c43_18 (rw_bipush (pc' := 20) (z := 23) rfl (by decide) ?_)
    refine wp_of e43 c43_20 (rw_iconst (pc' := 21) rfl ?_)
    refine wp_of e43 c43_21 (rw_bipush (pc' := 23) (z := 24) rfl (by decide) ?_)
    refine wp_of e43 c43_23 (rw_bipush (pc' := 25) (z := 24) rfl (by decide) ?_)
    have k12106 : H12099 r0 0 = H12083 r0 0 := (f12104 r0 0 _ g0 rfl)
    have q12107 : H12099 r0 0 = (tk : Int) := k12106.trans q12094
    have k12108 : H12099 tk 0 = H12083 tk 0 := (f12104 tk 0 _ gtk rfl)
    have q12109 : H12099 tk 0 = (rb : Int) := k12108.trans q12096
    refine wp_of e43 c43_25 (xc_V (pc' := 28) (r := r0) (as := [vI 23, vI 1, vI 24, vI 24]) (st := []) (lm_1_154) rfl rfl (Nat.le_of_ble_eq_true rfl) w12103 g0 sh_3 (by decide) rfl (by decide) (s_29 w12103 g0 ⟨by omega, by omega⟩ ⟨by omega, by omega⟩ ⟨by omega, by omega⟩ ⟨by omega, by omega⟩ q12107 gtk q12109 grb) (fun R12110 T12111 H12112 p12113 => ?_))
    obtain ⟨e12114, w12116, f12117, z12118, e12115, b12119⟩ := p12113
    subst e12114
    subst e12115
    have f12120 := f12105.tr f12117 rfl
    show wp _ _ 43 28 [(0, .ref r0), (1, .ref r1)] [vI z12118] _ H12112 _
    refine wp_of e43 c43_28 (rw_if_ne (p1 := 33) (p2 := 31) (by decide) rfl ⟨by omega, by omega⟩ (fun c12121 => ?_) (fun c12121 => ?_))
    · refine wp_of e43 c43_33 (rw_aload_n (pc' := 34) (v := .ref r1) rfl rfl rfl ?_)
      refine wp_of e43 c43_34 (xg_R (pc' := 37) lf_1_251 w12116 g1 sh_27 (by decide) (by decide) ty_27_6 rfl rfl (fun r12122 q12123 g12124 => ?_))
      refine wp_of e43 c43_37 (rw_aload_n (pc' := 38) (v := .ref r1) rfl rfl rfl ?_)
      have k12125 : H12112 r1 14 = H r1 14 := ((f12117 r1 14 _ g1 rfl).trans ((f12104 r1 14 _ g1 rfl).trans (f12088 r1 14 _ g1 rfl)))
      refine wp_of e43 c43_38 (xg_I (pc' := 41) lf_1_254 w12116 g1 sh_27 (by decide) (by decide) ty_27_14 rfl rfl (fun b12126 b12127 => ?_))
      refine wp_of e43 c43_41 (rw_aload_n (pc' := 42) (v := .ref r0) rfl rfl rfl ?_)
      refine wp_of e43 c43_42 (xg_I (pc' := 45) lf_1_158 w12116 g0 sh_3 (by decide) (by decide) ty_3_1 rfl rfl (fun b12128 b12129 => ?_))
      refine wp_of e43 c43_45 (rw_aload_n (pc' := 46) (v := .ref r0) rfl rfl rfl ?_)
      refine wp_of e43 c43_46 (xg_I (pc' := 49) lf_1_164 w12116 g0 sh_3 (by decide) (by decide) ty_3_2 rfl rfl (fun b12130 b12131 => ?_))
      refine wp_of e43 c43_49 (xc_S (pc' := 52) (as := [vI (H12112 r0 1), vI (H12112 r0 2)]) (st := [vI (H12112 r1 14), .ref r12122]) (lm_1_194) rfl rfl (Nat.le_of_ble_eq_true rfl) rfl (by decide) (s_31 w12116 ⟨by omega, by omega⟩ ⟨by omega, by omega⟩) (fun R12132 T12133 H12134 p12135 => ?_))
      obtain ⟨e12136, e12138, z12139, e12137, b12140⟩ := p12135
      subst e12136
      subst e12137
      subst e12138
      show wp _ _ 43 52 [(0, .ref r0), (1, .ref r1)] [vI z12139, vI (H12112 r1 14), .ref r12122] _ H12112 _
      refine wp_of e43 c43_52 (xs_I (pc' := 53) w12116 g12124 (by decide) sh_34 (by decide) (ty_34 _) (by omega) (by omega) ⟨by omega, by omega⟩ (by omega) (by omega) rfl (fun H12141 e12142 w12143 => ?_))
      have f12144 := f12120.put' e12142 g12124 rfl
      refine wp_of e43 c43_53 (rw_aload_n (pc' := 54) (v := .ref r1) rfl rfl rfl ?_)
      refine wp_of e43 c43_54 (rw_dup (pc' := 55) rfl rfl ?_)
      have k12145 : H12141 r1 14 = H12112 r1 14 := (wq_u_t e12142 g12124 g1 rfl 14)
      refine wp_of e43 c43_55 (xg_I (pc' := 58) lf_1_254 w12143 g1 sh_27 (by decide) (by decide) ty_27_14 rfl rfl (fun b12146 b12147 => ?_))
      refine wp_of e43 c43_58 (rw_iconst (pc' := 59) rfl ?_)
      refine wp_of e43 c43_59 (rw_iadd (pc' := 60) rfl ?_)
      refine wp_of e43 c43_60 (xp_I (pc' := 63) lf_1_254 w12143 g1 sh_27 (by decide) (by decide) ty_27_14 rfl rfl (by omega) (by omega) ⟨by omega, by omega⟩ rfl (fun H12148 e12149 w12150 => ?_))
      have f12151 := f12144.put' e12149 g1 rfl
      have k12152 : H12148 r1 14 = (H12141 r1 14) + 1 := wq_u_s e12149
      refine wp_of e43 c43_63 (rw_iconst (pc' := 64) rfl ?_)
      exact wp_zreturn e43 c43_64 rfl (by omega) ⟨rfl, w12150, f12151, 1, rfl, ⟨by omega, by omega⟩⟩
    · refine wp_of e43 c43_31 (rw_iconst (pc' := 32) rfl ?_)
      exact wp_zreturn e43 c43_32 rfl (by omega) ⟨rfl, w12116, f12120, 0, rfl, ⟨by omega, by omega⟩⟩
  · refine wp_of e43 c43_8 (rw_iconst (pc' := 9) rfl ?_)
    exact wp_zreturn e43 c43_9 rfl (by omega) ⟨rfl, w12087, f12091, 0, rfl, ⟨by omega, by omega⟩⟩
/-! StrikeAwake$Reader.readsLine(LStrikeAwake$Parish;)Z -/
theorem e17 : wq_en 17 = some (1, 4, false, some FieldType.boolean) := rfl
theorem c17_0 : mc_cd 17 0 = some (.aload_n 0, 1) := by decide +kernel
theorem c17_1 : mc_cd 17 1 = some (.invokevirtual 54, 3) := by decide +kernel
theorem c17_4 : mc_cd 17 4 = some (.astore_n 2, 1) := by decide +kernel
theorem c17_5 : mc_cd 17 5 = some (.aload_n 2, 1) := by decide +kernel
theorem c17_6 : mc_cd 17 6 = some (.ifnull 10, 3) := by decide +kernel
theorem c17_9 : mc_cd 17 9 = some (.aload_n 2, 1) := by decide +kernel
theorem c17_10 : mc_cd 17 10 = some (.getfield 58, 3) := by decide +kernel
theorem c17_13 : mc_cd 17 13 = some (.ifCond .ne 9, 3) := by decide +kernel
theorem c17_16 : mc_cd 17 16 = some (.aload_n 0, 1) := by decide +kernel
theorem c17_17 : mc_cd 17 17 = some (.iconst 1, 1) := by decide +kernel
theorem c17_18 : mc_cd 17 18 = some (.invokevirtual 47, 3) := by decide +kernel
theorem c17_21 : mc_cd 17 21 = some (.ireturn, 1) := by decide +kernel
theorem c17_22 : mc_cd 17 22 = some (.aload_n 1, 1) := by decide +kernel
theorem c17_23 : mc_cd 17 23 = some (.aload_n 2, 1) := by decide +kernel
theorem c17_24 : mc_cd 17 24 = some (.invokevirtual 63, 3) := by decide +kernel
theorem c17_27 : mc_cd 17 27 = some (.aload_n 2, 1) := by decide +kernel
theorem c17_28 : mc_cd 17 28 = some (.getfield 58, 3) := by decide +kernel
theorem c17_31 : mc_cd 17 31 = some (.if_icmp .lt 37, 3) := by decide +kernel
theorem c17_34 : mc_cd 17 34 = some (.aload_n 2, 1) := by decide +kernel
theorem c17_35 : mc_cd 17 35 = some (.getstatic 67, 3) := by decide +kernel
theorem c17_38 : mc_cd 17 38 = some (.if_acmp .eq 10, 3) := by decide +kernel
theorem c17_41 : mc_cd 17 41 = some (.aload_n 2, 1) := by decide +kernel
theorem c17_42 : mc_cd 17 42 = some (.getstatic 71, 3) := by decide +kernel
theorem c17_45 : mc_cd 17 45 = some (.if_acmp .ne 7, 3) := by decide +kernel
theorem c17_48 : mc_cd 17 48 = some (.iconst 1, 1) := by decide +kernel
theorem c17_49 : mc_cd 17 49 = some (.goto 4, 3) := by decide +kernel
theorem c17_52 : mc_cd 17 52 = some (.iconst 0, 1) := by decide +kernel
theorem c17_53 : mc_cd 17 53 = some (.istore_n 3, 1) := by decide +kernel
theorem c17_54 : mc_cd 17 54 = some (.aload_n 0, 1) := by decide +kernel
theorem c17_55 : mc_cd 17 55 = some (.iload_n 3, 1) := by decide +kernel
theorem c17_56 : mc_cd 17 56 = some (.ifCond .eq 7, 3) := by decide +kernel
theorem c17_59 : mc_cd 17 59 = some (.iconst 3, 1) := by decide +kernel
theorem c17_60 : mc_cd 17 60 = some (.goto 4, 3) := by decide +kernel
theorem c17_63 : mc_cd 17 63 = some (.iconst 5, 1) := by decide +kernel
theorem c17_64 : mc_cd 17 64 = some (.invokevirtual 47, 3) := by decide +kernel
theorem c17_67 : mc_cd 17 67 = some (.ireturn, 1) := by decide +kernel
theorem c17_68 : mc_cd 17 68 = some (.aload_n 0, 1) := by decide +kernel
theorem c17_69 : mc_cd 17 69 = some (.getfield 12, 3) := by decide +kernel
theorem c17_72 : mc_cd 17 72 = some (.invokevirtual 74, 3) := by decide +kernel
theorem c17_75 : mc_cd 17 75 = some (.getstatic 77, 3) := by decide +kernel
theorem c17_78 : mc_cd 17 78 = some (.aload_n 2, 1) := by decide +kernel
theorem c17_79 : mc_cd 17 79 = some (.invokevirtual 83, 3) := by decide +kernel
theorem c17_82 : mc_cd 17 82 = some (.iaload, 1) := by decide +kernel
theorem c17_83 : mc_cd 17 83 = some (.tableswitch 109 1 8 #[45, 51, 73, 79, 85, 91, 97, 103], 45) := by decide +kernel
theorem c17_128 : mc_cd 17 128 = some (.aload_n 0, 1) := by decide +kernel
theorem c17_129 : mc_cd 17 129 = some (.aload_n 1, 1) := by decide +kernel
theorem c17_130 : mc_cd 17 130 = some (.invokevirtual 87, 3) := by decide +kernel
theorem c17_133 : mc_cd 17 133 = some (.ireturn, 1) := by decide +kernel
theorem c17_134 : mc_cd 17 134 = some (.aload_n 0, 1) := by decide +kernel
theorem c17_135 : mc_cd 17 135 = some (.aload_n 1, 1) := by decide +kernel
theorem c17_136 : mc_cd 17 136 = some (.invokevirtual 90, 3) := by decide +kernel
theorem c17_139 : mc_cd 17 139 = some (.ifCond .eq 15, 3) := by decide +kernel
theorem c17_142 : mc_cd 17 142 = some (.aload_n 0, 1) := by decide +kernel
theorem c17_143 : mc_cd 17 143 = some (.aload_n 1, 1) := by decide +kernel
theorem c17_144 : mc_cd 17 144 = some (.invokevirtual 93, 3) := by decide +kernel
theorem c17_147 : mc_cd 17 147 = some (.ifCond .eq 7, 3) := by decide +kernel
theorem c17_150 : mc_cd 17 150 = some (.iconst 1, 1) := by decide +kernel
theorem c17_151 : mc_cd 17 151 = some (.goto 4, 3) := by decide +kernel
theorem c17_154 : mc_cd 17 154 = some (.iconst 0, 1) := by decide +kernel
theorem c17_155 : mc_cd 17 155 = some (.ireturn, 1) := by decide +kernel
theorem c17_156 : mc_cd 17 156 = some (.aload_n 0, 1) := by decide +kernel
theorem c17_157 : mc_cd 17 157 = some (.aload_n 1, 1) := by decide +kernel
theorem c17_158 : mc_cd 17 158 = some (.invokevirtual 96, 3) := by decide +kernel
theorem c17_161 : mc_cd 17 161 = some (.ireturn, 1) := by decide +kernel
theorem c17_162 : mc_cd 17 162 = some (.aload_n 0, 1) := by decide +kernel
theorem c17_163 : mc_cd 17 163 = some (.aload_n 1, 1) := by decide +kernel
theorem c17_164 : mc_cd 17 164 = some (.invokevirtual 99, 3) := by decide +kernel
theorem c17_167 : mc_cd 17 167 = some (.ireturn, 1) := by decide +kernel
theorem c17_168 : mc_cd 17 168 = some (.aload_n 0, 1) := by decide +kernel
theorem c17_169 : mc_cd 17 169 = some (.aload_n 1, 1) := by decide +kernel
theorem c17_170 : mc_cd 17 170 = some (.invokevirtual 102, 3) := by decide +kernel
theorem c17_173 : mc_cd 17 173 = some (.ireturn, 1) := by decide +kernel
theorem c17_174 : mc_cd 17 174 = some (.aload_n 0, 1) := by decide +kernel
theorem c17_175 : mc_cd 17 175 = some (.aload_n 1, 1) := by decide +kernel
theorem c17_176 : mc_cd 17 176 = some (.invokevirtual 105, 3) := by decide +kernel
theorem c17_179 : mc_cd 17 179 = some (.ireturn, 1) := by decide +kernel
theorem c17_180 : mc_cd 17 180 = some (.aload_n 0, 1) := by decide +kernel
theorem c17_181 : mc_cd 17 181 = some (.aload_n 1, 1) := by decide +kernel
theorem c17_182 : mc_cd 17 182 = some (.invokevirtual 108, 3) := by decide +kernel
theorem c17_185 : mc_cd 17 185 = some (.ireturn, 1) := by decide +kernel
theorem c17_186 : mc_cd 17 186 = some (.aload_n 0, 1) := by decide +kernel
theorem c17_187 : mc_cd 17 187 = some (.aload_n 1, 1) := by decide +kernel
theorem c17_188 : mc_cd 17 188 = some (.invokevirtual 111, 3) := by decide +kernel
theorem c17_191 : mc_cd 17 191 = some (.ireturn, 1) := by decide +kernel
theorem c17_192 : mc_cd 17 192 = some (.aload_n 0, 1) := by decide +kernel
theorem c17_193 : mc_cd 17 193 = some (.iconst 1, 1) := by decide +kernel
theorem c17_194 : mc_cd 17 194 = some (.invokevirtual 47, 3) := by decide +kernel
theorem c17_197 : mc_cd 17 197 = some (.ireturn, 1) := by decide +kernel
abbrev q_17 (r0 : Nat) (r1 : Nat) (tk : Nat) (rb : Nat) (T : wq_T) (H : wq_H) : Option Value → wq_T → wq_H → Prop := fun r T' H' => T = T' ∧ WT T H' ∧ wfr [(27, 7), (27, 8), (27, 9), (27, 10), (27, 11), (27, 12), (27, 13), (27, 14), (27, 15), (27, 16), (35, 6), (35, 7), (35, 8), (35, 9), (35, 10), (35, 11), (35, 12), (35, 13), (35, 14), (35, 15), (35, 16), (35, 17), (3, 1), (3, 2), (3, 3), (3, 4), (4, 2), (4, 3), (4, 4), (4, 5), (4, 6), (31, 999), (34, 999), (29, 999), (30, 999), (33, 999), (32, 999)] T H H' ∧ ∃ z : Int, some (vI z) = r ∧ (0 ≤ z ∧ z ≤ 1)
set_option maxHeartbeats 4000000 in
theorem s_17 {kt : Nat → Option mc_E} {T : wq_T} {H : wq_H} {r0 : Nat} {r1 : Nat} {tk : Nat} {rb : Nat} (hW : WT T H) (g0 : T.2.2.2 r0 = some 3) (g1 : T.2.2.2 r1 = some 27) (qtk : H r0 0 = (tk : Int)) (gtk : T.2.2.2 tk = some 4) (qrb : H tk 0 = (rb : Int)) (grb : T.2.2.2 rb = some 2) : wpc kt 6 17 [.ref r0, .ref r1] T H (q_17 r0 r1 tk rb T H) := by
  refine wp_enter e17 (Nat.le_of_ble_eq_true rfl) rfl ?_
  have f0 : wfr [(27, 7), (27, 8), (27, 9), (27, 10), (27, 11), (27, 12), (27, 13), (27, 14), (27, 15), (27, 16), (35, 6), (35, 7), (35, 8), (35, 9), (35, 10), (35, 11), (35, 12), (35, 13), (35, 14), (35, 15), (35, 16), (35, 17), (3, 1), (3, 2), (3, 3), (3, 4), (4, 2), (4, 3), (4, 4), (4, 5), (4, 6), (31, 999), (34, 999), (29, 999), (30, 999), (33, 999), (32, 999)] T H H := wfr.rf
  show wp _ _ 17 0 [(0, .ref r0), (1, .ref r1)] [] _ H _
  refine wp_of e17 c17_0 (rw_aload_n (pc' := 1) (v := .ref r0) rfl rfl rfl ?_)
  refine wp_of e17 c17_1 (xc_V (pc' := 4) (r := r0) (as := []) (st := []) (lm_1_54) rfl rfl (Nat.le_of_ble_eq_true rfl) hW g0 sh_3 (by decide) rfl (by decide) (s_18 hW g0) (fun R12645 T12646 H12647 p12648 => ?_))
  obtain ⟨e12649, e12651, e12650⟩ := p12648
  subst e12649
  subst e12651
  rcases e12650 with e12650 | ⟨r12652, e12650, b12653, b12654⟩
  · subst e12650
    show wp _ _ 17 4 [(0, .ref r0), (1, .ref r1)] [.null] _ H _
    refine wp_of e17 c17_4 (rw_astore_n (pc' := 5) (v := .null) (L' := [(2, .null), (0, .ref r0), (1, .ref r1)]) rfl rfl rfl rfl ?_)
    refine wp_of e17 c17_5 (rw_aload_n (pc' := 6) (v := .null) rfl rfl rfl ?_)
    refine wp_of e17 c17_6 (rw_ifnull_n (p1 := 16) (p2 := 9) (by decide) rfl ?_)
    refine wp_of e17 c17_16 (rw_aload_n (pc' := 17) (v := .ref r0) rfl rfl rfl ?_)
    refine wp_of e17 c17_17 (rw_iconst (pc' := 18) rfl ?_)
    refine wp_of e17 c17_18 (xc_V (pc' := 21) (r := r0) (as := [vI 1]) (st := []) (lm_1_47) rfl rfl (Nat.le_of_ble_eq_true rfl) hW g0 sh_3 (by decide) rfl (by decide) (s_20 hW g0 ⟨by omega, by omega⟩) (fun R12655 T12656 H12657 p12658 => ?_))
    obtain ⟨e12659, w12661, f12662, z12663, e12660, b12664⟩ := p12658
    subst e12659
    subst e12660
    have f12665 := f0.tr f12662 rfl
    show wp _ _ 17 21 [(2, .null), (0, .ref r0), (1, .ref r1)] [vI z12663] _ H12657 _
    exact wp_zreturn e17 c17_21 rfl (by omega) ⟨rfl, w12661, f12665, z12663, rfl, ⟨by omega, by omega⟩⟩
  · subst e12650
    have c12666 : r12652 = 16 ∨ r12652 = 17 ∨ r12652 = 18 ∨ r12652 = 19 ∨ r12652 = 20 ∨ r12652 = 21 ∨ r12652 = 22 ∨ r12652 = 23 ∨ r12652 = 24 ∨ r12652 = 25 ∨ r12652 = 26 := by omega
    rcases c12666 with c12666 | c12666 | c12666 | c12666 | c12666 | c12666 | c12666 | c12666 | c12666 | c12666 | c12666
    · subst c12666
      show wp _ _ 17 4 [(0, .ref r0), (1, .ref r1)] [.ref 16] _ H _
      refine wp_of e17 c17_4 (rw_astore_n (pc' := 5) (v := .ref 16) (L' := [(2, .ref 16), (0, .ref r0), (1, .ref r1)]) rfl rfl rfl rfl ?_)
      refine wp_of e17 c17_5 (rw_aload_n (pc' := 6) (v := .ref 16) rfl rfl rfl ?_)
      refine wp_of e17 c17_6 (rw_ifnull_r (p1 := 16) (p2 := 9) (by decide) rfl ?_)
      refine wp_of e17 c17_9 (rw_aload_n (pc' := 10) (v := .ref 16) rfl rfl rfl ?_)
      have k12667 : H 16 1 = 1 := (hW.2 16 _ (hW.1.2.2 0 (by decide))).2.2 1 (by decide) |> fun z => by have z1 : (1 : Int) ≤ H 16 1 ∧ H 16 1 ≤ 1 := z; omega
      refine wp_of e17 c17_10 (rw_getI (pc' := 13) (n := 2) (e := _) (lf_1_58).choose_spec.1 (lf_1_58).choose_spec.2.1 (hW.sh (hW.1.2.2 0 (by decide)) rfl) (by decide) rfl rfl ?_)
      rw [k12667]
      refine wp_of e17 c17_13 (rw_if_ne (p1 := 22) (p2 := 16) (by decide) rfl ⟨by omega, by omega⟩ (fun c12668 => ?_) (fun c12668 => ?_))
      · refine wp_of e17 c17_22 (rw_aload_n (pc' := 23) (v := .ref r1) rfl rfl rfl ?_)
        refine wp_of e17 c17_23 (rw_aload_n (pc' := 24) (v := .ref 16) rfl rfl rfl ?_)
        refine wp_of e17 c17_24 (xc_V (pc' := 27) (r := r1) (as := [.ref 16]) (st := []) (lm_1_63) rfl rfl (Nat.le_of_ble_eq_true rfl) hW g1 sh_27 (by decide) rfl (by decide) (s_21_16 hW g1) (fun R12669 T12670 H12671 p12672 => ?_))
        obtain ⟨e12673, e12675, z12677, e12674, b12678, p12676⟩ := p12672
        subst e12673
        subst e12674
        subst e12675
        show wp _ _ 17 27 [(2, .ref 16), (0, .ref r0), (1, .ref r1)] [vI z12677] _ H _
        refine wp_of e17 c17_27 (rw_aload_n (pc' := 28) (v := .ref 16) rfl rfl rfl ?_)
        have k12679 : H 16 1 = 1 := (hW.2 16 _ (hW.1.2.2 0 (by decide))).2.2 1 (by decide) |> fun z => by have z1 : (1 : Int) ≤ H 16 1 ∧ H 16 1 ≤ 1 := z; omega
        refine wp_of e17 c17_28 (rw_getI (pc' := 31) (n := 2) (e := _) (lf_1_58).choose_spec.1 (lf_1_58).choose_spec.2.1 (hW.sh (hW.1.2.2 0 (by decide)) rfl) (by decide) rfl rfl ?_)
        rw [k12679]
        refine wp_of e17 c17_31 (rw_icmp_lt (p1 := 68) (p2 := 34) (by decide) rfl ⟨by omega, by omega⟩ ⟨by omega, by omega⟩ (fun c12680 => ?_) (fun c12680 => ?_))
        · refine wp_of e17 c17_68 (rw_aload_n (pc' := 69) (v := .ref r0) rfl rfl rfl ?_)
          refine wp_of e17 c17_69 (xg_K (pc' := 72) lf_1_12 hW g0 sh_3 (by decide) (by decide) rfl qtk rfl ?_)
          refine wp_of e17 c17_72 (xc_V (pc' := 75) (r := tk) (as := []) (st := []) (lm_1_74) rfl rfl (Nat.le_of_ble_eq_true rfl) hW gtk sh_4 (by decide) rfl (by decide) (s_16 hW gtk qrb grb) (fun R12681 T12682 H12683 p12684 => ?_))
          obtain ⟨e12685, w12687, f12688, e12686⟩ := p12684
          subst e12685
          subst e12686
          have f12689 := f0.tr f12688 rfl
          show wp _ _ 17 75 [(2, .ref 16), (0, .ref r0), (1, .ref r1)] [] _ H12683 _
          refine wp_of e17 c17_75 (rw_gs (pc' := 78) (k := 2) rfl rfl rfl rfl ?_)
          refine wp_of e17 c17_78 (rw_aload_n (pc' := 79) (v := .ref 16) rfl rfl rfl ?_)
          refine wp_of e17 c17_79 (rw_ord (pc' := 82) rfl rfl rfl (by decide) (Nat.le_of_ble_eq_true rfl) rfl ?_)
          show wp _ _ 17 82 [(2, .ref 16), (0, .ref r0), (1, .ref r1)] [vI 0, .ref 2] _ H12683 _
          have k12690 : H12683 2 (0 : Int).toNat = 1 := (w12687.2 2 _ w12687.1.2.1).2.2 0 (by decide) |> fun z => by have z1 : (1 : Int) ≤ H12683 2 0 ∧ H12683 2 0 ≤ 1 := z; exact Int.le_antisymm z1.2 z1.1
          refine wp_of e17 c17_82 (rw_iaload (pc' := 83) (n := 11) (w12687.sh w12687.1.2.1 rfl) (by decide) (by decide) (by decide) rfl rfl ?_)
          rw [k12690]
          have c12691 : 1 = 1 := by omega
          refine wp_of e17 c17_83 (rw_tsw (p1 := 128) ⟨by omega, by omega⟩ (by rw [c12691]; decide) ?_)
          refine wp_of e17 c17_128 (rw_aload_n (pc' := 129) (v := .ref r0) rfl rfl rfl ?_)
          refine wp_of e17 c17_129 (rw_aload_n (pc' := 130) (v := .ref r1) rfl rfl rfl ?_)
          have k12692 : H12683 r0 0 = H r0 0 := (f12688 r0 0 _ g0 rfl)
          have q12693 : H12683 r0 0 = (tk : Int) := k12692.trans qtk
          have k12694 : H12683 tk 0 = H tk 0 := (f12688 tk 0 _ gtk rfl)
          have q12695 : H12683 tk 0 = (rb : Int) := k12694.trans qrb
          refine wp_of e17 c17_130 (xc_V (pc' := 133) (r := r0) (as := [.ref r1]) (st := []) (lm_1_87) rfl rfl (Nat.le_of_ble_eq_true rfl) w12687 g0 sh_3 (by decide) rfl (by decide) (s_22 w12687 g0 g1 q12693 gtk q12695 grb) (fun R12696 T12697 H12698 p12699 => ?_))
          obtain ⟨e12700, w12702, f12703, z12704, e12701, b12705⟩ := p12699
          subst e12700
          subst e12701
          have f12706 := f12689.tr f12703 rfl
          show wp _ _ 17 133 [(2, .ref 16), (0, .ref r0), (1, .ref r1)] [vI z12704] _ H12698 _
          exact wp_zreturn e17 c17_133 rfl (by omega) ⟨rfl, w12702, f12706, z12704, rfl, ⟨by omega, by omega⟩⟩
        · refine wp_of e17 c17_34 (rw_aload_n (pc' := 35) (v := .ref 16) rfl rfl rfl ?_)
          refine wp_of e17 c17_35 (rw_gs (pc' := 38) (k := 16) rfl rfl rfl rfl ?_)
          refine wp_of e17 c17_38 (rw_acmp_eq (p1 := 48) (p2 := 41) (a := some 16) (b := some 16) rfl rfl (by decide) rfl (fun q => ?_) (fun q => absurd q (by decide)))
          refine wp_of e17 c17_48 (rw_iconst (pc' := 49) rfl ?_)
          refine wp_of e17 c17_49 (rw_goto (p1 := 53) (by decide) ?_)
          refine wp_of e17 c17_53 (rw_istore_n (pc' := 54) (z := 1) (L' := [(3, vI 1), (2, .ref 16), (0, .ref r0), (1, .ref r1)]) rfl rfl rfl ?_)
          refine wp_of e17 c17_54 (rw_aload_n (pc' := 55) (v := .ref r0) rfl rfl rfl ?_)
          refine wp_of e17 c17_55 (rw_iload_n (pc' := 56) (z := 1) rfl rfl ?_)
          refine wp_of e17 c17_56 (rw_if_eq (p1 := 63) (p2 := 59) (by decide) rfl ⟨by omega, by omega⟩ (fun c12707 => ?_) (fun c12707 => ?_))
          · exfalso
            omega
          · refine wp_of e17 c17_59 (rw_iconst (pc' := 60) rfl ?_)
            refine wp_of e17 c17_60 (rw_goto (p1 := 64) (by decide) ?_)
            refine wp_of e17 c17_64 (xc_V (pc' := 67) (r := r0) (as := [vI 3]) (st := []) (lm_1_47) rfl rfl (Nat.le_of_ble_eq_true rfl) hW g0 sh_3 (by decide) rfl (by decide) (s_20 hW g0 ⟨by omega, by omega⟩) (fun R12708 T12709 H12710 p12711 => ?_))
            obtain ⟨e12712, w12714, f12715, z12716, e12713, b12717⟩ := p12711
            subst e12712
            subst e12713
            have f12718 := f0.tr f12715 rfl
            show wp _ _ 17 67 [(3, vI 1), (2, .ref 16), (0, .ref r0), (1, .ref r1)] [vI z12716] _ H12710 _
            exact wp_zreturn e17 c17_67 rfl (by omega) ⟨rfl, w12714, f12718, z12716, rfl, ⟨by omega, by omega⟩⟩
      · exfalso
        omega
    · subst c12666
      show wp _ _ 17 4 [(0, .ref r0), (1, .ref r1)] [.ref 17] _ H _
      refine wp_of e17 c17_4 (rw_astore_n (pc' := 5) (v := .ref 17) (L' := [(2, .ref 17), (0, .ref r0), (1, .ref r1)]) rfl rfl rfl rfl ?_)
      refine wp_of e17 c17_5 (rw_aload_n (pc' := 6) (v := .ref 17) rfl rfl rfl ?_)
      refine wp_of e17 c17_6 (rw_ifnull_r (p1 := 16) (p2 := 9) (by decide) rfl ?_)
      refine wp_of e17 c17_9 (rw_aload_n (pc' := 10) (v := .ref 17) rfl rfl rfl ?_)
      have k12719 : H 17 1 = 6 := (hW.2 17 _ (hW.1.2.2 1 (by decide))).2.2 1 (by decide) |> fun z => by have z1 : (6 : Int) ≤ H 17 1 ∧ H 17 1 ≤ 6 := z; omega
      refine wp_of e17 c17_10 (rw_getI (pc' := 13) (n := 2) (e := _) (lf_1_58).choose_spec.1 (lf_1_58).choose_spec.2.1 (hW.sh (hW.1.2.2 1 (by decide)) rfl) (by decide) rfl rfl ?_)
      rw [k12719]
      refine wp_of e17 c17_13 (rw_if_ne (p1 := 22) (p2 := 16) (by decide) rfl ⟨by omega, by omega⟩ (fun c12720 => ?_) (fun c12720 => ?_))
      · refine wp_of e17 c17_22 (rw_aload_n (pc' := 23) (v := .ref r1) rfl rfl rfl ?_)
        refine wp_of e17 c17_23 (rw_aload_n (pc' := 24) (v := .ref 17) rfl rfl rfl ?_)
        refine wp_of e17 c17_24 (xc_V (pc' := 27) (r := r1) (as := [.ref 17]) (st := []) (lm_1_63) rfl rfl (Nat.le_of_ble_eq_true rfl) hW g1 sh_27 (by decide) rfl (by decide) (s_21_17 hW g1) (fun R12721 T12722 H12723 p12724 => ?_))
        obtain ⟨e12725, e12727, z12729, e12726, b12730, p12728⟩ := p12724
        subst e12725
        subst e12726
        subst e12727
        show wp _ _ 17 27 [(2, .ref 17), (0, .ref r0), (1, .ref r1)] [vI z12729] _ H _
        refine wp_of e17 c17_27 (rw_aload_n (pc' := 28) (v := .ref 17) rfl rfl rfl ?_)
        have k12731 : H 17 1 = 6 := (hW.2 17 _ (hW.1.2.2 1 (by decide))).2.2 1 (by decide) |> fun z => by have z1 : (6 : Int) ≤ H 17 1 ∧ H 17 1 ≤ 6 := z; omega
        refine wp_of e17 c17_28 (rw_getI (pc' := 31) (n := 2) (e := _) (lf_1_58).choose_spec.1 (lf_1_58).choose_spec.2.1 (hW.sh (hW.1.2.2 1 (by decide)) rfl) (by decide) rfl rfl ?_)
        rw [k12731]
        refine wp_of e17 c17_31 (rw_icmp_lt (p1 := 68) (p2 := 34) (by decide) rfl ⟨by omega, by omega⟩ ⟨by omega, by omega⟩ (fun c12732 => ?_) (fun c12732 => ?_))
        · refine wp_of e17 c17_68 (rw_aload_n (pc' := 69) (v := .ref r0) rfl rfl rfl ?_)
          refine wp_of e17 c17_69 (xg_K (pc' := 72) lf_1_12 hW g0 sh_3 (by decide) (by decide) rfl qtk rfl ?_)
          refine wp_of e17 c17_72 (xc_V (pc' := 75) (r := tk) (as := []) (st := []) (lm_1_74) rfl rfl (Nat.le_of_ble_eq_true rfl) hW gtk sh_4 (by decide) rfl (by decide) (s_16 hW gtk qrb grb) (fun R12733 T12734 H12735 p12736 => ?_))
          obtain ⟨e12737, w12739, f12740, e12738⟩ := p12736
          subst e12737
          subst e12738
          have f12741 := f0.tr f12740 rfl
          show wp _ _ 17 75 [(2, .ref 17), (0, .ref r0), (1, .ref r1)] [] _ H12735 _
          refine wp_of e17 c17_75 (rw_gs (pc' := 78) (k := 2) rfl rfl rfl rfl ?_)
          refine wp_of e17 c17_78 (rw_aload_n (pc' := 79) (v := .ref 17) rfl rfl rfl ?_)
          refine wp_of e17 c17_79 (rw_ord (pc' := 82) rfl rfl rfl (by decide) (Nat.le_of_ble_eq_true rfl) rfl ?_)
          show wp _ _ 17 82 [(2, .ref 17), (0, .ref r0), (1, .ref r1)] [vI 1, .ref 2] _ H12735 _
          have k12742 : H12735 2 (1 : Int).toNat = 2 := (w12739.2 2 _ w12739.1.2.1).2.2 1 (by decide) |> fun z => by have z1 : (2 : Int) ≤ H12735 2 1 ∧ H12735 2 1 ≤ 2 := z; exact Int.le_antisymm z1.2 z1.1
          refine wp_of e17 c17_82 (rw_iaload (pc' := 83) (n := 11) (w12739.sh w12739.1.2.1 rfl) (by decide) (by decide) (by decide) rfl rfl ?_)
          rw [k12742]
          have c12743 : 2 = 2 := by omega
          refine wp_of e17 c17_83 (rw_tsw (p1 := 134) ⟨by omega, by omega⟩ (by rw [c12743]; decide) ?_)
          refine wp_of e17 c17_134 (rw_aload_n (pc' := 135) (v := .ref r0) rfl rfl rfl ?_)
          refine wp_of e17 c17_135 (rw_aload_n (pc' := 136) (v := .ref r1) rfl rfl rfl ?_)
          have k12744 : H12735 r0 0 = H r0 0 := (f12740 r0 0 _ g0 rfl)
          have q12745 : H12735 r0 0 = (tk : Int) := k12744.trans qtk
          have k12746 : H12735 tk 0 = H tk 0 := (f12740 tk 0 _ gtk rfl)
          have q12747 : H12735 tk 0 = (rb : Int) := k12746.trans qrb
          refine wp_of e17 c17_136 (xc_V (pc' := 139) (r := r0) (as := [.ref r1]) (st := []) (lm_1_90) rfl rfl (Nat.le_of_ble_eq_true rfl) w12739 g0 sh_3 (by decide) rfl (by decide) (s_25 w12739 g0 g1 q12745 gtk q12747 grb (by omega)) (fun R12748 T12749 H12750 p12751 => ?_))
          obtain ⟨e12752, w12754, f12755, z12756, e12753, b12757⟩ := p12751
          subst e12752
          subst e12753
          have f12758 := f12741.tr f12755 rfl
          show wp _ _ 17 139 [(2, .ref 17), (0, .ref r0), (1, .ref r1)] [vI z12756] _ H12750 _
          refine wp_of e17 c17_139 (rw_if_eq (p1 := 154) (p2 := 142) (by decide) rfl ⟨by omega, by omega⟩ (fun c12759 => ?_) (fun c12759 => ?_))
          · refine wp_of e17 c17_154 (rw_iconst (pc' := 155) rfl ?_)
            exact wp_zreturn e17 c17_155 rfl (by omega) ⟨rfl, w12754, f12758, 0, rfl, ⟨by omega, by omega⟩⟩
          · refine wp_of e17 c17_142 (rw_aload_n (pc' := 143) (v := .ref r0) rfl rfl rfl ?_)
            refine wp_of e17 c17_143 (rw_aload_n (pc' := 144) (v := .ref r1) rfl rfl rfl ?_)
            have k12760 : H12750 r0 0 = H12735 r0 0 := (f12755 r0 0 _ g0 rfl)
            have q12761 : H12750 r0 0 = (tk : Int) := k12760.trans q12745
            have k12762 : H12750 tk 0 = H12735 tk 0 := (f12755 tk 0 _ gtk rfl)
            have q12763 : H12750 tk 0 = (rb : Int) := k12762.trans q12747
            refine wp_of e17 c17_144 (xc_V (pc' := 147) (r := r0) (as := [.ref r1]) (st := []) (lm_1_93) rfl rfl (Nat.le_of_ble_eq_true rfl) w12754 g0 sh_3 (by decide) rfl (by decide) (s_30 w12754 g0 g1 q12761 gtk q12763 grb (by omega)) (fun R12764 T12765 H12766 p12767 => ?_))
            obtain ⟨e12768, w12770, f12771, z12772, e12769, b12773⟩ := p12767
            subst e12768
            subst e12769
            have f12774 := f12758.tr f12771 rfl
            show wp _ _ 17 147 [(2, .ref 17), (0, .ref r0), (1, .ref r1)] [vI z12772] _ H12766 _
            refine wp_of e17 c17_147 (rw_if_eq (p1 := 154) (p2 := 150) (by decide) rfl ⟨by omega, by omega⟩ (fun c12775 => ?_) (fun c12775 => ?_))
            · refine wp_of e17 c17_154 (rw_iconst (pc' := 155) rfl ?_)
              exact wp_zreturn e17 c17_155 rfl (by omega) ⟨rfl, w12770, f12774, 0, rfl, ⟨by omega, by omega⟩⟩
            · refine wp_of e17 c17_150 (rw_iconst (pc' := 151) rfl ?_)
              refine wp_of e17 c17_151 (rw_goto (p1 := 155) (by decide) ?_)
              exact wp_zreturn e17 c17_155 rfl (by omega) ⟨rfl, w12770, f12774, 1, rfl, ⟨by omega, by omega⟩⟩
        · refine wp_of e17 c17_34 (rw_aload_n (pc' := 35) (v := .ref 17) rfl rfl rfl ?_)
          refine wp_of e17 c17_35 (rw_gs (pc' := 38) (k := 16) rfl rfl rfl rfl ?_)
          refine wp_of e17 c17_38 (rw_acmp_eq (p1 := 48) (p2 := 41) (a := some 17) (b := some 16) rfl rfl (by decide) rfl (fun q => absurd q (by decide)) (fun q => ?_))
          refine wp_of e17 c17_41 (rw_aload_n (pc' := 42) (v := .ref 17) rfl rfl rfl ?_)
          refine wp_of e17 c17_42 (rw_gs (pc' := 45) (k := 18) rfl rfl rfl rfl ?_)
          refine wp_of e17 c17_45 (rw_acmp_ne (p1 := 52) (p2 := 48) (a := some 17) (b := some 18) rfl rfl (by decide) rfl (fun q => ?_) (fun q => absurd q (by decide)))
          refine wp_of e17 c17_52 (rw_iconst (pc' := 53) rfl ?_)
          refine wp_of e17 c17_53 (rw_istore_n (pc' := 54) (z := 0) (L' := [(3, vI 0), (2, .ref 17), (0, .ref r0), (1, .ref r1)]) rfl rfl rfl ?_)
          refine wp_of e17 c17_54 (rw_aload_n (pc' := 55) (v := .ref r0) rfl rfl rfl ?_)
          refine wp_of e17 c17_55 (rw_iload_n (pc' := 56) (z := 0) rfl rfl ?_)
          refine wp_of e17 c17_56 (rw_if_eq (p1 := 63) (p2 := 59) (by decide) rfl ⟨by omega, by omega⟩ (fun c12776 => ?_) (fun c12776 => ?_))
          · refine wp_of e17 c17_63 (rw_iconst (pc' := 64) rfl ?_)
            refine wp_of e17 c17_64 (xc_V (pc' := 67) (r := r0) (as := [vI 5]) (st := []) (lm_1_47) rfl rfl (Nat.le_of_ble_eq_true rfl) hW g0 sh_3 (by decide) rfl (by decide) (s_20 hW g0 ⟨by omega, by omega⟩) (fun R12777 T12778 H12779 p12780 => ?_))
            obtain ⟨e12781, w12783, f12784, z12785, e12782, b12786⟩ := p12780
            subst e12781
            subst e12782
            have f12787 := f0.tr f12784 rfl
            show wp _ _ 17 67 [(3, vI 0), (2, .ref 17), (0, .ref r0), (1, .ref r1)] [vI z12785] _ H12779 _
            exact wp_zreturn e17 c17_67 rfl (by omega) ⟨rfl, w12783, f12787, z12785, rfl, ⟨by omega, by omega⟩⟩
          · exfalso
            omega
      · exfalso
        omega
    · subst c12666
      show wp _ _ 17 4 [(0, .ref r0), (1, .ref r1)] [.ref 18] _ H _
      refine wp_of e17 c17_4 (rw_astore_n (pc' := 5) (v := .ref 18) (L' := [(2, .ref 18), (0, .ref r0), (1, .ref r1)]) rfl rfl rfl rfl ?_)
      refine wp_of e17 c17_5 (rw_aload_n (pc' := 6) (v := .ref 18) rfl rfl rfl ?_)
      refine wp_of e17 c17_6 (rw_ifnull_r (p1 := 16) (p2 := 9) (by decide) rfl ?_)
      refine wp_of e17 c17_9 (rw_aload_n (pc' := 10) (v := .ref 18) rfl rfl rfl ?_)
      have k12788 : H 18 1 = 1 := (hW.2 18 _ (hW.1.2.2 2 (by decide))).2.2 1 (by decide) |> fun z => by have z1 : (1 : Int) ≤ H 18 1 ∧ H 18 1 ≤ 1 := z; omega
      refine wp_of e17 c17_10 (rw_getI (pc' := 13) (n := 2) (e := _) (lf_1_58).choose_spec.1 (lf_1_58).choose_spec.2.1 (hW.sh (hW.1.2.2 2 (by decide)) rfl) (by decide) rfl rfl ?_)
      rw [k12788]
      refine wp_of e17 c17_13 (rw_if_ne (p1 := 22) (p2 := 16) (by decide) rfl ⟨by omega, by omega⟩ (fun c12789 => ?_) (fun c12789 => ?_))
      · refine wp_of e17 c17_22 (rw_aload_n (pc' := 23) (v := .ref r1) rfl rfl rfl ?_)
        refine wp_of e17 c17_23 (rw_aload_n (pc' := 24) (v := .ref 18) rfl rfl rfl ?_)
        refine wp_of e17 c17_24 (xc_V (pc' := 27) (r := r1) (as := [.ref 18]) (st := []) (lm_1_63) rfl rfl (Nat.le_of_ble_eq_true rfl) hW g1 sh_27 (by decide) rfl (by decide) (s_21_18 hW g1) (fun R12790 T12791 H12792 p12793 => ?_))
        obtain ⟨e12794, e12796, z12798, e12795, b12799, p12797⟩ := p12793
        subst e12794
        subst e12795
        subst e12796
        show wp _ _ 17 27 [(2, .ref 18), (0, .ref r0), (1, .ref r1)] [vI z12798] _ H _
        refine wp_of e17 c17_27 (rw_aload_n (pc' := 28) (v := .ref 18) rfl rfl rfl ?_)
        have k12800 : H 18 1 = 1 := (hW.2 18 _ (hW.1.2.2 2 (by decide))).2.2 1 (by decide) |> fun z => by have z1 : (1 : Int) ≤ H 18 1 ∧ H 18 1 ≤ 1 := z; omega
        refine wp_of e17 c17_28 (rw_getI (pc' := 31) (n := 2) (e := _) (lf_1_58).choose_spec.1 (lf_1_58).choose_spec.2.1 (hW.sh (hW.1.2.2 2 (by decide)) rfl) (by decide) rfl rfl ?_)
        rw [k12800]
        refine wp_of e17 c17_31 (rw_icmp_lt (p1 := 68) (p2 := 34) (by decide) rfl ⟨by omega, by omega⟩ ⟨by omega, by omega⟩ (fun c12801 => ?_) (fun c12801 => ?_))
        · refine wp_of e17 c17_68 (rw_aload_n (pc' := 69) (v := .ref r0) rfl rfl rfl ?_)
          refine wp_of e17 c17_69 (xg_K (pc' := 72) lf_1_12 hW g0 sh_3 (by decide) (by decide) rfl qtk rfl ?_)
          refine wp_of e17 c17_72 (xc_V (pc' := 75) (r := tk) (as := []) (st := []) (lm_1_74) rfl rfl (Nat.le_of_ble_eq_true rfl) hW gtk sh_4 (by decide) rfl (by decide) (s_16 hW gtk qrb grb) (fun R12802 T12803 H12804 p12805 => ?_))
          obtain ⟨e12806, w12808, f12809, e12807⟩ := p12805
          subst e12806
          subst e12807
          have f12810 := f0.tr f12809 rfl
          show wp _ _ 17 75 [(2, .ref 18), (0, .ref r0), (1, .ref r1)] [] _ H12804 _
          refine wp_of e17 c17_75 (rw_gs (pc' := 78) (k := 2) rfl rfl rfl rfl ?_)
          refine wp_of e17 c17_78 (rw_aload_n (pc' := 79) (v := .ref 18) rfl rfl rfl ?_)
          refine wp_of e17 c17_79 (rw_ord (pc' := 82) rfl rfl rfl (by decide) (Nat.le_of_ble_eq_true rfl) rfl ?_)
          show wp _ _ 17 82 [(2, .ref 18), (0, .ref r0), (1, .ref r1)] [vI 2, .ref 2] _ H12804 _
          have k12811 : H12804 2 (2 : Int).toNat = 3 := (w12808.2 2 _ w12808.1.2.1).2.2 2 (by decide) |> fun z => by have z1 : (3 : Int) ≤ H12804 2 2 ∧ H12804 2 2 ≤ 3 := z; exact Int.le_antisymm z1.2 z1.1
          refine wp_of e17 c17_82 (rw_iaload (pc' := 83) (n := 11) (w12808.sh w12808.1.2.1 rfl) (by decide) (by decide) (by decide) rfl rfl ?_)
          rw [k12811]
          have c12812 : 3 = 3 := by omega
          refine wp_of e17 c17_83 (rw_tsw (p1 := 156) ⟨by omega, by omega⟩ (by rw [c12812]; decide) ?_)
          refine wp_of e17 c17_156 (rw_aload_n (pc' := 157) (v := .ref r0) rfl rfl rfl ?_)
          refine wp_of e17 c17_157 (rw_aload_n (pc' := 158) (v := .ref r1) rfl rfl rfl ?_)
          have k12813 : H12804 r0 0 = H r0 0 := (f12809 r0 0 _ g0 rfl)
          have q12814 : H12804 r0 0 = (tk : Int) := k12813.trans qtk
          have k12815 : H12804 tk 0 = H tk 0 := (f12809 tk 0 _ gtk rfl)
          have q12816 : H12804 tk 0 = (rb : Int) := k12815.trans qrb
          refine wp_of e17 c17_158 (xc_V (pc' := 161) (r := r0) (as := [.ref r1]) (st := []) (lm_1_96) rfl rfl (Nat.le_of_ble_eq_true rfl) w12808 g0 sh_3 (by decide) rfl (by decide) (s_32 w12808 g0 g1 q12814 gtk q12816 grb) (fun R12817 T12818 H12819 p12820 => ?_))
          obtain ⟨e12821, w12823, f12824, z12825, e12822, b12826⟩ := p12820
          subst e12821
          subst e12822
          have f12827 := f12810.tr f12824 rfl
          show wp _ _ 17 161 [(2, .ref 18), (0, .ref r0), (1, .ref r1)] [vI z12825] _ H12819 _
          exact wp_zreturn e17 c17_161 rfl (by omega) ⟨rfl, w12823, f12827, z12825, rfl, ⟨by omega, by omega⟩⟩
        · refine wp_of e17 c17_34 (rw_aload_n (pc' := 35) (v := .ref 18) rfl rfl rfl ?_)
          refine wp_of e17 c17_35 (rw_gs (pc' := 38) (k := 16) rfl rfl rfl rfl ?_)
          refine wp_of e17 c17_38 (rw_acmp_eq (p1 := 48) (p2 := 41) (a := some 18) (b := some 16) rfl rfl (by decide) rfl (fun q => absurd q (by decide)) (fun q => ?_))
          refine wp_of e17 c17_41 (rw_aload_n (pc' := 42) (v := .ref 18) rfl rfl rfl ?_)
          refine wp_of e17 c17_42 (rw_gs (pc' := 45) (k := 18) rfl rfl rfl rfl ?_)
          refine wp_of e17 c17_45 (rw_acmp_ne (p1 := 52) (p2 := 48) (a := some 18) (b := some 18) rfl rfl (by decide) rfl (fun q => absurd q (by decide)) (fun q => ?_))
          refine wp_of e17 c17_48 (rw_iconst (pc' := 49) rfl ?_)
          refine wp_of e17 c17_49 (rw_goto (p1 := 53) (by decide) ?_)
          refine wp_of e17 c17_53 (rw_istore_n (pc' := 54) (z := 1) (L' := [(3, vI 1), (2, .ref 18), (0, .ref r0), (1, .ref r1)]) rfl rfl rfl ?_)
          refine wp_of e17 c17_54 (rw_aload_n (pc' := 55) (v := .ref r0) rfl rfl rfl ?_)
          refine wp_of e17 c17_55 (rw_iload_n (pc' := 56) (z := 1) rfl rfl ?_)
          refine wp_of e17 c17_56 (rw_if_eq (p1 := 63) (p2 := 59) (by decide) rfl ⟨by omega, by omega⟩ (fun c12828 => ?_) (fun c12828 => ?_))
          · exfalso
            omega
          · refine wp_of e17 c17_59 (rw_iconst (pc' := 60) rfl ?_)
            refine wp_of e17 c17_60 (rw_goto (p1 := 64) (by decide) ?_)
            refine wp_of e17 c17_64 (xc_V (pc' := 67) (r := r0) (as := [vI 3]) (st := []) (lm_1_47) rfl rfl (Nat.le_of_ble_eq_true rfl) hW g0 sh_3 (by decide) rfl (by decide) (s_20 hW g0 ⟨by omega, by omega⟩) (fun R12829 T12830 H12831 p12832 => ?_))
            obtain ⟨e12833, w12835, f12836, z12837, e12834, b12838⟩ := p12832
            subst e12833
            subst e12834
            have f12839 := f0.tr f12836 rfl
            show wp _ _ 17 67 [(3, vI 1), (2, .ref 18), (0, .ref r0), (1, .ref r1)] [vI z12837] _ H12831 _
            exact wp_zreturn e17 c17_67 rfl (by omega) ⟨rfl, w12835, f12839, z12837, rfl, ⟨by omega, by omega⟩⟩
      · exfalso
        omega
    · subst c12666
      show wp _ _ 17 4 [(0, .ref r0), (1, .ref r1)] [.ref 19] _ H _
      refine wp_of e17 c17_4 (rw_astore_n (pc' := 5) (v := .ref 19) (L' := [(2, .ref 19), (0, .ref r0), (1, .ref r1)]) rfl rfl rfl rfl ?_)
      refine wp_of e17 c17_5 (rw_aload_n (pc' := 6) (v := .ref 19) rfl rfl rfl ?_)
      refine wp_of e17 c17_6 (rw_ifnull_r (p1 := 16) (p2 := 9) (by decide) rfl ?_)
      refine wp_of e17 c17_9 (rw_aload_n (pc' := 10) (v := .ref 19) rfl rfl rfl ?_)
      have k12840 : H 19 1 = 3 := (hW.2 19 _ (hW.1.2.2 3 (by decide))).2.2 1 (by decide) |> fun z => by have z1 : (3 : Int) ≤ H 19 1 ∧ H 19 1 ≤ 3 := z; omega
      refine wp_of e17 c17_10 (rw_getI (pc' := 13) (n := 2) (e := _) (lf_1_58).choose_spec.1 (lf_1_58).choose_spec.2.1 (hW.sh (hW.1.2.2 3 (by decide)) rfl) (by decide) rfl rfl ?_)
      rw [k12840]
      refine wp_of e17 c17_13 (rw_if_ne (p1 := 22) (p2 := 16) (by decide) rfl ⟨by omega, by omega⟩ (fun c12841 => ?_) (fun c12841 => ?_))
      · refine wp_of e17 c17_22 (rw_aload_n (pc' := 23) (v := .ref r1) rfl rfl rfl ?_)
        refine wp_of e17 c17_23 (rw_aload_n (pc' := 24) (v := .ref 19) rfl rfl rfl ?_)
        refine wp_of e17 c17_24 (xc_V (pc' := 27) (r := r1) (as := [.ref 19]) (st := []) (lm_1_63) rfl rfl (Nat.le_of_ble_eq_true rfl) hW g1 sh_27 (by decide) rfl (by decide) (s_21_19 hW g1) (fun R12842 T12843 H12844 p12845 => ?_))
        obtain ⟨e12846, e12848, z12849, e12847, b12850⟩ := p12845
        subst e12846
        subst e12847
        subst e12848
        show wp _ _ 17 27 [(2, .ref 19), (0, .ref r0), (1, .ref r1)] [vI z12849] _ H _
        refine wp_of e17 c17_27 (rw_aload_n (pc' := 28) (v := .ref 19) rfl rfl rfl ?_)
        have k12851 : H 19 1 = 3 := (hW.2 19 _ (hW.1.2.2 3 (by decide))).2.2 1 (by decide) |> fun z => by have z1 : (3 : Int) ≤ H 19 1 ∧ H 19 1 ≤ 3 := z; omega
        refine wp_of e17 c17_28 (rw_getI (pc' := 31) (n := 2) (e := _) (lf_1_58).choose_spec.1 (lf_1_58).choose_spec.2.1 (hW.sh (hW.1.2.2 3 (by decide)) rfl) (by decide) rfl rfl ?_)
        rw [k12851]
        refine wp_of e17 c17_31 (rw_icmp_lt (p1 := 68) (p2 := 34) (by decide) rfl ⟨by omega, by omega⟩ ⟨by omega, by omega⟩ (fun c12852 => ?_) (fun c12852 => ?_))
        · refine wp_of e17 c17_68 (rw_aload_n (pc' := 69) (v := .ref r0) rfl rfl rfl ?_)
          refine wp_of e17 c17_69 (xg_K (pc' := 72) lf_1_12 hW g0 sh_3 (by decide) (by decide) rfl qtk rfl ?_)
          refine wp_of e17 c17_72 (xc_V (pc' := 75) (r := tk) (as := []) (st := []) (lm_1_74) rfl rfl (Nat.le_of_ble_eq_true rfl) hW gtk sh_4 (by decide) rfl (by decide) (s_16 hW gtk qrb grb) (fun R12853 T12854 H12855 p12856 => ?_))
          obtain ⟨e12857, w12859, f12860, e12858⟩ := p12856
          subst e12857
          subst e12858
          have f12861 := f0.tr f12860 rfl
          show wp _ _ 17 75 [(2, .ref 19), (0, .ref r0), (1, .ref r1)] [] _ H12855 _
          refine wp_of e17 c17_75 (rw_gs (pc' := 78) (k := 2) rfl rfl rfl rfl ?_)
          refine wp_of e17 c17_78 (rw_aload_n (pc' := 79) (v := .ref 19) rfl rfl rfl ?_)
          refine wp_of e17 c17_79 (rw_ord (pc' := 82) rfl rfl rfl (by decide) (Nat.le_of_ble_eq_true rfl) rfl ?_)
          show wp _ _ 17 82 [(2, .ref 19), (0, .ref r0), (1, .ref r1)] [vI 3, .ref 2] _ H12855 _
          have k12862 : H12855 2 (3 : Int).toNat = 4 := (w12859.2 2 _ w12859.1.2.1).2.2 3 (by decide) |> fun z => by have z1 : (4 : Int) ≤ H12855 2 3 ∧ H12855 2 3 ≤ 4 := z; exact Int.le_antisymm z1.2 z1.1
          refine wp_of e17 c17_82 (rw_iaload (pc' := 83) (n := 11) (w12859.sh w12859.1.2.1 rfl) (by decide) (by decide) (by decide) rfl rfl ?_)
          rw [k12862]
          have c12863 : 4 = 4 := by omega
          refine wp_of e17 c17_83 (rw_tsw (p1 := 162) ⟨by omega, by omega⟩ (by rw [c12863]; decide) ?_)
          refine wp_of e17 c17_162 (rw_aload_n (pc' := 163) (v := .ref r0) rfl rfl rfl ?_)
          refine wp_of e17 c17_163 (rw_aload_n (pc' := 164) (v := .ref r1) rfl rfl rfl ?_)
          have k12864 : H12855 r0 0 = H r0 0 := (f12860 r0 0 _ g0 rfl)
          have q12865 : H12855 r0 0 = (tk : Int) := k12864.trans qtk
          have k12866 : H12855 tk 0 = H tk 0 := (f12860 tk 0 _ gtk rfl)
          have q12867 : H12855 tk 0 = (rb : Int) := k12866.trans qrb
          refine wp_of e17 c17_164 (xc_V (pc' := 167) (r := r0) (as := [.ref r1]) (st := []) (lm_1_99) rfl rfl (Nat.le_of_ble_eq_true rfl) w12859 g0 sh_3 (by decide) rfl (by decide) (s_34 w12859 g0 g1 q12865 gtk q12867 grb) (fun R12868 T12869 H12870 p12871 => ?_))
          obtain ⟨e12872, w12874, f12875, z12876, e12873, b12877⟩ := p12871
          subst e12872
          subst e12873
          have f12878 := f12861.tr f12875 rfl
          show wp _ _ 17 167 [(2, .ref 19), (0, .ref r0), (1, .ref r1)] [vI z12876] _ H12870 _
          exact wp_zreturn e17 c17_167 rfl (by omega) ⟨rfl, w12874, f12878, z12876, rfl, ⟨by omega, by omega⟩⟩
        · refine wp_of e17 c17_34 (rw_aload_n (pc' := 35) (v := .ref 19) rfl rfl rfl ?_)
          refine wp_of e17 c17_35 (rw_gs (pc' := 38) (k := 16) rfl rfl rfl rfl ?_)
          refine wp_of e17 c17_38 (rw_acmp_eq (p1 := 48) (p2 := 41) (a := some 19) (b := some 16) rfl rfl (by decide) rfl (fun q => absurd q (by decide)) (fun q => ?_))
          refine wp_of e17 c17_41 (rw_aload_n (pc' := 42) (v := .ref 19) rfl rfl rfl ?_)
          refine wp_of e17 c17_42 (rw_gs (pc' := 45) (k := 18) rfl rfl rfl rfl ?_)
          refine wp_of e17 c17_45 (rw_acmp_ne (p1 := 52) (p2 := 48) (a := some 19) (b := some 18) rfl rfl (by decide) rfl (fun q => ?_) (fun q => absurd q (by decide)))
          refine wp_of e17 c17_52 (rw_iconst (pc' := 53) rfl ?_)
          refine wp_of e17 c17_53 (rw_istore_n (pc' := 54) (z := 0) (L' := [(3, vI 0), (2, .ref 19), (0, .ref r0), (1, .ref r1)]) rfl rfl rfl ?_)
          refine wp_of e17 c17_54 (rw_aload_n (pc' := 55) (v := .ref r0) rfl rfl rfl ?_)
          refine wp_of e17 c17_55 (rw_iload_n (pc' := 56) (z := 0) rfl rfl ?_)
          refine wp_of e17 c17_56 (rw_if_eq (p1 := 63) (p2 := 59) (by decide) rfl ⟨by omega, by omega⟩ (fun c12879 => ?_) (fun c12879 => ?_))
          · refine wp_of e17 c17_63 (rw_iconst (pc' := 64) rfl ?_)
            refine wp_of e17 c17_64 (xc_V (pc' := 67) (r := r0) (as := [vI 5]) (st := []) (lm_1_47) rfl rfl (Nat.le_of_ble_eq_true rfl) hW g0 sh_3 (by decide) rfl (by decide) (s_20 hW g0 ⟨by omega, by omega⟩) (fun R12880 T12881 H12882 p12883 => ?_))
            obtain ⟨e12884, w12886, f12887, z12888, e12885, b12889⟩ := p12883
            subst e12884
            subst e12885
            have f12890 := f0.tr f12887 rfl
            show wp _ _ 17 67 [(3, vI 0), (2, .ref 19), (0, .ref r0), (1, .ref r1)] [vI z12888] _ H12882 _
            exact wp_zreturn e17 c17_67 rfl (by omega) ⟨rfl, w12886, f12890, z12888, rfl, ⟨by omega, by omega⟩⟩
          · exfalso
            omega
      · exfalso
        omega
    · subst c12666
      show wp _ _ 17 4 [(0, .ref r0), (1, .ref r1)] [.ref 20] _ H _
      refine wp_of e17 c17_4 (rw_astore_n (pc' := 5) (v := .ref 20) (L' := [(2, .ref 20), (0, .ref r0), (1, .ref r1)]) rfl rfl rfl rfl ?_)
      refine wp_of e17 c17_5 (rw_aload_n (pc' := 6) (v := .ref 20) rfl rfl rfl ?_)
      refine wp_of e17 c17_6 (rw_ifnull_r (p1 := 16) (p2 := 9) (by decide) rfl ?_)
      refine wp_of e17 c17_9 (rw_aload_n (pc' := 10) (v := .ref 20) rfl rfl rfl ?_)
      have k12891 : H 20 1 = 3 := (hW.2 20 _ (hW.1.2.2 4 (by decide))).2.2 1 (by decide) |> fun z => by have z1 : (3 : Int) ≤ H 20 1 ∧ H 20 1 ≤ 3 := z; omega
      refine wp_of e17 c17_10 (rw_getI (pc' := 13) (n := 2) (e := _) (lf_1_58).choose_spec.1 (lf_1_58).choose_spec.2.1 (hW.sh (hW.1.2.2 4 (by decide)) rfl) (by decide) rfl rfl ?_)
      rw [k12891]
      refine wp_of e17 c17_13 (rw_if_ne (p1 := 22) (p2 := 16) (by decide) rfl ⟨by omega, by omega⟩ (fun c12892 => ?_) (fun c12892 => ?_))
      · refine wp_of e17 c17_22 (rw_aload_n (pc' := 23) (v := .ref r1) rfl rfl rfl ?_)
        refine wp_of e17 c17_23 (rw_aload_n (pc' := 24) (v := .ref 20) rfl rfl rfl ?_)
        refine wp_of e17 c17_24 (xc_V (pc' := 27) (r := r1) (as := [.ref 20]) (st := []) (lm_1_63) rfl rfl (Nat.le_of_ble_eq_true rfl) hW g1 sh_27 (by decide) rfl (by decide) (s_21_20 hW g1) (fun R12893 T12894 H12895 p12896 => ?_))
        obtain ⟨e12897, e12899, z12901, e12898, b12902, p12900⟩ := p12896
        subst e12897
        subst e12898
        subst e12899
        show wp _ _ 17 27 [(2, .ref 20), (0, .ref r0), (1, .ref r1)] [vI z12901] _ H _
        refine wp_of e17 c17_27 (rw_aload_n (pc' := 28) (v := .ref 20) rfl rfl rfl ?_)
        have k12903 : H 20 1 = 3 := (hW.2 20 _ (hW.1.2.2 4 (by decide))).2.2 1 (by decide) |> fun z => by have z1 : (3 : Int) ≤ H 20 1 ∧ H 20 1 ≤ 3 := z; omega
        refine wp_of e17 c17_28 (rw_getI (pc' := 31) (n := 2) (e := _) (lf_1_58).choose_spec.1 (lf_1_58).choose_spec.2.1 (hW.sh (hW.1.2.2 4 (by decide)) rfl) (by decide) rfl rfl ?_)
        rw [k12903]
        refine wp_of e17 c17_31 (rw_icmp_lt (p1 := 68) (p2 := 34) (by decide) rfl ⟨by omega, by omega⟩ ⟨by omega, by omega⟩ (fun c12904 => ?_) (fun c12904 => ?_))
        · refine wp_of e17 c17_68 (rw_aload_n (pc' := 69) (v := .ref r0) rfl rfl rfl ?_)
          refine wp_of e17 c17_69 (xg_K (pc' := 72) lf_1_12 hW g0 sh_3 (by decide) (by decide) rfl qtk rfl ?_)
          refine wp_of e17 c17_72 (xc_V (pc' := 75) (r := tk) (as := []) (st := []) (lm_1_74) rfl rfl (Nat.le_of_ble_eq_true rfl) hW gtk sh_4 (by decide) rfl (by decide) (s_16 hW gtk qrb grb) (fun R12905 T12906 H12907 p12908 => ?_))
          obtain ⟨e12909, w12911, f12912, e12910⟩ := p12908
          subst e12909
          subst e12910
          have f12913 := f0.tr f12912 rfl
          show wp _ _ 17 75 [(2, .ref 20), (0, .ref r0), (1, .ref r1)] [] _ H12907 _
          refine wp_of e17 c17_75 (rw_gs (pc' := 78) (k := 2) rfl rfl rfl rfl ?_)
          refine wp_of e17 c17_78 (rw_aload_n (pc' := 79) (v := .ref 20) rfl rfl rfl ?_)
          refine wp_of e17 c17_79 (rw_ord (pc' := 82) rfl rfl rfl (by decide) (Nat.le_of_ble_eq_true rfl) rfl ?_)
          show wp _ _ 17 82 [(2, .ref 20), (0, .ref r0), (1, .ref r1)] [vI 4, .ref 2] _ H12907 _
          have k12914 : H12907 2 (4 : Int).toNat = 5 := (w12911.2 2 _ w12911.1.2.1).2.2 4 (by decide) |> fun z => by have z1 : (5 : Int) ≤ H12907 2 4 ∧ H12907 2 4 ≤ 5 := z; exact Int.le_antisymm z1.2 z1.1
          refine wp_of e17 c17_82 (rw_iaload (pc' := 83) (n := 11) (w12911.sh w12911.1.2.1 rfl) (by decide) (by decide) (by decide) rfl rfl ?_)
          rw [k12914]
          have c12915 : 5 = 5 := by omega
          refine wp_of e17 c17_83 (rw_tsw (p1 := 168) ⟨by omega, by omega⟩ (by rw [c12915]; decide) ?_)
          refine wp_of e17 c17_168 (rw_aload_n (pc' := 169) (v := .ref r0) rfl rfl rfl ?_)
          refine wp_of e17 c17_169 (rw_aload_n (pc' := 170) (v := .ref r1) rfl rfl rfl ?_)
          have k12916 : H12907 r0 0 = H r0 0 := (f12912 r0 0 _ g0 rfl)
          have q12917 : H12907 r0 0 = (tk : Int) := k12916.trans qtk
          have k12918 : H12907 tk 0 = H tk 0 := (f12912 tk 0 _ gtk rfl)
          have q12919 : H12907 tk 0 = (rb : Int) := k12918.trans qrb
          refine wp_of e17 c17_170 (xc_V (pc' := 173) (r := r0) (as := [.ref r1]) (st := []) (lm_1_102) rfl rfl (Nat.le_of_ble_eq_true rfl) w12911 g0 sh_3 (by decide) rfl (by decide) (s_37 w12911 g0 g1 q12917 gtk q12919 grb (by omega)) (fun R12920 T12921 H12922 p12923 => ?_))
          obtain ⟨e12924, w12926, f12927, z12928, e12925, b12929⟩ := p12923
          subst e12924
          subst e12925
          have f12930 := f12913.tr f12927 rfl
          show wp _ _ 17 173 [(2, .ref 20), (0, .ref r0), (1, .ref r1)] [vI z12928] _ H12922 _
          exact wp_zreturn e17 c17_173 rfl (by omega) ⟨rfl, w12926, f12930, z12928, rfl, ⟨by omega, by omega⟩⟩
        · refine wp_of e17 c17_34 (rw_aload_n (pc' := 35) (v := .ref 20) rfl rfl rfl ?_)
          refine wp_of e17 c17_35 (rw_gs (pc' := 38) (k := 16) rfl rfl rfl rfl ?_)
          refine wp_of e17 c17_38 (rw_acmp_eq (p1 := 48) (p2 := 41) (a := some 20) (b := some 16) rfl rfl (by decide) rfl (fun q => absurd q (by decide)) (fun q => ?_))
          refine wp_of e17 c17_41 (rw_aload_n (pc' := 42) (v := .ref 20) rfl rfl rfl ?_)
          refine wp_of e17 c17_42 (rw_gs (pc' := 45) (k := 18) rfl rfl rfl rfl ?_)
          refine wp_of e17 c17_45 (rw_acmp_ne (p1 := 52) (p2 := 48) (a := some 20) (b := some 18) rfl rfl (by decide) rfl (fun q => ?_) (fun q => absurd q (by decide)))
          refine wp_of e17 c17_52 (rw_iconst (pc' := 53) rfl ?_)
          refine wp_of e17 c17_53 (rw_istore_n (pc' := 54) (z := 0) (L' := [(3, vI 0), (2, .ref 20), (0, .ref r0), (1, .ref r1)]) rfl rfl rfl ?_)
          refine wp_of e17 c17_54 (rw_aload_n (pc' := 55) (v := .ref r0) rfl rfl rfl ?_)
          refine wp_of e17 c17_55 (rw_iload_n (pc' := 56) (z := 0) rfl rfl ?_)
          refine wp_of e17 c17_56 (rw_if_eq (p1 := 63) (p2 := 59) (by decide) rfl ⟨by omega, by omega⟩ (fun c12931 => ?_) (fun c12931 => ?_))
          · refine wp_of e17 c17_63 (rw_iconst (pc' := 64) rfl ?_)
            refine wp_of e17 c17_64 (xc_V (pc' := 67) (r := r0) (as := [vI 5]) (st := []) (lm_1_47) rfl rfl (Nat.le_of_ble_eq_true rfl) hW g0 sh_3 (by decide) rfl (by decide) (s_20 hW g0 ⟨by omega, by omega⟩) (fun R12932 T12933 H12934 p12935 => ?_))
            obtain ⟨e12936, w12938, f12939, z12940, e12937, b12941⟩ := p12935
            subst e12936
            subst e12937
            have f12942 := f0.tr f12939 rfl
            show wp _ _ 17 67 [(3, vI 0), (2, .ref 20), (0, .ref r0), (1, .ref r1)] [vI z12940] _ H12934 _
            exact wp_zreturn e17 c17_67 rfl (by omega) ⟨rfl, w12938, f12942, z12940, rfl, ⟨by omega, by omega⟩⟩
          · exfalso
            omega
      · exfalso
        omega
    · subst c12666
      show wp _ _ 17 4 [(0, .ref r0), (1, .ref r1)] [.ref 21] _ H _
      refine wp_of e17 c17_4 (rw_astore_n (pc' := 5) (v := .ref 21) (L' := [(2, .ref 21), (0, .ref r0), (1, .ref r1)]) rfl rfl rfl rfl ?_)
      refine wp_of e17 c17_5 (rw_aload_n (pc' := 6) (v := .ref 21) rfl rfl rfl ?_)
      refine wp_of e17 c17_6 (rw_ifnull_r (p1 := 16) (p2 := 9) (by decide) rfl ?_)
      refine wp_of e17 c17_9 (rw_aload_n (pc' := 10) (v := .ref 21) rfl rfl rfl ?_)
      have k12943 : H 21 1 = 24 := (hW.2 21 _ (hW.1.2.2 5 (by decide))).2.2 1 (by decide) |> fun z => by have z1 : (24 : Int) ≤ H 21 1 ∧ H 21 1 ≤ 24 := z; omega
      refine wp_of e17 c17_10 (rw_getI (pc' := 13) (n := 2) (e := _) (lf_1_58).choose_spec.1 (lf_1_58).choose_spec.2.1 (hW.sh (hW.1.2.2 5 (by decide)) rfl) (by decide) rfl rfl ?_)
      rw [k12943]
      refine wp_of e17 c17_13 (rw_if_ne (p1 := 22) (p2 := 16) (by decide) rfl ⟨by omega, by omega⟩ (fun c12944 => ?_) (fun c12944 => ?_))
      · refine wp_of e17 c17_22 (rw_aload_n (pc' := 23) (v := .ref r1) rfl rfl rfl ?_)
        refine wp_of e17 c17_23 (rw_aload_n (pc' := 24) (v := .ref 21) rfl rfl rfl ?_)
        refine wp_of e17 c17_24 (xc_V (pc' := 27) (r := r1) (as := [.ref 21]) (st := []) (lm_1_63) rfl rfl (Nat.le_of_ble_eq_true rfl) hW g1 sh_27 (by decide) rfl (by decide) (s_21_21 hW g1) (fun R12945 T12946 H12947 p12948 => ?_))
        obtain ⟨e12949, e12951, z12952, e12950, b12953⟩ := p12948
        subst e12949
        subst e12950
        subst e12951
        show wp _ _ 17 27 [(2, .ref 21), (0, .ref r0), (1, .ref r1)] [vI z12952] _ H _
        refine wp_of e17 c17_27 (rw_aload_n (pc' := 28) (v := .ref 21) rfl rfl rfl ?_)
        have k12954 : H 21 1 = 24 := (hW.2 21 _ (hW.1.2.2 5 (by decide))).2.2 1 (by decide) |> fun z => by have z1 : (24 : Int) ≤ H 21 1 ∧ H 21 1 ≤ 24 := z; omega
        refine wp_of e17 c17_28 (rw_getI (pc' := 31) (n := 2) (e := _) (lf_1_58).choose_spec.1 (lf_1_58).choose_spec.2.1 (hW.sh (hW.1.2.2 5 (by decide)) rfl) (by decide) rfl rfl ?_)
        rw [k12954]
        refine wp_of e17 c17_31 (rw_icmp_lt (p1 := 68) (p2 := 34) (by decide) rfl ⟨by omega, by omega⟩ ⟨by omega, by omega⟩ (fun c12955 => ?_) (fun c12955 => ?_))
        · refine wp_of e17 c17_68 (rw_aload_n (pc' := 69) (v := .ref r0) rfl rfl rfl ?_)
          refine wp_of e17 c17_69 (xg_K (pc' := 72) lf_1_12 hW g0 sh_3 (by decide) (by decide) rfl qtk rfl ?_)
          refine wp_of e17 c17_72 (xc_V (pc' := 75) (r := tk) (as := []) (st := []) (lm_1_74) rfl rfl (Nat.le_of_ble_eq_true rfl) hW gtk sh_4 (by decide) rfl (by decide) (s_16 hW gtk qrb grb) (fun R12956 T12957 H12958 p12959 => ?_))
          obtain ⟨e12960, w12962, f12963, e12961⟩ := p12959
          subst e12960
          subst e12961
          have f12964 := f0.tr f12963 rfl
          show wp _ _ 17 75 [(2, .ref 21), (0, .ref r0), (1, .ref r1)] [] _ H12958 _
          refine wp_of e17 c17_75 (rw_gs (pc' := 78) (k := 2) rfl rfl rfl rfl ?_)
          refine wp_of e17 c17_78 (rw_aload_n (pc' := 79) (v := .ref 21) rfl rfl rfl ?_)
          refine wp_of e17 c17_79 (rw_ord (pc' := 82) rfl rfl rfl (by decide) (Nat.le_of_ble_eq_true rfl) rfl ?_)
          show wp _ _ 17 82 [(2, .ref 21), (0, .ref r0), (1, .ref r1)] [vI 5, .ref 2] _ H12958 _
          have k12965 : H12958 2 (5 : Int).toNat = 6 := (w12962.2 2 _ w12962.1.2.1).2.2 5 (by decide) |> fun z => by have z1 : (6 : Int) ≤ H12958 2 5 ∧ H12958 2 5 ≤ 6 := z; exact Int.le_antisymm z1.2 z1.1
          refine wp_of e17 c17_82 (rw_iaload (pc' := 83) (n := 11) (w12962.sh w12962.1.2.1 rfl) (by decide) (by decide) (by decide) rfl rfl ?_)
          rw [k12965]
          have c12966 : 6 = 6 := by omega
          refine wp_of e17 c17_83 (rw_tsw (p1 := 174) ⟨by omega, by omega⟩ (by rw [c12966]; decide) ?_)
          refine wp_of e17 c17_174 (rw_aload_n (pc' := 175) (v := .ref r0) rfl rfl rfl ?_)
          refine wp_of e17 c17_175 (rw_aload_n (pc' := 176) (v := .ref r1) rfl rfl rfl ?_)
          have k12967 : H12958 r0 0 = H r0 0 := (f12963 r0 0 _ g0 rfl)
          have q12968 : H12958 r0 0 = (tk : Int) := k12967.trans qtk
          have k12969 : H12958 tk 0 = H tk 0 := (f12963 tk 0 _ gtk rfl)
          have q12970 : H12958 tk 0 = (rb : Int) := k12969.trans qrb
          refine wp_of e17 c17_176 (xc_V (pc' := 179) (r := r0) (as := [.ref r1]) (st := []) (lm_1_105) rfl rfl (Nat.le_of_ble_eq_true rfl) w12962 g0 sh_3 (by decide) rfl (by decide) (s_38 w12962 g0 g1 q12968 gtk q12970 grb) (fun R12971 T12972 H12973 p12974 => ?_))
          obtain ⟨e12975, w12977, f12978, z12979, e12976, b12980⟩ := p12974
          subst e12975
          subst e12976
          have f12981 := f12964.tr f12978 rfl
          show wp _ _ 17 179 [(2, .ref 21), (0, .ref r0), (1, .ref r1)] [vI z12979] _ H12973 _
          exact wp_zreturn e17 c17_179 rfl (by omega) ⟨rfl, w12977, f12981, z12979, rfl, ⟨by omega, by omega⟩⟩
        · refine wp_of e17 c17_34 (rw_aload_n (pc' := 35) (v := .ref 21) rfl rfl rfl ?_)
          refine wp_of e17 c17_35 (rw_gs (pc' := 38) (k := 16) rfl rfl rfl rfl ?_)
          refine wp_of e17 c17_38 (rw_acmp_eq (p1 := 48) (p2 := 41) (a := some 21) (b := some 16) rfl rfl (by decide) rfl (fun q => absurd q (by decide)) (fun q => ?_))
          refine wp_of e17 c17_41 (rw_aload_n (pc' := 42) (v := .ref 21) rfl rfl rfl ?_)
          refine wp_of e17 c17_42 (rw_gs (pc' := 45) (k := 18) rfl rfl rfl rfl ?_)
          refine wp_of e17 c17_45 (rw_acmp_ne (p1 := 52) (p2 := 48) (a := some 21) (b := some 18) rfl rfl (by decide) rfl (fun q => ?_) (fun q => absurd q (by decide)))
          refine wp_of e17 c17_52 (rw_iconst (pc' := 53) rfl ?_)
          refine wp_of e17 c17_53 (rw_istore_n (pc' := 54) (z := 0) (L' := [(3, vI 0), (2, .ref 21), (0, .ref r0), (1, .ref r1)]) rfl rfl rfl ?_)
          refine wp_of e17 c17_54 (rw_aload_n (pc' := 55) (v := .ref r0) rfl rfl rfl ?_)
          refine wp_of e17 c17_55 (rw_iload_n (pc' := 56) (z := 0) rfl rfl ?_)
          refine wp_of e17 c17_56 (rw_if_eq (p1 := 63) (p2 := 59) (by decide) rfl ⟨by omega, by omega⟩ (fun c12982 => ?_) (fun c12982 => ?_))
          · refine wp_of e17 c17_63 (rw_iconst (pc' := 64) rfl ?_)
            refine wp_of e17 c17_64 (xc_V (pc' := 67) (r := r0) (as := [vI 5]) (st := []) (lm_1_47) rfl rfl (Nat.le_of_ble_eq_true rfl) hW g0 sh_3 (by decide) rfl (by decide) (s_20 hW g0 ⟨by omega, by omega⟩) (fun R12983 T12984 H12985 p12986 => ?_))
            obtain ⟨e12987, w12989, f12990, z12991, e12988, b12992⟩ := p12986
            subst e12987
            subst e12988
            have f12993 := f0.tr f12990 rfl
            show wp _ _ 17 67 [(3, vI 0), (2, .ref 21), (0, .ref r0), (1, .ref r1)] [vI z12991] _ H12985 _
            exact wp_zreturn e17 c17_67 rfl (by omega) ⟨rfl, w12989, f12993, z12991, rfl, ⟨by omega, by omega⟩⟩
          · exfalso
            omega
      · exfalso
        omega
    · subst c12666
      show wp _ _ 17 4 [(0, .ref r0), (1, .ref r1)] [.ref 22] _ H _
      refine wp_of e17 c17_4 (rw_astore_n (pc' := 5) (v := .ref 22) (L' := [(2, .ref 22), (0, .ref r0), (1, .ref r1)]) rfl rfl rfl rfl ?_)
      refine wp_of e17 c17_5 (rw_aload_n (pc' := 6) (v := .ref 22) rfl rfl rfl ?_)
      refine wp_of e17 c17_6 (rw_ifnull_r (p1 := 16) (p2 := 9) (by decide) rfl ?_)
      refine wp_of e17 c17_9 (rw_aload_n (pc' := 10) (v := .ref 22) rfl rfl rfl ?_)
      have k12994 : H 22 1 = 4 := (hW.2 22 _ (hW.1.2.2 6 (by decide))).2.2 1 (by decide) |> fun z => by have z1 : (4 : Int) ≤ H 22 1 ∧ H 22 1 ≤ 4 := z; omega
      refine wp_of e17 c17_10 (rw_getI (pc' := 13) (n := 2) (e := _) (lf_1_58).choose_spec.1 (lf_1_58).choose_spec.2.1 (hW.sh (hW.1.2.2 6 (by decide)) rfl) (by decide) rfl rfl ?_)
      rw [k12994]
      refine wp_of e17 c17_13 (rw_if_ne (p1 := 22) (p2 := 16) (by decide) rfl ⟨by omega, by omega⟩ (fun c12995 => ?_) (fun c12995 => ?_))
      · refine wp_of e17 c17_22 (rw_aload_n (pc' := 23) (v := .ref r1) rfl rfl rfl ?_)
        refine wp_of e17 c17_23 (rw_aload_n (pc' := 24) (v := .ref 22) rfl rfl rfl ?_)
        refine wp_of e17 c17_24 (xc_V (pc' := 27) (r := r1) (as := [.ref 22]) (st := []) (lm_1_63) rfl rfl (Nat.le_of_ble_eq_true rfl) hW g1 sh_27 (by decide) rfl (by decide) (s_21_22 hW g1) (fun R12996 T12997 H12998 p12999 => ?_))
        obtain ⟨e13000, e13002, z13004, e13001, b13005, p13003⟩ := p12999
        subst e13000
        subst e13001
        subst e13002
        show wp _ _ 17 27 [(2, .ref 22), (0, .ref r0), (1, .ref r1)] [vI z13004] _ H _
        refine wp_of e17 c17_27 (rw_aload_n (pc' := 28) (v := .ref 22) rfl rfl rfl ?_)
        have k13006 : H 22 1 = 4 := (hW.2 22 _ (hW.1.2.2 6 (by decide))).2.2 1 (by decide) |> fun z => by have z1 : (4 : Int) ≤ H 22 1 ∧ H 22 1 ≤ 4 := z; omega
        refine wp_of e17 c17_28 (rw_getI (pc' := 31) (n := 2) (e := _) (lf_1_58).choose_spec.1 (lf_1_58).choose_spec.2.1 (hW.sh (hW.1.2.2 6 (by decide)) rfl) (by decide) rfl rfl ?_)
        rw [k13006]
        refine wp_of e17 c17_31 (rw_icmp_lt (p1 := 68) (p2 := 34) (by decide) rfl ⟨by omega, by omega⟩ ⟨by omega, by omega⟩ (fun c13007 => ?_) (fun c13007 => ?_))
        · refine wp_of e17 c17_68 (rw_aload_n (pc' := 69) (v := .ref r0) rfl rfl rfl ?_)
          refine wp_of e17 c17_69 (xg_K (pc' := 72) lf_1_12 hW g0 sh_3 (by decide) (by decide) rfl qtk rfl ?_)
          refine wp_of e17 c17_72 (xc_V (pc' := 75) (r := tk) (as := []) (st := []) (lm_1_74) rfl rfl (Nat.le_of_ble_eq_true rfl) hW gtk sh_4 (by decide) rfl (by decide) (s_16 hW gtk qrb grb) (fun R13008 T13009 H13010 p13011 => ?_))
          obtain ⟨e13012, w13014, f13015, e13013⟩ := p13011
          subst e13012
          subst e13013
          have f13016 := f0.tr f13015 rfl
          show wp _ _ 17 75 [(2, .ref 22), (0, .ref r0), (1, .ref r1)] [] _ H13010 _
          refine wp_of e17 c17_75 (rw_gs (pc' := 78) (k := 2) rfl rfl rfl rfl ?_)
          refine wp_of e17 c17_78 (rw_aload_n (pc' := 79) (v := .ref 22) rfl rfl rfl ?_)
          refine wp_of e17 c17_79 (rw_ord (pc' := 82) rfl rfl rfl (by decide) (Nat.le_of_ble_eq_true rfl) rfl ?_)
          show wp _ _ 17 82 [(2, .ref 22), (0, .ref r0), (1, .ref r1)] [vI 6, .ref 2] _ H13010 _
          have k13017 : H13010 2 (6 : Int).toNat = 7 := (w13014.2 2 _ w13014.1.2.1).2.2 6 (by decide) |> fun z => by have z1 : (7 : Int) ≤ H13010 2 6 ∧ H13010 2 6 ≤ 7 := z; exact Int.le_antisymm z1.2 z1.1
          refine wp_of e17 c17_82 (rw_iaload (pc' := 83) (n := 11) (w13014.sh w13014.1.2.1 rfl) (by decide) (by decide) (by decide) rfl rfl ?_)
          rw [k13017]
          have c13018 : 7 = 7 := by omega
          refine wp_of e17 c17_83 (rw_tsw (p1 := 180) ⟨by omega, by omega⟩ (by rw [c13018]; decide) ?_)
          refine wp_of e17 c17_180 (rw_aload_n (pc' := 181) (v := .ref r0) rfl rfl rfl ?_)
          refine wp_of e17 c17_181 (rw_aload_n (pc' := 182) (v := .ref r1) rfl rfl rfl ?_)
          have k13019 : H13010 r0 0 = H r0 0 := (f13015 r0 0 _ g0 rfl)
          have q13020 : H13010 r0 0 = (tk : Int) := k13019.trans qtk
          have k13021 : H13010 tk 0 = H tk 0 := (f13015 tk 0 _ gtk rfl)
          have q13022 : H13010 tk 0 = (rb : Int) := k13021.trans qrb
          refine wp_of e17 c17_182 (xc_V (pc' := 185) (r := r0) (as := [.ref r1]) (st := []) (lm_1_108) rfl rfl (Nat.le_of_ble_eq_true rfl) w13014 g0 sh_3 (by decide) rfl (by decide) (s_42 w13014 g0 g1 q13020 gtk q13022 grb (by omega)) (fun R13023 T13024 H13025 p13026 => ?_))
          obtain ⟨e13027, w13029, f13030, z13031, e13028, b13032⟩ := p13026
          subst e13027
          subst e13028
          have f13033 := f13016.tr f13030 rfl
          show wp _ _ 17 185 [(2, .ref 22), (0, .ref r0), (1, .ref r1)] [vI z13031] _ H13025 _
          exact wp_zreturn e17 c17_185 rfl (by omega) ⟨rfl, w13029, f13033, z13031, rfl, ⟨by omega, by omega⟩⟩
        · refine wp_of e17 c17_34 (rw_aload_n (pc' := 35) (v := .ref 22) rfl rfl rfl ?_)
          refine wp_of e17 c17_35 (rw_gs (pc' := 38) (k := 16) rfl rfl rfl rfl ?_)
          refine wp_of e17 c17_38 (rw_acmp_eq (p1 := 48) (p2 := 41) (a := some 22) (b := some 16) rfl rfl (by decide) rfl (fun q => absurd q (by decide)) (fun q => ?_))
          refine wp_of e17 c17_41 (rw_aload_n (pc' := 42) (v := .ref 22) rfl rfl rfl ?_)
          refine wp_of e17 c17_42 (rw_gs (pc' := 45) (k := 18) rfl rfl rfl rfl ?_)
          refine wp_of e17 c17_45 (rw_acmp_ne (p1 := 52) (p2 := 48) (a := some 22) (b := some 18) rfl rfl (by decide) rfl (fun q => ?_) (fun q => absurd q (by decide)))
          refine wp_of e17 c17_52 (rw_iconst (pc' := 53) rfl ?_)
          refine wp_of e17 c17_53 (rw_istore_n (pc' := 54) (z := 0) (L' := [(3, vI 0), (2, .ref 22), (0, .ref r0), (1, .ref r1)]) rfl rfl rfl ?_)
          refine wp_of e17 c17_54 (rw_aload_n (pc' := 55) (v := .ref r0) rfl rfl rfl ?_)
          refine wp_of e17 c17_55 (rw_iload_n (pc' := 56) (z := 0) rfl rfl ?_)
          refine wp_of e17 c17_56 (rw_if_eq (p1 := 63) (p2 := 59) (by decide) rfl ⟨by omega, by omega⟩ (fun c13034 => ?_) (fun c13034 => ?_))
          · refine wp_of e17 c17_63 (rw_iconst (pc' := 64) rfl ?_)
            refine wp_of e17 c17_64 (xc_V (pc' := 67) (r := r0) (as := [vI 5]) (st := []) (lm_1_47) rfl rfl (Nat.le_of_ble_eq_true rfl) hW g0 sh_3 (by decide) rfl (by decide) (s_20 hW g0 ⟨by omega, by omega⟩) (fun R13035 T13036 H13037 p13038 => ?_))
            obtain ⟨e13039, w13041, f13042, z13043, e13040, b13044⟩ := p13038
            subst e13039
            subst e13040
            have f13045 := f0.tr f13042 rfl
            show wp _ _ 17 67 [(3, vI 0), (2, .ref 22), (0, .ref r0), (1, .ref r1)] [vI z13043] _ H13037 _
            exact wp_zreturn e17 c17_67 rfl (by omega) ⟨rfl, w13041, f13045, z13043, rfl, ⟨by omega, by omega⟩⟩
          · exfalso
            omega
      · exfalso
        omega
    · subst c12666
      show wp _ _ 17 4 [(0, .ref r0), (1, .ref r1)] [.ref 23] _ H _
      refine wp_of e17 c17_4 (rw_astore_n (pc' := 5) (v := .ref 23) (L' := [(2, .ref 23), (0, .ref r0), (1, .ref r1)]) rfl rfl rfl rfl ?_)
      refine wp_of e17 c17_5 (rw_aload_n (pc' := 6) (v := .ref 23) rfl rfl rfl ?_)
      refine wp_of e17 c17_6 (rw_ifnull_r (p1 := 16) (p2 := 9) (by decide) rfl ?_)
      refine wp_of e17 c17_9 (rw_aload_n (pc' := 10) (v := .ref 23) rfl rfl rfl ?_)
      have k13046 : H 23 1 = 6 := (hW.2 23 _ (hW.1.2.2 7 (by decide))).2.2 1 (by decide) |> fun z => by have z1 : (6 : Int) ≤ H 23 1 ∧ H 23 1 ≤ 6 := z; omega
      refine wp_of e17 c17_10 (rw_getI (pc' := 13) (n := 2) (e := _) (lf_1_58).choose_spec.1 (lf_1_58).choose_spec.2.1 (hW.sh (hW.1.2.2 7 (by decide)) rfl) (by decide) rfl rfl ?_)
      rw [k13046]
      refine wp_of e17 c17_13 (rw_if_ne (p1 := 22) (p2 := 16) (by decide) rfl ⟨by omega, by omega⟩ (fun c13047 => ?_) (fun c13047 => ?_))
      · refine wp_of e17 c17_22 (rw_aload_n (pc' := 23) (v := .ref r1) rfl rfl rfl ?_)
        refine wp_of e17 c17_23 (rw_aload_n (pc' := 24) (v := .ref 23) rfl rfl rfl ?_)
        refine wp_of e17 c17_24 (xc_V (pc' := 27) (r := r1) (as := [.ref 23]) (st := []) (lm_1_63) rfl rfl (Nat.le_of_ble_eq_true rfl) hW g1 sh_27 (by decide) rfl (by decide) (s_21_23 hW g1) (fun R13048 T13049 H13050 p13051 => ?_))
        obtain ⟨e13052, e13054, z13056, e13053, b13057, p13055⟩ := p13051
        subst e13052
        subst e13053
        subst e13054
        show wp _ _ 17 27 [(2, .ref 23), (0, .ref r0), (1, .ref r1)] [vI z13056] _ H _
        refine wp_of e17 c17_27 (rw_aload_n (pc' := 28) (v := .ref 23) rfl rfl rfl ?_)
        have k13058 : H 23 1 = 6 := (hW.2 23 _ (hW.1.2.2 7 (by decide))).2.2 1 (by decide) |> fun z => by have z1 : (6 : Int) ≤ H 23 1 ∧ H 23 1 ≤ 6 := z; omega
        refine wp_of e17 c17_28 (rw_getI (pc' := 31) (n := 2) (e := _) (lf_1_58).choose_spec.1 (lf_1_58).choose_spec.2.1 (hW.sh (hW.1.2.2 7 (by decide)) rfl) (by decide) rfl rfl ?_)
        rw [k13058]
        refine wp_of e17 c17_31 (rw_icmp_lt (p1 := 68) (p2 := 34) (by decide) rfl ⟨by omega, by omega⟩ ⟨by omega, by omega⟩ (fun c13059 => ?_) (fun c13059 => ?_))
        · refine wp_of e17 c17_68 (rw_aload_n (pc' := 69) (v := .ref r0) rfl rfl rfl ?_)
          refine wp_of e17 c17_69 (xg_K (pc' := 72) lf_1_12 hW g0 sh_3 (by decide) (by decide) rfl qtk rfl ?_)
          refine wp_of e17 c17_72 (xc_V (pc' := 75) (r := tk) (as := []) (st := []) (lm_1_74) rfl rfl (Nat.le_of_ble_eq_true rfl) hW gtk sh_4 (by decide) rfl (by decide) (s_16 hW gtk qrb grb) (fun R13060 T13061 H13062 p13063 => ?_))
          obtain ⟨e13064, w13066, f13067, e13065⟩ := p13063
          subst e13064
          subst e13065
          have f13068 := f0.tr f13067 rfl
          show wp _ _ 17 75 [(2, .ref 23), (0, .ref r0), (1, .ref r1)] [] _ H13062 _
          refine wp_of e17 c17_75 (rw_gs (pc' := 78) (k := 2) rfl rfl rfl rfl ?_)
          refine wp_of e17 c17_78 (rw_aload_n (pc' := 79) (v := .ref 23) rfl rfl rfl ?_)
          refine wp_of e17 c17_79 (rw_ord (pc' := 82) rfl rfl rfl (by decide) (Nat.le_of_ble_eq_true rfl) rfl ?_)
          show wp _ _ 17 82 [(2, .ref 23), (0, .ref r0), (1, .ref r1)] [vI 7, .ref 2] _ H13062 _
          have k13069 : H13062 2 (7 : Int).toNat = 8 := (w13066.2 2 _ w13066.1.2.1).2.2 7 (by decide) |> fun z => by have z1 : (8 : Int) ≤ H13062 2 7 ∧ H13062 2 7 ≤ 8 := z; exact Int.le_antisymm z1.2 z1.1
          refine wp_of e17 c17_82 (rw_iaload (pc' := 83) (n := 11) (w13066.sh w13066.1.2.1 rfl) (by decide) (by decide) (by decide) rfl rfl ?_)
          rw [k13069]
          have c13070 : 8 = 8 := by omega
          refine wp_of e17 c17_83 (rw_tsw (p1 := 186) ⟨by omega, by omega⟩ (by rw [c13070]; decide) ?_)
          refine wp_of e17 c17_186 (rw_aload_n (pc' := 187) (v := .ref r0) rfl rfl rfl ?_)
          refine wp_of e17 c17_187 (rw_aload_n (pc' := 188) (v := .ref r1) rfl rfl rfl ?_)
          have k13071 : H13062 r0 0 = H r0 0 := (f13067 r0 0 _ g0 rfl)
          have q13072 : H13062 r0 0 = (tk : Int) := k13071.trans qtk
          have k13073 : H13062 tk 0 = H tk 0 := (f13067 tk 0 _ gtk rfl)
          have q13074 : H13062 tk 0 = (rb : Int) := k13073.trans qrb
          refine wp_of e17 c17_188 (xc_V (pc' := 191) (r := r0) (as := [.ref r1]) (st := []) (lm_1_111) rfl rfl (Nat.le_of_ble_eq_true rfl) w13066 g0 sh_3 (by decide) rfl (by decide) (s_43 w13066 g0 g1 q13072 gtk q13074 grb (by omega)) (fun R13075 T13076 H13077 p13078 => ?_))
          obtain ⟨e13079, w13081, f13082, z13083, e13080, b13084⟩ := p13078
          subst e13079
          subst e13080
          have f13085 := f13068.tr f13082 rfl
          show wp _ _ 17 191 [(2, .ref 23), (0, .ref r0), (1, .ref r1)] [vI z13083] _ H13077 _
          exact wp_zreturn e17 c17_191 rfl (by omega) ⟨rfl, w13081, f13085, z13083, rfl, ⟨by omega, by omega⟩⟩
        · refine wp_of e17 c17_34 (rw_aload_n (pc' := 35) (v := .ref 23) rfl rfl rfl ?_)
          refine wp_of e17 c17_35 (rw_gs (pc' := 38) (k := 16) rfl rfl rfl rfl ?_)
          refine wp_of e17 c17_38 (rw_acmp_eq (p1 := 48) (p2 := 41) (a := some 23) (b := some 16) rfl rfl (by decide) rfl (fun q => absurd q (by decide)) (fun q => ?_))
          refine wp_of e17 c17_41 (rw_aload_n (pc' := 42) (v := .ref 23) rfl rfl rfl ?_)
          refine wp_of e17 c17_42 (rw_gs (pc' := 45) (k := 18) rfl rfl rfl rfl ?_)
          refine wp_of e17 c17_45 (rw_acmp_ne (p1 := 52) (p2 := 48) (a := some 23) (b := some 18) rfl rfl (by decide) rfl (fun q => ?_) (fun q => absurd q (by decide)))
          refine wp_of e17 c17_52 (rw_iconst (pc' := 53) rfl ?_)
          refine wp_of e17 c17_53 (rw_istore_n (pc' := 54) (z := 0) (L' := [(3, vI 0), (2, .ref 23), (0, .ref r0), (1, .ref r1)]) rfl rfl rfl ?_)
          refine wp_of e17 c17_54 (rw_aload_n (pc' := 55) (v := .ref r0) rfl rfl rfl ?_)
          refine wp_of e17 c17_55 (rw_iload_n (pc' := 56) (z := 0) rfl rfl ?_)
          refine wp_of e17 c17_56 (rw_if_eq (p1 := 63) (p2 := 59) (by decide) rfl ⟨by omega, by omega⟩ (fun c13086 => ?_) (fun c13086 => ?_))
          · refine wp_of e17 c17_63 (rw_iconst (pc' := 64) rfl ?_)
            refine wp_of e17 c17_64 (xc_V (pc' := 67) (r := r0) (as := [vI 5]) (st := []) (lm_1_47) rfl rfl (Nat.le_of_ble_eq_true rfl) hW g0 sh_3 (by decide) rfl (by decide) (s_20 hW g0 ⟨by omega, by omega⟩) (fun R13087 T13088 H13089 p13090 => ?_))
            obtain ⟨e13091, w13093, f13094, z13095, e13092, b13096⟩ := p13090
            subst e13091
            subst e13092
            have f13097 := f0.tr f13094 rfl
            show wp _ _ 17 67 [(3, vI 0), (2, .ref 23), (0, .ref r0), (1, .ref r1)] [vI z13095] _ H13089 _
            exact wp_zreturn e17 c17_67 rfl (by omega) ⟨rfl, w13093, f13097, z13095, rfl, ⟨by omega, by omega⟩⟩
          · exfalso
            omega
      · exfalso
        omega
    · subst c12666
      show wp _ _ 17 4 [(0, .ref r0), (1, .ref r1)] [.ref 24] _ H _
      refine wp_of e17 c17_4 (rw_astore_n (pc' := 5) (v := .ref 24) (L' := [(2, .ref 24), (0, .ref r0), (1, .ref r1)]) rfl rfl rfl rfl ?_)
      refine wp_of e17 c17_5 (rw_aload_n (pc' := 6) (v := .ref 24) rfl rfl rfl ?_)
      refine wp_of e17 c17_6 (rw_ifnull_r (p1 := 16) (p2 := 9) (by decide) rfl ?_)
      refine wp_of e17 c17_9 (rw_aload_n (pc' := 10) (v := .ref 24) rfl rfl rfl ?_)
      have k13098 : H 24 1 = 0 := (hW.2 24 _ (hW.1.2.2 8 (by decide))).2.2 1 (by decide) |> fun z => by have z1 : (0 : Int) ≤ H 24 1 ∧ H 24 1 ≤ 0 := z; omega
      refine wp_of e17 c17_10 (rw_getI (pc' := 13) (n := 2) (e := _) (lf_1_58).choose_spec.1 (lf_1_58).choose_spec.2.1 (hW.sh (hW.1.2.2 8 (by decide)) rfl) (by decide) rfl rfl ?_)
      rw [k13098]
      refine wp_of e17 c17_13 (rw_if_ne (p1 := 22) (p2 := 16) (by decide) rfl ⟨by omega, by omega⟩ (fun c13099 => ?_) (fun c13099 => ?_))
      · exfalso
        omega
      · refine wp_of e17 c17_16 (rw_aload_n (pc' := 17) (v := .ref r0) rfl rfl rfl ?_)
        refine wp_of e17 c17_17 (rw_iconst (pc' := 18) rfl ?_)
        refine wp_of e17 c17_18 (xc_V (pc' := 21) (r := r0) (as := [vI 1]) (st := []) (lm_1_47) rfl rfl (Nat.le_of_ble_eq_true rfl) hW g0 sh_3 (by decide) rfl (by decide) (s_20 hW g0 ⟨by omega, by omega⟩) (fun R13100 T13101 H13102 p13103 => ?_))
        obtain ⟨e13104, w13106, f13107, z13108, e13105, b13109⟩ := p13103
        subst e13104
        subst e13105
        have f13110 := f0.tr f13107 rfl
        show wp _ _ 17 21 [(2, .ref 24), (0, .ref r0), (1, .ref r1)] [vI z13108] _ H13102 _
        exact wp_zreturn e17 c17_21 rfl (by omega) ⟨rfl, w13106, f13110, z13108, rfl, ⟨by omega, by omega⟩⟩
    · subst c12666
      show wp _ _ 17 4 [(0, .ref r0), (1, .ref r1)] [.ref 25] _ H _
      refine wp_of e17 c17_4 (rw_astore_n (pc' := 5) (v := .ref 25) (L' := [(2, .ref 25), (0, .ref r0), (1, .ref r1)]) rfl rfl rfl rfl ?_)
      refine wp_of e17 c17_5 (rw_aload_n (pc' := 6) (v := .ref 25) rfl rfl rfl ?_)
      refine wp_of e17 c17_6 (rw_ifnull_r (p1 := 16) (p2 := 9) (by decide) rfl ?_)
      refine wp_of e17 c17_9 (rw_aload_n (pc' := 10) (v := .ref 25) rfl rfl rfl ?_)
      have k13111 : H 25 1 = 0 := (hW.2 25 _ (hW.1.2.2 9 (by decide))).2.2 1 (by decide) |> fun z => by have z1 : (0 : Int) ≤ H 25 1 ∧ H 25 1 ≤ 0 := z; omega
      refine wp_of e17 c17_10 (rw_getI (pc' := 13) (n := 2) (e := _) (lf_1_58).choose_spec.1 (lf_1_58).choose_spec.2.1 (hW.sh (hW.1.2.2 9 (by decide)) rfl) (by decide) rfl rfl ?_)
      rw [k13111]
      refine wp_of e17 c17_13 (rw_if_ne (p1 := 22) (p2 := 16) (by decide) rfl ⟨by omega, by omega⟩ (fun c13112 => ?_) (fun c13112 => ?_))
      · exfalso
        omega
      · refine wp_of e17 c17_16 (rw_aload_n (pc' := 17) (v := .ref r0) rfl rfl rfl ?_)
        refine wp_of e17 c17_17 (rw_iconst (pc' := 18) rfl ?_)
        refine wp_of e17 c17_18 (xc_V (pc' := 21) (r := r0) (as := [vI 1]) (st := []) (lm_1_47) rfl rfl (Nat.le_of_ble_eq_true rfl) hW g0 sh_3 (by decide) rfl (by decide) (s_20 hW g0 ⟨by omega, by omega⟩) (fun R13113 T13114 H13115 p13116 => ?_))
        obtain ⟨e13117, w13119, f13120, z13121, e13118, b13122⟩ := p13116
        subst e13117
        subst e13118
        have f13123 := f0.tr f13120 rfl
        show wp _ _ 17 21 [(2, .ref 25), (0, .ref r0), (1, .ref r1)] [vI z13121] _ H13115 _
        exact wp_zreturn e17 c17_21 rfl (by omega) ⟨rfl, w13119, f13123, z13121, rfl, ⟨by omega, by omega⟩⟩
    · subst c12666
      show wp _ _ 17 4 [(0, .ref r0), (1, .ref r1)] [.ref 26] _ H _
      refine wp_of e17 c17_4 (rw_astore_n (pc' := 5) (v := .ref 26) (L' := [(2, .ref 26), (0, .ref r0), (1, .ref r1)]) rfl rfl rfl rfl ?_)
      refine wp_of e17 c17_5 (rw_aload_n (pc' := 6) (v := .ref 26) rfl rfl rfl ?_)
      refine wp_of e17 c17_6 (rw_ifnull_r (p1 := 16) (p2 := 9) (by decide) rfl ?_)
      refine wp_of e17 c17_9 (rw_aload_n (pc' := 10) (v := .ref 26) rfl rfl rfl ?_)
      have k13124 : H 26 1 = 0 := (hW.2 26 _ (hW.1.2.2 10 (by decide))).2.2 1 (by decide) |> fun z => by have z1 : (0 : Int) ≤ H 26 1 ∧ H 26 1 ≤ 0 := z; omega
      refine wp_of e17 c17_10 (rw_getI (pc' := 13) (n := 2) (e := _) (lf_1_58).choose_spec.1 (lf_1_58).choose_spec.2.1 (hW.sh (hW.1.2.2 10 (by decide)) rfl) (by decide) rfl rfl ?_)
      rw [k13124]
      refine wp_of e17 c17_13 (rw_if_ne (p1 := 22) (p2 := 16) (by decide) rfl ⟨by omega, by omega⟩ (fun c13125 => ?_) (fun c13125 => ?_))
      · exfalso
        omega
      · refine wp_of e17 c17_16 (rw_aload_n (pc' := 17) (v := .ref r0) rfl rfl rfl ?_)
        refine wp_of e17 c17_17 (rw_iconst (pc' := 18) rfl ?_)
        refine wp_of e17 c17_18 (xc_V (pc' := 21) (r := r0) (as := [vI 1]) (st := []) (lm_1_47) rfl rfl (Nat.le_of_ble_eq_true rfl) hW g0 sh_3 (by decide) rfl (by decide) (s_20 hW g0 ⟨by omega, by omega⟩) (fun R13126 T13127 H13128 p13129 => ?_))
        obtain ⟨e13130, w13132, f13133, z13134, e13131, b13135⟩ := p13129
        subst e13130
        subst e13131
        have f13136 := f0.tr f13133 rfl
        show wp _ _ 17 21 [(2, .ref 26), (0, .ref r0), (1, .ref r1)] [vI z13134] _ H13128 _
        exact wp_zreturn e17 c17_21 rfl (by omega) ⟨rfl, w13132, f13136, z13134, rfl, ⟨by omega, by omega⟩⟩
