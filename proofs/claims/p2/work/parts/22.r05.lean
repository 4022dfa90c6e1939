/-! methods of the reference (own work, written by wip/gen2/sx.py) -/
/-! StrikeAwakeModel.strikes(I)I -/
theorem e226 : wq_en 226 = some (9, 2, false, some FieldType.int) := rfl
theorem c226_0 : mc_cd 226 0 = some (.aload_n 0, 1) := by decide +kernel
theorem c226_1 : mc_cd 226 1 = some (.iconst 0, 1) := by decide +kernel
theorem c226_2 : mc_cd 226 2 = some (.putfield 48, 3) := by decide +kernel
theorem c226_5 : mc_cd 226 5 = some (.aload_n 0, 1) := by decide +kernel
theorem c226_6 : mc_cd 226 6 = some (.iload_n 1, 1) := by decide +kernel
theorem c226_7 : mc_cd 226 7 = some (.invokevirtual 373, 3) := by decide +kernel
theorem c226_10 : mc_cd 226 10 = some (.ifCond .ne 9, 3) := by decide +kernel
theorem c226_13 : mc_cd 226 13 = some (.aload_n 0, 1) := by decide +kernel
theorem c226_14 : mc_cd 226 14 = some (.iconst 1, 1) := by decide +kernel
theorem c226_15 : mc_cd 226 15 = some (.invokevirtual 54, 3) := by decide +kernel
theorem c226_18 : mc_cd 226 18 = some (.ireturn, 1) := by decide +kernel
theorem c226_19 : mc_cd 226 19 = some (.aload_n 0, 1) := by decide +kernel
theorem c226_20 : mc_cd 226 20 = some (.invokevirtual 406, 3) := by decide +kernel
theorem c226_23 : mc_cd 226 23 = some (.ifCond .eq 11, 3) := by decide +kernel
theorem c226_26 : mc_cd 226 26 = some (.aload_n 0, 1) := by decide +kernel
theorem c226_27 : mc_cd 226 27 = some (.iconst 5, 1) := by decide +kernel
theorem c226_28 : mc_cd 226 28 = some (.invokevirtual 54, 3) := by decide +kernel
theorem c226_31 : mc_cd 226 31 = some (.goto 16, 3) := by decide +kernel
theorem c226_34 : mc_cd 226 34 = some (.aload_n 0, 1) := by decide +kernel
theorem c226_35 : mc_cd 226 35 = some (.aload_n 0, 1) := by decide +kernel
theorem c226_36 : mc_cd 226 36 = some (.aload_n 0, 1) := by decide +kernel
theorem c226_37 : mc_cd 226 37 = some (.getfield 36, 3) := by decide +kernel
theorem c226_40 : mc_cd 226 40 = some (.iload_n 1, 1) := by decide +kernel
theorem c226_41 : mc_cd 226 41 = some (.invokevirtual 386, 3) := by decide +kernel
theorem c226_44 : mc_cd 226 44 = some (.invokevirtual 58, 3) := by decide +kernel
theorem c226_47 : mc_cd 226 47 = some (.ireturn, 1) := by decide +kernel
abbrev q_226 (r0 : Nat) (a1 : Int) (T : wq_T) (H : wq_H) : Option Value → wq_T → wq_H → Prop := fun r T' H' => T = T' ∧ WT T H' ∧ wfr [(42, 0), (42, 1), (42, 2)] T H H' ∧ ∃ z : Int, some (vI z) = r ∧ ((-2147483648) ≤ z ∧ z ≤ 2147483647) ∧ (wKI H' r0 = 1)
set_option maxHeartbeats 4000000 in
theorem s_226 {kt : Nat → Option mc_E} {T : wq_T} {H : wq_H} {r0 : Nat} {a1 : Int} (hW : WT T H) (g0 : T.2.2.2 r0 = some 42) (i1 : (-2147483648) ≤ a1 ∧ a1 ≤ 2147483647) (p0 : wKI H r0 = 1) : wpc kt 3 226 [.ref r0, vI a1] T H (q_226 r0 a1 T H) := by
  refine wp_enter e226 (Nat.le_of_ble_eq_true rfl) rfl ?_
  have f0 : wfr [(42, 0), (42, 1), (42, 2)] T H H := wfr.rf
  show wp _ _ 226 0 [(0, .ref r0), (1, vI a1)] [] _ H _
  refine wp_of e226 c226_0 (rw_aload_n (pc' := 1) (v := .ref r0) rfl rfl rfl ?_)
  refine wp_of e226 c226_1 (rw_iconst (pc' := 2) rfl ?_)
  refine wp_of e226 c226_2 (xp_I (pc' := 5) lf_9_48 hW g0 sh_42 (by decide) (by decide) ty_42_0 rfl rfl (by omega) (by omega) ⟨by omega, by omega⟩ rfl (fun H127690 e127691 w127692 => ?_))
  have f127693 := f0.put' e127691 g0 rfl
  have k127694 : H127690 r0 0 = 0 := wq_u_s e127691
  refine wp_of e226 c226_5 (rw_aload_n (pc' := 6) (v := .ref r0) rfl rfl rfl ?_)
  refine wp_of e226 c226_6 (rw_iload_n (pc' := 7) (z := a1) rfl rfl ?_)
  refine wp_of e226 c226_7 (xc_V (pc' := 10) (r := r0) (as := [vI a1]) (st := []) (lm_9_373) rfl rfl (Nat.le_of_ble_eq_true rfl) w127692 g0 sh_42 (by decide) rfl (by decide) (s_218 w127692 g0 ⟨by omega, by omega⟩) (fun R127695 T127696 H127697 p127698 => ?_))
  obtain ⟨e127699, e127701, z127703, e127700, b127704, p127702⟩ := p127698
  subst e127699
  subst e127700
  subst e127701
  show wp _ _ 226 10 [(0, .ref r0), (1, vI a1)] [vI z127703] _ H127690 _
  refine wp_of e226 c226_10 (rw_if_ne (p1 := 19) (p2 := 13) (by decide) rfl ⟨by omega, by omega⟩ (fun c127705 => ?_) (fun c127705 => ?_))
  · refine wp_of e226 c226_19 (rw_aload_n (pc' := 20) (v := .ref r0) rfl rfl rfl ?_)
    obtain ⟨r127706, q127707, g127708⟩ := (w127692.opt g0 (t' := 54) (n := 33) (j := 3) (p := 0) (q := 0) rfl (by decide) rfl).resolve_left (by omega)
    refine wp_of e226 c226_20 (xc_V (pc' := 23) (r := r0) (as := []) (st := []) (lm_9_406) rfl rfl (Nat.le_of_ble_eq_true rfl) w127692 g0 sh_42 (by decide) rfl (by decide) (s_227 w127692 g0 q127707 g127708) (fun R127709 T127710 H127711 p127712 => ?_))
    obtain ⟨e127713, e127715, z127716, e127714, b127717⟩ := p127712
    subst e127713
    subst e127714
    subst e127715
    show wp _ _ 226 23 [(0, .ref r0), (1, vI a1)] [vI z127716] _ H127690 _
    refine wp_of e226 c226_23 (rw_if_eq (p1 := 34) (p2 := 26) (by decide) rfl ⟨by omega, by omega⟩ (fun c127718 => ?_) (fun c127718 => ?_))
    · refine wp_of e226 c226_34 (rw_aload_n (pc' := 35) (v := .ref r0) rfl rfl rfl ?_)
      refine wp_of e226 c226_35 (rw_aload_n (pc' := 36) (v := .ref r0) rfl rfl rfl ?_)
      refine wp_of e226 c226_36 (rw_aload_n (pc' := 37) (v := .ref r0) rfl rfl rfl ?_)
      refine wp_of e226 c226_37 (xg_R (pc' := 40) lf_9_36 w127692 g0 sh_42 (by decide) (by decide) ty_42_26 rfl rfl (fun r127719 q127720 g127721 => ?_))
      refine wp_of e226 c226_40 (rw_iload_n (pc' := 41) (z := a1) rfl rfl ?_)
      refine wp_of e226 c226_41 (xc_V (pc' := 44) (r := r0) (as := [.ref r127719, vI a1]) (st := [.ref r0]) (lm_9_386) rfl rfl (Nat.le_of_ble_eq_true rfl) w127692 g0 sh_42 (by decide) rfl (by decide) (s_228_m_said w127692 g0 g127721 ⟨by omega, by omega⟩ q127707 g127708) (fun R127722 T127723 H127724 p127725 => ?_))
      obtain ⟨e127726, e127728, z127729, e127727, b127730⟩ := p127725
      subst e127726
      subst e127727
      subst e127728
      show wp _ _ 226 44 [(0, .ref r0), (1, vI a1)] [vI z127729, .ref r0] _ H127690 _
      refine wp_of e226 c226_44 (xc_V (pc' := 47) (r := r0) (as := [vI z127729]) (st := []) (lm_9_58) rfl rfl (Nat.le_of_ble_eq_true rfl) w127692 g0 sh_42 (by decide) rfl (by decide) (s_209 w127692 g0 ⟨by omega, by omega⟩) (fun R127731 T127732 H127733 p127734 => ?_))
      obtain ⟨e127735, w127737, f127738, z127739, e127736, b127740⟩ := p127734
      subst e127735
      subst e127736
      have f127741 := f127693.tr f127738 rfl
      show wp _ _ 226 47 [(0, .ref r0), (1, vI a1)] [vI z127739] _ H127733 _
      have k127742 : wKI H127733 r0 = wKI H r0 := ((wKI_fr w127692 g0 f127738 rfl).trans (wKI_fr hW g0 ((wfr.rf (l := [(42, 0)])).put' e127691 g0 rfl) rfl))
      exact wp_ireturn e226 c226_47 rfl ⟨rfl, w127737, f127741, z127739, rfl, ⟨by omega, by omega⟩, by omega⟩
    · refine wp_of e226 c226_26 (rw_aload_n (pc' := 27) (v := .ref r0) rfl rfl rfl ?_)
      refine wp_of e226 c226_27 (rw_iconst (pc' := 28) rfl ?_)
      refine wp_of e226 c226_28 (xc_V (pc' := 31) (r := r0) (as := [vI 5]) (st := []) (lm_9_54) rfl rfl (Nat.le_of_ble_eq_true rfl) w127692 g0 sh_42 (by decide) rfl (by decide) (s_170 w127692 g0 ⟨by omega, by omega⟩) (fun R127743 T127744 H127745 p127746 => ?_))
      obtain ⟨e127747, w127749, f127750, z127751, e127748, b127752⟩ := p127746
      subst e127747
      subst e127748
      have f127753 := f127693.tr f127750 rfl
      show wp _ _ 226 31 [(0, .ref r0), (1, vI a1)] [vI z127751] _ H127745 _
      refine wp_of e226 c226_31 (rw_goto (p1 := 47) (by decide) ?_)
      have k127754 : wKI H127745 r0 = wKI H r0 := ((wKI_fr w127692 g0 f127750 rfl).trans (wKI_fr hW g0 ((wfr.rf (l := [(42, 0)])).put' e127691 g0 rfl) rfl))
      exact wp_ireturn e226 c226_47 rfl ⟨rfl, w127749, f127753, z127751, rfl, ⟨by omega, by omega⟩, by omega⟩
  · refine wp_of e226 c226_13 (rw_aload_n (pc' := 14) (v := .ref r0) rfl rfl rfl ?_)
    refine wp_of e226 c226_14 (rw_iconst (pc' := 15) rfl ?_)
    refine wp_of e226 c226_15 (xc_V (pc' := 18) (r := r0) (as := [vI 1]) (st := []) (lm_9_54) rfl rfl (Nat.le_of_ble_eq_true rfl) w127692 g0 sh_42 (by decide) rfl (by decide) (s_170 w127692 g0 ⟨by omega, by omega⟩) (fun R127755 T127756 H127757 p127758 => ?_))
    obtain ⟨e127759, w127761, f127762, z127763, e127760, b127764⟩ := p127758
    subst e127759
    subst e127760
    have f127765 := f127693.tr f127762 rfl
    show wp _ _ 226 18 [(0, .ref r0), (1, vI a1)] [vI z127763] _ H127757 _
    have k127766 : wKI H127757 r0 = wKI H r0 := ((wKI_fr w127692 g0 f127762 rfl).trans (wKI_fr hW g0 ((wfr.rf (l := [(42, 0)])).put' e127691 g0 rfl) rfl))
    exact wp_ireturn e226 c226_18 rfl ⟨rfl, w127761, f127765, z127763, rfl, ⟨by omega, by omega⟩, by omega⟩
/-! StrikeAwakeModel.refusesSaid()I -/
theorem e231 : wq_en 231 = some (9, 1, false, some FieldType.int) := rfl
theorem c231_0 : mc_cd 231 0 = some (.aload_n 0, 1) := by decide +kernel
theorem c231_1 : mc_cd 231 1 = some (.getfield 337, 3) := by decide +kernel
theorem c231_4 : mc_cd 231 4 = some (.ifnonnull 7, 3) := by decide +kernel
theorem c231_7 : mc_cd 231 7 = some (.iconst 1, 1) := by decide +kernel
theorem c231_8 : mc_cd 231 8 = some (.goto 15, 3) := by decide +kernel
theorem c231_11 : mc_cd 231 11 = some (.aload_n 0, 1) := by decide +kernel
theorem c231_12 : mc_cd 231 12 = some (.invokevirtual 406, 3) := by decide +kernel
theorem c231_15 : mc_cd 231 15 = some (.ifCond .eq 7, 3) := by decide +kernel
theorem c231_18 : mc_cd 231 18 = some (.iconst 5, 1) := by decide +kernel
theorem c231_19 : mc_cd 231 19 = some (.goto 4, 3) := by decide +kernel
theorem c231_22 : mc_cd 231 22 = some (.iconst 0, 1) := by decide +kernel
theorem c231_23 : mc_cd 231 23 = some (.ireturn, 1) := by decide +kernel
abbrev q_231 (r0 : Nat) (T : wq_T) (H : wq_H) : Option Value → wq_T → wq_H → Prop := fun r T' H' => T = T' ∧ H = H' ∧ ∃ z : Int, some (vI z) = r ∧ (0 ≤ z ∧ z ≤ 5) ∧ (z ≠ 0 ∨ H r0 3 ≠ -1)
set_option maxHeartbeats 4000000 in
theorem s_231 {kt : Nat → Option mc_E} {T : wq_T} {H : wq_H} {r0 : Nat} (hW : WT T H) (g0 : T.2.2.2 r0 = some 42) : wpc kt 3 231 [.ref r0] T H (q_231 r0 T H) := by
  refine wp_enter e231 (Nat.le_of_ble_eq_true rfl) rfl ?_
  show wp _ _ 231 0 [(0, .ref r0)] [] _ H _
  refine wp_of e231 c231_0 (rw_aload_n (pc' := 1) (v := .ref r0) rfl rfl rfl ?_)
  refine wp_of e231 c231_1 (xg_O (pc' := 4) lf_9_337 hW g0 sh_42 (by decide) (by decide) ty_42_3 rfl rfl (fun q127781 => ?_) (fun r127780 q127781 g127782 => ?_))
  · refine wp_of e231 c231_4 (rw_ifnonnull_n (p1 := 11) (p2 := 7) (by decide) rfl ?_)
    refine wp_of e231 c231_7 (rw_iconst (pc' := 8) rfl ?_)
    refine wp_of e231 c231_8 (rw_goto (p1 := 23) (by decide) ?_)
    exact wp_ireturn e231 c231_23 rfl ⟨rfl, rfl, 1, rfl, ⟨by omega, by omega⟩, by omega⟩
  · refine wp_of e231 c231_4 (rw_ifnonnull_r (p1 := 11) (p2 := 7) (by decide) rfl ?_)
    refine wp_of e231 c231_11 (rw_aload_n (pc' := 12) (v := .ref r0) rfl rfl rfl ?_)
    refine wp_of e231 c231_12 (xc_V (pc' := 15) (r := r0) (as := []) (st := []) (lm_9_406) rfl rfl (Nat.le_of_ble_eq_true rfl) hW g0 sh_42 (by decide) rfl (by decide) (s_227 hW g0 q127781 g127782) (fun R127783 T127784 H127785 p127786 => ?_))
    obtain ⟨e127787, e127789, z127790, e127788, b127791⟩ := p127786
    subst e127787
    subst e127788
    subst e127789
    show wp _ _ 231 15 [(0, .ref r0)] [vI z127790] _ H _
    refine wp_of e231 c231_15 (rw_if_eq (p1 := 22) (p2 := 18) (by decide) rfl ⟨by omega, by omega⟩ (fun c127792 => ?_) (fun c127792 => ?_))
    · refine wp_of e231 c231_22 (rw_iconst (pc' := 23) rfl ?_)
      exact wp_ireturn e231 c231_23 rfl ⟨rfl, rfl, 0, rfl, ⟨by omega, by omega⟩, by omega⟩
    · refine wp_of e231 c231_18 (rw_iconst (pc' := 19) rfl ?_)
      refine wp_of e231 c231_19 (rw_goto (p1 := 23) (by decide) ?_)
      exact wp_ireturn e231 c231_23 rfl ⟨rfl, rfl, 5, rfl, ⟨by omega, by omega⟩, by omega⟩
/-! StrikeAwakeModel.offIn([II)I -/
theorem e234 : wq_en 234 = some (9, 4, false, some FieldType.int) := rfl
theorem c234_0 : mc_cd 234 0 = some (.aload_n 0, 1) := by decide +kernel
theorem c234_1 : mc_cd 234 1 = some (.getfield 17, 3) := by decide +kernel
theorem c234_4 : mc_cd 234 4 = some (.iload_n 2, 1) := by decide +kernel
theorem c234_5 : mc_cd 234 5 = some (.iaload, 1) := by decide +kernel
theorem c234_6 : mc_cd 234 6 = some (.iconst 1, 1) := by decide +kernel
theorem c234_7 : mc_cd 234 7 = some (.isub, 1) := by decide +kernel
theorem c234_8 : mc_cd 234 8 = some (.aload_n 0, 1) := by decide +kernel
theorem c234_9 : mc_cd 234 9 = some (.aload_n 1, 1) := by decide +kernel
theorem c234_10 : mc_cd 234 10 = some (.iload_n 2, 1) := by decide +kernel
theorem c234_11 : mc_cd 234 11 = some (.invokevirtual 386, 3) := by decide +kernel
theorem c234_14 : mc_cd 234 14 = some (.isub, 1) := by decide +kernel
theorem c234_15 : mc_cd 234 15 = some (.istore_n 3, 1) := by decide +kernel
theorem c234_16 : mc_cd 234 16 = some (.iload_n 3, 1) := by decide +kernel
theorem c234_17 : mc_cd 234 17 = some (.iconst 0, 1) := by decide +kernel
theorem c234_18 : mc_cd 234 18 = some (.aload_n 0, 1) := by decide +kernel
theorem c234_19 : mc_cd 234 19 = some (.getfield 337, 3) := by decide +kernel
theorem c234_22 : mc_cd 234 22 = some (.getfield 222, 3) := by decide +kernel
theorem c234_25 : mc_cd 234 25 = some (.invokestatic 125, 3) := by decide +kernel
theorem c234_28 : mc_cd 234 28 = some (.ifCond .eq 5, 3) := by decide +kernel
theorem c234_31 : mc_cd 234 31 = some (.iconst 0, 1) := by decide +kernel
theorem c234_32 : mc_cd 234 32 = some (.ireturn, 1) := by decide +kernel
theorem c234_33 : mc_cd 234 33 = some (.iload_n 3, 1) := by decide +kernel
theorem c234_34 : mc_cd 234 34 = some (.iconst (-1), 1) := by decide +kernel
theorem c234_35 : mc_cd 234 35 = some (.if_icmp .eq 16, 3) := by decide +kernel
theorem c234_38 : mc_cd 234 38 = some (.iload_n 3, 1) := by decide +kernel
theorem c234_39 : mc_cd 234 39 = some (.aload_n 0, 1) := by decide +kernel
theorem c234_40 : mc_cd 234 40 = some (.getfield 337, 3) := by decide +kernel
theorem c234_43 : mc_cd 234 43 = some (.getfield 222, 3) := by decide +kernel
theorem c234_46 : mc_cd 234 46 = some (.iconst 1, 1) := by decide +kernel
theorem c234_47 : mc_cd 234 47 = some (.iadd, 1) := by decide +kernel
theorem c234_48 : mc_cd 234 48 = some (.if_icmp .ne 7, 3) := by decide +kernel
theorem c234_51 : mc_cd 234 51 = some (.iconst 1, 1) := by decide +kernel
theorem c234_52 : mc_cd 234 52 = some (.goto 4, 3) := by decide +kernel
theorem c234_55 : mc_cd 234 55 = some (.iconst 2, 1) := by decide +kernel
theorem c234_56 : mc_cd 234 56 = some (.ireturn, 1) := by decide +kernel
abbrev q_234_m_lot (r0 : Nat) (r1 : Nat) (a2 : Int) (pp : Nat) (T : wq_T) (H : wq_H) : Option Value → wq_T → wq_H → Prop := fun r T' H' => T = T' ∧ H = H' ∧ ∃ z : Int, some (vI z) = r ∧ (0 ≤ z ∧ z ≤ 2)
set_option maxHeartbeats 4000000 in
theorem s_234_m_lot {kt : Nat → Option mc_E} {T : wq_T} {H : wq_H} {r0 : Nat} {r1 : Nat} {a2 : Int} {pp : Nat} (hW : WT T H) (g0 : T.2.2.2 r0 = some 42) (g1 : T.2.2.2 r1 = some 51) (i2 : 0 ≤ a2 ∧ a2 ≤ 23) (qpp : H r0 3 = (pp : Int)) (gpp : T.2.2.2 pp = some 54) : wpc kt 3 234 [.ref r0, .ref r1, vI a2] T H (q_234_m_lot r0 r1 a2 pp T H) := by
  refine wp_enter e234 (Nat.le_of_ble_eq_true rfl) rfl ?_
  show wp _ _ 234 0 [(0, .ref r0), (1, .ref r1), (2, vI a2)] [] _ H _
  refine wp_of e234 c234_0 (rw_aload_n (pc' := 1) (v := .ref r0) rfl rfl rfl ?_)
  refine wp_of e234 c234_1 (xg_R (pc' := 4) lf_9_17 hW g0 sh_42 (by decide) (by decide) ty_42_20 rfl rfl (fun r127830 q127831 g127832 => ?_))
  refine wp_of e234 c234_4 (rw_iload_n (pc' := 5) (z := a2) rfl rfl ?_)
  refine wp_of e234 c234_5 (xa_I (so := 0) (pc' := 6) hW g127832 sh_44 (by decide) (ty_44 _) (by omega) (by omega) rfl (fun b127833 b127834 => ?_))
  refine wp_of e234 c234_6 (rw_iconst (pc' := 7) rfl ?_)
  refine wp_of e234 c234_7 (rw_isubw (pc' := 8) rfl ?_)
  obtain ⟨v127835, e127836⟩ : ∃ x : Int, x = wq_w ((H r127830 (a2.toNat)) - 1) := ⟨_, rfl⟩
  rw [← e127836]
  have b127837 : -2147483648 ≤ v127835 ∧ v127835 ≤ 2147483647 := by
    rw [e127836]
    exact wI_w _
  refine wp_of e234 c234_8 (rw_aload_n (pc' := 9) (v := .ref r0) rfl rfl rfl ?_)
  refine wp_of e234 c234_9 (rw_aload_n (pc' := 10) (v := .ref r1) rfl rfl rfl ?_)
  refine wp_of e234 c234_10 (rw_iload_n (pc' := 11) (z := a2) rfl rfl ?_)
  refine wp_of e234 c234_11 (xc_V (pc' := 14) (r := r0) (as := [.ref r1, vI a2]) (st := [vI v127835]) (lm_9_386) rfl rfl (Nat.le_of_ble_eq_true rfl) hW g0 sh_42 (by decide) rfl (by decide) (s_228_m_lot hW g0 g1 ⟨by omega, by omega⟩ qpp gpp) (fun R127838 T127839 H127840 p127841 => ?_))
  obtain ⟨e127842, e127844, z127845, e127843, b127846⟩ := p127841
  subst e127842
  subst e127843
  subst e127844
  show wp _ _ 234 14 [(0, .ref r0), (1, .ref r1), (2, vI a2)] [vI z127845, vI v127835] _ H _
  refine wp_of e234 c234_14 (rw_isubw (pc' := 15) rfl ?_)
  obtain ⟨v127847, e127848⟩ : ∃ x : Int, x = wq_w (v127835 - z127845) := ⟨_, rfl⟩
  rw [← e127848]
  have b127849 : -2147483648 ≤ v127847 ∧ v127847 ≤ 2147483647 := by
    rw [e127848]
    exact wI_w _
  refine wp_of e234 c234_15 (rw_istore_n (pc' := 16) (z := v127847) (L' := [(3, vI v127847), (0, .ref r0), (1, .ref r1), (2, vI a2)]) rfl rfl rfl ?_)
  refine wp_of e234 c234_16 (rw_iload_n (pc' := 17) (z := v127847) rfl rfl ?_)
  refine wp_of e234 c234_17 (rw_iconst (pc' := 18) rfl ?_)
  refine wp_of e234 c234_18 (rw_aload_n (pc' := 19) (v := .ref r0) rfl rfl rfl ?_)
  refine wp_of e234 c234_19 (xg_K (pc' := 22) lf_9_337 hW g0 sh_42 (by decide) (by decide) rfl qpp rfl ?_)
  refine wp_of e234 c234_22 (xg_I (pc' := 25) lf_9_222 hW gpp sh_54 (by decide) (by decide) ty_54_1 rfl rfl (fun b127850 b127851 => ?_))
  refine wp_of e234 c234_25 (xc_S (pc' := 28) (as := [vI v127847, vI 0, vI (H pp 1)]) (st := []) (lm_9_125) rfl rfl (Nat.le_of_ble_eq_true rfl) rfl (by decide) (s_186 hW ⟨by omega, by omega⟩ ⟨by omega, by omega⟩ ⟨by omega, by omega⟩) (fun R127852 T127853 H127854 p127855 => ?_))
  obtain ⟨e127856, e127858, z127860, e127857, b127861, p127859⟩ := p127855
  subst e127856
  subst e127857
  subst e127858
  show wp _ _ 234 28 [(3, vI v127847), (0, .ref r0), (1, .ref r1), (2, vI a2)] [vI z127860] _ H _
  refine wp_of e234 c234_28 (rw_if_eq (p1 := 33) (p2 := 31) (by decide) rfl ⟨by omega, by omega⟩ (fun c127862 => ?_) (fun c127862 => ?_))
  · refine wp_of e234 c234_33 (rw_iload_n (pc' := 34) (z := v127847) rfl rfl ?_)
    refine wp_of e234 c234_34 (rw_iconst (pc' := 35) rfl ?_)
    refine wp_of e234 c234_35 (rw_icmp_eq (p1 := 51) (p2 := 38) (by decide) rfl ⟨by omega, by omega⟩ ⟨by omega, by omega⟩ (fun c127863 => ?_) (fun c127863 => ?_))
    · refine wp_of e234 c234_51 (rw_iconst (pc' := 52) rfl ?_)
      refine wp_of e234 c234_52 (rw_goto (p1 := 56) (by decide) ?_)
      exact wp_ireturn e234 c234_56 rfl ⟨rfl, rfl, 1, rfl, ⟨by omega, by omega⟩⟩
    · refine wp_of e234 c234_38 (rw_iload_n (pc' := 39) (z := v127847) rfl rfl ?_)
      refine wp_of e234 c234_39 (rw_aload_n (pc' := 40) (v := .ref r0) rfl rfl rfl ?_)
      refine wp_of e234 c234_40 (xg_K (pc' := 43) lf_9_337 hW g0 sh_42 (by decide) (by decide) rfl qpp rfl ?_)
      refine wp_of e234 c234_43 (xg_I (pc' := 46) lf_9_222 hW gpp sh_54 (by decide) (by decide) ty_54_1 rfl rfl (fun b127864 b127865 => ?_))
      refine wp_of e234 c234_46 (rw_iconst (pc' := 47) rfl ?_)
      refine wp_of e234 c234_47 (rw_iaddw (pc' := 48) rfl ?_)
      obtain ⟨v127866, e127867⟩ : ∃ x : Int, x = wq_w ((H pp 1) + 1) := ⟨_, rfl⟩
      rw [← e127867]
      have b127868 : -2147483648 ≤ v127866 ∧ v127866 ≤ 2147483647 := by
        rw [e127867]
        exact wI_w _
      refine wp_of e234 c234_48 (rw_icmp_ne (p1 := 55) (p2 := 51) (by decide) rfl ⟨by omega, by omega⟩ ⟨by omega, by omega⟩ (fun c127869 => ?_) (fun c127869 => ?_))
      · refine wp_of e234 c234_55 (rw_iconst (pc' := 56) rfl ?_)
        exact wp_ireturn e234 c234_56 rfl ⟨rfl, rfl, 2, rfl, ⟨by omega, by omega⟩⟩
      · refine wp_of e234 c234_51 (rw_iconst (pc' := 52) rfl ?_)
        refine wp_of e234 c234_52 (rw_goto (p1 := 56) (by decide) ?_)
        exact wp_ireturn e234 c234_56 rfl ⟨rfl, rfl, 1, rfl, ⟨by omega, by omega⟩⟩
  · refine wp_of e234 c234_31 (rw_iconst (pc' := 32) rfl ?_)
    exact wp_ireturn e234 c234_32 rfl ⟨rfl, rfl, 0, rfl, ⟨by omega, by omega⟩⟩

/-! StrikeAwakeModel.offIn([II)I -/
abbrev q_234_m_said (r0 : Nat) (r1 : Nat) (a2 : Int) (pp : Nat) (T : wq_T) (H : wq_H) : Option Value → wq_T → wq_H → Prop := fun r T' H' => T = T' ∧ H = H' ∧ ∃ z : Int, some (vI z) = r ∧ (0 ≤ z ∧ z ≤ 2)
set_option maxHeartbeats 4000000 in
theorem s_234_m_said {kt : Nat → Option mc_E} {T : wq_T} {H : wq_H} {r0 : Nat} {r1 : Nat} {a2 : Int} {pp : Nat} (hW : WT T H) (g0 : T.2.2.2 r0 = some 42) (g1 : T.2.2.2 r1 = some 50) (i2 : 0 ≤ a2 ∧ a2 ≤ 23) (qpp : H r0 3 = (pp : Int)) (gpp : T.2.2.2 pp = some 54) : wpc kt 3 234 [.ref r0, .ref r1, vI a2] T H (q_234_m_said r0 r1 a2 pp T H) := by
  refine wp_enter e234 (Nat.le_of_ble_eq_true rfl) rfl ?_
  show wp _ _ 234 0 [(0, .ref r0), (1, .ref r1), (2, vI a2)] [] _ H _
  refine wp_of e234 c234_0 (rw_aload_n (pc' := 1) (v := .ref r0) rfl rfl rfl ?_)
  refine wp_of e234 c234_1 (xg_R (pc' := 4) lf_9_17 hW g0 sh_42 (by decide) (by decide) ty_42_20 rfl rfl (fun r127907 q127908 g127909 => ?_))
  refine wp_of e234 c234_4 (rw_iload_n (pc' := 5) (z := a2) rfl rfl ?_)
  refine wp_of e234 c234_5 (xa_I (so := 0) (pc' := 6) hW g127909 sh_44 (by decide) (ty_44 _) (by omega) (by omega) rfl (fun b127910 b127911 => ?_))
  refine wp_of e234 c234_6 (rw_iconst (pc' := 7) rfl ?_)
  refine wp_of e234 c234_7 (rw_isubw (pc' := 8) rfl ?_)
  obtain ⟨v127912, e127913⟩ : ∃ x : Int, x = wq_w ((H r127907 (a2.toNat)) - 1) := ⟨_, rfl⟩
  rw [← e127913]
  have b127914 : -2147483648 ≤ v127912 ∧ v127912 ≤ 2147483647 := by
    rw [e127913]
    exact wI_w _
  refine wp_of e234 c234_8 (rw_aload_n (pc' := 9) (v := .ref r0) rfl rfl rfl ?_)
  refine wp_of e234 c234_9 (rw_aload_n (pc' := 10) (v := .ref r1) rfl rfl rfl ?_)
  refine wp_of e234 c234_10 (rw_iload_n (pc' := 11) (z := a2) rfl rfl ?_)
  refine wp_of e234 c234_11 (xc_V (pc' := 14) (r := r0) (as := [.ref r1, vI a2]) (st := [vI v127912]) (lm_9_386) rfl rfl (Nat.le_of_ble_eq_true rfl) hW g0 sh_42 (by decide) rfl (by decide) (s_228_m_said hW g0 g1 ⟨by omega, by omega⟩ qpp gpp) (fun R127915 T127916 H127917 p127918 => ?_))
  obtain ⟨e127919, e127921, z127922, e127920, b127923⟩ := p127918
  subst e127919
  subst e127920
  subst e127921
  show wp _ _ 234 14 [(0, .ref r0), (1, .ref r1), (2, vI a2)] [vI z127922, vI v127912] _ H _
  refine wp_of e234 c234_14 (rw_isubw (pc' := 15) rfl ?_)
  obtain ⟨v127924, e127925⟩ : ∃ x : Int, x = wq_w (v127912 - z127922) := ⟨_, rfl⟩
  rw [← e127925]
  have b127926 : -2147483648 ≤ v127924 ∧ v127924 ≤ 2147483647 := by
    rw [e127925]
    exact wI_w _
  refine wp_of e234 c234_15 (rw_istore_n (pc' := 16) (z := v127924) (L' := [(3, vI v127924), (0, .ref r0), (1, .ref r1), (2, vI a2)]) rfl rfl rfl ?_)
  refine wp_of e234 c234_16 (rw_iload_n (pc' := 17) (z := v127924) rfl rfl ?_)
  refine wp_of e234 c234_17 (rw_iconst (pc' := 18) rfl ?_)
  refine wp_of e234 c234_18 (rw_aload_n (pc' := 19) (v := .ref r0) rfl rfl rfl ?_)
  refine wp_of e234 c234_19 (xg_K (pc' := 22) lf_9_337 hW g0 sh_42 (by decide) (by decide) rfl qpp rfl ?_)
  refine wp_of e234 c234_22 (xg_I (pc' := 25) lf_9_222 hW gpp sh_54 (by decide) (by decide) ty_54_1 rfl rfl (fun b127927 b127928 => ?_))
  refine wp_of e234 c234_25 (xc_S (pc' := 28) (as := [vI v127924, vI 0, vI (H pp 1)]) (st := []) (lm_9_125) rfl rfl (Nat.le_of_ble_eq_true rfl) rfl (by decide) (s_186 hW ⟨by omega, by omega⟩ ⟨by omega, by omega⟩ ⟨by omega, by omega⟩) (fun R127929 T127930 H127931 p127932 => ?_))
  obtain ⟨e127933, e127935, z127937, e127934, b127938, p127936⟩ := p127932
  subst e127933
  subst e127934
  subst e127935
  show wp _ _ 234 28 [(3, vI v127924), (0, .ref r0), (1, .ref r1), (2, vI a2)] [vI z127937] _ H _
  refine wp_of e234 c234_28 (rw_if_eq (p1 := 33) (p2 := 31) (by decide) rfl ⟨by omega, by omega⟩ (fun c127939 => ?_) (fun c127939 => ?_))
  · refine wp_of e234 c234_33 (rw_iload_n (pc' := 34) (z := v127924) rfl rfl ?_)
    refine wp_of e234 c234_34 (rw_iconst (pc' := 35) rfl ?_)
    refine wp_of e234 c234_35 (rw_icmp_eq (p1 := 51) (p2 := 38) (by decide) rfl ⟨by omega, by omega⟩ ⟨by omega, by omega⟩ (fun c127940 => ?_) (fun c127940 => ?_))
    · refine wp_of e234 c234_51 (rw_iconst (pc' := 52) rfl ?_)
      refine wp_of e234 c234_52 (rw_goto (p1 := 56) (by decide) ?_)
      exact wp_ireturn e234 c234_56 rfl ⟨rfl, rfl, 1, rfl, ⟨by omega, by omega⟩⟩
    · refine wp_of e234 c234_38 (rw_iload_n (pc' := 39) (z := v127924) rfl rfl ?_)
      refine wp_of e234 c234_39 (rw_aload_n (pc' := 40) (v := .ref r0) rfl rfl rfl ?_)
      refine wp_of e234 c234_40 (xg_K (pc' := 43) lf_9_337 hW g0 sh_42 (by decide) (by decide) rfl qpp rfl ?_)
      refine wp_of e234 c234_43 (xg_I (pc' := 46) lf_9_222 hW gpp sh_54 (by decide) (by decide) ty_54_1 rfl rfl (fun b127941 b127942 => ?_))
      refine wp_of e234 c234_46 (rw_iconst (pc' := 47) rfl ?_)
      refine wp_of e234 c234_47 (rw_iaddw (pc' := 48) rfl ?_)
      obtain ⟨v127943, e127944⟩ : ∃ x : Int, x = wq_w ((H pp 1) + 1) := ⟨_, rfl⟩
      rw [← e127944]
      have b127945 : -2147483648 ≤ v127943 ∧ v127943 ≤ 2147483647 := by
        rw [e127944]
        exact wI_w _
      refine wp_of e234 c234_48 (rw_icmp_ne (p1 := 55) (p2 := 51) (by decide) rfl ⟨by omega, by omega⟩ ⟨by omega, by omega⟩ (fun c127946 => ?_) (fun c127946 => ?_))
      · refine wp_of e234 c234_55 (rw_iconst (pc' := 56) rfl ?_)
        exact wp_ireturn e234 c234_56 rfl ⟨rfl, rfl, 2, rfl, ⟨by omega, by omega⟩⟩
      · refine wp_of e234 c234_51 (rw_iconst (pc' := 52) rfl ?_)
        refine wp_of e234 c234_52 (rw_goto (p1 := 56) (by decide) ?_)
        exact wp_ireturn e234 c234_56 rfl ⟨rfl, rfl, 1, rfl, ⟨by omega, by omega⟩⟩
  · refine wp_of e234 c234_31 (rw_iconst (pc' := 32) rfl ?_)
    exact wp_ireturn e234 c234_32 rfl ⟨rfl, rfl, 0, rfl, ⟨by omega, by omega⟩⟩
/-! StrikeAwakeModel.bothAsleep([I)I -/
theorem e235 : wq_en 235 = some (9, 4, false, some FieldType.int) := rfl
theorem c235_0 : mc_cd 235 0 = some (.iconst 0, 1) := by decide +kernel
theorem c235_1 : mc_cd 235 1 = some (.istore_n 2, 1) := by decide +kernel
theorem c235_2 : mc_cd 235 2 = some (.iconst 0, 1) := by decide +kernel
theorem c235_3 : mc_cd 235 3 = some (.istore_n 3, 1) := by decide +kernel
theorem c235_4 : mc_cd 235 4 = some (.iload_n 3, 1) := by decide +kernel
theorem c235_5 : mc_cd 235 5 = some (.aload_n 0, 1) := by decide +kernel
theorem c235_6 : mc_cd 235 6 = some (.getfield 337, 3) := by decide +kernel
theorem c235_9 : mc_cd 235 9 = some (.getfield 276, 3) := by decide +kernel
theorem c235_12 : mc_cd 235 12 = some (.if_icmp .ge 71, 3) := by decide +kernel
theorem c235_15 : mc_cd 235 15 = some (.iload_n 2, 1) := by decide +kernel
theorem c235_16 : mc_cd 235 16 = some (.aload_n 0, 1) := by decide +kernel
theorem c235_17 : mc_cd 235 17 = some (.getfield 30, 3) := by decide +kernel
theorem c235_20 : mc_cd 235 20 = some (.bipush 40, 2) := by decide +kernel
theorem c235_22 : mc_cd 235 22 = some (.aload_n 0, 1) := by decide +kernel
theorem c235_23 : mc_cd 235 23 = some (.getfield 337, 3) := by decide +kernel
theorem c235_26 : mc_cd 235 26 = some (.getfield 282, 3) := by decide +kernel
theorem c235_29 : mc_cd 235 29 = some (.iload_n 3, 1) := by decide +kernel
theorem c235_30 : mc_cd 235 30 = some (.iaload, 1) := by decide +kernel
theorem c235_31 : mc_cd 235 31 = some (.imul, 1) := by decide +kernel
theorem c235_32 : mc_cd 235 32 = some (.aload_n 1, 1) := by decide +kernel
theorem c235_33 : mc_cd 235 33 = some (.aload_n 0, 1) := by decide +kernel
theorem c235_34 : mc_cd 235 34 = some (.getfield 337, 3) := by decide +kernel
theorem c235_37 : mc_cd 235 37 = some (.getfield 282, 3) := by decide +kernel
theorem c235_40 : mc_cd 235 40 = some (.iload_n 3, 1) := by decide +kernel
theorem c235_41 : mc_cd 235 41 = some (.iaload, 1) := by decide +kernel
theorem c235_42 : mc_cd 235 42 = some (.iaload, 1) := by decide +kernel
theorem c235_43 : mc_cd 235 43 = some (.iadd, 1) := by decide +kernel
theorem c235_44 : mc_cd 235 44 = some (.iaload, 1) := by decide +kernel
theorem c235_45 : mc_cd 235 45 = some (.aload_n 0, 1) := by decide +kernel
theorem c235_46 : mc_cd 235 46 = some (.getfield 30, 3) := by decide +kernel
theorem c235_49 : mc_cd 235 49 = some (.bipush 40, 2) := by decide +kernel
theorem c235_51 : mc_cd 235 51 = some (.aload_n 0, 1) := by decide +kernel
theorem c235_52 : mc_cd 235 52 = some (.getfield 337, 3) := by decide +kernel
theorem c235_55 : mc_cd 235 55 = some (.getfield 285, 3) := by decide +kernel
theorem c235_58 : mc_cd 235 58 = some (.iload_n 3, 1) := by decide +kernel
theorem c235_59 : mc_cd 235 59 = some (.iaload, 1) := by decide +kernel
theorem c235_60 : mc_cd 235 60 = some (.imul, 1) := by decide +kernel
theorem c235_61 : mc_cd 235 61 = some (.aload_n 1, 1) := by decide +kernel
theorem c235_62 : mc_cd 235 62 = some (.aload_n 0, 1) := by decide +kernel
theorem c235_63 : mc_cd 235 63 = some (.getfield 337, 3) := by decide +kernel
theorem c235_66 : mc_cd 235 66 = some (.getfield 285, 3) := by decide +kernel
theorem c235_69 : mc_cd 235 69 = some (.iload_n 3, 1) := by decide +kernel
theorem c235_70 : mc_cd 235 70 = some (.iaload, 1) := by decide +kernel
theorem c235_71 : mc_cd 235 71 = some (.iaload, 1) := by decide +kernel
theorem c235_72 : mc_cd 235 72 = some (.iadd, 1) := by decide +kernel
theorem c235_73 : mc_cd 235 73 = some (.iaload, 1) := by decide +kernel
theorem c235_74 : mc_cd 235 74 = some (.iand, 1) := by decide +kernel
theorem c235_75 : mc_cd 235 75 = some (.ior, 1) := by decide +kernel
theorem c235_76 : mc_cd 235 76 = some (.istore_n 2, 1) := by decide +kernel
theorem c235_77 : mc_cd 235 77 = some (.iinc 3 1, 3) := by decide +kernel
theorem c235_80 : mc_cd 235 80 = some (.goto (-76), 3) := by decide +kernel
theorem c235_83 : mc_cd 235 83 = some (.iload_n 2, 1) := by decide +kernel
theorem c235_84 : mc_cd 235 84 = some (.ireturn, 1) := by decide +kernel
abbrev q_235_m_lot (r0 : Nat) (r1 : Nat) (pp : Nat) (T : wq_T) (H : wq_H) : Option Value → wq_T → wq_H → Prop := fun r T' H' => T = T' ∧ H = H' ∧ ∃ z : Int, some (vI z) = r ∧ ((-2147483648) ≤ z ∧ z ≤ 2147483647)
set_option maxHeartbeats 4000000 in
theorem s_235_m_lot {kt : Nat → Option mc_E} {T : wq_T} {H : wq_H} {r0 : Nat} {r1 : Nat} {pp : Nat} (hW : WT T H) (g0 : T.2.2.2 r0 = some 42) (g1 : T.2.2.2 r1 = some 51) (qpp : H r0 3 = (pp : Int)) (gpp : T.2.2.2 pp = some 54) : wpc kt 1 235 [.ref r0, .ref r1] T H (q_235_m_lot r0 r1 pp T H) := by
  refine wp_enter e235 (Nat.le_of_ble_eq_true rfl) rfl ?_
  show wp _ _ 235 0 [(0, .ref r0), (1, .ref r1)] [] _ H _
  refine wp_of e235 c235_0 (rw_iconst (pc' := 1) rfl ?_)
  refine wp_of e235 c235_1 (rw_istore_n (pc' := 2) (z := 0) (L' := [(2, vI 0), (0, .ref r0), (1, .ref r1)]) rfl rfl rfl ?_)
  refine wp_of e235 c235_2 (rw_iconst (pc' := 3) rfl ?_)
  refine wp_of e235 c235_3 (rw_istore_n (pc' := 4) (z := 0) (L' := [(3, vI 0), (2, vI 0), (0, .ref r0), (1, .ref r1)]) rfl rfl rfl ?_)
  have lp128252 : ∀ (n128253 : Nat) (v128255 : Int) (v128256 : Int), (0 ≤ v128255 ∧ v128255 ≤ 3) → ((-2147483648) ≤ v128256 ∧ v128256 ≤ 2147483647) → (3 - v128255).toNat = n128253 → wp kt 0 235 4 [(3, vI v128255), (2, vI v128256), (0, .ref r0), (1, .ref r1)] [] T H (q_235_m_lot r0 r1 pp T H) := by
    intro n128253
    induction n128253 using Nat.strongRecOn with
    | _ n128253 ih128254 =>
      intro v128255 v128256 b128259 b128260 m128261
      refine wp_of e235 c235_4 (rw_iload_n (pc' := 5) (z := v128255) rfl rfl ?_)
      refine wp_of e235 c235_5 (rw_aload_n (pc' := 6) (v := .ref r0) rfl rfl rfl ?_)
      refine wp_of e235 c235_6 (xg_K (pc' := 9) lf_9_337 hW g0 sh_42 (by decide) (by decide) rfl qpp rfl ?_)
      refine wp_of e235 c235_9 (xg_I (pc' := 12) lf_9_276 hW gpp sh_54 (by decide) (by decide) ty_54_4 rfl rfl (fun b128262 b128263 => ?_))
      refine wp_of e235 c235_12 (rw_icmp_ge (p1 := 83) (p2 := 15) (by decide) rfl ⟨by omega, by omega⟩ ⟨by omega, by omega⟩ (fun c128264 => ?_) (fun c128264 => ?_))
      · refine wp_of e235 c235_83 (rw_iload_n (pc' := 84) (z := v128256) rfl rfl ?_)
        exact wp_ireturn e235 c235_84 rfl ⟨rfl, rfl, v128256, rfl, ⟨by omega, by omega⟩⟩
      · refine wp_of e235 c235_15 (rw_iload_n (pc' := 16) (z := v128256) rfl rfl ?_)
        refine wp_of e235 c235_16 (rw_aload_n (pc' := 17) (v := .ref r0) rfl rfl rfl ?_)
        refine wp_of e235 c235_17 (xg_R (pc' := 20) lf_9_30 hW g0 sh_42 (by decide) (by decide) ty_42_24 rfl rfl (fun r128265 q128266 g128267 => ?_))
        refine wp_of e235 c235_20 (rw_bipush (pc' := 22) (z := 40) rfl (by decide) ?_)
        refine wp_of e235 c235_22 (rw_aload_n (pc' := 23) (v := .ref r0) rfl rfl rfl ?_)
        refine wp_of e235 c235_23 (xg_K (pc' := 26) lf_9_337 hW g0 sh_42 (by decide) (by decide) rfl qpp rfl ?_)
        refine wp_of e235 c235_26 (xg_R (pc' := 29) lf_9_282 hW gpp sh_54 (by decide) (by decide) ty_54_18 rfl rfl (fun r128268 q128269 g128270 => ?_))
        refine wp_of e235 c235_29 (rw_iload_n (pc' := 30) (z := v128255) rfl rfl ?_)
        refine wp_of e235 c235_30 (xa_I (so := 0) (pc' := 31) hW g128270 sh_64 (by decide) (ty_64 _) (by omega) (by omega) rfl (fun b128271 b128272 => ?_))
        refine wp_of e235 c235_31 (rw_imul (pc' := 32) rfl ?_)
        refine wp_of e235 c235_32 (rw_aload_n (pc' := 33) (v := .ref r1) rfl rfl rfl ?_)
        refine wp_of e235 c235_33 (rw_aload_n (pc' := 34) (v := .ref r0) rfl rfl rfl ?_)
        refine wp_of e235 c235_34 (xg_K (pc' := 37) lf_9_337 hW g0 sh_42 (by decide) (by decide) rfl qpp rfl ?_)
        refine wp_of e235 c235_37 (xg_K (pc' := 40) lf_9_282 hW gpp sh_54 (by decide) (by decide) rfl q128269 rfl ?_)
        refine wp_of e235 c235_40 (rw_iload_n (pc' := 41) (z := v128255) rfl rfl ?_)
        refine wp_of e235 c235_41 (xa_I (so := 0) (pc' := 42) hW g128270 sh_64 (by decide) (ty_64 _) (by omega) (by omega) rfl (fun b128273 b128274 => ?_))
        refine wp_of e235 c235_42 (xa_I (so := 0) (pc' := 43) hW g1 sh_51 (by decide) (ty_51 _) (by omega) (by omega) rfl (fun b128275 b128276 => ?_))
        refine wp_of e235 c235_43 (rw_iadd (pc' := 44) rfl ?_)
        refine wp_of e235 c235_44 (xa_I (so := 0) (pc' := 45) hW g128267 sh_48 (by decide) (ty_48 _) (by omega) (by omega) rfl (fun b128277 b128278 => ?_))
        refine wp_of e235 c235_45 (rw_aload_n (pc' := 46) (v := .ref r0) rfl rfl rfl ?_)
        refine wp_of e235 c235_46 (xg_K (pc' := 49) lf_9_30 hW g0 sh_42 (by decide) (by decide) rfl q128266 rfl ?_)
        refine wp_of e235 c235_49 (rw_bipush (pc' := 51) (z := 40) rfl (by decide) ?_)
        refine wp_of e235 c235_51 (rw_aload_n (pc' := 52) (v := .ref r0) rfl rfl rfl ?_)
        refine wp_of e235 c235_52 (xg_K (pc' := 55) lf_9_337 hW g0 sh_42 (by decide) (by decide) rfl qpp rfl ?_)
        refine wp_of e235 c235_55 (xg_R (pc' := 58) lf_9_285 hW gpp sh_54 (by decide) (by decide) ty_54_19 rfl rfl (fun r128279 q128280 g128281 => ?_))
        refine wp_of e235 c235_58 (rw_iload_n (pc' := 59) (z := v128255) rfl rfl ?_)
        refine wp_of e235 c235_59 (xa_I (so := 0) (pc' := 60) hW g128281 sh_65 (by decide) (ty_65 _) (by omega) (by omega) rfl (fun b128282 b128283 => ?_))
        refine wp_of e235 c235_60 (rw_imul (pc' := 61) rfl ?_)
        refine wp_of e235 c235_61 (rw_aload_n (pc' := 62) (v := .ref r1) rfl rfl rfl ?_)
        refine wp_of e235 c235_62 (rw_aload_n (pc' := 63) (v := .ref r0) rfl rfl rfl ?_)
        refine wp_of e235 c235_63 (xg_K (pc' := 66) lf_9_337 hW g0 sh_42 (by decide) (by decide) rfl qpp rfl ?_)
        refine wp_of e235 c235_66 (xg_K (pc' := 69) lf_9_285 hW gpp sh_54 (by decide) (by decide) rfl q128280 rfl ?_)
        refine wp_of e235 c235_69 (rw_iload_n (pc' := 70) (z := v128255) rfl rfl ?_)
        refine wp_of e235 c235_70 (xa_I (so := 0) (pc' := 71) hW g128281 sh_65 (by decide) (ty_65 _) (by omega) (by omega) rfl (fun b128284 b128285 => ?_))
        refine wp_of e235 c235_71 (xa_I (so := 0) (pc' := 72) hW g1 sh_51 (by decide) (ty_51 _) (by omega) (by omega) rfl (fun b128286 b128287 => ?_))
        refine wp_of e235 c235_72 (rw_iadd (pc' := 73) rfl ?_)
        refine wp_of e235 c235_73 (xa_I (so := 0) (pc' := 74) hW g128267 sh_48 (by decide) (ty_48 _) (by omega) (by omega) rfl (fun b128288 b128289 => ?_))
        refine wp_of e235 c235_74 (rw_iand (pc' := 75) rfl ?_)
        obtain ⟨v128290, e128291⟩ : ∃ x : Int, x = wq_and (H r128265 (((40 * (H r128268 (v128255.toNat))) + (H r1 ((H r128268 (v128255.toNat)).toNat))).toNat)) (H r128265 (((40 * (H r128279 (v128255.toNat))) + (H r1 ((H r128279 (v128255.toNat)).toNat))).toNat)) := ⟨_, rfl⟩
        rw [← e128291]
        have b128292 : -2147483648 ≤ v128290 ∧ v128290 ≤ 2147483647 := by
          rw [e128291]
          exact wI_and _ _
        refine wp_of e235 c235_75 (rw_ior (pc' := 76) rfl ?_)
        obtain ⟨v128293, e128294⟩ : ∃ x : Int, x = wq_or v128256 v128290 := ⟨_, rfl⟩
        rw [← e128294]
        have b128295 : -2147483648 ≤ v128293 ∧ v128293 ≤ 2147483647 := by
          rw [e128294]
          exact wI_or _ _
        refine wp_of e235 c235_76 (rw_istore_n (pc' := 77) (z := v128293) (L' := [(2, vI v128293), (3, vI v128255), (0, .ref r0), (1, .ref r1)]) rfl rfl rfl ?_)
        refine wp_of e235 c235_77 (rw_iinc (pc' := 80) (z := v128255) (L' := [(3, vI (v128255 + 1)), (2, vI v128293), (0, .ref r0), (1, .ref r1)]) rfl rfl rfl rfl ?_)
        refine wp_of e235 c235_80 (rw_goto (p1 := 4) (by decide) ?_)
        exact wp_lc (ks := [3, 2, 0, 1]) (wl_c rfl (wl_c rfl (wl_c rfl (wl_c rfl wl_n)))) rfl (by decide) (ih128254 _ (by omega) (v128255 + 1) v128293 ⟨by omega, by omega⟩ ⟨by omega, by omega⟩ rfl)
  exact wp_lc (ks := [3, 2, 0, 1]) (wl_c rfl (wl_c rfl (wl_c rfl (wl_c rfl wl_n)))) rfl (by decide) (lp128252 _ 0 0 ⟨by omega, by omega⟩ ⟨by omega, by omega⟩ rfl)

/-! StrikeAwakeModel.bothAsleep([I)I -/
abbrev q_235_m_said (r0 : Nat) (r1 : Nat) (pp : Nat) (T : wq_T) (H : wq_H) : Option Value → wq_T → wq_H → Prop := fun r T' H' => T = T' ∧ H = H' ∧ ∃ z : Int, some (vI z) = r ∧ ((-2147483648) ≤ z ∧ z ≤ 2147483647)
set_option maxHeartbeats 4000000 in
theorem s_235_m_said {kt : Nat → Option mc_E} {T : wq_T} {H : wq_H} {r0 : Nat} {r1 : Nat} {pp : Nat} (hW : WT T H) (g0 : T.2.2.2 r0 = some 42) (g1 : T.2.2.2 r1 = some 50) (qpp : H r0 3 = (pp : Int)) (gpp : T.2.2.2 pp = some 54) : wpc kt 1 235 [.ref r0, .ref r1] T H (q_235_m_said r0 r1 pp T H) := by
  refine wp_enter e235 (Nat.le_of_ble_eq_true rfl) rfl ?_
  show wp _ _ 235 0 [(0, .ref r0), (1, .ref r1)] [] _ H _
  refine wp_of e235 c235_0 (rw_iconst (pc' := 1) rfl ?_)
  refine wp_of e235 c235_1 (rw_istore_n (pc' := 2) (z := 0) (L' := [(2, vI 0), (0, .ref r0), (1, .ref r1)]) rfl rfl rfl ?_)
  refine wp_of e235 c235_2 (rw_iconst (pc' := 3) rfl ?_)
  refine wp_of e235 c235_3 (rw_istore_n (pc' := 4) (z := 0) (L' := [(3, vI 0), (2, vI 0), (0, .ref r0), (1, .ref r1)]) rfl rfl rfl ?_)
  have lp128601 : ∀ (n128602 : Nat) (v128604 : Int) (v128605 : Int), (0 ≤ v128604 ∧ v128604 ≤ 3) → ((-2147483648) ≤ v128605 ∧ v128605 ≤ 2147483647) → (3 - v128604).toNat = n128602 → wp kt 0 235 4 [(3, vI v128604), (2, vI v128605), (0, .ref r0), (1, .ref r1)] [] T H (q_235_m_said r0 r1 pp T H) := by
    intro n128602
    induction n128602 using Nat.strongRecOn with
    | _ n128602 ih128603 =>
      intro v128604 v128605 b128608 b128609 m128610
      refine wp_of e235 c235_4 (rw_iload_n (pc' := 5) (z := v128604) rfl rfl ?_)
      refine wp_of e235 c235_5 (rw_aload_n (pc' := 6) (v := .ref r0) rfl rfl rfl ?_)
      refine wp_of e235 c235_6 (xg_K (pc' := 9) lf_9_337 hW g0 sh_42 (by decide) (by decide) rfl qpp rfl ?_)
      refine wp_of e235 c235_9 (xg_I (pc' := 12) lf_9_276 hW gpp sh_54 (by decide) (by decide) ty_54_4 rfl rfl (fun b128611 b128612 => ?_))
      refine wp_of e235 c235_12 (rw_icmp_ge (p1 := 83) (p2 := 15) (by decide) rfl ⟨by omega, by omega⟩ ⟨by omega, by omega⟩ (fun c128613 => ?_) (fun c128613 => ?_))
      · refine wp_of e235 c235_83 (rw_iload_n (pc' := 84) (z := v128605) rfl rfl ?_)
        exact wp_ireturn e235 c235_84 rfl ⟨rfl, rfl, v128605, rfl, ⟨by omega, by omega⟩⟩
      · refine wp_of e235 c235_15 (rw_iload_n (pc' := 16) (z := v128605) rfl rfl ?_)
        refine wp_of e235 c235_16 (rw_aload_n (pc' := 17) (v := .ref r0) rfl rfl rfl ?_)
        refine wp_of e235 c235_17 (xg_R (pc' := 20) lf_9_30 hW g0 sh_42 (by decide) (by decide) ty_42_24 rfl rfl (fun r128614 q128615 g128616 => ?_))
        refine wp_of e235 c235_20 (rw_bipush (pc' := 22) (z := 40) rfl (by decide) ?_)
        refine wp_of e235 c235_22 (rw_aload_n (pc' := 23) (v := .ref r0) rfl rfl rfl ?_)
        refine wp_of e235 c235_23 (xg_K (pc' := 26) lf_9_337 hW g0 sh_42 (by decide) (by decide) rfl qpp rfl ?_)
        refine wp_of e235 c235_26 (xg_R (pc' := 29) lf_9_282 hW gpp sh_54 (by decide) (by decide) ty_54_18 rfl rfl (fun r128617 q128618 g128619 => ?_))
        refine wp_of e235 c235_29 (rw_iload_n (pc' := 30) (z := v128604) rfl rfl ?_)
        refine wp_of e235 c235_30 (xa_I (so := 0) (pc' := 31) hW g128619 sh_64 (by decide) (ty_64 _) (by omega) (by omega) rfl (fun b128620 b128621 => ?_))
        refine wp_of e235 c235_31 (rw_imul (pc' := 32) rfl ?_)
        refine wp_of e235 c235_32 (rw_aload_n (pc' := 33) (v := .ref r1) rfl rfl rfl ?_)
        refine wp_of e235 c235_33 (rw_aload_n (pc' := 34) (v := .ref r0) rfl rfl rfl ?_)
        refine wp_of e235 c235_34 (xg_K (pc' := 37) lf_9_337 hW g0 sh_42 (by decide) (by decide) rfl qpp rfl ?_)
        refine wp_of e235 c235_37 (xg_K (pc' := 40) lf_9_282 hW gpp sh_54 (by decide) (by decide) rfl q128618 rfl ?_)
        refine wp_of e235 c235_40 (rw_iload_n (pc' := 41) (z := v128604) rfl rfl ?_)
        refine wp_of e235 c235_41 (xa_I (so := 0) (pc' := 42) hW g128619 sh_64 (by decide) (ty_64 _) (by omega) (by omega) rfl (fun b128622 b128623 => ?_))
        refine wp_of e235 c235_42 (xa_I (so := 0) (pc' := 43) hW g1 sh_50 (by decide) (ty_50 _) (by omega) (by omega) rfl (fun b128624 b128625 => ?_))
        refine wp_of e235 c235_43 (rw_iadd (pc' := 44) rfl ?_)
        refine wp_of e235 c235_44 (xa_I (so := 0) (pc' := 45) hW g128616 sh_48 (by decide) (ty_48 _) (by omega) (by omega) rfl (fun b128626 b128627 => ?_))
        refine wp_of e235 c235_45 (rw_aload_n (pc' := 46) (v := .ref r0) rfl rfl rfl ?_)
        refine wp_of e235 c235_46 (xg_K (pc' := 49) lf_9_30 hW g0 sh_42 (by decide) (by decide) rfl q128615 rfl ?_)
        refine wp_of e235 c235_49 (rw_bipush (pc' := 51) (z := 40) rfl (by decide) ?_)
        refine wp_of e235 c235_51 (rw_aload_n (pc' := 52) (v := .ref r0) rfl rfl rfl ?_)
        refine wp_of e235 c235_52 (xg_K (pc' := 55) lf_9_337 hW g0 sh_42 (by decide) (by decide) rfl qpp rfl ?_)
        refine wp_of e235 c235_55 (xg_R (pc' := 58) lf_9_285 hW gpp sh_54 (by decide) (by decide) ty_54_19 rfl rfl (fun r128628 q128629 g128630 => ?_))
        refine wp_of e235 c235_58 (rw_iload_n (pc' := 59) (z := v128604) rfl rfl ?_)
        refine wp_of e235 c235_59 (xa_I (so := 0) (pc' := 60) hW g128630 sh_65 (by decide) (ty_65 _) (by omega) (by omega) rfl (fun b128631 b128632 => ?_))
        refine wp_of e235 c235_60 (rw_imul (pc' := 61) rfl ?_)
        refine wp_of e235 c235_61 (rw_aload_n (pc' := 62) (v := .ref r1) rfl rfl rfl ?_)
        refine wp_of e235 c235_62 (rw_aload_n (pc' := 63) (v := .ref r0) rfl rfl rfl ?_)
        refine wp_of e235 c235_63 (xg_K (pc' := 66) lf_9_337 hW g0 sh_42 (by decide) (by decide) rfl qpp rfl ?_)
        refine wp_of e235 c235_66 (xg_K (pc' := 69) lf_9_285 hW gpp sh_54 (by decide) (by decide) rfl q128629 rfl ?_)
        refine wp_of e235 c235_69 (rw_iload_n (pc' := 70) (z := v128604) rfl rfl ?_)
        refine wp_of e235 c235_70 (xa_I (so := 0) (pc' := 71) hW g128630 sh_65 (by decide) (ty_65 _) (by omega) (by omega) rfl (fun b128633 b128634 => ?_))
        refine wp_of e235 c235_71 (xa_I (so := 0) (pc' := 72) hW g1 sh_50 (by decide) (ty_50 _) (by omega) (by omega) rfl (fun b128635 b128636 => ?_))
        refine wp_of e235 c235_72 (rw_iadd (pc' := 73) rfl ?_)
        refine wp_of e235 c235_73 (xa_I (so := 0) (pc' := 74) hW g128616 sh_48 (by decide) (ty_48 _) (by omega) (by omega) rfl (fun b128637 b128638 => ?_))
        refine wp_of e235 c235_74 (rw_iand (pc' := 75) rfl ?_)
        obtain ⟨v128639, e128640⟩ : ∃ x : Int, x = wq_and (H r128614 (((40 * (H r128617 (v128604.toNat))) + (H r1 ((H r128617 (v128604.toNat)).toNat))).toNat)) (H r128614 (((40 * (H r128628 (v128604.toNat))) + (H r1 ((H r128628 (v128604.toNat)).toNat))).toNat)) := ⟨_, rfl⟩
        rw [← e128640]
        have b128641 : -2147483648 ≤ v128639 ∧ v128639 ≤ 2147483647 := by
          rw [e128640]
          exact wI_and _ _
        refine wp_of e235 c235_75 (rw_ior (pc' := 76) rfl ?_)
        obtain ⟨v128642, e128643⟩ : ∃ x : Int, x = wq_or v128605 v128639 := ⟨_, rfl⟩
        rw [← e128643]
        have b128644 : -2147483648 ≤ v128642 ∧ v128642 ≤ 2147483647 := by
          rw [e128643]
          exact wI_or _ _
        refine wp_of e235 c235_76 (rw_istore_n (pc' := 77) (z := v128642) (L' := [(2, vI v128642), (3, vI v128604), (0, .ref r0), (1, .ref r1)]) rfl rfl rfl ?_)
        refine wp_of e235 c235_77 (rw_iinc (pc' := 80) (z := v128604) (L' := [(3, vI (v128604 + 1)), (2, vI v128642), (0, .ref r0), (1, .ref r1)]) rfl rfl rfl rfl ?_)
        refine wp_of e235 c235_80 (rw_goto (p1 := 4) (by decide) ?_)
        exact wp_lc (ks := [3, 2, 0, 1]) (wl_c rfl (wl_c rfl (wl_c rfl (wl_c rfl wl_n)))) rfl (by decide) (ih128603 _ (by omega) (v128604 + 1) v128642 ⟨by omega, by omega⟩ ⟨by omega, by omega⟩ rfl)
  exact wp_lc (ks := [3, 2, 0, 1]) (wl_c rfl (wl_c rfl (wl_c rfl (wl_c rfl wl_n)))) rfl (by decide) (lp128601 _ 0 0 ⟨by omega, by omega⟩ ⟨by omega, by omega⟩ rfl)
/-! StrikeAwakeModel.wrongIn(I)I -/
theorem e233 : wq_en 233 = some (9, 2, false, some FieldType.int) := rfl
theorem c233_0 : mc_cd 233 0 = some (.aload_n 0, 1) := by decide +kernel
theorem c233_1 : mc_cd 233 1 = some (.getfield 17, 3) := by decide +kernel
theorem c233_4 : mc_cd 233 4 = some (.iload_n 1, 1) := by decide +kernel
theorem c233_5 : mc_cd 233 5 = some (.iaload, 1) := by decide +kernel
theorem c233_6 : mc_cd 233 6 = some (.ifCond .le 19, 3) := by decide +kernel
theorem c233_9 : mc_cd 233 9 = some (.aload_n 0, 1) := by decide +kernel
theorem c233_10 : mc_cd 233 10 = some (.aload_n 0, 1) := by decide +kernel
theorem c233_11 : mc_cd 233 11 = some (.getfield 36, 3) := by decide +kernel
theorem c233_14 : mc_cd 233 14 = some (.iload_n 1, 1) := by decide +kernel
theorem c233_15 : mc_cd 233 15 = some (.invokevirtual 390, 3) := by decide +kernel
theorem c233_18 : mc_cd 233 18 = some (.ifCond .le 7, 3) := by decide +kernel
theorem c233_21 : mc_cd 233 21 = some (.iconst 1, 1) := by decide +kernel
theorem c233_22 : mc_cd 233 22 = some (.goto 23, 3) := by decide +kernel
theorem c233_25 : mc_cd 233 25 = some (.aload_n 0, 1) := by decide +kernel
theorem c233_26 : mc_cd 233 26 = some (.aload_n 0, 1) := by decide +kernel
theorem c233_27 : mc_cd 233 27 = some (.getfield 36, 3) := by decide +kernel
theorem c233_30 : mc_cd 233 30 = some (.invokevirtual 393, 3) := by decide +kernel
theorem c233_33 : mc_cd 233 33 = some (.iload_n 1, 1) := by decide +kernel
theorem c233_34 : mc_cd 233 34 = some (.invokestatic 346, 3) := by decide +kernel
theorem c233_37 : mc_cd 233 37 = some (.ifCond .eq 7, 3) := by decide +kernel
theorem c233_40 : mc_cd 233 40 = some (.iconst 2, 1) := by decide +kernel
theorem c233_41 : mc_cd 233 41 = some (.goto 4, 3) := by decide +kernel
theorem c233_44 : mc_cd 233 44 = some (.iconst 0, 1) := by decide +kernel
theorem c233_45 : mc_cd 233 45 = some (.ireturn, 1) := by decide +kernel
abbrev q_233 (r0 : Nat) (a1 : Int) (pp : Nat) (T : wq_T) (H : wq_H) : Option Value → wq_T → wq_H → Prop := fun r T' H' => T = T' ∧ H = H' ∧ ∃ z : Int, some (vI z) = r ∧ (0 ≤ z ∧ z ≤ 2)
set_option maxHeartbeats 4000000 in
theorem s_233 {kt : Nat → Option mc_E} {T : wq_T} {H : wq_H} {r0 : Nat} {a1 : Int} {pp : Nat} (hW : WT T H) (g0 : T.2.2.2 r0 = some 42) (i1 : 0 ≤ a1 ∧ a1 ≤ 23) (qpp : H r0 3 = (pp : Int)) (gpp : T.2.2.2 pp = some 54) : wpc kt 4 233 [.ref r0, vI a1] T H (q_233 r0 a1 pp T H) := by
  refine wp_enter e233 (Nat.le_of_ble_eq_true rfl) rfl ?_
  show wp _ _ 233 0 [(0, .ref r0), (1, vI a1)] [] _ H _
  refine wp_of e233 c233_0 (rw_aload_n (pc' := 1) (v := .ref r0) rfl rfl rfl ?_)
  refine wp_of e233 c233_1 (xg_R (pc' := 4) lf_9_17 hW g0 sh_42 (by decide) (by decide) ty_42_20 rfl rfl (fun r128705 q128706 g128707 => ?_))
  refine wp_of e233 c233_4 (rw_iload_n (pc' := 5) (z := a1) rfl rfl ?_)
  refine wp_of e233 c233_5 (xa_I (so := 0) (pc' := 6) hW g128707 sh_44 (by decide) (ty_44 _) (by omega) (by omega) rfl (fun b128708 b128709 => ?_))
  refine wp_of e233 c233_6 (rw_if_le (p1 := 25) (p2 := 9) (by decide) rfl ⟨by omega, by omega⟩ (fun c128710 => ?_) (fun c128710 => ?_))
  · refine wp_of e233 c233_25 (rw_aload_n (pc' := 26) (v := .ref r0) rfl rfl rfl ?_)
    refine wp_of e233 c233_26 (rw_aload_n (pc' := 27) (v := .ref r0) rfl rfl rfl ?_)
    refine wp_of e233 c233_27 (xg_R (pc' := 30) lf_9_36 hW g0 sh_42 (by decide) (by decide) ty_42_26 rfl rfl (fun r128711 q128712 g128713 => ?_))
    refine wp_of e233 c233_30 (xc_V (pc' := 33) (r := r0) (as := [.ref r128711]) (st := []) (lm_9_393) rfl rfl (Nat.le_of_ble_eq_true rfl) hW g0 sh_42 (by decide) rfl (by decide) (s_235_m_said hW g0 g128713 qpp gpp) (fun R128714 T128715 H128716 p128717 => ?_))
    obtain ⟨e128718, e128720, z128721, e128719, b128722⟩ := p128717
    subst e128718
    subst e128719
    subst e128720
    show wp _ _ 233 33 [(0, .ref r0), (1, vI a1)] [vI z128721] _ H _
    refine wp_of e233 c233_33 (rw_iload_n (pc' := 34) (z := a1) rfl rfl ?_)
    refine wp_of e233 c233_34 (xc_S (pc' := 37) (as := [vI z128721, vI a1]) (st := []) (lm_9_346) rfl rfl (Nat.le_of_ble_eq_true rfl) rfl (by decide) (s_205 hW ⟨by omega, by omega⟩ ⟨by omega, by omega⟩) (fun R128723 T128724 H128725 p128726 => ?_))
    obtain ⟨e128727, e128729, z128730, e128728, b128731⟩ := p128726
    subst e128727
    subst e128728
    subst e128729
    show wp _ _ 233 37 [(0, .ref r0), (1, vI a1)] [vI z128730] _ H _
    refine wp_of e233 c233_37 (rw_if_eq (p1 := 44) (p2 := 40) (by decide) rfl ⟨by omega, by omega⟩ (fun c128732 => ?_) (fun c128732 => ?_))
    · refine wp_of e233 c233_44 (rw_iconst (pc' := 45) rfl ?_)
      exact wp_ireturn e233 c233_45 rfl ⟨rfl, rfl, 0, rfl, ⟨by omega, by omega⟩⟩
    · refine wp_of e233 c233_40 (rw_iconst (pc' := 41) rfl ?_)
      refine wp_of e233 c233_41 (rw_goto (p1 := 45) (by decide) ?_)
      exact wp_ireturn e233 c233_45 rfl ⟨rfl, rfl, 2, rfl, ⟨by omega, by omega⟩⟩
  · refine wp_of e233 c233_9 (rw_aload_n (pc' := 10) (v := .ref r0) rfl rfl rfl ?_)
    refine wp_of e233 c233_10 (rw_aload_n (pc' := 11) (v := .ref r0) rfl rfl rfl ?_)
    refine wp_of e233 c233_11 (xg_R (pc' := 14) lf_9_36 hW g0 sh_42 (by decide) (by decide) ty_42_26 rfl rfl (fun r128733 q128734 g128735 => ?_))
    refine wp_of e233 c233_14 (rw_iload_n (pc' := 15) (z := a1) rfl rfl ?_)
    refine wp_of e233 c233_15 (xc_V (pc' := 18) (r := r0) (as := [.ref r128733, vI a1]) (st := []) (lm_9_390) rfl rfl (Nat.le_of_ble_eq_true rfl) hW g0 sh_42 (by decide) rfl (by decide) (s_234_m_said hW g0 g128735 ⟨by omega, by omega⟩ qpp gpp) (fun R128736 T128737 H128738 p128739 => ?_))
    obtain ⟨e128740, e128742, z128743, e128741, b128744⟩ := p128739
    subst e128740
    subst e128741
    subst e128742
    show wp _ _ 233 18 [(0, .ref r0), (1, vI a1)] [vI z128743] _ H _
    refine wp_of e233 c233_18 (rw_if_le (p1 := 25) (p2 := 21) (by decide) rfl ⟨by omega, by omega⟩ (fun c128745 => ?_) (fun c128745 => ?_))
    · refine wp_of e233 c233_25 (rw_aload_n (pc' := 26) (v := .ref r0) rfl rfl rfl ?_)
      refine wp_of e233 c233_26 (rw_aload_n (pc' := 27) (v := .ref r0) rfl rfl rfl ?_)
      refine wp_of e233 c233_27 (xg_K (pc' := 30) lf_9_36 hW g0 sh_42 (by decide) (by decide) rfl q128734 rfl ?_)
      refine wp_of e233 c233_30 (xc_V (pc' := 33) (r := r0) (as := [.ref r128733]) (st := []) (lm_9_393) rfl rfl (Nat.le_of_ble_eq_true rfl) hW g0 sh_42 (by decide) rfl (by decide) (s_235_m_said hW g0 g128735 qpp gpp) (fun R128746 T128747 H128748 p128749 => ?_))
      obtain ⟨e128750, e128752, z128753, e128751, b128754⟩ := p128749
      subst e128750
      subst e128751
      subst e128752
      show wp _ _ 233 33 [(0, .ref r0), (1, vI a1)] [vI z128753] _ H _
      refine wp_of e233 c233_33 (rw_iload_n (pc' := 34) (z := a1) rfl rfl ?_)
      refine wp_of e233 c233_34 (xc_S (pc' := 37) (as := [vI z128753, vI a1]) (st := []) (lm_9_346) rfl rfl (Nat.le_of_ble_eq_true rfl) rfl (by decide) (s_205 hW ⟨by omega, by omega⟩ ⟨by omega, by omega⟩) (fun R128755 T128756 H128757 p128758 => ?_))
      obtain ⟨e128759, e128761, z128762, e128760, b128763⟩ := p128758
      subst e128759
      subst e128760
      subst e128761
      show wp _ _ 233 37 [(0, .ref r0), (1, vI a1)] [vI z128762] _ H _
      refine wp_of e233 c233_37 (rw_if_eq (p1 := 44) (p2 := 40) (by decide) rfl ⟨by omega, by omega⟩ (fun c128764 => ?_) (fun c128764 => ?_))
      · refine wp_of e233 c233_44 (rw_iconst (pc' := 45) rfl ?_)
        exact wp_ireturn e233 c233_45 rfl ⟨rfl, rfl, 0, rfl, ⟨by omega, by omega⟩⟩
      · refine wp_of e233 c233_40 (rw_iconst (pc' := 41) rfl ?_)
        refine wp_of e233 c233_41 (rw_goto (p1 := 45) (by decide) ?_)
        exact wp_ireturn e233 c233_45 rfl ⟨rfl, rfl, 2, rfl, ⟨by omega, by omega⟩⟩
    · refine wp_of e233 c233_21 (rw_iconst (pc' := 22) rfl ?_)
      refine wp_of e233 c233_22 (rw_goto (p1 := 45) (by decide) ?_)
      exact wp_ireturn e233 c233_45 rfl ⟨rfl, rfl, 1, rfl, ⟨by omega, by omega⟩⟩
/-! StrikeAwakeModel.firstWrong()I -/
theorem e232 : wq_en 232 = some (9, 2, false, some FieldType.int) := rfl
theorem c232_0 : mc_cd 232 0 = some (.iconst 0, 1) := by decide +kernel
theorem c232_1 : mc_cd 232 1 = some (.istore_n 1, 1) := by decide +kernel
theorem c232_2 : mc_cd 232 2 = some (.iload_n 1, 1) := by decide +kernel
theorem c232_3 : mc_cd 232 3 = some (.aload_n 0, 1) := by decide +kernel
theorem c232_4 : mc_cd 232 4 = some (.getfield 337, 3) := by decide +kernel
theorem c232_7 : mc_cd 232 7 = some (.getfield 185, 3) := by decide +kernel
theorem c232_10 : mc_cd 232 10 = some (.if_icmp .ge 19, 3) := by decide +kernel
theorem c232_13 : mc_cd 232 13 = some (.aload_n 0, 1) := by decide +kernel
theorem c232_14 : mc_cd 232 14 = some (.iload_n 1, 1) := by decide +kernel
theorem c232_15 : mc_cd 232 15 = some (.invokevirtual 409, 3) := by decide +kernel
theorem c232_18 : mc_cd 232 18 = some (.ifCond .le 5, 3) := by decide +kernel
theorem c232_21 : mc_cd 232 21 = some (.iload_n 1, 1) := by decide +kernel
theorem c232_22 : mc_cd 232 22 = some (.ireturn, 1) := by decide +kernel
theorem c232_23 : mc_cd 232 23 = some (.iinc 1 1, 3) := by decide +kernel
theorem c232_26 : mc_cd 232 26 = some (.goto (-24), 3) := by decide +kernel
theorem c232_29 : mc_cd 232 29 = some (.bipush (-2), 2) := by decide +kernel
theorem c232_31 : mc_cd 232 31 = some (.ireturn, 1) := by decide +kernel
abbrev q_232 (r0 : Nat) (pp : Nat) (T : wq_T) (H : wq_H) : Option Value → wq_T → wq_H → Prop := fun r T' H' => T = T' ∧ H = H' ∧ ∃ z : Int, some (vI z) = r ∧ ((-2) ≤ z ∧ z ≤ 23) ∧ (z = -2 ∨ 0 ≤ z)
set_option maxHeartbeats 4000000 in
theorem s_232 {kt : Nat → Option mc_E} {T : wq_T} {H : wq_H} {r0 : Nat} {pp : Nat} (hW : WT T H) (g0 : T.2.2.2 r0 = some 42) (qpp : H r0 3 = (pp : Int)) (gpp : T.2.2.2 pp = some 54) : wpc kt 5 232 [.ref r0] T H (q_232 r0 pp T H) := by
  refine wp_enter e232 (Nat.le_of_ble_eq_true rfl) rfl ?_
  show wp _ _ 232 0 [(0, .ref r0)] [] _ H _
  refine wp_of e232 c232_0 (rw_iconst (pc' := 1) rfl ?_)
  refine wp_of e232 c232_1 (rw_istore_n (pc' := 2) (z := 0) (L' := [(1, vI 0), (0, .ref r0)]) rfl rfl rfl ?_)
  have lp129019 : ∀ (n129020 : Nat) (v129022 : Int), (0 ≤ v129022 ∧ v129022 ≤ 24) → (24 - v129022).toNat = n129020 → wp kt 4 232 2 [(1, vI v129022), (0, .ref r0)] [] T H (q_232 r0 pp T H) := by
    intro n129020
    induction n129020 using Nat.strongRecOn with
    | _ n129020 ih129021 =>
      intro v129022 b129025 m129026
      refine wp_of e232 c232_2 (rw_iload_n (pc' := 3) (z := v129022) rfl rfl ?_)
      refine wp_of e232 c232_3 (rw_aload_n (pc' := 4) (v := .ref r0) rfl rfl rfl ?_)
      refine wp_of e232 c232_4 (xg_K (pc' := 7) lf_9_337 hW g0 sh_42 (by decide) (by decide) rfl qpp rfl ?_)
      refine wp_of e232 c232_7 (xg_I (pc' := 10) lf_9_185 hW gpp sh_54 (by decide) (by decide) ty_54_0 rfl rfl (fun b129027 b129028 => ?_))
      refine wp_of e232 c232_10 (rw_icmp_ge (p1 := 29) (p2 := 13) (by decide) rfl ⟨by omega, by omega⟩ ⟨by omega, by omega⟩ (fun c129029 => ?_) (fun c129029 => ?_))
      · refine wp_of e232 c232_29 (rw_bipush (pc' := 31) (z := -2) rfl (by decide) ?_)
        exact wp_ireturn e232 c232_31 rfl ⟨rfl, rfl, -2, rfl, ⟨by omega, by omega⟩, by omega⟩
      · refine wp_of e232 c232_13 (rw_aload_n (pc' := 14) (v := .ref r0) rfl rfl rfl ?_)
        refine wp_of e232 c232_14 (rw_iload_n (pc' := 15) (z := v129022) rfl rfl ?_)
        refine wp_of e232 c232_15 (xc_V (pc' := 18) (r := r0) (as := [vI v129022]) (st := []) (lm_9_409) rfl rfl (Nat.le_of_ble_eq_true rfl) hW g0 sh_42 (by decide) rfl (by decide) (s_233 hW g0 ⟨by omega, by omega⟩ qpp gpp) (fun R129030 T129031 H129032 p129033 => ?_))
        obtain ⟨e129034, e129036, z129037, e129035, b129038⟩ := p129033
        subst e129034
        subst e129035
        subst e129036
        show wp _ _ 232 18 [(1, vI v129022), (0, .ref r0)] [vI z129037] _ H _
        refine wp_of e232 c232_18 (rw_if_le (p1 := 23) (p2 := 21) (by decide) rfl ⟨by omega, by omega⟩ (fun c129039 => ?_) (fun c129039 => ?_))
        · refine wp_of e232 c232_23 (rw_iinc (pc' := 26) (z := v129022) (L' := [(1, vI (v129022 + 1)), (0, .ref r0)]) rfl rfl rfl rfl ?_)
          refine wp_of e232 c232_26 (rw_goto (p1 := 2) (by decide) ?_)
          exact wp_lc (ks := [1, 0]) (wl_c rfl (wl_c rfl wl_n)) rfl (by decide) (ih129021 _ (by omega) (v129022 + 1) ⟨by omega, by omega⟩ rfl)
        · refine wp_of e232 c232_21 (rw_iload_n (pc' := 22) (z := v129022) rfl rfl ?_)
          exact wp_ireturn e232 c232_22 rfl ⟨rfl, rfl, v129022, rfl, ⟨by omega, by omega⟩, by omega⟩
  exact wp_lc (ks := [1, 0]) (wl_c rfl (wl_c rfl wl_n)) rfl (by decide) (lp129019 _ 0 ⟨by omega, by omega⟩ rfl)
/-! StrikeAwakeModel.judge()I -/
theorem e230 : wq_en 230 = some (9, 2, false, some FieldType.int) := rfl
theorem c230_0 : mc_cd 230 0 = some (.aload_n 0, 1) := by decide +kernel
theorem c230_1 : mc_cd 230 1 = some (.iconst 0, 1) := by decide +kernel
theorem c230_2 : mc_cd 230 2 = some (.putfield 48, 3) := by decide +kernel
theorem c230_5 : mc_cd 230 5 = some (.aload_n 0, 1) := by decide +kernel
theorem c230_6 : mc_cd 230 6 = some (.invokevirtual 412, 3) := by decide +kernel
theorem c230_9 : mc_cd 230 9 = some (.istore_n 1, 1) := by decide +kernel
theorem c230_10 : mc_cd 230 10 = some (.iload_n 1, 1) := by decide +kernel
theorem c230_11 : mc_cd 230 11 = some (.ifCond .le 11, 3) := by decide +kernel
theorem c230_14 : mc_cd 230 14 = some (.aload_n 0, 1) := by decide +kernel
theorem c230_15 : mc_cd 230 15 = some (.iload_n 1, 1) := by decide +kernel
theorem c230_16 : mc_cd 230 16 = some (.invokevirtual 54, 3) := by decide +kernel
theorem c230_19 : mc_cd 230 19 = some (.goto 11, 3) := by decide +kernel
theorem c230_22 : mc_cd 230 22 = some (.aload_n 0, 1) := by decide +kernel
theorem c230_23 : mc_cd 230 23 = some (.aload_n 0, 1) := by decide +kernel
theorem c230_24 : mc_cd 230 24 = some (.invokevirtual 415, 3) := by decide +kernel
theorem c230_27 : mc_cd 230 27 = some (.invokevirtual 58, 3) := by decide +kernel
theorem c230_30 : mc_cd 230 30 = some (.ireturn, 1) := by decide +kernel
abbrev q_230 (r0 : Nat) (T : wq_T) (H : wq_H) : Option Value → wq_T → wq_H → Prop := fun r T' H' => T = T' ∧ WT T H' ∧ wfr [(42, 0), (42, 1), (42, 2)] T H H' ∧ ∃ z : Int, some (vI z) = r ∧ ((-2147483648) ≤ z ∧ z ≤ 2147483647) ∧ (wKI H' r0 = 1)
set_option maxHeartbeats 4000000 in
theorem s_230 {kt : Nat → Option mc_E} {T : wq_T} {H : wq_H} {r0 : Nat} (hW : WT T H) (g0 : T.2.2.2 r0 = some 42) (p0 : wKI H r0 = 1) : wpc kt 6 230 [.ref r0] T H (q_230 r0 T H) := by
  refine wp_enter e230 (Nat.le_of_ble_eq_true rfl) rfl ?_
  have f0 : wfr [(42, 0), (42, 1), (42, 2)] T H H := wfr.rf
  show wp _ _ 230 0 [(0, .ref r0)] [] _ H _
  refine wp_of e230 c230_0 (rw_aload_n (pc' := 1) (v := .ref r0) rfl rfl rfl ?_)
  refine wp_of e230 c230_1 (rw_iconst (pc' := 2) rfl ?_)
  refine wp_of e230 c230_2 (xp_I (pc' := 5) lf_9_48 hW g0 sh_42 (by decide) (by decide) ty_42_0 rfl rfl (by omega) (by omega) ⟨by omega, by omega⟩ rfl (fun H129093 e129094 w129095 => ?_))
  have f129096 := f0.put' e129094 g0 rfl
  have k129097 : H129093 r0 0 = 0 := wq_u_s e129094
  refine wp_of e230 c230_5 (rw_aload_n (pc' := 6) (v := .ref r0) rfl rfl rfl ?_)
  refine wp_of e230 c230_6 (xc_V (pc' := 9) (r := r0) (as := []) (st := []) (lm_9_412) rfl rfl (Nat.le_of_ble_eq_true rfl) w129095 g0 sh_42 (by decide) rfl (by decide) (s_231 w129095 g0) (fun R129098 T129099 H129100 p129101 => ?_))
  obtain ⟨e129102, e129104, z129106, e129103, b129107, p129105⟩ := p129101
  subst e129102
  subst e129103
  subst e129104
  show wp _ _ 230 9 [(0, .ref r0)] [vI z129106] _ H129093 _
  refine wp_of e230 c230_9 (rw_istore_n (pc' := 10) (z := z129106) (L' := [(1, vI z129106), (0, .ref r0)]) rfl rfl rfl ?_)
  refine wp_of e230 c230_10 (rw_iload_n (pc' := 11) (z := z129106) rfl rfl ?_)
  refine wp_of e230 c230_11 (rw_if_le (p1 := 22) (p2 := 14) (by decide) rfl ⟨by omega, by omega⟩ (fun c129108 => ?_) (fun c129108 => ?_))
  · refine wp_of e230 c230_22 (rw_aload_n (pc' := 23) (v := .ref r0) rfl rfl rfl ?_)
    refine wp_of e230 c230_23 (rw_aload_n (pc' := 24) (v := .ref r0) rfl rfl rfl ?_)
    obtain ⟨r129109, q129110, g129111⟩ := (w129095.opt g0 (t' := 54) (n := 33) (j := 3) (p := 0) (q := 0) rfl (by decide) rfl).resolve_left (by omega)
    refine wp_of e230 c230_24 (xc_V (pc' := 27) (r := r0) (as := []) (st := [.ref r0]) (lm_9_415) rfl rfl (Nat.le_of_ble_eq_true rfl) w129095 g0 sh_42 (by decide) rfl (by decide) (s_232 w129095 g0 q129110 g129111) (fun R129112 T129113 H129114 p129115 => ?_))
    obtain ⟨e129116, e129118, z129120, e129117, b129121, p129119⟩ := p129115
    subst e129116
    subst e129117
    subst e129118
    show wp _ _ 230 27 [(1, vI z129106), (0, .ref r0)] [vI z129120, .ref r0] _ H129093 _
    refine wp_of e230 c230_27 (xc_V (pc' := 30) (r := r0) (as := [vI z129120]) (st := []) (lm_9_58) rfl rfl (Nat.le_of_ble_eq_true rfl) w129095 g0 sh_42 (by decide) rfl (by decide) (s_209 w129095 g0 ⟨by omega, by omega⟩) (fun R129122 T129123 H129124 p129125 => ?_))
    obtain ⟨e129126, w129128, f129129, z129130, e129127, b129131⟩ := p129125
    subst e129126
    subst e129127
    have f129132 := f129096.tr f129129 rfl
    show wp _ _ 230 30 [(1, vI z129106), (0, .ref r0)] [vI z129130] _ H129124 _
    have k129133 : wKI H129124 r0 = wKI H r0 := ((wKI_fr w129095 g0 f129129 rfl).trans (wKI_fr hW g0 ((wfr.rf (l := [(42, 0)])).put' e129094 g0 rfl) rfl))
    exact wp_ireturn e230 c230_30 rfl ⟨rfl, w129128, f129132, z129130, rfl, ⟨by omega, by omega⟩, by omega⟩
  · refine wp_of e230 c230_14 (rw_aload_n (pc' := 15) (v := .ref r0) rfl rfl rfl ?_)
    refine wp_of e230 c230_15 (rw_iload_n (pc' := 16) (z := z129106) rfl rfl ?_)
    refine wp_of e230 c230_16 (xc_V (pc' := 19) (r := r0) (as := [vI z129106]) (st := []) (lm_9_54) rfl rfl (Nat.le_of_ble_eq_true rfl) w129095 g0 sh_42 (by decide) rfl (by decide) (s_170 w129095 g0 ⟨by omega, by omega⟩) (fun R129134 T129135 H129136 p129137 => ?_))
    obtain ⟨e129138, w129140, f129141, z129142, e129139, b129143⟩ := p129137
    subst e129138
    subst e129139
    have f129144 := f129096.tr f129141 rfl
    show wp _ _ 230 19 [(1, vI z129106), (0, .ref r0)] [vI z129142] _ H129136 _
    refine wp_of e230 c230_19 (rw_goto (p1 := 30) (by decide) ?_)
    have k129145 : wKI H129136 r0 = wKI H r0 := ((wKI_fr w129095 g0 f129141 rfl).trans (wKI_fr hW g0 ((wfr.rf (l := [(42, 0)])).put' e129094 g0 rfl) rfl))
    exact wp_ireturn e230 c230_30 rfl ⟨rfl, w129140, f129144, z129142, rfl, ⟨by omega, by omega⟩, by omega⟩
/-! StrikeAwakeModel.why()I -/
theorem e236 : wq_en 236 = some (9, 3, false, some FieldType.int) := rfl
theorem c236_0 : mc_cd 236 0 = some (.aload_n 0, 1) := by decide +kernel
theorem c236_1 : mc_cd 236 1 = some (.iconst 0, 1) := by decide +kernel
theorem c236_2 : mc_cd 236 2 = some (.putfield 48, 3) := by decide +kernel
theorem c236_5 : mc_cd 236 5 = some (.aload_n 0, 1) := by decide +kernel
theorem c236_6 : mc_cd 236 6 = some (.invokevirtual 412, 3) := by decide +kernel
theorem c236_9 : mc_cd 236 9 = some (.istore_n 1, 1) := by decide +kernel
theorem c236_10 : mc_cd 236 10 = some (.iload_n 1, 1) := by decide +kernel
theorem c236_11 : mc_cd 236 11 = some (.ifCond .le 9, 3) := by decide +kernel
theorem c236_14 : mc_cd 236 14 = some (.aload_n 0, 1) := by decide +kernel
theorem c236_15 : mc_cd 236 15 = some (.iload_n 1, 1) := by decide +kernel
theorem c236_16 : mc_cd 236 16 = some (.invokevirtual 54, 3) := by decide +kernel
theorem c236_19 : mc_cd 236 19 = some (.ireturn, 1) := by decide +kernel
theorem c236_20 : mc_cd 236 20 = some (.aload_n 0, 1) := by decide +kernel
theorem c236_21 : mc_cd 236 21 = some (.invokevirtual 415, 3) := by decide +kernel
theorem c236_24 : mc_cd 236 24 = some (.istore_n 2, 1) := by decide +kernel
theorem c236_25 : mc_cd 236 25 = some (.aload_n 0, 1) := by decide +kernel
theorem c236_26 : mc_cd 236 26 = some (.iload_n 2, 1) := by decide +kernel
theorem c236_27 : mc_cd 236 27 = some (.bipush (-2), 2) := by decide +kernel
theorem c236_29 : mc_cd 236 29 = some (.if_icmp .ne 7, 3) := by decide +kernel
theorem c236_32 : mc_cd 236 32 = some (.iconst 0, 1) := by decide +kernel
theorem c236_33 : mc_cd 236 33 = some (.goto 8, 3) := by decide +kernel
theorem c236_36 : mc_cd 236 36 = some (.aload_n 0, 1) := by decide +kernel
theorem c236_37 : mc_cd 236 37 = some (.iload_n 2, 1) := by decide +kernel
theorem c236_38 : mc_cd 236 38 = some (.invokevirtual 409, 3) := by decide +kernel
theorem c236_41 : mc_cd 236 41 = some (.invokevirtual 58, 3) := by decide +kernel
theorem c236_44 : mc_cd 236 44 = some (.ireturn, 1) := by decide +kernel
abbrev q_236 (r0 : Nat) (T : wq_T) (H : wq_H) : Option Value → wq_T → wq_H → Prop := fun r T' H' => T = T' ∧ WT T H' ∧ wfr [(42, 0), (42, 1), (42, 2)] T H H' ∧ ∃ z : Int, some (vI z) = r ∧ ((-2147483648) ≤ z ∧ z ≤ 2147483647) ∧ (wKI H' r0 = 1)
set_option maxHeartbeats 4000000 in
theorem s_236 {kt : Nat → Option mc_E} {T : wq_T} {H : wq_H} {r0 : Nat} (hW : WT T H) (g0 : T.2.2.2 r0 = some 42) (p0 : wKI H r0 = 1) : wpc kt 6 236 [.ref r0] T H (q_236 r0 T H) := by
  refine wp_enter e236 (Nat.le_of_ble_eq_true rfl) rfl ?_
  have f0 : wfr [(42, 0), (42, 1), (42, 2)] T H H := wfr.rf
  show wp _ _ 236 0 [(0, .ref r0)] [] _ H _
  refine wp_of e236 c236_0 (rw_aload_n (pc' := 1) (v := .ref r0) rfl rfl rfl ?_)
  refine wp_of e236 c236_1 (rw_iconst (pc' := 2) rfl ?_)
  refine wp_of e236 c236_2 (xp_I (pc' := 5) lf_9_48 hW g0 sh_42 (by decide) (by decide) ty_42_0 rfl rfl (by omega) (by omega) ⟨by omega, by omega⟩ rfl (fun H129221 e129222 w129223 => ?_))
  have f129224 := f0.put' e129222 g0 rfl
  have k129225 : H129221 r0 0 = 0 := wq_u_s e129222
  refine wp_of e236 c236_5 (rw_aload_n (pc' := 6) (v := .ref r0) rfl rfl rfl ?_)
  refine wp_of e236 c236_6 (xc_V (pc' := 9) (r := r0) (as := []) (st := []) (lm_9_412) rfl rfl (Nat.le_of_ble_eq_true rfl) w129223 g0 sh_42 (by decide) rfl (by decide) (s_231 w129223 g0) (fun R129226 T129227 H129228 p129229 => ?_))
  obtain ⟨e129230, e129232, z129234, e129231, b129235, p129233⟩ := p129229
  subst e129230
  subst e129231
  subst e129232
  show wp _ _ 236 9 [(0, .ref r0)] [vI z129234] _ H129221 _
  refine wp_of e236 c236_9 (rw_istore_n (pc' := 10) (z := z129234) (L' := [(1, vI z129234), (0, .ref r0)]) rfl rfl rfl ?_)
  refine wp_of e236 c236_10 (rw_iload_n (pc' := 11) (z := z129234) rfl rfl ?_)
  refine wp_of e236 c236_11 (rw_if_le (p1 := 20) (p2 := 14) (by decide) rfl ⟨by omega, by omega⟩ (fun c129236 => ?_) (fun c129236 => ?_))
  · refine wp_of e236 c236_20 (rw_aload_n (pc' := 21) (v := .ref r0) rfl rfl rfl ?_)
    obtain ⟨r129237, q129238, g129239⟩ := (w129223.opt g0 (t' := 54) (n := 33) (j := 3) (p := 0) (q := 0) rfl (by decide) rfl).resolve_left (by omega)
    refine wp_of e236 c236_21 (xc_V (pc' := 24) (r := r0) (as := []) (st := []) (lm_9_415) rfl rfl (Nat.le_of_ble_eq_true rfl) w129223 g0 sh_42 (by decide) rfl (by decide) (s_232 w129223 g0 q129238 g129239) (fun R129240 T129241 H129242 p129243 => ?_))
    obtain ⟨e129244, e129246, z129248, e129245, b129249, p129247⟩ := p129243
    subst e129244
    subst e129245
    subst e129246
    show wp _ _ 236 24 [(1, vI z129234), (0, .ref r0)] [vI z129248] _ H129221 _
    refine wp_of e236 c236_24 (rw_istore_n (pc' := 25) (z := z129248) (L' := [(2, vI z129248), (1, vI z129234), (0, .ref r0)]) rfl rfl rfl ?_)
    refine wp_of e236 c236_25 (rw_aload_n (pc' := 26) (v := .ref r0) rfl rfl rfl ?_)
    refine wp_of e236 c236_26 (rw_iload_n (pc' := 27) (z := z129248) rfl rfl ?_)
    refine wp_of e236 c236_27 (rw_bipush (pc' := 29) (z := -2) rfl (by decide) ?_)
    refine wp_of e236 c236_29 (rw_icmp_ne (p1 := 36) (p2 := 32) (by decide) rfl ⟨by omega, by omega⟩ ⟨by omega, by omega⟩ (fun c129250 => ?_) (fun c129250 => ?_))
    · refine wp_of e236 c236_36 (rw_aload_n (pc' := 37) (v := .ref r0) rfl rfl rfl ?_)
      refine wp_of e236 c236_37 (rw_iload_n (pc' := 38) (z := z129248) rfl rfl ?_)
      refine wp_of e236 c236_38 (xc_V (pc' := 41) (r := r0) (as := [vI z129248]) (st := [.ref r0]) (lm_9_409) rfl rfl (Nat.le_of_ble_eq_true rfl) w129223 g0 sh_42 (by decide) rfl (by decide) (s_233 w129223 g0 ⟨by omega, by omega⟩ q129238 g129239) (fun R129251 T129252 H129253 p129254 => ?_))
      obtain ⟨e129255, e129257, z129258, e129256, b129259⟩ := p129254
      subst e129255
      subst e129256
      subst e129257
      show wp _ _ 236 41 [(2, vI z129248), (1, vI z129234), (0, .ref r0)] [vI z129258, .ref r0] _ H129221 _
      refine wp_of e236 c236_41 (xc_V (pc' := 44) (r := r0) (as := [vI z129258]) (st := []) (lm_9_58) rfl rfl (Nat.le_of_ble_eq_true rfl) w129223 g0 sh_42 (by decide) rfl (by decide) (s_209 w129223 g0 ⟨by omega, by omega⟩) (fun R129260 T129261 H129262 p129263 => ?_))
      obtain ⟨e129264, w129266, f129267, z129268, e129265, b129269⟩ := p129263
      subst e129264
      subst e129265
      have f129270 := f129224.tr f129267 rfl
      show wp _ _ 236 44 [(2, vI z129248), (1, vI z129234), (0, .ref r0)] [vI z129268] _ H129262 _
      have k129271 : wKI H129262 r0 = wKI H r0 := ((wKI_fr w129223 g0 f129267 rfl).trans (wKI_fr hW g0 ((wfr.rf (l := [(42, 0)])).put' e129222 g0 rfl) rfl))
      exact wp_ireturn e236 c236_44 rfl ⟨rfl, w129266, f129270, z129268, rfl, ⟨by omega, by omega⟩, by omega⟩
    · refine wp_of e236 c236_32 (rw_iconst (pc' := 33) rfl ?_)
      refine wp_of e236 c236_33 (rw_goto (p1 := 41) (by decide) ?_)
      refine wp_of e236 c236_41 (xc_V (pc' := 44) (r := r0) (as := [vI 0]) (st := []) (lm_9_58) rfl rfl (Nat.le_of_ble_eq_true rfl) w129223 g0 sh_42 (by decide) rfl (by decide) (s_209 w129223 g0 ⟨by omega, by omega⟩) (fun R129272 T129273 H129274 p129275 => ?_))
      obtain ⟨e129276, w129278, f129279, z129280, e129277, b129281⟩ := p129275
      subst e129276
      subst e129277
      have f129282 := f129224.tr f129279 rfl
      show wp _ _ 236 44 [(2, vI z129248), (1, vI z129234), (0, .ref r0)] [vI z129280] _ H129274 _
      have k129283 : wKI H129274 r0 = wKI H r0 := ((wKI_fr w129223 g0 f129279 rfl).trans (wKI_fr hW g0 ((wfr.rf (l := [(42, 0)])).put' e129222 g0 rfl) rfl))
      exact wp_ireturn e236 c236_44 rfl ⟨rfl, w129278, f129282, z129280, rfl, ⟨by omega, by omega⟩, by omega⟩
  · refine wp_of e236 c236_14 (rw_aload_n (pc' := 15) (v := .ref r0) rfl rfl rfl ?_)
    refine wp_of e236 c236_15 (rw_iload_n (pc' := 16) (z := z129234) rfl rfl ?_)
    refine wp_of e236 c236_16 (xc_V (pc' := 19) (r := r0) (as := [vI z129234]) (st := []) (lm_9_54) rfl rfl (Nat.le_of_ble_eq_true rfl) w129223 g0 sh_42 (by decide) rfl (by decide) (s_170 w129223 g0 ⟨by omega, by omega⟩) (fun R129284 T129285 H129286 p129287 => ?_))
    obtain ⟨e129288, w129290, f129291, z129292, e129289, b129293⟩ := p129287
    subst e129288
    subst e129289
    have f129294 := f129224.tr f129291 rfl
    show wp _ _ 236 19 [(1, vI z129234), (0, .ref r0)] [vI z129292] _ H129286 _
    have k129295 : wKI H129286 r0 = wKI H r0 := ((wKI_fr w129223 g0 f129291 rfl).trans (wKI_fr hW g0 ((wfr.rf (l := [(42, 0)])).put' e129222 g0 rfl) rfl))
    exact wp_ireturn e236 c236_19 rfl ⟨rfl, w129290, f129294, z129292, rfl, ⟨by omega, by omega⟩, by omega⟩
/-! StrikeAwakeModel.barredAt([II)I -/
theorem e239 : wq_en 239 = some (9, 6, false, some FieldType.int) := rfl
theorem c239_0 : mc_cd 239 0 = some (.iconst 0, 1) := by decide +kernel
theorem c239_1 : mc_cd 239 1 = some (.istore_n 3, 1) := by decide +kernel
theorem c239_2 : mc_cd 239 2 = some (.iconst 0, 1) := by decide +kernel
theorem c239_3 : mc_cd 239 3 = some (.istore 4, 2) := by decide +kernel
theorem c239_5 : mc_cd 239 5 = some (.iload 4, 2) := by decide +kernel
theorem c239_7 : mc_cd 239 7 = some (.aload_n 0, 1) := by decide +kernel
theorem c239_8 : mc_cd 239 8 = some (.getfield 337, 3) := by decide +kernel
theorem c239_11 : mc_cd 239 11 = some (.getfield 185, 3) := by decide +kernel
theorem c239_14 : mc_cd 239 14 = some (.if_icmp .ge 65, 3) := by decide +kernel
theorem c239_17 : mc_cd 239 17 = some (.iload_n 2, 1) := by decide +kernel
theorem c239_18 : mc_cd 239 18 = some (.iload 4, 2) := by decide +kernel
theorem c239_20 : mc_cd 239 20 = some (.invokestatic 346, 3) := by decide +kernel
theorem c239_23 : mc_cd 239 23 = some (.ifCond .eq 50, 3) := by decide +kernel
theorem c239_26 : mc_cd 239 26 = some (.aload_n 0, 1) := by decide +kernel
theorem c239_27 : mc_cd 239 27 = some (.getfield 17, 3) := by decide +kernel
theorem c239_30 : mc_cd 239 30 = some (.iload 4, 2) := by decide +kernel
theorem c239_32 : mc_cd 239 32 = some (.iaload, 1) := by decide +kernel
theorem c239_33 : mc_cd 239 33 = some (.ifCond .ne 6, 3) := by decide +kernel
theorem c239_36 : mc_cd 239 36 = some (.goto 37, 3) := by decide +kernel
theorem c239_39 : mc_cd 239 39 = some (.aload_n 0, 1) := by decide +kernel
theorem c239_40 : mc_cd 239 40 = some (.aload_n 1, 1) := by decide +kernel
theorem c239_41 : mc_cd 239 41 = some (.iload 4, 2) := by decide +kernel
theorem c239_43 : mc_cd 239 43 = some (.invokevirtual 390, 3) := by decide +kernel
theorem c239_46 : mc_cd 239 46 = some (.istore 5, 2) := by decide +kernel
theorem c239_48 : mc_cd 239 48 = some (.iload_n 3, 1) := by decide +kernel
theorem c239_49 : mc_cd 239 49 = some (.iload 5, 2) := by decide +kernel
theorem c239_51 : mc_cd 239 51 = some (.iadd, 1) := by decide +kernel
theorem c239_52 : mc_cd 239 52 = some (.istore_n 3, 1) := by decide +kernel
theorem c239_53 : mc_cd 239 53 = some (.iload 5, 2) := by decide +kernel
theorem c239_55 : mc_cd 239 55 = some (.iconst 2, 1) := by decide +kernel
theorem c239_56 : mc_cd 239 56 = some (.if_icmp .eq 14, 3) := by decide +kernel
theorem c239_59 : mc_cd 239 59 = some (.iload_n 3, 1) := by decide +kernel
theorem c239_60 : mc_cd 239 60 = some (.aload_n 0, 1) := by decide +kernel
theorem c239_61 : mc_cd 239 61 = some (.getfield 337, 3) := by decide +kernel
theorem c239_64 : mc_cd 239 64 = some (.getfield 226, 3) := by decide +kernel
theorem c239_67 : mc_cd 239 67 = some (.if_icmp .le 6, 3) := by decide +kernel
theorem c239_70 : mc_cd 239 70 = some (.iload 4, 2) := by decide +kernel
theorem c239_72 : mc_cd 239 72 = some (.ireturn, 1) := by decide +kernel
theorem c239_73 : mc_cd 239 73 = some (.iinc 4 1, 3) := by decide +kernel
theorem c239_76 : mc_cd 239 76 = some (.goto (-71), 3) := by decide +kernel
theorem c239_79 : mc_cd 239 79 = some (.bipush 24, 2) := by decide +kernel
theorem c239_81 : mc_cd 239 81 = some (.ireturn, 1) := by decide +kernel
abbrev q_239_m_lot (r0 : Nat) (r1 : Nat) (a2 : Int) (pp : Nat) (T : wq_T) (H : wq_H) : Option Value → wq_T → wq_H → Prop := fun r T' H' => T = T' ∧ H = H' ∧ ∃ z : Int, some (vI z) = r ∧ (0 ≤ z ∧ z ≤ 24)
set_option maxHeartbeats 4000000 in
theorem s_239_m_lot {kt : Nat → Option mc_E} {T : wq_T} {H : wq_H} {r0 : Nat} {r1 : Nat} {a2 : Int} {pp : Nat} (hW : WT T H) (g0 : T.2.2.2 r0 = some 42) (g1 : T.2.2.2 r1 = some 51) (i2 : (-2147483648) ≤ a2 ∧ a2 ≤ 2147483647) (qpp : H r0 3 = (pp : Int)) (gpp : T.2.2.2 pp = some 54) : wpc kt 4 239 [.ref r0, .ref r1, vI a2] T H (q_239_m_lot r0 r1 a2 pp T H) := by
  refine wp_enter e239 (Nat.le_of_ble_eq_true rfl) rfl ?_
  show wp _ _ 239 0 [(0, .ref r0), (1, .ref r1), (2, vI a2)] [] _ H _
  refine wp_of e239 c239_0 (rw_iconst (pc' := 1) rfl ?_)
  refine wp_of e239 c239_1 (rw_istore_n (pc' := 2) (z := 0) (L' := [(3, vI 0), (0, .ref r0), (1, .ref r1), (2, vI a2)]) rfl rfl rfl ?_)
  refine wp_of e239 c239_2 (rw_iconst (pc' := 3) rfl ?_)
  refine wp_of e239 c239_3 (rw_istore (pc' := 5) (z := 0) (L' := [(4, vI 0), (3, vI 0), (0, .ref r0), (1, .ref r1), (2, vI a2)]) rfl rfl rfl ?_)
  have lp129951 : ∀ (n129952 : Nat) (v129954 : Int) (v129955 : Int), (0 ≤ v129954 ∧ v129954 ≤ 24) → ((-2147483648) ≤ v129955 ∧ v129955 ≤ 2147483647) → (24 - v129954).toNat = n129952 → wp kt 3 239 5 [(4, vI v129954), (3, vI v129955), (0, .ref r0), (1, .ref r1), (2, vI a2)] [] T H (q_239_m_lot r0 r1 a2 pp T H) := by
    intro n129952
    induction n129952 using Nat.strongRecOn with
    | _ n129952 ih129953 =>
      intro v129954 v129955 b129958 b129959 m129960
      refine wp_of e239 c239_5 (rw_iload (pc' := 7) (z := v129954) rfl rfl ?_)
      refine wp_of e239 c239_7 (rw_aload_n (pc' := 8) (v := .ref r0) rfl rfl rfl ?_)
      refine wp_of e239 c239_8 (xg_K (pc' := 11) lf_9_337 hW g0 sh_42 (by decide) (by decide) rfl qpp rfl ?_)
      refine wp_of e239 c239_11 (xg_I (pc' := 14) lf_9_185 hW gpp sh_54 (by decide) (by decide) ty_54_0 rfl rfl (fun b129961 b129962 => ?_))
      refine wp_of e239 c239_14 (rw_icmp_ge (p1 := 79) (p2 := 17) (by decide) rfl ⟨by omega, by omega⟩ ⟨by omega, by omega⟩ (fun c129963 => ?_) (fun c129963 => ?_))
      · refine wp_of e239 c239_79 (rw_bipush (pc' := 81) (z := 24) rfl (by decide) ?_)
        exact wp_ireturn e239 c239_81 rfl ⟨rfl, rfl, 24, rfl, ⟨by omega, by omega⟩⟩
      · refine wp_of e239 c239_17 (rw_iload_n (pc' := 18) (z := a2) rfl rfl ?_)
        refine wp_of e239 c239_18 (rw_iload (pc' := 20) (z := v129954) rfl rfl ?_)
        refine wp_of e239 c239_20 (xc_S (pc' := 23) (as := [vI a2, vI v129954]) (st := []) (lm_9_346) rfl rfl (Nat.le_of_ble_eq_true rfl) rfl (by decide) (s_205 hW ⟨by omega, by omega⟩ ⟨by omega, by omega⟩) (fun R129964 T129965 H129966 p129967 => ?_))
        obtain ⟨e129968, e129970, z129971, e129969, b129972⟩ := p129967
        subst e129968
        subst e129969
        subst e129970
        show wp _ _ 239 23 [(4, vI v129954), (3, vI v129955), (0, .ref r0), (1, .ref r1), (2, vI a2)] [vI z129971] _ H _
        refine wp_of e239 c239_23 (rw_if_eq (p1 := 73) (p2 := 26) (by decide) rfl ⟨by omega, by omega⟩ (fun c129973 => ?_) (fun c129973 => ?_))
        · refine wp_of e239 c239_73 (rw_iinc (pc' := 76) (z := v129954) (L' := [(4, vI (v129954 + 1)), (3, vI v129955), (0, .ref r0), (1, .ref r1), (2, vI a2)]) rfl rfl rfl rfl ?_)
          refine wp_of e239 c239_76 (rw_goto (p1 := 5) (by decide) ?_)
          exact wp_lc (ks := [4, 3, 0, 1, 2]) (wl_c rfl (wl_c rfl (wl_c rfl (wl_c rfl (wl_c rfl wl_n))))) rfl (by decide) (ih129953 _ (by omega) (v129954 + 1) v129955 ⟨by omega, by omega⟩ ⟨by omega, by omega⟩ rfl)
        · refine wp_of e239 c239_26 (rw_aload_n (pc' := 27) (v := .ref r0) rfl rfl rfl ?_)
          refine wp_of e239 c239_27 (xg_R (pc' := 30) lf_9_17 hW g0 sh_42 (by decide) (by decide) ty_42_20 rfl rfl (fun r129974 q129975 g129976 => ?_))
          refine wp_of e239 c239_30 (rw_iload (pc' := 32) (z := v129954) rfl rfl ?_)
          refine wp_of e239 c239_32 (xa_I (so := 0) (pc' := 33) hW g129976 sh_44 (by decide) (ty_44 _) (by omega) (by omega) rfl (fun b129977 b129978 => ?_))
          refine wp_of e239 c239_33 (rw_if_ne (p1 := 39) (p2 := 36) (by decide) rfl ⟨by omega, by omega⟩ (fun c129979 => ?_) (fun c129979 => ?_))
          · refine wp_of e239 c239_39 (rw_aload_n (pc' := 40) (v := .ref r0) rfl rfl rfl ?_)
            refine wp_of e239 c239_40 (rw_aload_n (pc' := 41) (v := .ref r1) rfl rfl rfl ?_)
            refine wp_of e239 c239_41 (rw_iload (pc' := 43) (z := v129954) rfl rfl ?_)
            refine wp_of e239 c239_43 (xc_V (pc' := 46) (r := r0) (as := [.ref r1, vI v129954]) (st := []) (lm_9_390) rfl rfl (Nat.le_of_ble_eq_true rfl) hW g0 sh_42 (by decide) rfl (by decide) (s_234_m_lot hW g0 g1 ⟨by omega, by omega⟩ qpp gpp) (fun R129980 T129981 H129982 p129983 => ?_))
            obtain ⟨e129984, e129986, z129987, e129985, b129988⟩ := p129983
            subst e129984
            subst e129985
            subst e129986
            show wp _ _ 239 46 [(4, vI v129954), (3, vI v129955), (0, .ref r0), (1, .ref r1), (2, vI a2)] [vI z129987] _ H _
            refine wp_of e239 c239_46 (rw_istore (pc' := 48) (z := z129987) (L' := [(5, vI z129987), (4, vI v129954), (3, vI v129955), (0, .ref r0), (1, .ref r1), (2, vI a2)]) rfl rfl rfl ?_)
            refine wp_of e239 c239_48 (rw_iload_n (pc' := 49) (z := v129955) rfl rfl ?_)
            refine wp_of e239 c239_49 (rw_iload (pc' := 51) (z := z129987) rfl rfl ?_)
            refine wp_of e239 c239_51 (rw_iaddw (pc' := 52) rfl ?_)
            obtain ⟨v129989, e129990⟩ : ∃ x : Int, x = wq_w (v129955 + z129987) := ⟨_, rfl⟩
            rw [← e129990]
            have b129991 : -2147483648 ≤ v129989 ∧ v129989 ≤ 2147483647 := by
              rw [e129990]
              exact wI_w _
            refine wp_of e239 c239_52 (rw_istore_n (pc' := 53) (z := v129989) (L' := [(3, vI v129989), (5, vI z129987), (4, vI v129954), (0, .ref r0), (1, .ref r1), (2, vI a2)]) rfl rfl rfl ?_)
            refine wp_of e239 c239_53 (rw_iload (pc' := 55) (z := z129987) rfl rfl ?_)
            refine wp_of e239 c239_55 (rw_iconst (pc' := 56) rfl ?_)
            refine wp_of e239 c239_56 (rw_icmp_eq (p1 := 70) (p2 := 59) (by decide) rfl ⟨by omega, by omega⟩ ⟨by omega, by omega⟩ (fun c129992 => ?_) (fun c129992 => ?_))
            · refine wp_of e239 c239_70 (rw_iload (pc' := 72) (z := v129954) rfl rfl ?_)
              exact wp_ireturn e239 c239_72 rfl ⟨rfl, rfl, v129954, rfl, ⟨by omega, by omega⟩⟩
            · refine wp_of e239 c239_59 (rw_iload_n (pc' := 60) (z := v129989) rfl rfl ?_)
              refine wp_of e239 c239_60 (rw_aload_n (pc' := 61) (v := .ref r0) rfl rfl rfl ?_)
              refine wp_of e239 c239_61 (xg_K (pc' := 64) lf_9_337 hW g0 sh_42 (by decide) (by decide) rfl qpp rfl ?_)
              refine wp_of e239 c239_64 (xg_I (pc' := 67) lf_9_226 hW gpp sh_54 (by decide) (by decide) ty_54_2 rfl rfl (fun b129993 b129994 => ?_))
              refine wp_of e239 c239_67 (rw_icmp_le (p1 := 73) (p2 := 70) (by decide) rfl ⟨by omega, by omega⟩ ⟨by omega, by omega⟩ (fun c129995 => ?_) (fun c129995 => ?_))
              · refine wp_of e239 c239_73 (rw_iinc (pc' := 76) (z := v129954) (L' := [(4, vI (v129954 + 1)), (3, vI v129989), (5, vI z129987), (0, .ref r0), (1, .ref r1), (2, vI a2)]) rfl rfl rfl rfl ?_)
                refine wp_of e239 c239_76 (rw_goto (p1 := 5) (by decide) ?_)
                exact wp_lc (ks := [4, 3, 5, 0, 1, 2]) (wl_c rfl (wl_c rfl (wl_c rfl (wl_c rfl (wl_c rfl wl_n))))) rfl (by decide) (ih129953 _ (by omega) (v129954 + 1) v129989 ⟨by omega, by omega⟩ ⟨by omega, by omega⟩ rfl)
              · refine wp_of e239 c239_70 (rw_iload (pc' := 72) (z := v129954) rfl rfl ?_)
                exact wp_ireturn e239 c239_72 rfl ⟨rfl, rfl, v129954, rfl, ⟨by omega, by omega⟩⟩
          · refine wp_of e239 c239_36 (rw_goto (p1 := 73) (by decide) ?_)
            refine wp_of e239 c239_73 (rw_iinc (pc' := 76) (z := v129954) (L' := [(4, vI (v129954 + 1)), (3, vI v129955), (0, .ref r0), (1, .ref r1), (2, vI a2)]) rfl rfl rfl rfl ?_)
            refine wp_of e239 c239_76 (rw_goto (p1 := 5) (by decide) ?_)
            exact wp_lc (ks := [4, 3, 0, 1, 2]) (wl_c rfl (wl_c rfl (wl_c rfl (wl_c rfl (wl_c rfl wl_n))))) rfl (by decide) (ih129953 _ (by omega) (v129954 + 1) v129955 ⟨by omega, by omega⟩ ⟨by omega, by omega⟩ rfl)
  exact wp_lc (ks := [4, 3, 0, 1, 2]) (wl_c rfl (wl_c rfl (wl_c rfl (wl_c rfl (wl_c rfl wl_n))))) rfl (by decide) (lp129951 _ 0 0 ⟨by omega, by omega⟩ ⟨by omega, by omega⟩ rfl)

/-! StrikeAwakeModel.barredAt([II)I -/
abbrev q_239_m_said (r0 : Nat) (r1 : Nat) (a2 : Int) (pp : Nat) (T : wq_T) (H : wq_H) : Option Value → wq_T → wq_H → Prop := fun r T' H' => T = T' ∧ H = H' ∧ ∃ z : Int, some (vI z) = r ∧ (0 ≤ z ∧ z ≤ 24)
set_option maxHeartbeats 4000000 in
theorem s_239_m_said {kt : Nat → Option mc_E} {T : wq_T} {H : wq_H} {r0 : Nat} {r1 : Nat} {a2 : Int} {pp : Nat} (hW : WT T H) (g0 : T.2.2.2 r0 = some 42) (g1 : T.2.2.2 r1 = some 50) (i2 : (-2147483648) ≤ a2 ∧ a2 ≤ 2147483647) (qpp : H r0 3 = (pp : Int)) (gpp : T.2.2.2 pp = some 54) : wpc kt 4 239 [.ref r0, .ref r1, vI a2] T H (q_239_m_said r0 r1 a2 pp T H) := by
  refine wp_enter e239 (Nat.le_of_ble_eq_true rfl) rfl ?_
  show wp _ _ 239 0 [(0, .ref r0), (1, .ref r1), (2, vI a2)] [] _ H _
  refine wp_of e239 c239_0 (rw_iconst (pc' := 1) rfl ?_)
  refine wp_of e239 c239_1 (rw_istore_n (pc' := 2) (z := 0) (L' := [(3, vI 0), (0, .ref r0), (1, .ref r1), (2, vI a2)]) rfl rfl rfl ?_)
  refine wp_of e239 c239_2 (rw_iconst (pc' := 3) rfl ?_)
  refine wp_of e239 c239_3 (rw_istore (pc' := 5) (z := 0) (L' := [(4, vI 0), (3, vI 0), (0, .ref r0), (1, .ref r1), (2, vI a2)]) rfl rfl rfl ?_)
  have lp130651 : ∀ (n130652 : Nat) (v130654 : Int) (v130655 : Int), (0 ≤ v130654 ∧ v130654 ≤ 24) → ((-2147483648) ≤ v130655 ∧ v130655 ≤ 2147483647) → (24 - v130654).toNat = n130652 → wp kt 3 239 5 [(4, vI v130654), (3, vI v130655), (0, .ref r0), (1, .ref r1), (2, vI a2)] [] T H (q_239_m_said r0 r1 a2 pp T H) := by
    intro n130652
    induction n130652 using Nat.strongRecOn with
    | _ n130652 ih130653 =>
      intro v130654 v130655 b130658 b130659 m130660
      refine wp_of e239 c239_5 (rw_iload (pc' := 7) (z := v130654) rfl rfl ?_)
      refine wp_of e239 c239_7 (rw_aload_n (pc' := 8) (v := .ref r0) rfl rfl rfl ?_)
      refine wp_of e239 c239_8 (xg_K (pc' := 11) lf_9_337 hW g0 sh_42 (by decide) (by decide) rfl qpp rfl ?_)
      refine wp_of e239 c239_11 (xg_I (pc' := 14) lf_9_185 hW gpp sh_54 (by decide) (by decide) ty_54_0 rfl rfl (fun b130661 b130662 => ?_))
      refine wp_of e239 c239_14 (rw_icmp_ge (p1 := 79) (p2 := 17) (by decide) rfl ⟨by omega, by omega⟩ ⟨by omega, by omega⟩ (fun c130663 => ?_) (fun c130663 => ?_))
      · refine wp_of e239 c239_79 (rw_bipush (pc' := 81) (z := 24) rfl (by decide) ?_)
        exact wp_ireturn e239 c239_81 rfl ⟨rfl, rfl, 24, rfl, ⟨by omega, by omega⟩⟩
      · refine wp_of e239 c239_17 (rw_iload_n (pc' := 18) (z := a2) rfl rfl ?_)
        refine wp_of e239 c239_18 (rw_iload (pc' := 20) (z := v130654) rfl rfl ?_)
        refine wp_of e239 c239_20 (xc_S (pc' := 23) (as := [vI a2, vI v130654]) (st := []) (lm_9_346) rfl rfl (Nat.le_of_ble_eq_true rfl) rfl (by decide) (s_205 hW ⟨by omega, by omega⟩ ⟨by omega, by omega⟩) (fun R130664 T130665 H130666 p130667 => ?_))
        obtain ⟨e130668, e130670, z130671, e130669, b130672⟩ := p130667
        subst e130668
        subst e130669
        subst e130670
        show wp _ _ 239 23 [(4, vI v130654), (3, vI v130655), (0, .ref r0), (1, .ref r1), (2, vI a2)] [vI z130671] _ H _
        refine wp_of e239 c239_23 (rw_if_eq (p1 := 73) (p2 := 26) (by decide) rfl ⟨by omega, by omega⟩ (fun c130673 => ?_) (fun c130673 => ?_))
        · refine wp_of e239 c239_73 (rw_iinc (pc' := 76) (z := v130654) (L' := [(4, vI (v130654 + 1)), (3, vI v130655), (0, .ref r0), (1, .ref r1), (2, vI a2)]) rfl rfl rfl rfl ?_)
          refine wp_of e239 c239_76 (rw_goto (p1 := 5) (by decide) ?_)
          exact wp_lc (ks := [4, 3, 0, 1, 2]) (wl_c rfl (wl_c rfl (wl_c rfl (wl_c rfl (wl_c rfl wl_n))))) rfl (by decide) (ih130653 _ (by omega) (v130654 + 1) v130655 ⟨by omega, by omega⟩ ⟨by omega, by omega⟩ rfl)
        · refine wp_of e239 c239_26 (rw_aload_n (pc' := 27) (v := .ref r0) rfl rfl rfl ?_)
          refine wp_of e239 c239_27 (xg_R (pc' := 30) lf_9_17 hW g0 sh_42 (by decide) (by decide) ty_42_20 rfl rfl (fun r130674 q130675 g130676 => ?_))
          refine wp_of e239 c239_30 (rw_iload (pc' := 32) (z := v130654) rfl rfl ?_)
          refine wp_of e239 c239_32 (xa_I (so := 0) (pc' := 33) hW g130676 sh_44 (by decide) (ty_44 _) (by omega) (by omega) rfl (fun b130677 b130678 => ?_))
          refine wp_of e239 c239_33 (rw_if_ne (p1 := 39) (p2 := 36) (by decide) rfl ⟨by omega, by omega⟩ (fun c130679 => ?_) (fun c130679 => ?_))
          · refine wp_of e239 c239_39 (rw_aload_n (pc' := 40) (v := .ref r0) rfl rfl rfl ?_)
            refine wp_of e239 c239_40 (rw_aload_n (pc' := 41) (v := .ref r1) rfl rfl rfl ?_)
            refine wp_of e239 c239_41 (rw_iload (pc' := 43) (z := v130654) rfl rfl ?_)
            refine wp_of e239 c239_43 (xc_V (pc' := 46) (r := r0) (as := [.ref r1, vI v130654]) (st := []) (lm_9_390) rfl rfl (Nat.le_of_ble_eq_true rfl) hW g0 sh_42 (by decide) rfl (by decide) (s_234_m_said hW g0 g1 ⟨by omega, by omega⟩ qpp gpp) (fun R130680 T130681 H130682 p130683 => ?_))
            obtain ⟨e130684, e130686, z130687, e130685, b130688⟩ := p130683
            subst e130684
            subst e130685
            subst e130686
            show wp _ _ 239 46 [(4, vI v130654), (3, vI v130655), (0, .ref r0), (1, .ref r1), (2, vI a2)] [vI z130687] _ H _
            refine wp_of e239 c239_46 (rw_istore (pc' := 48) (z := z130687) (L' := [(5, vI z130687), (4, vI v130654), (3, vI v130655), (0, .ref r0), (1, .ref r1), (2, vI a2)]) rfl rfl rfl ?_)
            refine wp_of e239 c239_48 (rw_iload_n (pc' := 49) (z := v130655) rfl rfl ?_)
            refine wp_of e239 c239_49 (rw_iload (pc' := 51) (z := z130687) rfl rfl ?_)
            refine wp_of e239 c239_51 (rw_iaddw (pc' := 52) rfl ?_)
            obtain ⟨v130689, e130690⟩ : ∃ x : Int, x = wq_w (v130655 + z130687) := ⟨_, rfl⟩
            rw [← e130690]
            have b130691 : -2147483648 ≤ v130689 ∧ v130689 ≤ 2147483647 := by
              rw [e130690]
              exact wI_w _
            refine wp_of e239 c239_52 (rw_istore_n (pc' := 53) (z := v130689) (L' := [(3, vI v130689), (5, vI z130687), (4, vI v130654), (0, .ref r0), (1, .ref r1), (2, vI a2)]) rfl rfl rfl ?_)
            refine wp_of e239 c239_53 (rw_iload (pc' := 55) (z := z130687) rfl rfl ?_)
            refine wp_of e239 c239_55 (rw_iconst (pc' := 56) rfl ?_)
            refine wp_of e239 c239_56 (rw_icmp_eq (p1 := 70) (p2 := 59) (by decide) rfl ⟨by omega, by omega⟩ ⟨by omega, by omega⟩ (fun c130692 => ?_) (fun c130692 => ?_))
            · refine wp_of e239 c239_70 (rw_iload (pc' := 72) (z := v130654) rfl rfl ?_)
              exact wp_ireturn e239 c239_72 rfl ⟨rfl, rfl, v130654, rfl, ⟨by omega, by omega⟩⟩
            · refine wp_of e239 c239_59 (rw_iload_n (pc' := 60) (z := v130689) rfl rfl ?_)
              refine wp_of e239 c239_60 (rw_aload_n (pc' := 61) (v := .ref r0) rfl rfl rfl ?_)
              refine wp_of e239 c239_61 (xg_K (pc' := 64) lf_9_337 hW g0 sh_42 (by decide) (by decide) rfl qpp rfl ?_)
              refine wp_of e239 c239_64 (xg_I (pc' := 67) lf_9_226 hW gpp sh_54 (by decide) (by decide) ty_54_2 rfl rfl (fun b130693 b130694 => ?_))
              refine wp_of e239 c239_67 (rw_icmp_le (p1 := 73) (p2 := 70) (by decide) rfl ⟨by omega, by omega⟩ ⟨by omega, by omega⟩ (fun c130695 => ?_) (fun c130695 => ?_))
              · refine wp_of e239 c239_73 (rw_iinc (pc' := 76) (z := v130654) (L' := [(4, vI (v130654 + 1)), (3, vI v130689), (5, vI z130687), (0, .ref r0), (1, .ref r1), (2, vI a2)]) rfl rfl rfl rfl ?_)
                refine wp_of e239 c239_76 (rw_goto (p1 := 5) (by decide) ?_)
                exact wp_lc (ks := [4, 3, 5, 0, 1, 2]) (wl_c rfl (wl_c rfl (wl_c rfl (wl_c rfl (wl_c rfl wl_n))))) rfl (by decide) (ih130653 _ (by omega) (v130654 + 1) v130689 ⟨by omega, by omega⟩ ⟨by omega, by omega⟩ rfl)
              · refine wp_of e239 c239_70 (rw_iload (pc' := 72) (z := v130654) rfl rfl ?_)
                exact wp_ireturn e239 c239_72 rfl ⟨rfl, rfl, v130654, rfl, ⟨by omega, by omega⟩⟩
          · refine wp_of e239 c239_36 (rw_goto (p1 := 73) (by decide) ?_)
            refine wp_of e239 c239_73 (rw_iinc (pc' := 76) (z := v130654) (L' := [(4, vI (v130654 + 1)), (3, vI v130655), (0, .ref r0), (1, .ref r1), (2, vI a2)]) rfl rfl rfl rfl ?_)
            refine wp_of e239 c239_76 (rw_goto (p1 := 5) (by decide) ?_)
            exact wp_lc (ks := [4, 3, 0, 1, 2]) (wl_c rfl (wl_c rfl (wl_c rfl (wl_c rfl (wl_c rfl wl_n))))) rfl (by decide) (ih130653 _ (by omega) (v130654 + 1) v130655 ⟨by omega, by omega⟩ ⟨by omega, by omega⟩ rfl)
  exact wp_lc (ks := [4, 3, 0, 1, 2]) (wl_c rfl (wl_c rfl (wl_c rfl (wl_c rfl (wl_c rfl wl_n))))) rfl (by decide) (lp130651 _ 0 0 ⟨by omega, by omega⟩ ⟨by omega, by omega⟩ rfl)
/-! StrikeAwakeModel.isWorld([I)Z -/
theorem e238 : wq_en 238 = some (9, 2, false, some FieldType.boolean) := rfl
theorem c238_0 : mc_cd 238 0 = some (.aload_n 0, 1) := by decide +kernel
theorem c238_1 : mc_cd 238 1 = some (.aload_n 1, 1) := by decide +kernel
theorem c238_2 : mc_cd 238 2 = some (.invokevirtual 393, 3) := by decide +kernel
theorem c238_5 : mc_cd 238 5 = some (.ifCond .ne 21, 3) := by decide +kernel
theorem c238_8 : mc_cd 238 8 = some (.aload_n 0, 1) := by decide +kernel
theorem c238_9 : mc_cd 238 9 = some (.aload_n 1, 1) := by decide +kernel
theorem c238_10 : mc_cd 238 10 = some (.aload_n 0, 1) := by decide +kernel
theorem c238_11 : mc_cd 238 11 = some (.getfield 343, 3) := by decide +kernel
theorem c238_14 : mc_cd 238 14 = some (.invokevirtual 397, 3) := by decide +kernel
theorem c238_17 : mc_cd 238 17 = some (.bipush 24, 2) := by decide +kernel
theorem c238_19 : mc_cd 238 19 = some (.if_icmp .ne 7, 3) := by decide +kernel
theorem c238_22 : mc_cd 238 22 = some (.iconst 1, 1) := by decide +kernel
theorem c238_23 : mc_cd 238 23 = some (.goto 4, 3) := by decide +kernel
theorem c238_26 : mc_cd 238 26 = some (.iconst 0, 1) := by decide +kernel
theorem c238_27 : mc_cd 238 27 = some (.ireturn, 1) := by decide +kernel
abbrev q_238_m_lot (r0 : Nat) (r1 : Nat) (pp : Nat) (T : wq_T) (H : wq_H) : Option Value → wq_T → wq_H → Prop := fun r T' H' => T = T' ∧ H = H' ∧ ∃ z : Int, some (vI z) = r ∧ (0 ≤ z ∧ z ≤ 1)
set_option maxHeartbeats 4000000 in
theorem s_238_m_lot {kt : Nat → Option mc_E} {T : wq_T} {H : wq_H} {r0 : Nat} {r1 : Nat} {pp : Nat} (hW : WT T H) (g0 : T.2.2.2 r0 = some 42) (g1 : T.2.2.2 r1 = some 51) (qpp : H r0 3 = (pp : Int)) (gpp : T.2.2.2 pp = some 54) : wpc kt 5 238 [.ref r0, .ref r1] T H (q_238_m_lot r0 r1 pp T H) := by
  refine wp_enter e238 (Nat.le_of_ble_eq_true rfl) rfl ?_
  show wp _ _ 238 0 [(0, .ref r0), (1, .ref r1)] [] _ H _
  refine wp_of e238 c238_0 (rw_aload_n (pc' := 1) (v := .ref r0) rfl rfl rfl ?_)
  refine wp_of e238 c238_1 (rw_aload_n (pc' := 2) (v := .ref r1) rfl rfl rfl ?_)
  refine wp_of e238 c238_2 (xc_V (pc' := 5) (r := r0) (as := [.ref r1]) (st := []) (lm_9_393) rfl rfl (Nat.le_of_ble_eq_true rfl) hW g0 sh_42 (by decide) rfl (by decide) (s_235_m_lot hW g0 g1 qpp gpp) (fun R130718 T130719 H130720 p130721 => ?_))
  obtain ⟨e130722, e130724, z130725, e130723, b130726⟩ := p130721
  subst e130722
  subst e130723
  subst e130724
  show wp _ _ 238 5 [(0, .ref r0), (1, .ref r1)] [vI z130725] _ H _
  refine wp_of e238 c238_5 (rw_if_ne (p1 := 26) (p2 := 8) (by decide) rfl ⟨by omega, by omega⟩ (fun c130727 => ?_) (fun c130727 => ?_))
  · refine wp_of e238 c238_26 (rw_iconst (pc' := 27) rfl ?_)
    exact wp_zreturn e238 c238_27 rfl (by omega) ⟨rfl, rfl, 0, rfl, ⟨by omega, by omega⟩⟩
  · refine wp_of e238 c238_8 (rw_aload_n (pc' := 9) (v := .ref r0) rfl rfl rfl ?_)
    refine wp_of e238 c238_9 (rw_aload_n (pc' := 10) (v := .ref r1) rfl rfl rfl ?_)
    refine wp_of e238 c238_10 (rw_aload_n (pc' := 11) (v := .ref r0) rfl rfl rfl ?_)
    refine wp_of e238 c238_11 (xg_I (pc' := 14) lf_9_343 hW g0 sh_42 (by decide) (by decide) ty_42_19 rfl rfl (fun b130728 b130729 => ?_))
    refine wp_of e238 c238_14 (xc_V (pc' := 17) (r := r0) (as := [.ref r1, vI (H r0 19)]) (st := []) (lm_9_397) rfl rfl (Nat.le_of_ble_eq_true rfl) hW g0 sh_42 (by decide) rfl (by decide) (s_239_m_lot hW g0 g1 ⟨by omega, by omega⟩ qpp gpp) (fun R130730 T130731 H130732 p130733 => ?_))
    obtain ⟨e130734, e130736, z130737, e130735, b130738⟩ := p130733
    subst e130734
    subst e130735
    subst e130736
    show wp _ _ 238 17 [(0, .ref r0), (1, .ref r1)] [vI z130737] _ H _
    refine wp_of e238 c238_17 (rw_bipush (pc' := 19) (z := 24) rfl (by decide) ?_)
    refine wp_of e238 c238_19 (rw_icmp_ne (p1 := 26) (p2 := 22) (by decide) rfl ⟨by omega, by omega⟩ ⟨by omega, by omega⟩ (fun c130739 => ?_) (fun c130739 => ?_))
    · refine wp_of e238 c238_26 (rw_iconst (pc' := 27) rfl ?_)
      exact wp_zreturn e238 c238_27 rfl (by omega) ⟨rfl, rfl, 0, rfl, ⟨by omega, by omega⟩⟩
    · refine wp_of e238 c238_22 (rw_iconst (pc' := 23) rfl ?_)
      refine wp_of e238 c238_23 (rw_goto (p1 := 27) (by decide) ?_)
      exact wp_zreturn e238 c238_27 rfl (by omega) ⟨rfl, rfl, 1, rfl, ⟨by omega, by omega⟩⟩

/-! StrikeAwakeModel.isWorld([I)Z -/
abbrev q_238_m_said (r0 : Nat) (r1 : Nat) (pp : Nat) (T : wq_T) (H : wq_H) : Option Value → wq_T → wq_H → Prop := fun r T' H' => T = T' ∧ H = H' ∧ ∃ z : Int, some (vI z) = r ∧ (0 ≤ z ∧ z ≤ 1)
set_option maxHeartbeats 4000000 in
theorem s_238_m_said {kt : Nat → Option mc_E} {T : wq_T} {H : wq_H} {r0 : Nat} {r1 : Nat} {pp : Nat} (hW : WT T H) (g0 : T.2.2.2 r0 = some 42) (g1 : T.2.2.2 r1 = some 50) (qpp : H r0 3 = (pp : Int)) (gpp : T.2.2.2 pp = some 54) : wpc kt 5 238 [.ref r0, .ref r1] T H (q_238_m_said r0 r1 pp T H) := by
  refine wp_enter e238 (Nat.le_of_ble_eq_true rfl) rfl ?_
  show wp _ _ 238 0 [(0, .ref r0), (1, .ref r1)] [] _ H _
  refine wp_of e238 c238_0 (rw_aload_n (pc' := 1) (v := .ref r0) rfl rfl rfl ?_)
  refine wp_of e238 c238_1 (rw_aload_n (pc' := 2) (v := .ref r1) rfl rfl rfl ?_)
  refine wp_of e238 c238_2 (xc_V (pc' := 5) (r := r0) (as := [.ref r1]) (st := []) (lm_9_393) rfl rfl (Nat.le_of_ble_eq_true rfl) hW g0 sh_42 (by decide) rfl (by decide) (s_235_m_said hW g0 g1 qpp gpp) (fun R130762 T130763 H130764 p130765 => ?_))
  obtain ⟨e130766, e130768, z130769, e130767, b130770⟩ := p130765
  subst e130766
  subst e130767
  subst e130768
  show wp _ _ 238 5 [(0, .ref r0), (1, .ref r1)] [vI z130769] _ H _
  refine wp_of e238 c238_5 (rw_if_ne (p1 := 26) (p2 := 8) (by decide) rfl ⟨by omega, by omega⟩ (fun c130771 => ?_) (fun c130771 => ?_))
  · refine wp_of e238 c238_26 (rw_iconst (pc' := 27) rfl ?_)
    exact wp_zreturn e238 c238_27 rfl (by omega) ⟨rfl, rfl, 0, rfl, ⟨by omega, by omega⟩⟩
  · refine wp_of e238 c238_8 (rw_aload_n (pc' := 9) (v := .ref r0) rfl rfl rfl ?_)
    refine wp_of e238 c238_9 (rw_aload_n (pc' := 10) (v := .ref r1) rfl rfl rfl ?_)
    refine wp_of e238 c238_10 (rw_aload_n (pc' := 11) (v := .ref r0) rfl rfl rfl ?_)
    refine wp_of e238 c238_11 (xg_I (pc' := 14) lf_9_343 hW g0 sh_42 (by decide) (by decide) ty_42_19 rfl rfl (fun b130772 b130773 => ?_))
    refine wp_of e238 c238_14 (xc_V (pc' := 17) (r := r0) (as := [.ref r1, vI (H r0 19)]) (st := []) (lm_9_397) rfl rfl (Nat.le_of_ble_eq_true rfl) hW g0 sh_42 (by decide) rfl (by decide) (s_239_m_said hW g0 g1 ⟨by omega, by omega⟩ qpp gpp) (fun R130774 T130775 H130776 p130777 => ?_))
    obtain ⟨e130778, e130780, z130781, e130779, b130782⟩ := p130777
    subst e130778
    subst e130779
    subst e130780
    show wp _ _ 238 17 [(0, .ref r0), (1, .ref r1)] [vI z130781] _ H _
    refine wp_of e238 c238_17 (rw_bipush (pc' := 19) (z := 24) rfl (by decide) ?_)
    refine wp_of e238 c238_19 (rw_icmp_ne (p1 := 26) (p2 := 22) (by decide) rfl ⟨by omega, by omega⟩ ⟨by omega, by omega⟩ (fun c130783 => ?_) (fun c130783 => ?_))
    · refine wp_of e238 c238_26 (rw_iconst (pc' := 27) rfl ?_)
      exact wp_zreturn e238 c238_27 rfl (by omega) ⟨rfl, rfl, 0, rfl, ⟨by omega, by omega⟩⟩
    · refine wp_of e238 c238_22 (rw_iconst (pc' := 23) rfl ?_)
      refine wp_of e238 c238_23 (rw_goto (p1 := 27) (by decide) ?_)
      exact wp_zreturn e238 c238_27 rfl (by omega) ⟨rfl, rfl, 1, rfl, ⟨by omega, by omega⟩⟩
