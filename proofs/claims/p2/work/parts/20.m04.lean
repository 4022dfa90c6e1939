/-! methods (own work, written by wip/gen2/sx.py) -/
/-! StrikeAwake.awake(III)I -/
theorem e59 : wq_en 59 = some (0, 4, false, some FieldType.int) := rfl
theorem c59_0 : mc_cd 59 0 = some (.aload_n 0, 1) := by decide +kernel
theorem c59_1 : mc_cd 59 1 = some (.iload_n 1, 1) := by decide +kernel
theorem c59_2 : mc_cd 59 2 = some (.iload_n 2, 1) := by decide +kernel
theorem c59_3 : mc_cd 59 3 = some (.invokevirtual 118, 3) := by decide +kernel
theorem c59_6 : mc_cd 59 6 = some (.ifCond .eq 11, 3) := by decide +kernel
theorem c59_9 : mc_cd 59 9 = some (.aload_n 0, 1) := by decide +kernel
theorem c59_10 : mc_cd 59 10 = some (.iload_n 3, 1) := by decide +kernel
theorem c59_11 : mc_cd 59 11 = some (.invokevirtual 132, 3) := by decide +kernel
theorem c59_14 : mc_cd 59 14 = some (.ifCond .ne 9, 3) := by decide +kernel
theorem c59_17 : mc_cd 59 17 = some (.aload_n 0, 1) := by decide +kernel
theorem c59_18 : mc_cd 59 18 = some (.iconst 1, 1) := by decide +kernel
theorem c59_19 : mc_cd 59 19 = some (.invokevirtual 70, 3) := by decide +kernel
theorem c59_22 : mc_cd 59 22 = some (.ireturn, 1) := by decide +kernel
theorem c59_23 : mc_cd 59 23 = some (.aload_n 0, 1) := by decide +kernel
theorem c59_24 : mc_cd 59 24 = some (.aload_n 0, 1) := by decide +kernel
theorem c59_25 : mc_cd 59 25 = some (.getfield 51, 3) := by decide +kernel
theorem c59_28 : mc_cd 59 28 = some (.getfield 109, 3) := by decide +kernel
theorem c59_31 : mc_cd 59 31 = some (.iload_n 1, 1) := by decide +kernel
theorem c59_32 : mc_cd 59 32 = some (.aaload, 1) := by decide +kernel
theorem c59_33 : mc_cd 59 33 = some (.getfield 135, 3) := by decide +kernel
theorem c59_36 : mc_cd 59 36 = some (.iload_n 2, 1) := by decide +kernel
theorem c59_37 : mc_cd 59 37 = some (.iaload, 1) := by decide +kernel
theorem c59_38 : mc_cd 59 38 = some (.iload_n 3, 1) := by decide +kernel
theorem c59_39 : mc_cd 59 39 = some (.invokestatic 138, 3) := by decide +kernel
theorem c59_42 : mc_cd 59 42 = some (.ifCond .eq 7, 3) := by decide +kernel
theorem c59_45 : mc_cd 59 45 = some (.iconst 1, 1) := by decide +kernel
theorem c59_46 : mc_cd 59 46 = some (.goto 4, 3) := by decide +kernel
theorem c59_49 : mc_cd 59 49 = some (.iconst 0, 1) := by decide +kernel
theorem c59_50 : mc_cd 59 50 = some (.invokevirtual 99, 3) := by decide +kernel
theorem c59_53 : mc_cd 59 53 = some (.ireturn, 1) := by decide +kernel
abbrev q_59 (r0 : Nat) (a1 : Int) (a2 : Int) (a3 : Int) (T : wq_T) (H : wq_H) : Option Value → wq_T → wq_H → Prop := fun r T' H' => T = T' ∧ WT T H' ∧ wfr [(1, 10)] T H H' ∧ ∃ z : Int, some (vI z) = r ∧ ((-2147483648) ≤ z ∧ z ≤ 2147483647)
set_option maxHeartbeats 4000000 in
theorem s_59 {kt : Nat → Option mc_E} {T : wq_T} {H : wq_H} {r0 : Nat} {a1 : Int} {a2 : Int} {a3 : Int} (hW : WT T H) (g0 : T.2.2.2 r0 = some 1) (i1 : (-2147483648) ≤ a1 ∧ a1 ≤ 2147483647) (i2 : (-2147483648) ≤ a2 ∧ a2 ≤ 2147483647) (i3 : (-2147483648) ≤ a3 ∧ a3 ≤ 2147483647) : wpc kt 3 59 [.ref r0, vI a1, vI a2, vI a3] T H (q_59 r0 a1 a2 a3 T H) := by
  refine wp_enter e59 (Nat.le_of_ble_eq_true rfl) rfl ?_
  have f0 : wfr [(1, 10)] T H H := wfr.rf
  show wp _ _ 59 0 [(0, .ref r0), (1, vI a1), (2, vI a2), (3, vI a3)] [] _ H _
  refine wp_of e59 c59_0 (rw_aload_n (pc' := 1) (v := .ref r0) rfl rfl rfl ?_)
  refine wp_of e59 c59_1 (rw_iload_n (pc' := 2) (z := a1) rfl rfl ?_)
  refine wp_of e59 c59_2 (rw_iload_n (pc' := 3) (z := a2) rfl rfl ?_)
  refine wp_of e59 c59_3 (xc_V (pc' := 6) (r := r0) (as := [vI a1, vI a2]) (st := []) (lm_0_118) rfl rfl (Nat.le_of_ble_eq_true rfl) hW g0 sh_1 (by decide) rfl (by decide) (s_57 hW g0 ⟨by omega, by omega⟩ ⟨by omega, by omega⟩) (fun R16704 T16705 H16706 p16707 => ?_))
  obtain ⟨e16708, e16710, z16712, e16709, b16713, p16711⟩ := p16707
  subst e16708
  subst e16709
  subst e16710
  show wp _ _ 59 6 [(0, .ref r0), (1, vI a1), (2, vI a2), (3, vI a3)] [vI z16712] _ H _
  refine wp_of e59 c59_6 (rw_if_eq (p1 := 17) (p2 := 9) (by decide) rfl ⟨by omega, by omega⟩ (fun c16714 => ?_) (fun c16714 => ?_))
  · refine wp_of e59 c59_17 (rw_aload_n (pc' := 18) (v := .ref r0) rfl rfl rfl ?_)
    refine wp_of e59 c59_18 (rw_iconst (pc' := 19) rfl ?_)
    refine wp_of e59 c59_19 (xc_V (pc' := 22) (r := r0) (as := [vI 1]) (st := []) (lm_0_70) rfl rfl (Nat.le_of_ble_eq_true rfl) hW g0 sh_1 (by decide) rfl (by decide) (s_12 hW g0 ⟨by omega, by omega⟩) (fun R16715 T16716 H16717 p16718 => ?_))
    obtain ⟨e16719, w16721, f16722, z16723, e16720, b16724⟩ := p16718
    subst e16719
    subst e16720
    have f16725 := f0.tr f16722 rfl
    show wp _ _ 59 22 [(0, .ref r0), (1, vI a1), (2, vI a2), (3, vI a3)] [vI z16723] _ H16717 _
    exact wp_ireturn e59 c59_22 rfl ⟨rfl, w16721, f16725, z16723, rfl, ⟨by omega, by omega⟩⟩
  · refine wp_of e59 c59_9 (rw_aload_n (pc' := 10) (v := .ref r0) rfl rfl rfl ?_)
    refine wp_of e59 c59_10 (rw_iload_n (pc' := 11) (z := a3) rfl rfl ?_)
    refine wp_of e59 c59_11 (xc_V (pc' := 14) (r := r0) (as := [vI a3]) (st := []) (lm_0_132) rfl rfl (Nat.le_of_ble_eq_true rfl) hW g0 sh_1 (by decide) rfl (by decide) (s_60 hW g0 ⟨by omega, by omega⟩) (fun R16726 T16727 H16728 p16729 => ?_))
    obtain ⟨e16730, e16732, z16734, e16731, b16735, p16733⟩ := p16729
    subst e16730
    subst e16731
    subst e16732
    show wp _ _ 59 14 [(0, .ref r0), (1, vI a1), (2, vI a2), (3, vI a3)] [vI z16734] _ H _
    refine wp_of e59 c59_14 (rw_if_ne (p1 := 23) (p2 := 17) (by decide) rfl ⟨by omega, by omega⟩ (fun c16736 => ?_) (fun c16736 => ?_))
    · refine wp_of e59 c59_23 (rw_aload_n (pc' := 24) (v := .ref r0) rfl rfl rfl ?_)
      refine wp_of e59 c59_24 (rw_aload_n (pc' := 25) (v := .ref r0) rfl rfl rfl ?_)
      refine wp_of e59 c59_25 (xg_R (pc' := 28) lf_0_51 hW g0 sh_1 (by decide) (by decide) ty_1_6 rfl rfl (fun r16737 q16738 g16739 => ?_))
      refine wp_of e59 c59_28 (xg_R (pc' := 31) lf_0_109 hW g16739 sh_27 (by decide) (by decide) ty_27_0 rfl rfl (fun r16740 q16741 g16742 => ?_))
      refine wp_of e59 c59_31 (rw_iload_n (pc' := 32) (z := a1) rfl rfl ?_)
      refine wp_of e59 c59_32 (xa_R (pc' := 33) (by decide) hW g16742 sh_28 (by decide) (ty_28 _) (by omega) (by omega) rfl (fun r16743 q16744 g16745 => ?_))
      refine wp_of e59 c59_33 (xg_R (pc' := 36) lf_0_135 hW g16745 sh_35 (by decide) (by decide) ty_35_3 rfl rfl (fun r16746 q16747 g16748 => ?_))
      refine wp_of e59 c59_36 (rw_iload_n (pc' := 37) (z := a2) rfl rfl ?_)
      refine wp_of e59 c59_37 (xa_I (so := 0) (pc' := 38) hW g16748 sh_39 (by decide) (ty_39 _) (by omega) (by omega) rfl (fun b16749 b16750 => ?_))
      refine wp_of e59 c59_38 (rw_iload_n (pc' := 39) (z := a3) rfl rfl ?_)
      refine wp_of e59 c59_39 (xc_S (pc' := 42) (as := [vI (H r16746 (a2.toNat)), vI a3]) (st := [.ref r0]) (lm_0_138) rfl rfl (Nat.le_of_ble_eq_true rfl) rfl (by decide) (s_36 hW ⟨by omega, by omega⟩ ⟨by omega, by omega⟩) (fun R16751 T16752 H16753 p16754 => ?_))
      obtain ⟨e16755, e16757, z16758, e16756, b16759⟩ := p16754
      subst e16755
      subst e16756
      subst e16757
      show wp _ _ 59 42 [(0, .ref r0), (1, vI a1), (2, vI a2), (3, vI a3)] [vI z16758, .ref r0] _ H _
      refine wp_of e59 c59_42 (rw_if_eq (p1 := 49) (p2 := 45) (by decide) rfl ⟨by omega, by omega⟩ (fun c16760 => ?_) (fun c16760 => ?_))
      · refine wp_of e59 c59_49 (rw_iconst (pc' := 50) rfl ?_)
        refine wp_of e59 c59_50 (xc_V (pc' := 53) (r := r0) (as := [vI 0]) (st := []) (lm_0_99) rfl rfl (Nat.le_of_ble_eq_true rfl) hW g0 sh_1 (by decide) rfl (by decide) (s_51 hW g0 ⟨by omega, by omega⟩) (fun R16761 T16762 H16763 p16764 => ?_))
        obtain ⟨e16765, w16767, f16768, z16769, e16766, b16770⟩ := p16764
        subst e16765
        subst e16766
        have f16771 := f0.tr f16768 rfl
        show wp _ _ 59 53 [(0, .ref r0), (1, vI a1), (2, vI a2), (3, vI a3)] [vI z16769] _ H16763 _
        exact wp_ireturn e59 c59_53 rfl ⟨rfl, w16767, f16771, z16769, rfl, ⟨by omega, by omega⟩⟩
      · refine wp_of e59 c59_45 (rw_iconst (pc' := 46) rfl ?_)
        refine wp_of e59 c59_46 (rw_goto (p1 := 50) (by decide) ?_)
        refine wp_of e59 c59_50 (xc_V (pc' := 53) (r := r0) (as := [vI 1]) (st := []) (lm_0_99) rfl rfl (Nat.le_of_ble_eq_true rfl) hW g0 sh_1 (by decide) rfl (by decide) (s_51 hW g0 ⟨by omega, by omega⟩) (fun R16772 T16773 H16774 p16775 => ?_))
        obtain ⟨e16776, w16778, f16779, z16780, e16777, b16781⟩ := p16775
        subst e16776
        subst e16777
        have f16782 := f0.tr f16779 rfl
        show wp _ _ 59 53 [(0, .ref r0), (1, vI a1), (2, vI a2), (3, vI a3)] [vI z16780] _ H16774 _
        exact wp_ireturn e59 c59_53 rfl ⟨rfl, w16778, f16782, z16780, rfl, ⟨by omega, by omega⟩⟩
    · refine wp_of e59 c59_17 (rw_aload_n (pc' := 18) (v := .ref r0) rfl rfl rfl ?_)
      refine wp_of e59 c59_18 (rw_iconst (pc' := 19) rfl ?_)
      refine wp_of e59 c59_19 (xc_V (pc' := 22) (r := r0) (as := [vI 1]) (st := []) (lm_0_70) rfl rfl (Nat.le_of_ble_eq_true rfl) hW g0 sh_1 (by decide) rfl (by decide) (s_12 hW g0 ⟨by omega, by omega⟩) (fun R16783 T16784 H16785 p16786 => ?_))
      obtain ⟨e16787, w16789, f16790, z16791, e16788, b16792⟩ := p16786
      subst e16787
      subst e16788
      have f16793 := f0.tr f16790 rfl
      show wp _ _ 59 22 [(0, .ref r0), (1, vI a1), (2, vI a2), (3, vI a3)] [vI z16791] _ H16785 _
      exact wp_ireturn e59 c59_22 rfl ⟨rfl, w16789, f16793, z16791, rfl, ⟨by omega, by omega⟩⟩
/-! StrikeAwake.lots()J -/
theorem e61 : wq_en 61 = some (0, 1, false, some FieldType.long) := rfl
theorem c61_0 : mc_cd 61 0 = some (.aload_n 0, 1) := by decide +kernel
theorem c61_1 : mc_cd 61 1 = some (.getfield 58, 3) := by decide +kernel
theorem c61_4 : mc_cd 61 4 = some (.ifCond .ne 10, 3) := by decide +kernel
theorem c61_7 : mc_cd 61 7 = some (.aload_n 0, 1) := by decide +kernel
theorem c61_8 : mc_cd 61 8 = some (.iconst 1, 1) := by decide +kernel
theorem c61_9 : mc_cd 61 9 = some (.invokevirtual 70, 3) := by decide +kernel
theorem c61_12 : mc_cd 61 12 = some (.i2l, 1) := by decide +kernel
theorem c61_13 : mc_cd 61 13 = some (.lreturn, 1) := by decide +kernel
theorem c61_14 : mc_cd 61 14 = some (.aload_n 0, 1) := by decide +kernel
theorem c61_15 : mc_cd 61 15 = some (.iconst 0, 1) := by decide +kernel
theorem c61_16 : mc_cd 61 16 = some (.putfield 102, 3) := by decide +kernel
theorem c61_19 : mc_cd 61 19 = some (.aload_n 0, 1) := by decide +kernel
theorem c61_20 : mc_cd 61 20 = some (.getfield 51, 3) := by decide +kernel
theorem c61_23 : mc_cd 61 23 = some (.getfield 141, 3) := by decide +kernel
theorem c61_26 : mc_cd 61 26 = some (.lreturn, 1) := by decide +kernel
abbrev q_61 (r0 : Nat) (T : wq_T) (H : wq_H) : Option Value → wq_T → wq_H → Prop := fun r T' H' => T = T' ∧ WT T H' ∧ wfr [(1, 10)] T H H' ∧ ∃ z : Int, some (vL z) = r ∧ ((-9223372036854775808) ≤ z ∧ z ≤ 9223372036854775807)
set_option maxHeartbeats 4000000 in
theorem s_61 {kt : Nat → Option mc_E} {T : wq_T} {H : wq_H} {r0 : Nat} (hW : WT T H) (g0 : T.2.2.2 r0 = some 1) : wpc kt 2 61 [.ref r0] T H (q_61 r0 T H) := by
  refine wp_enter e61 (Nat.le_of_ble_eq_true rfl) rfl ?_
  have f0 : wfr [(1, 10)] T H H := wfr.rf
  show wp _ _ 61 0 [(0, .ref r0)] [] _ H _
  refine wp_of e61 c61_0 (rw_aload_n (pc' := 1) (v := .ref r0) rfl rfl rfl ?_)
  refine wp_of e61 c61_1 (xg_I (pc' := 4) lf_0_58 hW g0 sh_1 (by decide) (by decide) ty_1_8 rfl rfl (fun b16818 b16819 => ?_))
  refine wp_of e61 c61_4 (rw_if_ne (p1 := 14) (p2 := 7) (by decide) rfl ⟨by omega, by omega⟩ (fun c16820 => ?_) (fun c16820 => ?_))
  · refine wp_of e61 c61_14 (rw_aload_n (pc' := 15) (v := .ref r0) rfl rfl rfl ?_)
    refine wp_of e61 c61_15 (rw_iconst (pc' := 16) rfl ?_)
    refine wp_of e61 c61_16 (xp_I (pc' := 19) lf_0_102 hW g0 sh_1 (by decide) (by decide) ty_1_10 rfl rfl (by omega) (by omega) ⟨by omega, by omega⟩ rfl (fun H16821 e16822 w16823 => ?_))
    have f16824 := f0.put' e16822 g0 rfl
    have k16825 : H16821 r0 10 = 0 := wq_u_s e16822
    refine wp_of e61 c61_19 (rw_aload_n (pc' := 20) (v := .ref r0) rfl rfl rfl ?_)
    refine wp_of e61 c61_20 (xg_R (pc' := 23) lf_0_51 w16823 g0 sh_1 (by decide) (by decide) ty_1_6 rfl rfl (fun r16826 q16827 g16828 => ?_))
    refine wp_of e61 c61_23 (xg_L (pc' := 26) lf_0_141 w16823 g16828 sh_27 (by decide) (by decide) ty_27_18 rfl rfl (fun b16829 b16830 => ?_))
    exact wp_lreturn e61 c61_26 rfl ⟨rfl, w16823, f16824, H16821 r16826 18, rfl, ⟨by omega, by omega⟩⟩
  · refine wp_of e61 c61_7 (rw_aload_n (pc' := 8) (v := .ref r0) rfl rfl rfl ?_)
    refine wp_of e61 c61_8 (rw_iconst (pc' := 9) rfl ?_)
    refine wp_of e61 c61_9 (xc_V (pc' := 12) (r := r0) (as := [vI 1]) (st := []) (lm_0_70) rfl rfl (Nat.le_of_ble_eq_true rfl) hW g0 sh_1 (by decide) rfl (by decide) (s_12 hW g0 ⟨by omega, by omega⟩) (fun R16831 T16832 H16833 p16834 => ?_))
    obtain ⟨e16835, w16837, f16838, z16839, e16836, b16840⟩ := p16834
    subst e16835
    subst e16836
    have f16841 := f0.tr f16838 rfl
    show wp _ _ 61 12 [(0, .ref r0)] [vI z16839] _ H16833 _
    refine wp_of e61 c61_12 (rw_i2l (pc' := 13) rfl ⟨by omega, by omega⟩ ?_)
    exact wp_lreturn e61 c61_13 rfl ⟨rfl, w16837, f16841, z16839, rfl, ⟨by omega, by omega⟩⟩
/-! StrikeAwake.deny(I)Z -/
theorem e63 : wq_en 63 = some (0, 2, false, some FieldType.boolean) := rfl
theorem c63_0 : mc_cd 63 0 = some (.aload_n 0, 1) := by decide +kernel
theorem c63_1 : mc_cd 63 1 = some (.iload_n 1, 1) := by decide +kernel
theorem c63_2 : mc_cd 63 2 = some (.putfield 102, 3) := by decide +kernel
theorem c63_5 : mc_cd 63 5 = some (.iconst 0, 1) := by decide +kernel
theorem c63_6 : mc_cd 63 6 = some (.ireturn, 1) := by decide +kernel
abbrev q_63 (r0 : Nat) (a1 : Int) (T : wq_T) (H : wq_H) : Option Value → wq_T → wq_H → Prop := fun r T' H' => T = T' ∧ WT T H' ∧ wfr [(1, 10)] T H H' ∧ ∃ z : Int, some (vI z) = r ∧ (0 ≤ z ∧ z ≤ 1)
set_option maxHeartbeats 4000000 in
theorem s_63 {kt : Nat → Option mc_E} {T : wq_T} {H : wq_H} {r0 : Nat} {a1 : Int} (hW : WT T H) (g0 : T.2.2.2 r0 = some 1) (i1 : (-2147483648) ≤ a1 ∧ a1 ≤ 2147483647) : wpc kt 1 63 [.ref r0, vI a1] T H (q_63 r0 a1 T H) := by
  refine wp_enter e63 (Nat.le_of_ble_eq_true rfl) rfl ?_
  have f0 : wfr [(1, 10)] T H H := wfr.rf
  show wp _ _ 63 0 [(0, .ref r0), (1, vI a1)] [] _ H _
  refine wp_of e63 c63_0 (rw_aload_n (pc' := 1) (v := .ref r0) rfl rfl rfl ?_)
  refine wp_of e63 c63_1 (rw_iload_n (pc' := 2) (z := a1) rfl rfl ?_)
  refine wp_of e63 c63_2 (xp_I (pc' := 5) lf_0_102 hW g0 sh_1 (by decide) (by decide) ty_1_10 rfl rfl (by omega) (by omega) ⟨by omega, by omega⟩ rfl (fun H16847 e16848 w16849 => ?_))
  have f16850 := f0.put' e16848 g0 rfl
  have k16851 : H16847 r0 10 = a1 := wq_u_s e16848
  refine wp_of e63 c63_5 (rw_iconst (pc' := 6) rfl ?_)
  exact wp_zreturn e63 c63_6 rfl (by omega) ⟨rfl, w16849, f16850, 0, rfl, ⟨by omega, by omega⟩⟩
/-! StrikeAwake.grant()Z -/
theorem e64 : wq_en 64 = some (0, 1, false, some FieldType.boolean) := rfl
theorem c64_0 : mc_cd 64 0 = some (.aload_n 0, 1) := by decide +kernel
theorem c64_1 : mc_cd 64 1 = some (.iconst 0, 1) := by decide +kernel
theorem c64_2 : mc_cd 64 2 = some (.putfield 102, 3) := by decide +kernel
theorem c64_5 : mc_cd 64 5 = some (.iconst 1, 1) := by decide +kernel
theorem c64_6 : mc_cd 64 6 = some (.ireturn, 1) := by decide +kernel
abbrev q_64 (r0 : Nat) (T : wq_T) (H : wq_H) : Option Value → wq_T → wq_H → Prop := fun r T' H' => T = T' ∧ WT T H' ∧ wfr [(1, 10)] T H H' ∧ ∃ z : Int, some (vI z) = r ∧ (0 ≤ z ∧ z ≤ 1)
set_option maxHeartbeats 4000000 in
theorem s_64 {kt : Nat → Option mc_E} {T : wq_T} {H : wq_H} {r0 : Nat} (hW : WT T H) (g0 : T.2.2.2 r0 = some 1) : wpc kt 1 64 [.ref r0] T H (q_64 r0 T H) := by
  refine wp_enter e64 (Nat.le_of_ble_eq_true rfl) rfl ?_
  have f0 : wfr [(1, 10)] T H H := wfr.rf
  show wp _ _ 64 0 [(0, .ref r0)] [] _ H _
  refine wp_of e64 c64_0 (rw_aload_n (pc' := 1) (v := .ref r0) rfl rfl rfl ?_)
  refine wp_of e64 c64_1 (rw_iconst (pc' := 2) rfl ?_)
  refine wp_of e64 c64_2 (xp_I (pc' := 5) lf_0_102 hW g0 sh_1 (by decide) (by decide) ty_1_10 rfl rfl (by omega) (by omega) ⟨by omega, by omega⟩ rfl (fun H16857 e16858 w16859 => ?_))
  have f16860 := f0.put' e16858 g0 rfl
  have k16861 : H16857 r0 10 = 0 := wq_u_s e16858
  refine wp_of e64 c64_5 (rw_iconst (pc' := 6) rfl ?_)
  exact wp_zreturn e64 c64_6 rfl (by omega) ⟨rfl, w16859, f16860, 1, rfl, ⟨by omega, by omega⟩⟩
/-! StrikeAwake.say(II)Z -/
theorem e62 : wq_en 62 = some (0, 3, false, some FieldType.boolean) := rfl
theorem c62_0 : mc_cd 62 0 = some (.aload_n 0, 1) := by decide +kernel
theorem c62_1 : mc_cd 62 1 = some (.iload_n 1, 1) := by decide +kernel
theorem c62_2 : mc_cd 62 2 = some (.iload_n 2, 1) := by decide +kernel
theorem c62_3 : mc_cd 62 3 = some (.invokevirtual 118, 3) := by decide +kernel
theorem c62_6 : mc_cd 62 6 = some (.ifCond .ne 9, 3) := by decide +kernel
theorem c62_9 : mc_cd 62 9 = some (.aload_n 0, 1) := by decide +kernel
theorem c62_10 : mc_cd 62 10 = some (.iconst 1, 1) := by decide +kernel
theorem c62_11 : mc_cd 62 11 = some (.invokevirtual 145, 3) := by decide +kernel
theorem c62_14 : mc_cd 62 14 = some (.ireturn, 1) := by decide +kernel
theorem c62_15 : mc_cd 62 15 = some (.aload_n 0, 1) := by decide +kernel
theorem c62_16 : mc_cd 62 16 = some (.getfield 51, 3) := by decide +kernel
theorem c62_19 : mc_cd 62 19 = some (.getfield 109, 3) := by decide +kernel
theorem c62_22 : mc_cd 62 22 = some (.iload_n 1, 1) := by decide +kernel
theorem c62_23 : mc_cd 62 23 = some (.aaload, 1) := by decide +kernel
theorem c62_24 : mc_cd 62 24 = some (.iload_n 2, 1) := by decide +kernel
theorem c62_25 : mc_cd 62 25 = some (.putfield 148, 3) := by decide +kernel
theorem c62_28 : mc_cd 62 28 = some (.aload_n 0, 1) := by decide +kernel
theorem c62_29 : mc_cd 62 29 = some (.invokevirtual 151, 3) := by decide +kernel
theorem c62_32 : mc_cd 62 32 = some (.ireturn, 1) := by decide +kernel
abbrev q_62 (r0 : Nat) (a1 : Int) (a2 : Int) (T : wq_T) (H : wq_H) : Option Value → wq_T → wq_H → Prop := fun r T' H' => T = T' ∧ WT T H' ∧ wfr [(35, 16), (1, 10)] T H H' ∧ ∃ z : Int, some (vI z) = r ∧ (0 ≤ z ∧ z ≤ 1)
set_option maxHeartbeats 4000000 in
theorem s_62 {kt : Nat → Option mc_E} {T : wq_T} {H : wq_H} {r0 : Nat} {a1 : Int} {a2 : Int} (hW : WT T H) (g0 : T.2.2.2 r0 = some 1) (i1 : (-2147483648) ≤ a1 ∧ a1 ≤ 2147483647) (i2 : (-2147483648) ≤ a2 ∧ a2 ≤ 2147483647) : wpc kt 3 62 [.ref r0, vI a1, vI a2] T H (q_62 r0 a1 a2 T H) := by
  refine wp_enter e62 (Nat.le_of_ble_eq_true rfl) rfl ?_
  have f0 : wfr [(35, 16), (1, 10)] T H H := wfr.rf
  show wp _ _ 62 0 [(0, .ref r0), (1, vI a1), (2, vI a2)] [] _ H _
  refine wp_of e62 c62_0 (rw_aload_n (pc' := 1) (v := .ref r0) rfl rfl rfl ?_)
  refine wp_of e62 c62_1 (rw_iload_n (pc' := 2) (z := a1) rfl rfl ?_)
  refine wp_of e62 c62_2 (rw_iload_n (pc' := 3) (z := a2) rfl rfl ?_)
  refine wp_of e62 c62_3 (xc_V (pc' := 6) (r := r0) (as := [vI a1, vI a2]) (st := []) (lm_0_118) rfl rfl (Nat.le_of_ble_eq_true rfl) hW g0 sh_1 (by decide) rfl (by decide) (s_57 hW g0 ⟨by omega, by omega⟩ ⟨by omega, by omega⟩) (fun R16909 T16910 H16911 p16912 => ?_))
  obtain ⟨e16913, e16915, z16917, e16914, b16918, p16916⟩ := p16912
  subst e16913
  subst e16914
  subst e16915
  show wp _ _ 62 6 [(0, .ref r0), (1, vI a1), (2, vI a2)] [vI z16917] _ H _
  refine wp_of e62 c62_6 (rw_if_ne (p1 := 15) (p2 := 9) (by decide) rfl ⟨by omega, by omega⟩ (fun c16919 => ?_) (fun c16919 => ?_))
  · refine wp_of e62 c62_15 (rw_aload_n (pc' := 16) (v := .ref r0) rfl rfl rfl ?_)
    refine wp_of e62 c62_16 (xg_R (pc' := 19) lf_0_51 hW g0 sh_1 (by decide) (by decide) ty_1_6 rfl rfl (fun r16920 q16921 g16922 => ?_))
    refine wp_of e62 c62_19 (xg_R (pc' := 22) lf_0_109 hW g16922 sh_27 (by decide) (by decide) ty_27_0 rfl rfl (fun r16923 q16924 g16925 => ?_))
    refine wp_of e62 c62_22 (rw_iload_n (pc' := 23) (z := a1) rfl rfl ?_)
    refine wp_of e62 c62_23 (xa_R (pc' := 24) (by decide) hW g16925 sh_28 (by decide) (ty_28 _) (by omega) (by omega) rfl (fun r16926 q16927 g16928 => ?_))
    refine wp_of e62 c62_24 (rw_iload_n (pc' := 25) (z := a2) rfl rfl ?_)
    refine wp_of e62 c62_25 (xp_I (pc' := 28) lf_0_148 hW g16928 sh_35 (by decide) (by decide) ty_35_16 rfl rfl (by omega) (by omega) ⟨by omega, by omega⟩ rfl (fun H16929 e16930 w16931 => ?_))
    have f16932 := f0.put' e16930 g16928 rfl
    have k16933 : H16929 r16926 16 = a2 := wq_u_s e16930
    refine wp_of e62 c62_28 (rw_aload_n (pc' := 29) (v := .ref r0) rfl rfl rfl ?_)
    refine wp_of e62 c62_29 (xc_V (pc' := 32) (r := r0) (as := []) (st := []) (lm_0_151) rfl rfl (Nat.le_of_ble_eq_true rfl) w16931 g0 sh_1 (by decide) rfl (by decide) (s_64 w16931 g0) (fun R16934 T16935 H16936 p16937 => ?_))
    obtain ⟨e16938, w16940, f16941, z16942, e16939, b16943⟩ := p16937
    subst e16938
    subst e16939
    have f16944 := f16932.tr f16941 rfl
    show wp _ _ 62 32 [(0, .ref r0), (1, vI a1), (2, vI a2)] [vI z16942] _ H16936 _
    exact wp_zreturn e62 c62_32 rfl (by omega) ⟨rfl, w16940, f16944, z16942, rfl, ⟨by omega, by omega⟩⟩
  · refine wp_of e62 c62_9 (rw_aload_n (pc' := 10) (v := .ref r0) rfl rfl rfl ?_)
    refine wp_of e62 c62_10 (rw_iconst (pc' := 11) rfl ?_)
    refine wp_of e62 c62_11 (xc_V (pc' := 14) (r := r0) (as := [vI 1]) (st := []) (lm_0_145) rfl rfl (Nat.le_of_ble_eq_true rfl) hW g0 sh_1 (by decide) rfl (by decide) (s_63 hW g0 ⟨by omega, by omega⟩) (fun R16945 T16946 H16947 p16948 => ?_))
    obtain ⟨e16949, w16951, f16952, z16953, e16950, b16954⟩ := p16948
    subst e16949
    subst e16950
    have f16955 := f0.tr f16952 rfl
    show wp _ _ 62 14 [(0, .ref r0), (1, vI a1), (2, vI a2)] [vI z16953] _ H16947 _
    exact wp_zreturn e62 c62_14 rfl (by omega) ⟨rfl, w16951, f16955, z16953, rfl, ⟨by omega, by omega⟩⟩
/-! StrikeAwake.said(I)I -/
theorem e65 : wq_en 65 = some (0, 2, false, some FieldType.int) := rfl
theorem c65_0 : mc_cd 65 0 = some (.aload_n 0, 1) := by decide +kernel
theorem c65_1 : mc_cd 65 1 = some (.iload_n 1, 1) := by decide +kernel
theorem c65_2 : mc_cd 65 2 = some (.invokevirtual 105, 3) := by decide +kernel
theorem c65_5 : mc_cd 65 5 = some (.ifCond .eq 18, 3) := by decide +kernel
theorem c65_8 : mc_cd 65 8 = some (.aload_n 0, 1) := by decide +kernel
theorem c65_9 : mc_cd 65 9 = some (.getfield 51, 3) := by decide +kernel
theorem c65_12 : mc_cd 65 12 = some (.getfield 109, 3) := by decide +kernel
theorem c65_15 : mc_cd 65 15 = some (.iload_n 1, 1) := by decide +kernel
theorem c65_16 : mc_cd 65 16 = some (.aaload, 1) := by decide +kernel
theorem c65_17 : mc_cd 65 17 = some (.getfield 113, 3) := by decide +kernel
theorem c65_20 : mc_cd 65 20 = some (.ifCond .ne 9, 3) := by decide +kernel
theorem c65_23 : mc_cd 65 23 = some (.aload_n 0, 1) := by decide +kernel
theorem c65_24 : mc_cd 65 24 = some (.iconst 1, 1) := by decide +kernel
theorem c65_25 : mc_cd 65 25 = some (.invokevirtual 70, 3) := by decide +kernel
theorem c65_28 : mc_cd 65 28 = some (.ireturn, 1) := by decide +kernel
theorem c65_29 : mc_cd 65 29 = some (.aload_n 0, 1) := by decide +kernel
theorem c65_30 : mc_cd 65 30 = some (.aload_n 0, 1) := by decide +kernel
theorem c65_31 : mc_cd 65 31 = some (.getfield 51, 3) := by decide +kernel
theorem c65_34 : mc_cd 65 34 = some (.getfield 109, 3) := by decide +kernel
theorem c65_37 : mc_cd 65 37 = some (.iload_n 1, 1) := by decide +kernel
theorem c65_38 : mc_cd 65 38 = some (.aaload, 1) := by decide +kernel
theorem c65_39 : mc_cd 65 39 = some (.getfield 148, 3) := by decide +kernel
theorem c65_42 : mc_cd 65 42 = some (.invokevirtual 99, 3) := by decide +kernel
theorem c65_45 : mc_cd 65 45 = some (.ireturn, 1) := by decide +kernel
abbrev q_65 (r0 : Nat) (a1 : Int) (T : wq_T) (H : wq_H) : Option Value → wq_T → wq_H → Prop := fun r T' H' => T = T' ∧ WT T H' ∧ wfr [(1, 10)] T H H' ∧ ∃ z : Int, some (vI z) = r ∧ ((-2147483648) ≤ z ∧ z ≤ 2147483647)
set_option maxHeartbeats 4000000 in
theorem s_65 {kt : Nat → Option mc_E} {T : wq_T} {H : wq_H} {r0 : Nat} {a1 : Int} (hW : WT T H) (g0 : T.2.2.2 r0 = some 1) (i1 : (-2147483648) ≤ a1 ∧ a1 ≤ 2147483647) : wpc kt 2 65 [.ref r0, vI a1] T H (q_65 r0 a1 T H) := by
  refine wp_enter e65 (Nat.le_of_ble_eq_true rfl) rfl ?_
  have f0 : wfr [(1, 10)] T H H := wfr.rf
  show wp _ _ 65 0 [(0, .ref r0), (1, vI a1)] [] _ H _
  refine wp_of e65 c65_0 (rw_aload_n (pc' := 1) (v := .ref r0) rfl rfl rfl ?_)
  refine wp_of e65 c65_1 (rw_iload_n (pc' := 2) (z := a1) rfl rfl ?_)
  refine wp_of e65 c65_2 (xc_V (pc' := 5) (r := r0) (as := [vI a1]) (st := []) (lm_0_105) rfl rfl (Nat.le_of_ble_eq_true rfl) hW g0 sh_1 (by decide) rfl (by decide) (s_55 hW g0 ⟨by omega, by omega⟩) (fun R17014 T17015 H17016 p17017 => ?_))
  obtain ⟨e17018, e17020, z17022, e17019, b17023, p17021⟩ := p17017
  subst e17018
  subst e17019
  subst e17020
  show wp _ _ 65 5 [(0, .ref r0), (1, vI a1)] [vI z17022] _ H _
  refine wp_of e65 c65_5 (rw_if_eq (p1 := 23) (p2 := 8) (by decide) rfl ⟨by omega, by omega⟩ (fun c17024 => ?_) (fun c17024 => ?_))
  · refine wp_of e65 c65_23 (rw_aload_n (pc' := 24) (v := .ref r0) rfl rfl rfl ?_)
    refine wp_of e65 c65_24 (rw_iconst (pc' := 25) rfl ?_)
    refine wp_of e65 c65_25 (xc_V (pc' := 28) (r := r0) (as := [vI 1]) (st := []) (lm_0_70) rfl rfl (Nat.le_of_ble_eq_true rfl) hW g0 sh_1 (by decide) rfl (by decide) (s_12 hW g0 ⟨by omega, by omega⟩) (fun R17025 T17026 H17027 p17028 => ?_))
    obtain ⟨e17029, w17031, f17032, z17033, e17030, b17034⟩ := p17028
    subst e17029
    subst e17030
    have f17035 := f0.tr f17032 rfl
    show wp _ _ 65 28 [(0, .ref r0), (1, vI a1)] [vI z17033] _ H17027 _
    exact wp_ireturn e65 c65_28 rfl ⟨rfl, w17031, f17035, z17033, rfl, ⟨by omega, by omega⟩⟩
  · refine wp_of e65 c65_8 (rw_aload_n (pc' := 9) (v := .ref r0) rfl rfl rfl ?_)
    refine wp_of e65 c65_9 (xg_R (pc' := 12) lf_0_51 hW g0 sh_1 (by decide) (by decide) ty_1_6 rfl rfl (fun r17036 q17037 g17038 => ?_))
    refine wp_of e65 c65_12 (xg_R (pc' := 15) lf_0_109 hW g17038 sh_27 (by decide) (by decide) ty_27_0 rfl rfl (fun r17039 q17040 g17041 => ?_))
    refine wp_of e65 c65_15 (rw_iload_n (pc' := 16) (z := a1) rfl rfl ?_)
    refine wp_of e65 c65_16 (xa_R (pc' := 17) (by decide) hW g17041 sh_28 (by decide) (ty_28 _) (by omega) (by omega) rfl (fun r17042 q17043 g17044 => ?_))
    refine wp_of e65 c65_17 (xg_I (pc' := 20) lf_0_113 hW g17044 sh_35 (by decide) (by decide) ty_35_15 rfl rfl (fun b17045 b17046 => ?_))
    refine wp_of e65 c65_20 (rw_if_ne (p1 := 29) (p2 := 23) (by decide) rfl ⟨by omega, by omega⟩ (fun c17047 => ?_) (fun c17047 => ?_))
    · refine wp_of e65 c65_29 (rw_aload_n (pc' := 30) (v := .ref r0) rfl rfl rfl ?_)
      refine wp_of e65 c65_30 (rw_aload_n (pc' := 31) (v := .ref r0) rfl rfl rfl ?_)
      refine wp_of e65 c65_31 (xg_K (pc' := 34) lf_0_51 hW g0 sh_1 (by decide) (by decide) rfl q17037 rfl ?_)
      refine wp_of e65 c65_34 (xg_K (pc' := 37) lf_0_109 hW g17038 sh_27 (by decide) (by decide) rfl q17040 rfl ?_)
      refine wp_of e65 c65_37 (rw_iload_n (pc' := 38) (z := a1) rfl rfl ?_)
      refine wp_of e65 c65_38 (xa_K (pc' := 39) (by decide) hW g17041 sh_28 (by decide) (by omega) (by omega) q17043 rfl ?_)
      refine wp_of e65 c65_39 (xg_I (pc' := 42) lf_0_148 hW g17044 sh_35 (by decide) (by decide) ty_35_16 rfl rfl (fun b17048 b17049 => ?_))
      refine wp_of e65 c65_42 (xc_V (pc' := 45) (r := r0) (as := [vI (H r17042 16)]) (st := []) (lm_0_99) rfl rfl (Nat.le_of_ble_eq_true rfl) hW g0 sh_1 (by decide) rfl (by decide) (s_51 hW g0 ⟨by omega, by omega⟩) (fun R17050 T17051 H17052 p17053 => ?_))
      obtain ⟨e17054, w17056, f17057, z17058, e17055, b17059⟩ := p17053
      subst e17054
      subst e17055
      have f17060 := f0.tr f17057 rfl
      show wp _ _ 65 45 [(0, .ref r0), (1, vI a1)] [vI z17058] _ H17052 _
      exact wp_ireturn e65 c65_45 rfl ⟨rfl, w17056, f17060, z17058, rfl, ⟨by omega, by omega⟩⟩
    · refine wp_of e65 c65_23 (rw_aload_n (pc' := 24) (v := .ref r0) rfl rfl rfl ?_)
      refine wp_of e65 c65_24 (rw_iconst (pc' := 25) rfl ?_)
      refine wp_of e65 c65_25 (xc_V (pc' := 28) (r := r0) (as := [vI 1]) (st := []) (lm_0_70) rfl rfl (Nat.le_of_ble_eq_true rfl) hW g0 sh_1 (by decide) rfl (by decide) (s_12 hW g0 ⟨by omega, by omega⟩) (fun R17061 T17062 H17063 p17064 => ?_))
      obtain ⟨e17065, w17067, f17068, z17069, e17066, b17070⟩ := p17064
      subst e17065
      subst e17066
      have f17071 := f0.tr f17068 rfl
      show wp _ _ 65 28 [(0, .ref r0), (1, vI a1)] [vI z17069] _ H17063 _
      exact wp_ireturn e65 c65_28 rfl ⟨rfl, w17067, f17071, z17069, rfl, ⟨by omega, by omega⟩⟩
/-! StrikeAwake$Walk.countBirths(LStrikeAwake$Parish;)V -/
theorem e69 : wq_en 69 = some (3, 4, false, none) := rfl
theorem c69_0 : mc_cd 69 0 = some (.aload_n 0, 1) := by decide +kernel
theorem c69_1 : mc_cd 69 1 = some (.aload_n 1, 1) := by decide +kernel
theorem c69_2 : mc_cd 69 2 = some (.getfield 36, 3) := by decide +kernel
theorem c69_5 : mc_cd 69 5 = some (.putfield 51, 3) := by decide +kernel
theorem c69_8 : mc_cd 69 8 = some (.aload_n 0, 1) := by decide +kernel
theorem c69_9 : mc_cd 69 9 = some (.getfield 15, 3) := by decide +kernel
theorem c69_12 : mc_cd 69 12 = some (.iconst 0, 1) := by decide +kernel
theorem c69_13 : mc_cd 69 13 = some (.lconst 0, 1) := by decide +kernel
theorem c69_14 : mc_cd 69 14 = some (.lastore, 1) := by decide +kernel
theorem c69_15 : mc_cd 69 15 = some (.aload_n 0, 1) := by decide +kernel
theorem c69_16 : mc_cd 69 16 = some (.getfield 19, 3) := by decide +kernel
theorem c69_19 : mc_cd 69 19 = some (.iconst 0, 1) := by decide +kernel
theorem c69_20 : mc_cd 69 20 = some (.lconst 0, 1) := by decide +kernel
theorem c69_21 : mc_cd 69 21 = some (.lastore, 1) := by decide +kernel
theorem c69_22 : mc_cd 69 22 = some (.aload_n 0, 1) := by decide +kernel
theorem c69_23 : mc_cd 69 23 = some (.getfield 22, 3) := by decide +kernel
theorem c69_26 : mc_cd 69 26 = some (.iconst 0, 1) := by decide +kernel
theorem c69_27 : mc_cd 69 27 = some (.iconst 0, 1) := by decide +kernel
theorem c69_28 : mc_cd 69 28 = some (.iastore, 1) := by decide +kernel
theorem c69_29 : mc_cd 69 29 = some (.iconst 0, 1) := by decide +kernel
theorem c69_30 : mc_cd 69 30 = some (.istore_n 2, 1) := by decide +kernel
theorem c69_31 : mc_cd 69 31 = some (.iload_n 2, 1) := by decide +kernel
theorem c69_32 : mc_cd 69 32 = some (.aload_n 1, 1) := by decide +kernel
theorem c69_33 : mc_cd 69 33 = some (.getfield 55, 3) := by decide +kernel
theorem c69_36 : mc_cd 69 36 = some (.if_icmp .ge 60, 3) := by decide +kernel
theorem c69_39 : mc_cd 69 39 = some (.aload_n 1, 1) := by decide +kernel
theorem c69_40 : mc_cd 69 40 = some (.getfield 58, 3) := by decide +kernel
theorem c69_43 : mc_cd 69 43 = some (.iload_n 2, 1) := by decide +kernel
theorem c69_44 : mc_cd 69 44 = some (.iaload, 1) := by decide +kernel
theorem c69_45 : mc_cd 69 45 = some (.bipush 24, 2) := by decide +kernel
theorem c69_47 : mc_cd 69 47 = some (.invokestatic 61, 3) := by decide +kernel
theorem c69_50 : mc_cd 69 50 = some (.istore_n 3, 1) := by decide +kernel
theorem c69_51 : mc_cd 69 51 = some (.aload_n 0, 1) := by decide +kernel
theorem c69_52 : mc_cd 69 52 = some (.getfield 15, 3) := by decide +kernel
theorem c69_55 : mc_cd 69 55 = some (.iconst 0, 1) := by decide +kernel
theorem c69_56 : mc_cd 69 56 = some (.dup2, 1) := by decide +kernel
theorem c69_57 : mc_cd 69 57 = some (.laload, 1) := by decide +kernel
theorem c69_58 : mc_cd 69 58 = some (.iload_n 3, 1) := by decide +kernel
theorem c69_59 : mc_cd 69 59 = some (.invokestatic 65, 3) := by decide +kernel
theorem c69_62 : mc_cd 69 62 = some (.ladd, 1) := by decide +kernel
theorem c69_63 : mc_cd 69 63 = some (.lastore, 1) := by decide +kernel
theorem c69_64 : mc_cd 69 64 = some (.aload_n 0, 1) := by decide +kernel
theorem c69_65 : mc_cd 69 65 = some (.getfield 19, 3) := by decide +kernel
theorem c69_68 : mc_cd 69 68 = some (.iconst 0, 1) := by decide +kernel
theorem c69_69 : mc_cd 69 69 = some (.dup2, 1) := by decide +kernel
theorem c69_70 : mc_cd 69 70 = some (.laload, 1) := by decide +kernel
theorem c69_71 : mc_cd 69 71 = some (.iload_n 3, 1) := by decide +kernel
theorem c69_72 : mc_cd 69 72 = some (.bipush 12, 2) := by decide +kernel
theorem c69_74 : mc_cd 69 74 = some (.ishr, 1) := by decide +kernel
theorem c69_75 : mc_cd 69 75 = some (.invokestatic 65, 3) := by decide +kernel
theorem c69_78 : mc_cd 69 78 = some (.ladd, 1) := by decide +kernel
theorem c69_79 : mc_cd 69 79 = some (.lastore, 1) := by decide +kernel
theorem c69_80 : mc_cd 69 80 = some (.aload_n 0, 1) := by decide +kernel
theorem c69_81 : mc_cd 69 81 = some (.getfield 22, 3) := by decide +kernel
theorem c69_84 : mc_cd 69 84 = some (.iconst 0, 1) := by decide +kernel
theorem c69_85 : mc_cd 69 85 = some (.dup2, 1) := by decide +kernel
theorem c69_86 : mc_cd 69 86 = some (.iaload, 1) := by decide +kernel
theorem c69_87 : mc_cd 69 87 = some (.iload_n 3, 1) := by decide +kernel
theorem c69_88 : mc_cd 69 88 = some (.ior, 1) := by decide +kernel
theorem c69_89 : mc_cd 69 89 = some (.iastore, 1) := by decide +kernel
theorem c69_90 : mc_cd 69 90 = some (.iinc 2 1, 3) := by decide +kernel
theorem c69_93 : mc_cd 69 93 = some (.goto (-62), 3) := by decide +kernel
theorem c69_96 : mc_cd 69 96 = some (.return_, 1) := by decide +kernel
abbrev q_69 (r0 : Nat) (r1 : Nat) (T : wq_T) (H : wq_H) : Option Value → wq_T → wq_H → Prop := fun r T' H' => T = T' ∧ WT T H' ∧ wfr [(6, 5), (8, 999), (10, 999), (9, 999)] T H H' ∧ none = r
set_option maxHeartbeats 4000000 in
theorem s_69 {kt : Nat → Option mc_E} {T : wq_T} {H : wq_H} {r0 : Nat} {r1 : Nat} (hW : WT T H) (g0 : T.2.2.2 r0 = some 6) (g1 : T.2.2.2 r1 = some 27) : wpc kt 2 69 [.ref r0, .ref r1] T H (q_69 r0 r1 T H) := by
  refine wp_enter e69 (Nat.le_of_ble_eq_true rfl) rfl ?_
  have f0 : wfr [(6, 5), (8, 999), (10, 999), (9, 999)] T H H := wfr.rf
  show wp _ _ 69 0 [(0, .ref r0), (1, .ref r1)] [] _ H _
  refine wp_of e69 c69_0 (rw_aload_n (pc' := 1) (v := .ref r0) rfl rfl rfl ?_)
  refine wp_of e69 c69_1 (rw_aload_n (pc' := 2) (v := .ref r1) rfl rfl rfl ?_)
  refine wp_of e69 c69_2 (xg_I (pc' := 5) lf_3_36 hW g1 sh_27 (by decide) (by decide) ty_27_10 rfl rfl (fun b17436 b17437 => ?_))
  refine wp_of e69 c69_5 (xp_I (pc' := 8) lf_3_51 hW g0 sh_6 (by decide) (by decide) ty_6_5 rfl rfl (by omega) (by omega) ⟨by omega, by omega⟩ rfl (fun H17438 e17439 w17440 => ?_))
  have f17441 := f0.put' e17439 g0 rfl
  have k17442 : H17438 r0 5 = H r1 10 := wq_u_s e17439
  refine wp_of e69 c69_8 (rw_aload_n (pc' := 9) (v := .ref r0) rfl rfl rfl ?_)
  refine wp_of e69 c69_9 (xg_R (pc' := 12) lf_3_15 w17440 g0 sh_6 (by decide) (by decide) ty_6_1 rfl rfl (fun r17443 q17444 g17445 => ?_))
  refine wp_of e69 c69_12 (rw_iconst (pc' := 13) rfl ?_)
  refine wp_of e69 c69_13 (rw_lconst (pc' := 14) (z := 0) rfl rfl ?_)
  refine wp_of e69 c69_14 (xs_L (pc' := 15) w17440 g17445 (by decide) sh_8 (by decide) (ty_8 _) (by omega) (by omega) ⟨by omega, by omega⟩ (by omega) (by omega) rfl (fun H17446 e17447 w17448 => ?_))
  have f17449 := f17441.put' e17447 g17445 rfl
  refine wp_of e69 c69_15 (rw_aload_n (pc' := 16) (v := .ref r0) rfl rfl rfl ?_)
  refine wp_of e69 c69_16 (xg_R (pc' := 19) lf_3_19 w17448 g0 sh_6 (by decide) (by decide) ty_6_2 rfl rfl (fun r17450 q17451 g17452 => ?_))
  refine wp_of e69 c69_19 (rw_iconst (pc' := 20) rfl ?_)
  refine wp_of e69 c69_20 (rw_lconst (pc' := 21) (z := 0) rfl rfl ?_)
  refine wp_of e69 c69_21 (xs_L (pc' := 22) w17448 g17452 (by decide) sh_9 (by decide) (ty_9 _) (by omega) (by omega) ⟨by omega, by omega⟩ (by omega) (by omega) rfl (fun H17453 e17454 w17455 => ?_))
  have f17456 := f17449.put' e17454 g17452 rfl
  refine wp_of e69 c69_22 (rw_aload_n (pc' := 23) (v := .ref r0) rfl rfl rfl ?_)
  refine wp_of e69 c69_23 (xg_R (pc' := 26) lf_3_22 w17455 g0 sh_6 (by decide) (by decide) ty_6_3 rfl rfl (fun r17457 q17458 g17459 => ?_))
  refine wp_of e69 c69_26 (rw_iconst (pc' := 27) rfl ?_)
  refine wp_of e69 c69_27 (rw_iconst (pc' := 28) rfl ?_)
  refine wp_of e69 c69_28 (xs_I (pc' := 29) w17455 g17459 (by decide) sh_10 (by decide) (ty_10 _) (by omega) (by omega) ⟨by omega, by omega⟩ (by omega) (by omega) rfl (fun H17460 e17461 w17462 => ?_))
  have f17463 := f17456.put' e17461 g17459 rfl
  refine wp_of e69 c69_29 (rw_iconst (pc' := 30) rfl ?_)
  refine wp_of e69 c69_30 (rw_istore_n (pc' := 31) (z := 0) (L' := [(2, vI 0), (0, .ref r0), (1, .ref r1)]) rfl rfl rfl ?_)
  have lp17732 : ∀ (n17733 : Nat) (v17735 : Int) (H17736 : wq_H), WT T H17736 → wfr [(8, 999), (10, 999), (9, 999)] T H17460 H17736 → (0 ≤ v17735 ∧ v17735 ≤ 3) → (3 - v17735).toNat = n17733 → wp kt 1 69 31 [(2, vI v17735), (0, .ref r0), (1, .ref r1)] [] T H17736 (q_69 r0 r1 T H) := by
    intro n17733
    induction n17733 using Nat.strongRecOn with
    | _ n17733 ih17734 =>
      intro v17735 H17736 w17737 f17738 b17739 m17740
      have f17741 := f17463.tr f17738 rfl
      refine wp_of e69 c69_31 (rw_iload_n (pc' := 32) (z := v17735) rfl rfl ?_)
      refine wp_of e69 c69_32 (rw_aload_n (pc' := 33) (v := .ref r1) rfl rfl rfl ?_)
      refine wp_of e69 c69_33 (xg_I (pc' := 36) lf_3_55 w17737 g1 sh_27 (by decide) (by decide) ty_27_12 rfl rfl (fun b17742 b17743 => ?_))
      refine wp_of e69 c69_36 (rw_icmp_ge (p1 := 96) (p2 := 39) (by decide) rfl ⟨by omega, by omega⟩ ⟨by omega, by omega⟩ (fun c17744 => ?_) (fun c17744 => ?_))
      · exact wp_return e69 c69_96 rfl ⟨rfl, w17737, f17741, rfl⟩
      · refine wp_of e69 c69_39 (rw_aload_n (pc' := 40) (v := .ref r1) rfl rfl rfl ?_)
        refine wp_of e69 c69_40 (xg_R (pc' := 43) lf_3_58 w17737 g1 sh_27 (by decide) (by decide) ty_27_3 rfl rfl (fun r17745 q17746 g17747 => ?_))
        refine wp_of e69 c69_43 (rw_iload_n (pc' := 44) (z := v17735) rfl rfl ?_)
        refine wp_of e69 c69_44 (xa_I (so := 0) (pc' := 45) w17737 g17747 sh_31 (by decide) (ty_31 _) (by omega) (by omega) rfl (fun b17748 b17749 => ?_))
        refine wp_of e69 c69_45 (rw_bipush (pc' := 47) (z := 24) rfl (by decide) ?_)
        refine wp_of e69 c69_47 (xc_S (pc' := 50) (as := [vI (H17736 r17745 (v17735.toNat)), vI 24]) (st := []) (lm_3_61) rfl rfl (Nat.le_of_ble_eq_true rfl) rfl (by decide) (s_31 w17737 ⟨by omega, by omega⟩ ⟨by omega, by omega⟩) (fun R17750 T17751 H17752 p17753 => ?_))
        obtain ⟨e17754, e17756, z17757, e17755, b17758⟩ := p17753
        subst e17754
        subst e17755
        subst e17756
        show wp _ _ 69 50 [(2, vI v17735), (0, .ref r0), (1, .ref r1)] [vI z17757] _ H17736 _
        refine wp_of e69 c69_50 (rw_istore_n (pc' := 51) (z := z17757) (L' := [(3, vI z17757), (2, vI v17735), (0, .ref r0), (1, .ref r1)]) rfl rfl rfl ?_)
        refine wp_of e69 c69_51 (rw_aload_n (pc' := 52) (v := .ref r0) rfl rfl rfl ?_)
        have k17759 : H17736 r0 1 = H17438 r0 1 := ((f17738 r0 1 _ g0 rfl).trans ((wq_u_t e17461 g17459 g0 rfl 1).trans ((wq_u_t e17454 g17452 g0 rfl 1).trans (wq_u_t e17447 g17445 g0 rfl 1))))
        have q17760 : H17736 r0 1 = (r17443 : Int) := k17759.trans q17444
        refine wp_of e69 c69_52 (xg_K (pc' := 55) lf_3_15 w17737 g0 sh_6 (by decide) (by decide) rfl q17760 rfl ?_)
        refine wp_of e69 c69_55 (rw_iconst (pc' := 56) rfl ?_)
        refine wp_of e69 c69_56 (rw_dup2 (pc' := 57) rfl rfl rfl ?_)
        refine wp_of e69 c69_57 (xa_L (pc' := 58) w17737 g17445 sh_8 (by decide) (ty_8 _) (by omega) (by omega) rfl (fun b17761 b17762 => ?_))
        refine wp_of e69 c69_58 (rw_iload_n (pc' := 59) (z := z17757) rfl rfl ?_)
        refine wp_of e69 c69_59 (xc_S (pc' := 62) (as := [vI z17757]) (st := [vL (H17736 r17443 ((0 : Int).toNat)), vI 0, .ref r17443]) (lm_3_65) rfl rfl (Nat.le_of_ble_eq_true rfl) rfl (by decide) (s_49 w17737 ⟨by omega, by omega⟩) (fun R17763 T17764 H17765 p17766 => ?_))
        obtain ⟨e17767, e17769, z17770, e17768, b17771⟩ := p17766
        subst e17767
        subst e17768
        subst e17769
        show wp _ _ 69 62 [(3, vI z17757), (2, vI v17735), (0, .ref r0), (1, .ref r1)] [vL z17770, vL (H17736 r17443 ((0 : Int).toNat)), vI 0, .ref r17443] _ H17736 _
        refine wp_of e69 c69_62 (rw_laddw (pc' := 63) rfl ?_)
        obtain ⟨v17772, e17773⟩ : ∃ x : Int, x = wl_w ((H17736 r17443 ((0 : Int).toNat)) + z17770) := ⟨_, rfl⟩
        rw [← e17773]
        have b17774 : -9223372036854775808 ≤ v17772 ∧ v17772 ≤ 9223372036854775807 := by
          rw [e17773]
          exact wL_w _
        refine wp_of e69 c69_63 (xs_L (pc' := 64) w17737 g17445 (by decide) sh_8 (by decide) (ty_8 _) (by omega) (by omega) ⟨by omega, by omega⟩ (by omega) (by omega) rfl (fun H17775 e17776 w17777 => ?_))
        have f17778 := f17741.put' e17776 g17445 rfl
        have f17779 := f17738.put' e17776 g17445 rfl
        refine wp_of e69 c69_64 (rw_aload_n (pc' := 65) (v := .ref r0) rfl rfl rfl ?_)
        have k17780 : H17775 r0 2 = H17446 r0 2 := ((wq_u_t e17776 g17445 g0 rfl 2).trans ((f17738 r0 2 _ g0 rfl).trans ((wq_u_t e17461 g17459 g0 rfl 2).trans (wq_u_t e17454 g17452 g0 rfl 2))))
        have q17781 : H17775 r0 2 = (r17450 : Int) := k17780.trans q17451
        refine wp_of e69 c69_65 (xg_K (pc' := 68) lf_3_19 w17777 g0 sh_6 (by decide) (by decide) rfl q17781 rfl ?_)
        refine wp_of e69 c69_68 (rw_iconst (pc' := 69) rfl ?_)
        refine wp_of e69 c69_69 (rw_dup2 (pc' := 70) rfl rfl rfl ?_)
        refine wp_of e69 c69_70 (xa_L (pc' := 71) w17777 g17452 sh_9 (by decide) (ty_9 _) (by omega) (by omega) rfl (fun b17782 b17783 => ?_))
        refine wp_of e69 c69_71 (rw_iload_n (pc' := 72) (z := z17757) rfl rfl ?_)
        refine wp_of e69 c69_72 (rw_bipush (pc' := 74) (z := 12) rfl (by decide) ?_)
        refine wp_of e69 c69_74 (rw_ishr (pc' := 75) rfl ?_)
        obtain ⟨v17784, e17785⟩ : ∃ x : Int, x = wq_shr z17757 12 := ⟨_, rfl⟩
        rw [← e17785]
        have b17786 : -2147483648 ≤ v17784 ∧ v17784 ≤ 2147483647 := by
          rw [e17785]
          exact wI_shr _ _
        refine wp_of e69 c69_75 (xc_S (pc' := 78) (as := [vI v17784]) (st := [vL (H17775 r17450 ((0 : Int).toNat)), vI 0, .ref r17450]) (lm_3_65) rfl rfl (Nat.le_of_ble_eq_true rfl) rfl (by decide) (s_49 w17777 ⟨by omega, by omega⟩) (fun R17787 T17788 H17789 p17790 => ?_))
        obtain ⟨e17791, e17793, z17794, e17792, b17795⟩ := p17790
        subst e17791
        subst e17792
        subst e17793
        show wp _ _ 69 78 [(3, vI z17757), (2, vI v17735), (0, .ref r0), (1, .ref r1)] [vL z17794, vL (H17775 r17450 ((0 : Int).toNat)), vI 0, .ref r17450] _ H17775 _
        refine wp_of e69 c69_78 (rw_laddw (pc' := 79) rfl ?_)
        obtain ⟨v17796, e17797⟩ : ∃ x : Int, x = wl_w ((H17775 r17450 ((0 : Int).toNat)) + z17794) := ⟨_, rfl⟩
        rw [← e17797]
        have b17798 : -9223372036854775808 ≤ v17796 ∧ v17796 ≤ 9223372036854775807 := by
          rw [e17797]
          exact wL_w _
        refine wp_of e69 c69_79 (xs_L (pc' := 80) w17777 g17452 (by decide) sh_9 (by decide) (ty_9 _) (by omega) (by omega) ⟨by omega, by omega⟩ (by omega) (by omega) rfl (fun H17799 e17800 w17801 => ?_))
        have f17802 := f17778.put' e17800 g17452 rfl
        have f17803 := f17779.put' e17800 g17452 rfl
        refine wp_of e69 c69_80 (rw_aload_n (pc' := 81) (v := .ref r0) rfl rfl rfl ?_)
        have k17804 : H17799 r0 3 = H17453 r0 3 := ((wq_u_t e17800 g17452 g0 rfl 3).trans ((wq_u_t e17776 g17445 g0 rfl 3).trans ((f17738 r0 3 _ g0 rfl).trans (wq_u_t e17461 g17459 g0 rfl 3))))
        have q17805 : H17799 r0 3 = (r17457 : Int) := k17804.trans q17458
        refine wp_of e69 c69_81 (xg_K (pc' := 84) lf_3_22 w17801 g0 sh_6 (by decide) (by decide) rfl q17805 rfl ?_)
        refine wp_of e69 c69_84 (rw_iconst (pc' := 85) rfl ?_)
        refine wp_of e69 c69_85 (rw_dup2 (pc' := 86) rfl rfl rfl ?_)
        refine wp_of e69 c69_86 (xa_I (so := 0) (pc' := 87) w17801 g17459 sh_10 (by decide) (ty_10 _) (by omega) (by omega) rfl (fun b17806 b17807 => ?_))
        refine wp_of e69 c69_87 (rw_iload_n (pc' := 88) (z := z17757) rfl rfl ?_)
        refine wp_of e69 c69_88 (rw_ior (pc' := 89) rfl ?_)
        obtain ⟨v17808, e17809⟩ : ∃ x : Int, x = wq_or (H17799 r17457 ((0 : Int).toNat)) z17757 := ⟨_, rfl⟩
        rw [← e17809]
        have b17810 : -2147483648 ≤ v17808 ∧ v17808 ≤ 2147483647 := by
          rw [e17809]
          exact wI_or _ _
        refine wp_of e69 c69_89 (xs_I (pc' := 90) w17801 g17459 (by decide) sh_10 (by decide) (ty_10 _) (by omega) (by omega) ⟨by omega, by omega⟩ (by omega) (by omega) rfl (fun H17811 e17812 w17813 => ?_))
        have f17814 := f17802.put' e17812 g17459 rfl
        have f17815 := f17803.put' e17812 g17459 rfl
        refine wp_of e69 c69_90 (rw_iinc (pc' := 93) (z := v17735) (L' := [(2, vI (v17735 + 1)), (3, vI z17757), (0, .ref r0), (1, .ref r1)]) rfl rfl rfl rfl ?_)
        refine wp_of e69 c69_93 (rw_goto (p1 := 31) (by decide) ?_)
        exact wp_lc (ks := [2, 3, 0, 1]) (wl_c rfl (wl_c rfl (wl_c rfl wl_n))) rfl (by decide) (ih17734 _ (by omega) (v17735 + 1) H17811 w17813 f17815 ⟨by omega, by omega⟩ rfl)
  exact wp_lc (ks := [2, 0, 1]) (wl_c rfl (wl_c rfl (wl_c rfl wl_n))) rfl (by decide) (lp17732 _ 0 H17460 w17462 wfr.rf ⟨by omega, by omega⟩ rfl)
/-! StrikeAwake$Walk.quarrelsOf(LStrikeAwake$Parish;I)I -/
theorem e71 : wq_en 71 = some (3, 7, false, some FieldType.int) := rfl
theorem c71_0 : mc_cd 71 0 = some (.aload_n 1, 1) := by decide +kernel
theorem c71_1 : mc_cd 71 1 = some (.getfield 42, 3) := by decide +kernel
theorem c71_4 : mc_cd 71 4 = some (.iload_n 2, 1) := by decide +kernel
theorem c71_5 : mc_cd 71 5 = some (.aaload, 1) := by decide +kernel
theorem c71_6 : mc_cd 71 6 = some (.getfield 82, 3) := by decide +kernel
theorem c71_9 : mc_cd 71 9 = some (.istore_n 3, 1) := by decide +kernel
theorem c71_10 : mc_cd 71 10 = some (.aload_n 1, 1) := by decide +kernel
theorem c71_11 : mc_cd 71 11 = some (.getfield 42, 3) := by decide +kernel
theorem c71_14 : mc_cd 71 14 = some (.iload_n 2, 1) := by decide +kernel
theorem c71_15 : mc_cd 71 15 = some (.aaload, 1) := by decide +kernel
theorem c71_16 : mc_cd 71 16 = some (.getfield 85, 3) := by decide +kernel
theorem c71_19 : mc_cd 71 19 = some (.aload_n 0, 1) := by decide +kernel
theorem c71_20 : mc_cd 71 20 = some (.getfield 9, 3) := by decide +kernel
theorem c71_23 : mc_cd 71 23 = some (.iload_n 2, 1) := by decide +kernel
theorem c71_24 : mc_cd 71 24 = some (.iaload, 1) := by decide +kernel
theorem c71_25 : mc_cd 71 25 = some (.iaload, 1) := by decide +kernel
theorem c71_26 : mc_cd 71 26 = some (.istore 4, 2) := by decide +kernel
theorem c71_28 : mc_cd 71 28 = some (.iconst 0, 1) := by decide +kernel
theorem c71_29 : mc_cd 71 29 = some (.istore 5, 2) := by decide +kernel
theorem c71_31 : mc_cd 71 31 = some (.iconst 0, 1) := by decide +kernel
theorem c71_32 : mc_cd 71 32 = some (.istore 6, 2) := by decide +kernel
theorem c71_34 : mc_cd 71 34 = some (.iload 6, 2) := by decide +kernel
theorem c71_36 : mc_cd 71 36 = some (.iload_n 2, 1) := by decide +kernel
theorem c71_37 : mc_cd 71 37 = some (.if_icmp .ge 48, 3) := by decide +kernel
theorem c71_40 : mc_cd 71 40 = some (.iload_n 3, 1) := by decide +kernel
theorem c71_41 : mc_cd 71 41 = some (.ifCond .eq 44, 3) := by decide +kernel
theorem c71_44 : mc_cd 71 44 = some (.iload_n 3, 1) := by decide +kernel
theorem c71_45 : mc_cd 71 45 = some (.iload 6, 2) := by decide +kernel
theorem c71_47 : mc_cd 71 47 = some (.ishr, 1) := by decide +kernel
theorem c71_48 : mc_cd 71 48 = some (.iconst 1, 1) := by decide +kernel
theorem c71_49 : mc_cd 71 49 = some (.iand, 1) := by decide +kernel
theorem c71_50 : mc_cd 71 50 = some (.ifCond .eq 29, 3) := by decide +kernel
theorem c71_53 : mc_cd 71 53 = some (.iload 5, 2) := by decide +kernel
theorem c71_55 : mc_cd 71 55 = some (.iload 4, 2) := by decide +kernel
theorem c71_57 : mc_cd 71 57 = some (.aload_n 1, 1) := by decide +kernel
theorem c71_58 : mc_cd 71 58 = some (.getfield 42, 3) := by decide +kernel
theorem c71_61 : mc_cd 71 61 = some (.iload 6, 2) := by decide +kernel
theorem c71_63 : mc_cd 71 63 = some (.aaload, 1) := by decide +kernel
theorem c71_64 : mc_cd 71 64 = some (.getfield 85, 3) := by decide +kernel
theorem c71_67 : mc_cd 71 67 = some (.aload_n 0, 1) := by decide +kernel
theorem c71_68 : mc_cd 71 68 = some (.getfield 9, 3) := by decide +kernel
theorem c71_71 : mc_cd 71 71 = some (.iload 6, 2) := by decide +kernel
theorem c71_73 : mc_cd 71 73 = some (.iaload, 1) := by decide +kernel
theorem c71_74 : mc_cd 71 74 = some (.iaload, 1) := by decide +kernel
theorem c71_75 : mc_cd 71 75 = some (.iand, 1) := by decide +kernel
theorem c71_76 : mc_cd 71 76 = some (.ior, 1) := by decide +kernel
theorem c71_77 : mc_cd 71 77 = some (.istore 5, 2) := by decide +kernel
theorem c71_79 : mc_cd 71 79 = some (.iinc 6 1, 3) := by decide +kernel
theorem c71_82 : mc_cd 71 82 = some (.goto (-48), 3) := by decide +kernel
theorem c71_85 : mc_cd 71 85 = some (.iload 5, 2) := by decide +kernel
theorem c71_87 : mc_cd 71 87 = some (.ireturn, 1) := by decide +kernel
abbrev q_71 (r0 : Nat) (r1 : Nat) (a2 : Int) (T : wq_T) (H : wq_H) : Option Value → wq_T → wq_H → Prop := fun r T' H' => T = T' ∧ H = H' ∧ ∃ z : Int, some (vI z) = r ∧ ((-2147483648) ≤ z ∧ z ≤ 2147483647)
set_option maxHeartbeats 4000000 in
theorem s_71 {kt : Nat → Option mc_E} {T : wq_T} {H : wq_H} {r0 : Nat} {r1 : Nat} {a2 : Int} (hW : WT T H) (g0 : T.2.2.2 r0 = some 6) (g1 : T.2.2.2 r1 = some 27) (i2 : 0 ≤ a2 ∧ a2 ≤ 5) : wpc kt 1 71 [.ref r0, .ref r1, vI a2] T H (q_71 r0 r1 a2 T H) := by
  refine wp_enter e71 (Nat.le_of_ble_eq_true rfl) rfl ?_
  show wp _ _ 71 0 [(0, .ref r0), (1, .ref r1), (2, vI a2)] [] _ H _
  refine wp_of e71 c71_0 (rw_aload_n (pc' := 1) (v := .ref r1) rfl rfl rfl ?_)
  refine wp_of e71 c71_1 (xg_R (pc' := 4) lf_3_42 hW g1 sh_27 (by decide) (by decide) ty_27_0 rfl rfl (fun r18006 q18007 g18008 => ?_))
  refine wp_of e71 c71_4 (rw_iload_n (pc' := 5) (z := a2) rfl rfl ?_)
  refine wp_of e71 c71_5 (xa_R (pc' := 6) (by decide) hW g18008 sh_28 (by decide) (ty_28 _) (by omega) (by omega) rfl (fun r18009 q18010 g18011 => ?_))
  refine wp_of e71 c71_6 (xg_I (pc' := 9) lf_3_82 hW g18011 sh_35 (by decide) (by decide) ty_35_14 rfl rfl (fun b18012 b18013 => ?_))
  refine wp_of e71 c71_9 (rw_istore_n (pc' := 10) (z := H r18009 14) (L' := [(3, vI (H r18009 14)), (0, .ref r0), (1, .ref r1), (2, vI a2)]) rfl rfl rfl ?_)
  refine wp_of e71 c71_10 (rw_aload_n (pc' := 11) (v := .ref r1) rfl rfl rfl ?_)
  refine wp_of e71 c71_11 (xg_K (pc' := 14) lf_3_42 hW g1 sh_27 (by decide) (by decide) rfl q18007 rfl ?_)
  refine wp_of e71 c71_14 (rw_iload_n (pc' := 15) (z := a2) rfl rfl ?_)
  refine wp_of e71 c71_15 (xa_K (pc' := 16) (by decide) hW g18008 sh_28 (by decide) (by omega) (by omega) q18010 rfl ?_)
  refine wp_of e71 c71_16 (xg_R (pc' := 19) lf_3_85 hW g18011 sh_35 (by decide) (by decide) ty_35_2 rfl rfl (fun r18014 q18015 g18016 => ?_))
  refine wp_of e71 c71_19 (rw_aload_n (pc' := 20) (v := .ref r0) rfl rfl rfl ?_)
  refine wp_of e71 c71_20 (xg_R (pc' := 23) lf_3_9 hW g0 sh_6 (by decide) (by decide) ty_6_0 rfl rfl (fun r18017 q18018 g18019 => ?_))
  refine wp_of e71 c71_23 (rw_iload_n (pc' := 24) (z := a2) rfl rfl ?_)
  refine wp_of e71 c71_24 (xa_I (so := 0) (pc' := 25) hW g18019 sh_7 (by decide) (ty_7 _) (by omega) (by omega) rfl (fun b18020 b18021 => ?_))
  refine wp_of e71 c71_25 (xa_I (so := 0) (pc' := 26) hW g18016 sh_38 (by decide) (ty_38 _) (by omega) (by omega) rfl (fun b18022 b18023 => ?_))
  refine wp_of e71 c71_26 (rw_istore (pc' := 28) (z := H r18014 ((H r18017 (a2.toNat)).toNat)) (L' := [(4, vI (H r18014 ((H r18017 (a2.toNat)).toNat))), (3, vI (H r18009 14)), (0, .ref r0), (1, .ref r1), (2, vI a2)]) rfl rfl rfl ?_)
  refine wp_of e71 c71_28 (rw_iconst (pc' := 29) rfl ?_)
  refine wp_of e71 c71_29 (rw_istore (pc' := 31) (z := 0) (L' := [(5, vI 0), (4, vI (H r18014 ((H r18017 (a2.toNat)).toNat))), (3, vI (H r18009 14)), (0, .ref r0), (1, .ref r1), (2, vI a2)]) rfl rfl rfl ?_)
  refine wp_of e71 c71_31 (rw_iconst (pc' := 32) rfl ?_)
  refine wp_of e71 c71_32 (rw_istore (pc' := 34) (z := 0) (L' := [(6, vI 0), (5, vI 0), (4, vI (H r18014 ((H r18017 (a2.toNat)).toNat))), (3, vI (H r18009 14)), (0, .ref r0), (1, .ref r1), (2, vI a2)]) rfl rfl rfl ?_)
  have lp18174 : ∀ (n18175 : Nat) (v18177 : Int) (v18178 : Int), (0 ≤ v18177 ∧ v18177 ≤ 5) → ((-2147483648) ≤ v18178 ∧ v18178 ≤ 2147483647) → (5 - v18177).toNat = n18175 → wp kt 0 71 34 [(6, vI v18177), (5, vI v18178), (4, vI (H r18014 ((H r18017 (a2.toNat)).toNat))), (3, vI (H r18009 14)), (0, .ref r0), (1, .ref r1), (2, vI a2)] [] T H (q_71 r0 r1 a2 T H) := by
    intro n18175
    induction n18175 using Nat.strongRecOn with
    | _ n18175 ih18176 =>
      intro v18177 v18178 b18181 b18182 m18183
      refine wp_of e71 c71_34 (rw_iload (pc' := 36) (z := v18177) rfl rfl ?_)
      refine wp_of e71 c71_36 (rw_iload_n (pc' := 37) (z := a2) rfl rfl ?_)
      refine wp_of e71 c71_37 (rw_icmp_ge (p1 := 85) (p2 := 40) (by decide) rfl ⟨by omega, by omega⟩ ⟨by omega, by omega⟩ (fun c18184 => ?_) (fun c18184 => ?_))
      · refine wp_of e71 c71_85 (rw_iload (pc' := 87) (z := v18178) rfl rfl ?_)
        exact wp_ireturn e71 c71_87 rfl ⟨rfl, rfl, v18178, rfl, ⟨by omega, by omega⟩⟩
      · refine wp_of e71 c71_40 (rw_iload_n (pc' := 41) (z := H r18009 14) rfl rfl ?_)
        refine wp_of e71 c71_41 (rw_if_eq (p1 := 85) (p2 := 44) (by decide) rfl ⟨by omega, by omega⟩ (fun c18185 => ?_) (fun c18185 => ?_))
        · refine wp_of e71 c71_85 (rw_iload (pc' := 87) (z := v18178) rfl rfl ?_)
          exact wp_ireturn e71 c71_87 rfl ⟨rfl, rfl, v18178, rfl, ⟨by omega, by omega⟩⟩
        · refine wp_of e71 c71_44 (rw_iload_n (pc' := 45) (z := H r18009 14) rfl rfl ?_)
          refine wp_of e71 c71_45 (rw_iload (pc' := 47) (z := v18177) rfl rfl ?_)
          refine wp_of e71 c71_47 (rw_ishr (pc' := 48) rfl ?_)
          obtain ⟨v18186, e18187⟩ : ∃ x : Int, x = wq_shr (H r18009 14) v18177 := ⟨_, rfl⟩
          rw [← e18187]
          have b18188 : -2147483648 ≤ v18186 ∧ v18186 ≤ 2147483647 := by
            rw [e18187]
            exact wI_shr _ _
          refine wp_of e71 c71_48 (rw_iconst (pc' := 49) rfl ?_)
          refine wp_of e71 c71_49 (rw_iand (pc' := 50) rfl ?_)
          obtain ⟨v18189, e18190⟩ : ∃ x : Int, x = wq_and v18186 1 := ⟨_, rfl⟩
          rw [← e18190]
          have b18191 : 0 ≤ v18189 ∧ v18189 ≤ 1 := by
            rw [e18190]
            exact wq_and_b _ (by omega) (by omega)
          refine wp_of e71 c71_50 (rw_if_eq (p1 := 79) (p2 := 53) (by decide) rfl ⟨by omega, by omega⟩ (fun c18192 => ?_) (fun c18192 => ?_))
          · refine wp_of e71 c71_79 (rw_iinc (pc' := 82) (z := v18177) (L' := [(6, vI (v18177 + 1)), (5, vI v18178), (4, vI (H r18014 ((H r18017 (a2.toNat)).toNat))), (3, vI (H r18009 14)), (0, .ref r0), (1, .ref r1), (2, vI a2)]) rfl rfl rfl rfl ?_)
            refine wp_of e71 c71_82 (rw_goto (p1 := 34) (by decide) ?_)
            exact wp_lc (ks := [6, 5, 4, 3, 0, 1, 2]) (wl_c rfl (wl_c rfl (wl_c rfl (wl_c rfl (wl_c rfl (wl_c rfl (wl_c rfl wl_n))))))) rfl (by decide) (ih18176 _ (by omega) (v18177 + 1) v18178 ⟨by omega, by omega⟩ ⟨by omega, by omega⟩ rfl)
          · refine wp_of e71 c71_53 (rw_iload (pc' := 55) (z := v18178) rfl rfl ?_)
            refine wp_of e71 c71_55 (rw_iload (pc' := 57) (z := H r18014 ((H r18017 (a2.toNat)).toNat)) rfl rfl ?_)
            refine wp_of e71 c71_57 (rw_aload_n (pc' := 58) (v := .ref r1) rfl rfl rfl ?_)
            refine wp_of e71 c71_58 (xg_K (pc' := 61) lf_3_42 hW g1 sh_27 (by decide) (by decide) rfl q18007 rfl ?_)
            refine wp_of e71 c71_61 (rw_iload (pc' := 63) (z := v18177) rfl rfl ?_)
            refine wp_of e71 c71_63 (xa_R (pc' := 64) (by decide) hW g18008 sh_28 (by decide) (ty_28 _) (by omega) (by omega) rfl (fun r18193 q18194 g18195 => ?_))
            refine wp_of e71 c71_64 (xg_R (pc' := 67) lf_3_85 hW g18195 sh_35 (by decide) (by decide) ty_35_2 rfl rfl (fun r18196 q18197 g18198 => ?_))
            refine wp_of e71 c71_67 (rw_aload_n (pc' := 68) (v := .ref r0) rfl rfl rfl ?_)
            refine wp_of e71 c71_68 (xg_K (pc' := 71) lf_3_9 hW g0 sh_6 (by decide) (by decide) rfl q18018 rfl ?_)
            refine wp_of e71 c71_71 (rw_iload (pc' := 73) (z := v18177) rfl rfl ?_)
            refine wp_of e71 c71_73 (xa_I (so := 0) (pc' := 74) hW g18019 sh_7 (by decide) (ty_7 _) (by omega) (by omega) rfl (fun b18199 b18200 => ?_))
            refine wp_of e71 c71_74 (xa_I (so := 0) (pc' := 75) hW g18198 sh_38 (by decide) (ty_38 _) (by omega) (by omega) rfl (fun b18201 b18202 => ?_))
            refine wp_of e71 c71_75 (rw_iand (pc' := 76) rfl ?_)
            obtain ⟨v18203, e18204⟩ : ∃ x : Int, x = wq_and (H r18014 ((H r18017 (a2.toNat)).toNat)) (H r18196 ((H r18017 (v18177.toNat)).toNat)) := ⟨_, rfl⟩
            rw [← e18204]
            have b18205 : -2147483648 ≤ v18203 ∧ v18203 ≤ 2147483647 := by
              rw [e18204]
              exact wI_and _ _
            refine wp_of e71 c71_76 (rw_ior (pc' := 77) rfl ?_)
            obtain ⟨v18206, e18207⟩ : ∃ x : Int, x = wq_or v18178 v18203 := ⟨_, rfl⟩
            rw [← e18207]
            have b18208 : -2147483648 ≤ v18206 ∧ v18206 ≤ 2147483647 := by
              rw [e18207]
              exact wI_or _ _
            refine wp_of e71 c71_77 (rw_istore (pc' := 79) (z := v18206) (L' := [(5, vI v18206), (6, vI v18177), (4, vI (H r18014 ((H r18017 (a2.toNat)).toNat))), (3, vI (H r18009 14)), (0, .ref r0), (1, .ref r1), (2, vI a2)]) rfl rfl rfl ?_)
            refine wp_of e71 c71_79 (rw_iinc (pc' := 82) (z := v18177) (L' := [(6, vI (v18177 + 1)), (5, vI v18206), (4, vI (H r18014 ((H r18017 (a2.toNat)).toNat))), (3, vI (H r18009 14)), (0, .ref r0), (1, .ref r1), (2, vI a2)]) rfl rfl rfl rfl ?_)
            refine wp_of e71 c71_82 (rw_goto (p1 := 34) (by decide) ?_)
            exact wp_lc (ks := [6, 5, 4, 3, 0, 1, 2]) (wl_c rfl (wl_c rfl (wl_c rfl (wl_c rfl (wl_c rfl (wl_c rfl (wl_c rfl wl_n))))))) rfl (by decide) (ih18176 _ (by omega) (v18177 + 1) v18206 ⟨by omega, by omega⟩ ⟨by omega, by omega⟩ rfl)
  exact wp_lc (ks := [6, 5, 4, 3, 0, 1, 2]) (wl_c rfl (wl_c rfl (wl_c rfl (wl_c rfl (wl_c rfl (wl_c rfl (wl_c rfl wl_n))))))) rfl (by decide) (lp18174 _ 0 0 ⟨by omega, by omega⟩ ⟨by omega, by omega⟩ rfl)
/-! StrikeAwake$Walk.countFrom(LStrikeAwake$Parish;I)V -/
theorem e70 : wq_en 70 = some (3, 6, false, none) := rfl
theorem c70_0 : mc_cd 70 0 = some (.iload_n 2, 1) := by decide +kernel
theorem c70_1 : mc_cd 70 1 = some (.istore_n 3, 1) := by decide +kernel
theorem c70_2 : mc_cd 70 2 = some (.iload_n 3, 1) := by decide +kernel
theorem c70_3 : mc_cd 70 3 = some (.aload_n 0, 1) := by decide +kernel
theorem c70_4 : mc_cd 70 4 = some (.getfield 51, 3) := by decide +kernel
theorem c70_7 : mc_cd 70 7 = some (.if_icmp .ge 115, 3) := by decide +kernel
theorem c70_10 : mc_cd 70 10 = some (.aload_n 1, 1) := by decide +kernel
theorem c70_11 : mc_cd 70 11 = some (.getfield 42, 3) := by decide +kernel
theorem c70_14 : mc_cd 70 14 = some (.iload_n 3, 1) := by decide +kernel
theorem c70_15 : mc_cd 70 15 = some (.aaload, 1) := by decide +kernel
theorem c70_16 : mc_cd 70 16 = some (.astore 4, 2) := by decide +kernel
theorem c70_18 : mc_cd 70 18 = some (.aload_n 0, 1) := by decide +kernel
theorem c70_19 : mc_cd 70 19 = some (.getfield 9, 3) := by decide +kernel
theorem c70_22 : mc_cd 70 22 = some (.iload_n 3, 1) := by decide +kernel
theorem c70_23 : mc_cd 70 23 = some (.iaload, 1) := by decide +kernel
theorem c70_24 : mc_cd 70 24 = some (.istore 5, 2) := by decide +kernel
theorem c70_26 : mc_cd 70 26 = some (.aload_n 0, 1) := by decide +kernel
theorem c70_27 : mc_cd 70 27 = some (.getfield 15, 3) := by decide +kernel
theorem c70_30 : mc_cd 70 30 = some (.iload_n 3, 1) := by decide +kernel
theorem c70_31 : mc_cd 70 31 = some (.iconst 1, 1) := by decide +kernel
theorem c70_32 : mc_cd 70 32 = some (.iadd, 1) := by decide +kernel
theorem c70_33 : mc_cd 70 33 = some (.aload_n 0, 1) := by decide +kernel
theorem c70_34 : mc_cd 70 34 = some (.getfield 15, 3) := by decide +kernel
theorem c70_37 : mc_cd 70 37 = some (.iload_n 3, 1) := by decide +kernel
theorem c70_38 : mc_cd 70 38 = some (.laload, 1) := by decide +kernel
theorem c70_39 : mc_cd 70 39 = some (.aload 4, 2) := by decide +kernel
theorem c70_41 : mc_cd 70 41 = some (.getfield 69, 3) := by decide +kernel
theorem c70_44 : mc_cd 70 44 = some (.iload 5, 2) := by decide +kernel
theorem c70_46 : mc_cd 70 46 = some (.laload, 1) := by decide +kernel
theorem c70_47 : mc_cd 70 47 = some (.ladd, 1) := by decide +kernel
theorem c70_48 : mc_cd 70 48 = some (.lastore, 1) := by decide +kernel
theorem c70_49 : mc_cd 70 49 = some (.aload_n 0, 1) := by decide +kernel
theorem c70_50 : mc_cd 70 50 = some (.getfield 19, 3) := by decide +kernel
theorem c70_53 : mc_cd 70 53 = some (.iload_n 3, 1) := by decide +kernel
theorem c70_54 : mc_cd 70 54 = some (.iconst 1, 1) := by decide +kernel
theorem c70_55 : mc_cd 70 55 = some (.iadd, 1) := by decide +kernel
theorem c70_56 : mc_cd 70 56 = some (.aload_n 0, 1) := by decide +kernel
theorem c70_57 : mc_cd 70 57 = some (.getfield 19, 3) := by decide +kernel
theorem c70_60 : mc_cd 70 60 = some (.iload_n 3, 1) := by decide +kernel
theorem c70_61 : mc_cd 70 61 = some (.laload, 1) := by decide +kernel
theorem c70_62 : mc_cd 70 62 = some (.aload 4, 2) := by decide +kernel
theorem c70_64 : mc_cd 70 64 = some (.getfield 72, 3) := by decide +kernel
theorem c70_67 : mc_cd 70 67 = some (.iload 5, 2) := by decide +kernel
theorem c70_69 : mc_cd 70 69 = some (.laload, 1) := by decide +kernel
theorem c70_70 : mc_cd 70 70 = some (.ladd, 1) := by decide +kernel
theorem c70_71 : mc_cd 70 71 = some (.lastore, 1) := by decide +kernel
theorem c70_72 : mc_cd 70 72 = some (.aload_n 0, 1) := by decide +kernel
theorem c70_73 : mc_cd 70 73 = some (.getfield 22, 3) := by decide +kernel
theorem c70_76 : mc_cd 70 76 = some (.iload_n 3, 1) := by decide +kernel
theorem c70_77 : mc_cd 70 77 = some (.iconst 1, 1) := by decide +kernel
theorem c70_78 : mc_cd 70 78 = some (.iadd, 1) := by decide +kernel
theorem c70_79 : mc_cd 70 79 = some (.aload_n 0, 1) := by decide +kernel
theorem c70_80 : mc_cd 70 80 = some (.getfield 22, 3) := by decide +kernel
theorem c70_83 : mc_cd 70 83 = some (.iload_n 3, 1) := by decide +kernel
theorem c70_84 : mc_cd 70 84 = some (.iaload, 1) := by decide +kernel
theorem c70_85 : mc_cd 70 85 = some (.aload 4, 2) := by decide +kernel
theorem c70_87 : mc_cd 70 87 = some (.getfield 75, 3) := by decide +kernel
theorem c70_90 : mc_cd 70 90 = some (.iload 5, 2) := by decide +kernel
theorem c70_92 : mc_cd 70 92 = some (.iaload, 1) := by decide +kernel
theorem c70_93 : mc_cd 70 93 = some (.ior, 1) := by decide +kernel
theorem c70_94 : mc_cd 70 94 = some (.iastore, 1) := by decide +kernel
theorem c70_95 : mc_cd 70 95 = some (.aload_n 0, 1) := by decide +kernel
theorem c70_96 : mc_cd 70 96 = some (.getfield 25, 3) := by decide +kernel
theorem c70_99 : mc_cd 70 99 = some (.iload_n 3, 1) := by decide +kernel
theorem c70_100 : mc_cd 70 100 = some (.iconst 1, 1) := by decide +kernel
theorem c70_101 : mc_cd 70 101 = some (.iadd, 1) := by decide +kernel
theorem c70_102 : mc_cd 70 102 = some (.aload_n 0, 1) := by decide +kernel
theorem c70_103 : mc_cd 70 103 = some (.getfield 25, 3) := by decide +kernel
theorem c70_106 : mc_cd 70 106 = some (.iload_n 3, 1) := by decide +kernel
theorem c70_107 : mc_cd 70 107 = some (.iaload, 1) := by decide +kernel
theorem c70_108 : mc_cd 70 108 = some (.aload_n 0, 1) := by decide +kernel
theorem c70_109 : mc_cd 70 109 = some (.aload_n 1, 1) := by decide +kernel
theorem c70_110 : mc_cd 70 110 = some (.iload_n 3, 1) := by decide +kernel
theorem c70_111 : mc_cd 70 111 = some (.invokevirtual 78, 3) := by decide +kernel
theorem c70_114 : mc_cd 70 114 = some (.ior, 1) := by decide +kernel
theorem c70_115 : mc_cd 70 115 = some (.iastore, 1) := by decide +kernel
theorem c70_116 : mc_cd 70 116 = some (.iinc 3 1, 3) := by decide +kernel
theorem c70_119 : mc_cd 70 119 = some (.goto (-117), 3) := by decide +kernel
theorem c70_122 : mc_cd 70 122 = some (.return_, 1) := by decide +kernel
abbrev q_70 (r0 : Nat) (r1 : Nat) (a2 : Int) (T : wq_T) (H : wq_H) : Option Value → wq_T → wq_H → Prop := fun r T' H' => T = T' ∧ WT T H' ∧ wfr [(8, 999), (10, 999), (9, 999), (11, 999)] T H H' ∧ none = r
set_option maxHeartbeats 4000000 in
theorem s_70 {kt : Nat → Option mc_E} {T : wq_T} {H : wq_H} {r0 : Nat} {r1 : Nat} {a2 : Int} (hW : WT T H) (g0 : T.2.2.2 r0 = some 6) (g1 : T.2.2.2 r1 = some 27) (i2 : 0 ≤ a2 ∧ a2 ≤ 6) : wpc kt 2 70 [.ref r0, .ref r1, vI a2] T H (q_70 r0 r1 a2 T H) := by
  refine wp_enter e70 (Nat.le_of_ble_eq_true rfl) rfl ?_
  have f0 : wfr [(8, 999), (10, 999), (9, 999), (11, 999)] T H H := wfr.rf
  show wp _ _ 70 0 [(0, .ref r0), (1, .ref r1), (2, vI a2)] [] _ H _
  refine wp_of e70 c70_0 (rw_iload_n (pc' := 1) (z := a2) rfl rfl ?_)
  refine wp_of e70 c70_1 (rw_istore_n (pc' := 2) (z := a2) (L' := [(3, vI a2), (0, .ref r0), (1, .ref r1), (2, vI a2)]) rfl rfl rfl ?_)
  have lp18620 : ∀ (n18621 : Nat) (v18623 : Int) (H18624 : wq_H), WT T H18624 → wfr [(8, 999), (10, 999), (9, 999), (11, 999)] T H H18624 → (0 ≤ v18623 ∧ v18623 ≤ 6) → (6 - v18623).toNat = n18621 → wp kt 1 70 2 [(3, vI v18623), (0, .ref r0), (1, .ref r1)] [] T H18624 (q_70 r0 r1 a2 T H) := by
    intro n18621
    induction n18621 using Nat.strongRecOn with
    | _ n18621 ih18622 =>
      intro v18623 H18624 w18625 f18626 b18627 m18628
      have f18629 := f0.tr f18626 rfl
      refine wp_of e70 c70_2 (rw_iload_n (pc' := 3) (z := v18623) rfl rfl ?_)
      refine wp_of e70 c70_3 (rw_aload_n (pc' := 4) (v := .ref r0) rfl rfl rfl ?_)
      refine wp_of e70 c70_4 (xg_I (pc' := 7) lf_3_51 w18625 g0 sh_6 (by decide) (by decide) ty_6_5 rfl rfl (fun b18630 b18631 => ?_))
      refine wp_of e70 c70_7 (rw_icmp_ge (p1 := 122) (p2 := 10) (by decide) rfl ⟨by omega, by omega⟩ ⟨by omega, by omega⟩ (fun c18632 => ?_) (fun c18632 => ?_))
      · exact wp_return e70 c70_122 rfl ⟨rfl, w18625, f18629, rfl⟩
      · refine wp_of e70 c70_10 (rw_aload_n (pc' := 11) (v := .ref r1) rfl rfl rfl ?_)
        refine wp_of e70 c70_11 (xg_R (pc' := 14) lf_3_42 w18625 g1 sh_27 (by decide) (by decide) ty_27_0 rfl rfl (fun r18633 q18634 g18635 => ?_))
        refine wp_of e70 c70_14 (rw_iload_n (pc' := 15) (z := v18623) rfl rfl ?_)
        refine wp_of e70 c70_15 (xa_R (pc' := 16) (by decide) w18625 g18635 sh_28 (by decide) (ty_28 _) (by omega) (by omega) rfl (fun r18636 q18637 g18638 => ?_))
        refine wp_of e70 c70_16 (rw_astore (pc' := 18) (v := .ref r18636) (L' := [(4, .ref r18636), (3, vI v18623), (0, .ref r0), (1, .ref r1)]) rfl rfl rfl rfl ?_)
        refine wp_of e70 c70_18 (rw_aload_n (pc' := 19) (v := .ref r0) rfl rfl rfl ?_)
        refine wp_of e70 c70_19 (xg_R (pc' := 22) lf_3_9 w18625 g0 sh_6 (by decide) (by decide) ty_6_0 rfl rfl (fun r18639 q18640 g18641 => ?_))
        refine wp_of e70 c70_22 (rw_iload_n (pc' := 23) (z := v18623) rfl rfl ?_)
        refine wp_of e70 c70_23 (xa_I (so := 0) (pc' := 24) w18625 g18641 sh_7 (by decide) (ty_7 _) (by omega) (by omega) rfl (fun b18642 b18643 => ?_))
        refine wp_of e70 c70_24 (rw_istore (pc' := 26) (z := H18624 r18639 (v18623.toNat)) (L' := [(5, vI (H18624 r18639 (v18623.toNat))), (4, .ref r18636), (3, vI v18623), (0, .ref r0), (1, .ref r1)]) rfl rfl rfl ?_)
        refine wp_of e70 c70_26 (rw_aload_n (pc' := 27) (v := .ref r0) rfl rfl rfl ?_)
        refine wp_of e70 c70_27 (xg_R (pc' := 30) lf_3_15 w18625 g0 sh_6 (by decide) (by decide) ty_6_1 rfl rfl (fun r18644 q18645 g18646 => ?_))
        refine wp_of e70 c70_30 (rw_iload_n (pc' := 31) (z := v18623) rfl rfl ?_)
        refine wp_of e70 c70_31 (rw_iconst (pc' := 32) rfl ?_)
        refine wp_of e70 c70_32 (rw_iadd (pc' := 33) rfl ?_)
        refine wp_of e70 c70_33 (rw_aload_n (pc' := 34) (v := .ref r0) rfl rfl rfl ?_)
        refine wp_of e70 c70_34 (xg_K (pc' := 37) lf_3_15 w18625 g0 sh_6 (by decide) (by decide) rfl q18645 rfl ?_)
        refine wp_of e70 c70_37 (rw_iload_n (pc' := 38) (z := v18623) rfl rfl ?_)
        refine wp_of e70 c70_38 (xa_L (pc' := 39) w18625 g18646 sh_8 (by decide) (ty_8 _) (by omega) (by omega) rfl (fun b18647 b18648 => ?_))
        refine wp_of e70 c70_39 (rw_aload (pc' := 41) (v := .ref r18636) rfl rfl rfl ?_)
        refine wp_of e70 c70_41 (xg_R (pc' := 44) lf_3_69 w18625 g18638 sh_35 (by decide) (by decide) ty_35_4 rfl rfl (fun r18649 q18650 g18651 => ?_))
        refine wp_of e70 c70_44 (rw_iload (pc' := 46) (z := H18624 r18639 (v18623.toNat)) rfl rfl ?_)
        refine wp_of e70 c70_46 (xa_L (pc' := 47) w18625 g18651 sh_40 (by decide) (ty_40 _) (by omega) (by omega) rfl (fun b18652 b18653 => ?_))
        refine wp_of e70 c70_47 (rw_laddw (pc' := 48) rfl ?_)
        obtain ⟨v18654, e18655⟩ : ∃ x : Int, x = wl_w ((H18624 r18644 (v18623.toNat)) + (H18624 r18649 ((H18624 r18639 (v18623.toNat)).toNat))) := ⟨_, rfl⟩
        rw [← e18655]
        have b18656 : -9223372036854775808 ≤ v18654 ∧ v18654 ≤ 9223372036854775807 := by
          rw [e18655]
          exact wL_w _
        refine wp_of e70 c70_48 (xs_L (pc' := 49) w18625 g18646 (by decide) sh_8 (by decide) (ty_8 _) (by omega) (by omega) ⟨by omega, by omega⟩ (by omega) (by omega) rfl (fun H18657 e18658 w18659 => ?_))
        have f18660 := f18629.put' e18658 g18646 rfl
        have f18661 := f18626.put' e18658 g18646 rfl
        refine wp_of e70 c70_49 (rw_aload_n (pc' := 50) (v := .ref r0) rfl rfl rfl ?_)
        refine wp_of e70 c70_50 (xg_R (pc' := 53) lf_3_19 w18659 g0 sh_6 (by decide) (by decide) ty_6_2 rfl rfl (fun r18662 q18663 g18664 => ?_))
        refine wp_of e70 c70_53 (rw_iload_n (pc' := 54) (z := v18623) rfl rfl ?_)
        refine wp_of e70 c70_54 (rw_iconst (pc' := 55) rfl ?_)
        refine wp_of e70 c70_55 (rw_iadd (pc' := 56) rfl ?_)
        refine wp_of e70 c70_56 (rw_aload_n (pc' := 57) (v := .ref r0) rfl rfl rfl ?_)
        refine wp_of e70 c70_57 (xg_K (pc' := 60) lf_3_19 w18659 g0 sh_6 (by decide) (by decide) rfl q18663 rfl ?_)
        refine wp_of e70 c70_60 (rw_iload_n (pc' := 61) (z := v18623) rfl rfl ?_)
        refine wp_of e70 c70_61 (xa_L (pc' := 62) w18659 g18664 sh_9 (by decide) (ty_9 _) (by omega) (by omega) rfl (fun b18665 b18666 => ?_))
        refine wp_of e70 c70_62 (rw_aload (pc' := 64) (v := .ref r18636) rfl rfl rfl ?_)
        refine wp_of e70 c70_64 (xg_R (pc' := 67) lf_3_72 w18659 g18638 sh_35 (by decide) (by decide) ty_35_5 rfl rfl (fun r18667 q18668 g18669 => ?_))
        refine wp_of e70 c70_67 (rw_iload (pc' := 69) (z := H18624 r18639 (v18623.toNat)) rfl rfl ?_)
        refine wp_of e70 c70_69 (xa_L (pc' := 70) w18659 g18669 sh_41 (by decide) (ty_41 _) (by omega) (by omega) rfl (fun b18670 b18671 => ?_))
        refine wp_of e70 c70_70 (rw_laddw (pc' := 71) rfl ?_)
        obtain ⟨v18672, e18673⟩ : ∃ x : Int, x = wl_w ((H18657 r18662 (v18623.toNat)) + (H18657 r18667 ((H18624 r18639 (v18623.toNat)).toNat))) := ⟨_, rfl⟩
        rw [← e18673]
        have b18674 : -9223372036854775808 ≤ v18672 ∧ v18672 ≤ 9223372036854775807 := by
          rw [e18673]
          exact wL_w _
        refine wp_of e70 c70_71 (xs_L (pc' := 72) w18659 g18664 (by decide) sh_9 (by decide) (ty_9 _) (by omega) (by omega) ⟨by omega, by omega⟩ (by omega) (by omega) rfl (fun H18675 e18676 w18677 => ?_))
        have f18678 := f18660.put' e18676 g18664 rfl
        have f18679 := f18661.put' e18676 g18664 rfl
        refine wp_of e70 c70_72 (rw_aload_n (pc' := 73) (v := .ref r0) rfl rfl rfl ?_)
        refine wp_of e70 c70_73 (xg_R (pc' := 76) lf_3_22 w18677 g0 sh_6 (by decide) (by decide) ty_6_3 rfl rfl (fun r18680 q18681 g18682 => ?_))
        refine wp_of e70 c70_76 (rw_iload_n (pc' := 77) (z := v18623) rfl rfl ?_)
        refine wp_of e70 c70_77 (rw_iconst (pc' := 78) rfl ?_)
        refine wp_of e70 c70_78 (rw_iadd (pc' := 79) rfl ?_)
        refine wp_of e70 c70_79 (rw_aload_n (pc' := 80) (v := .ref r0) rfl rfl rfl ?_)
        refine wp_of e70 c70_80 (xg_K (pc' := 83) lf_3_22 w18677 g0 sh_6 (by decide) (by decide) rfl q18681 rfl ?_)
        refine wp_of e70 c70_83 (rw_iload_n (pc' := 84) (z := v18623) rfl rfl ?_)
        refine wp_of e70 c70_84 (xa_I (so := 0) (pc' := 85) w18677 g18682 sh_10 (by decide) (ty_10 _) (by omega) (by omega) rfl (fun b18683 b18684 => ?_))
        refine wp_of e70 c70_85 (rw_aload (pc' := 87) (v := .ref r18636) rfl rfl rfl ?_)
        refine wp_of e70 c70_87 (xg_R (pc' := 90) lf_3_75 w18677 g18638 sh_35 (by decide) (by decide) ty_35_3 rfl rfl (fun r18685 q18686 g18687 => ?_))
        refine wp_of e70 c70_90 (rw_iload (pc' := 92) (z := H18624 r18639 (v18623.toNat)) rfl rfl ?_)
        refine wp_of e70 c70_92 (xa_I (so := 0) (pc' := 93) w18677 g18687 sh_39 (by decide) (ty_39 _) (by omega) (by omega) rfl (fun b18688 b18689 => ?_))
        refine wp_of e70 c70_93 (rw_ior (pc' := 94) rfl ?_)
        obtain ⟨v18690, e18691⟩ : ∃ x : Int, x = wq_or (H18675 r18680 (v18623.toNat)) (H18675 r18685 ((H18624 r18639 (v18623.toNat)).toNat)) := ⟨_, rfl⟩
        rw [← e18691]
        have b18692 : -2147483648 ≤ v18690 ∧ v18690 ≤ 2147483647 := by
          rw [e18691]
          exact wI_or _ _
        refine wp_of e70 c70_94 (xs_I (pc' := 95) w18677 g18682 (by decide) sh_10 (by decide) (ty_10 _) (by omega) (by omega) ⟨by omega, by omega⟩ (by omega) (by omega) rfl (fun H18693 e18694 w18695 => ?_))
        have f18696 := f18678.put' e18694 g18682 rfl
        have f18697 := f18679.put' e18694 g18682 rfl
        refine wp_of e70 c70_95 (rw_aload_n (pc' := 96) (v := .ref r0) rfl rfl rfl ?_)
        refine wp_of e70 c70_96 (xg_R (pc' := 99) lf_3_25 w18695 g0 sh_6 (by decide) (by decide) ty_6_4 rfl rfl (fun r18698 q18699 g18700 => ?_))
        refine wp_of e70 c70_99 (rw_iload_n (pc' := 100) (z := v18623) rfl rfl ?_)
        refine wp_of e70 c70_100 (rw_iconst (pc' := 101) rfl ?_)
        refine wp_of e70 c70_101 (rw_iadd (pc' := 102) rfl ?_)
        refine wp_of e70 c70_102 (rw_aload_n (pc' := 103) (v := .ref r0) rfl rfl rfl ?_)
        refine wp_of e70 c70_103 (xg_K (pc' := 106) lf_3_25 w18695 g0 sh_6 (by decide) (by decide) rfl q18699 rfl ?_)
        refine wp_of e70 c70_106 (rw_iload_n (pc' := 107) (z := v18623) rfl rfl ?_)
        refine wp_of e70 c70_107 (xa_I (so := 0) (pc' := 108) w18695 g18700 sh_11 (by decide) (ty_11 _) (by omega) (by omega) rfl (fun b18701 b18702 => ?_))
        refine wp_of e70 c70_108 (rw_aload_n (pc' := 109) (v := .ref r0) rfl rfl rfl ?_)
        refine wp_of e70 c70_109 (rw_aload_n (pc' := 110) (v := .ref r1) rfl rfl rfl ?_)
        refine wp_of e70 c70_110 (rw_iload_n (pc' := 111) (z := v18623) rfl rfl ?_)
        refine wp_of e70 c70_111 (xc_V (pc' := 114) (r := r0) (as := [.ref r1, vI v18623]) (st := [vI (H18693 r18698 (v18623.toNat)), vI (v18623 + 1), .ref r18698]) (lm_3_78) rfl rfl (Nat.le_of_ble_eq_true rfl) w18695 g0 sh_6 (by decide) rfl (by decide) (s_71 w18695 g0 g1 ⟨by omega, by omega⟩) (fun R18703 T18704 H18705 p18706 => ?_))
        obtain ⟨e18707, e18709, z18710, e18708, b18711⟩ := p18706
        subst e18707
        subst e18708
        subst e18709
        show wp _ _ 70 114 [(5, vI (H18624 r18639 (v18623.toNat))), (4, .ref r18636), (3, vI v18623), (0, .ref r0), (1, .ref r1)] [vI z18710, vI (H18693 r18698 (v18623.toNat)), vI (v18623 + 1), .ref r18698] _ H18693 _
        refine wp_of e70 c70_114 (rw_ior (pc' := 115) rfl ?_)
        obtain ⟨v18712, e18713⟩ : ∃ x : Int, x = wq_or (H18693 r18698 (v18623.toNat)) z18710 := ⟨_, rfl⟩
        rw [← e18713]
        have b18714 : -2147483648 ≤ v18712 ∧ v18712 ≤ 2147483647 := by
          rw [e18713]
          exact wI_or _ _
        refine wp_of e70 c70_115 (xs_I (pc' := 116) w18695 g18700 (by decide) sh_11 (by decide) (ty_11 _) (by omega) (by omega) ⟨by omega, by omega⟩ (by omega) (by omega) rfl (fun H18715 e18716 w18717 => ?_))
        have f18718 := f18696.put' e18716 g18700 rfl
        have f18719 := f18697.put' e18716 g18700 rfl
        refine wp_of e70 c70_116 (rw_iinc (pc' := 119) (z := v18623) (L' := [(3, vI (v18623 + 1)), (5, vI (H18624 r18639 (v18623.toNat))), (4, .ref r18636), (0, .ref r0), (1, .ref r1)]) rfl rfl rfl rfl ?_)
        refine wp_of e70 c70_119 (rw_goto (p1 := 2) (by decide) ?_)
        exact wp_lc (ks := [3, 5, 4, 0, 1]) (wl_c rfl (wl_c rfl (wl_c rfl wl_n))) rfl (by decide) (ih18622 _ (by omega) (v18623 + 1) H18715 w18717 f18719 ⟨by omega, by omega⟩ rfl)
  exact wp_lc (ks := [3, 0, 1, 2]) (wl_c rfl (wl_c rfl (wl_c rfl wl_n))) rfl (by decide) (lp18620 _ a2 H hW wfr.rf ⟨by omega, by omega⟩ rfl)
/-! StrikeAwake$Walk.toSaid(LStrikeAwake$Parish;)V -/
theorem e68 : wq_en 68 = some (3, 3, false, none) := rfl
theorem c68_0 : mc_cd 68 0 = some (.iconst 0, 1) := by decide +kernel
theorem c68_1 : mc_cd 68 1 = some (.istore_n 2, 1) := by decide +kernel
theorem c68_2 : mc_cd 68 2 = some (.iload_n 2, 1) := by decide +kernel
theorem c68_3 : mc_cd 68 3 = some (.aload_n 1, 1) := by decide +kernel
theorem c68_4 : mc_cd 68 4 = some (.getfield 36, 3) := by decide +kernel
theorem c68_7 : mc_cd 68 7 = some (.if_icmp .ge 24, 3) := by decide +kernel
theorem c68_10 : mc_cd 68 10 = some (.aload_n 0, 1) := by decide +kernel
theorem c68_11 : mc_cd 68 11 = some (.getfield 9, 3) := by decide +kernel
theorem c68_14 : mc_cd 68 14 = some (.iload_n 2, 1) := by decide +kernel
theorem c68_15 : mc_cd 68 15 = some (.aload_n 1, 1) := by decide +kernel
theorem c68_16 : mc_cd 68 16 = some (.getfield 42, 3) := by decide +kernel
theorem c68_19 : mc_cd 68 19 = some (.iload_n 2, 1) := by decide +kernel
theorem c68_20 : mc_cd 68 20 = some (.aaload, 1) := by decide +kernel
theorem c68_21 : mc_cd 68 21 = some (.getfield 46, 3) := by decide +kernel
theorem c68_24 : mc_cd 68 24 = some (.iastore, 1) := by decide +kernel
theorem c68_25 : mc_cd 68 25 = some (.iinc 2 1, 3) := by decide +kernel
theorem c68_28 : mc_cd 68 28 = some (.goto (-26), 3) := by decide +kernel
theorem c68_31 : mc_cd 68 31 = some (.aload_n 0, 1) := by decide +kernel
theorem c68_32 : mc_cd 68 32 = some (.aload_n 1, 1) := by decide +kernel
theorem c68_33 : mc_cd 68 33 = some (.invokevirtual 28, 3) := by decide +kernel
theorem c68_36 : mc_cd 68 36 = some (.aload_n 0, 1) := by decide +kernel
theorem c68_37 : mc_cd 68 37 = some (.aload_n 1, 1) := by decide +kernel
theorem c68_38 : mc_cd 68 38 = some (.iconst 0, 1) := by decide +kernel
theorem c68_39 : mc_cd 68 39 = some (.invokevirtual 32, 3) := by decide +kernel
theorem c68_42 : mc_cd 68 42 = some (.return_, 1) := by decide +kernel
abbrev q_68 (r0 : Nat) (r1 : Nat) (T : wq_T) (H : wq_H) : Option Value → wq_T → wq_H → Prop := fun r T' H' => T = T' ∧ WT T H' ∧ wfr [(6, 5), (8, 999), (10, 999), (9, 999), (7, 999), (11, 999)] T H H' ∧ none = r
set_option maxHeartbeats 4000000 in
theorem s_68 {kt : Nat → Option mc_E} {T : wq_T} {H : wq_H} {r0 : Nat} {r1 : Nat} (hW : WT T H) (g0 : T.2.2.2 r0 = some 6) (g1 : T.2.2.2 r1 = some 27) : wpc kt 3 68 [.ref r0, .ref r1] T H (q_68 r0 r1 T H) := by
  refine wp_enter e68 (Nat.le_of_ble_eq_true rfl) rfl ?_
  have f0 : wfr [(6, 5), (8, 999), (10, 999), (9, 999), (7, 999), (11, 999)] T H H := wfr.rf
  show wp _ _ 68 0 [(0, .ref r0), (1, .ref r1)] [] _ H _
  refine wp_of e68 c68_0 (rw_iconst (pc' := 1) rfl ?_)
  refine wp_of e68 c68_1 (rw_istore_n (pc' := 2) (z := 0) (L' := [(2, vI 0), (0, .ref r0), (1, .ref r1)]) rfl rfl rfl ?_)
  have lp19009 : ∀ (n19010 : Nat) (v19012 : Int) (H19013 : wq_H), WT T H19013 → wfr [(7, 999)] T H H19013 → (0 ≤ v19012 ∧ v19012 ≤ 6) → (6 - v19012).toNat = n19010 → wp kt 2 68 2 [(2, vI v19012), (0, .ref r0), (1, .ref r1)] [] T H19013 (q_68 r0 r1 T H) := by
    intro n19010
    induction n19010 using Nat.strongRecOn with
    | _ n19010 ih19011 =>
      intro v19012 H19013 w19014 f19015 b19016 m19017
      have f19018 := f0.tr f19015 rfl
      refine wp_of e68 c68_2 (rw_iload_n (pc' := 3) (z := v19012) rfl rfl ?_)
      refine wp_of e68 c68_3 (rw_aload_n (pc' := 4) (v := .ref r1) rfl rfl rfl ?_)
      refine wp_of e68 c68_4 (xg_I (pc' := 7) lf_3_36 w19014 g1 sh_27 (by decide) (by decide) ty_27_10 rfl rfl (fun b19019 b19020 => ?_))
      refine wp_of e68 c68_7 (rw_icmp_ge (p1 := 31) (p2 := 10) (by decide) rfl ⟨by omega, by omega⟩ ⟨by omega, by omega⟩ (fun c19021 => ?_) (fun c19021 => ?_))
      · refine wp_of e68 c68_31 (rw_aload_n (pc' := 32) (v := .ref r0) rfl rfl rfl ?_)
        refine wp_of e68 c68_32 (rw_aload_n (pc' := 33) (v := .ref r1) rfl rfl rfl ?_)
        refine wp_of e68 c68_33 (xc_V (pc' := 36) (r := r0) (as := [.ref r1]) (st := []) (lm_3_28) rfl rfl (Nat.le_of_ble_eq_true rfl) w19014 g0 sh_6 (by decide) rfl (by decide) (s_69 w19014 g0 g1) (fun R19022 T19023 H19024 p19025 => ?_))
        obtain ⟨e19026, w19028, f19029, e19027⟩ := p19025
        subst e19026
        subst e19027
        have f19030 := f19018.tr f19029 rfl
        show wp _ _ 68 36 [(2, vI v19012), (0, .ref r0), (1, .ref r1)] [] _ H19024 _
        refine wp_of e68 c68_36 (rw_aload_n (pc' := 37) (v := .ref r0) rfl rfl rfl ?_)
        refine wp_of e68 c68_37 (rw_aload_n (pc' := 38) (v := .ref r1) rfl rfl rfl ?_)
        refine wp_of e68 c68_38 (rw_iconst (pc' := 39) rfl ?_)
        refine wp_of e68 c68_39 (xc_V (pc' := 42) (r := r0) (as := [.ref r1, vI 0]) (st := []) (lm_3_32) rfl rfl (Nat.le_of_ble_eq_true rfl) w19028 g0 sh_6 (by decide) rfl (by decide) (s_70 w19028 g0 g1 ⟨by omega, by omega⟩) (fun R19031 T19032 H19033 p19034 => ?_))
        obtain ⟨e19035, w19037, f19038, e19036⟩ := p19034
        subst e19035
        subst e19036
        have f19039 := f19030.tr f19038 rfl
        show wp _ _ 68 42 [(2, vI v19012), (0, .ref r0), (1, .ref r1)] [] _ H19033 _
        exact wp_return e68 c68_42 rfl ⟨rfl, w19037, f19039, rfl⟩
      · refine wp_of e68 c68_10 (rw_aload_n (pc' := 11) (v := .ref r0) rfl rfl rfl ?_)
        refine wp_of e68 c68_11 (xg_R (pc' := 14) lf_3_9 w19014 g0 sh_6 (by decide) (by decide) ty_6_0 rfl rfl (fun r19040 q19041 g19042 => ?_))
        refine wp_of e68 c68_14 (rw_iload_n (pc' := 15) (z := v19012) rfl rfl ?_)
        refine wp_of e68 c68_15 (rw_aload_n (pc' := 16) (v := .ref r1) rfl rfl rfl ?_)
        refine wp_of e68 c68_16 (xg_R (pc' := 19) lf_3_42 w19014 g1 sh_27 (by decide) (by decide) ty_27_0 rfl rfl (fun r19043 q19044 g19045 => ?_))
        refine wp_of e68 c68_19 (rw_iload_n (pc' := 20) (z := v19012) rfl rfl ?_)
        refine wp_of e68 c68_20 (xa_R (pc' := 21) (by decide) w19014 g19045 sh_28 (by decide) (ty_28 _) (by omega) (by omega) rfl (fun r19046 q19047 g19048 => ?_))
        refine wp_of e68 c68_21 (xg_I (pc' := 24) lf_3_46 w19014 g19048 sh_35 (by decide) (by decide) ty_35_16 rfl rfl (fun b19049 b19050 => ?_))
        refine wp_of e68 c68_24 (xs_I (pc' := 25) w19014 g19042 (by decide) sh_7 (by decide) (ty_7 _) (by omega) (by omega) ⟨by omega, by omega⟩ (by omega) (by omega) rfl (fun H19051 e19052 w19053 => ?_))
        have f19054 := f19018.put' e19052 g19042 rfl
        have f19055 := f19015.put' e19052 g19042 rfl
        refine wp_of e68 c68_25 (rw_iinc (pc' := 28) (z := v19012) (L' := [(2, vI (v19012 + 1)), (0, .ref r0), (1, .ref r1)]) rfl rfl rfl rfl ?_)
        refine wp_of e68 c68_28 (rw_goto (p1 := 2) (by decide) ?_)
        exact wp_lc (ks := [2, 0, 1]) (wl_c rfl (wl_c rfl (wl_c rfl wl_n))) rfl (by decide) (ih19011 _ (by omega) (v19012 + 1) H19051 w19053 f19055 ⟨by omega, by omega⟩ rfl)
  exact wp_lc (ks := [2, 0, 1]) (wl_c rfl (wl_c rfl (wl_c rfl wl_n))) rfl (by decide) (lp19009 _ 0 H hW wfr.rf ⟨by omega, by omega⟩ rfl)
/-! StrikeAwake.barOfSaid(Z)I -/
theorem e67 : wq_en 67 = some (0, 2, false, some FieldType.int) := rfl
theorem c67_0 : mc_cd 67 0 = some (.iload_n 1, 1) := by decide +kernel
theorem c67_1 : mc_cd 67 1 = some (.ifCond .ne 5, 3) := by decide +kernel
theorem c67_4 : mc_cd 67 4 = some (.iconst 1, 1) := by decide +kernel
theorem c67_5 : mc_cd 67 5 = some (.ireturn, 1) := by decide +kernel
theorem c67_6 : mc_cd 67 6 = some (.aload_n 0, 1) := by decide +kernel
theorem c67_7 : mc_cd 67 7 = some (.getfield 51, 3) := by decide +kernel
theorem c67_10 : mc_cd 67 10 = some (.getfield 141, 3) := by decide +kernel
theorem c67_13 : mc_cd 67 13 = some (.lconst 0, 1) := by decide +kernel
theorem c67_14 : mc_cd 67 14 = some (.lcmp, 1) := by decide +kernel
theorem c67_15 : mc_cd 67 15 = some (.ifCond .ne 5, 3) := by decide +kernel
theorem c67_18 : mc_cd 67 18 = some (.iconst 5, 1) := by decide +kernel
theorem c67_19 : mc_cd 67 19 = some (.ireturn, 1) := by decide +kernel
theorem c67_20 : mc_cd 67 20 = some (.aload_n 0, 1) := by decide +kernel
theorem c67_21 : mc_cd 67 21 = some (.getfield 23, 3) := by decide +kernel
theorem c67_24 : mc_cd 67 24 = some (.aload_n 0, 1) := by decide +kernel
theorem c67_25 : mc_cd 67 25 = some (.getfield 51, 3) := by decide +kernel
theorem c67_28 : mc_cd 67 28 = some (.invokevirtual 345, 3) := by decide +kernel
theorem c67_31 : mc_cd 67 31 = some (.iconst 0, 1) := by decide +kernel
theorem c67_32 : mc_cd 67 32 = some (.ireturn, 1) := by decide +kernel
abbrev q_67 (r0 : Nat) (a1 : Int) (T : wq_T) (H : wq_H) : Option Value → wq_T → wq_H → Prop := fun r T' H' => T = T' ∧ WT T H' ∧ wfr [(6, 5), (8, 999), (10, 999), (9, 999), (7, 999), (11, 999)] T H H' ∧ ∃ z : Int, some (vI z) = r ∧ (0 ≤ z ∧ z ≤ 6) ∧ (z ≠ 0 ∨ a1 = 1)
set_option maxHeartbeats 4000000 in
theorem s_67 {kt : Nat → Option mc_E} {T : wq_T} {H : wq_H} {r0 : Nat} {a1 : Int} (hW : WT T H) (g0 : T.2.2.2 r0 = some 1) (i1 : 0 ≤ a1 ∧ a1 ≤ 1) : wpc kt 4 67 [.ref r0, vI a1] T H (q_67 r0 a1 T H) := by
  refine wp_enter e67 (Nat.le_of_ble_eq_true rfl) rfl ?_
  have f0 : wfr [(6, 5), (8, 999), (10, 999), (9, 999), (7, 999), (11, 999)] T H H := wfr.rf
  show wp _ _ 67 0 [(0, .ref r0), (1, vI a1)] [] _ H _
  refine wp_of e67 c67_0 (rw_iload_n (pc' := 1) (z := a1) rfl rfl ?_)
  refine wp_of e67 c67_1 (rw_if_ne (p1 := 6) (p2 := 4) (by decide) rfl ⟨by omega, by omega⟩ (fun c19076 => ?_) (fun c19076 => ?_))
  · refine wp_of e67 c67_6 (rw_aload_n (pc' := 7) (v := .ref r0) rfl rfl rfl ?_)
    refine wp_of e67 c67_7 (xg_R (pc' := 10) lf_0_51 hW g0 sh_1 (by decide) (by decide) ty_1_6 rfl rfl (fun r19077 q19078 g19079 => ?_))
    refine wp_of e67 c67_10 (xg_L (pc' := 13) lf_0_141 hW g19079 sh_27 (by decide) (by decide) ty_27_18 rfl rfl (fun b19080 b19081 => ?_))
    refine wp_of e67 c67_13 (rw_lconst (pc' := 14) (z := 0) rfl rfl ?_)
    refine wp_of e67 c67_14 (rw_lcmp (pc' := 15) rfl ⟨by omega, by omega⟩ ⟨by omega, by omega⟩ ?_)
    have b19082 := wq_cmp_b (H r19077 18) 0
    refine wp_of e67 c67_15 (rw_if_ne (p1 := 20) (p2 := 18) (by decide) rfl ⟨by omega, by omega⟩ (fun c19083 => ?_) (fun c19083 => ?_))
    · refine wp_of e67 c67_20 (rw_aload_n (pc' := 21) (v := .ref r0) rfl rfl rfl ?_)
      refine wp_of e67 c67_21 (xg_R (pc' := 24) lf_0_23 hW g0 sh_1 (by decide) (by decide) ty_1_2 rfl rfl (fun r19084 q19085 g19086 => ?_))
      refine wp_of e67 c67_24 (rw_aload_n (pc' := 25) (v := .ref r0) rfl rfl rfl ?_)
      refine wp_of e67 c67_25 (xg_K (pc' := 28) lf_0_51 hW g0 sh_1 (by decide) (by decide) rfl q19078 rfl ?_)
      refine wp_of e67 c67_28 (xc_V (pc' := 31) (r := r19084) (as := [.ref r19077]) (st := []) (lm_0_345) rfl rfl (Nat.le_of_ble_eq_true rfl) hW g19086 sh_6 (by decide) rfl (by decide) (s_68 hW g19086 g19079) (fun R19087 T19088 H19089 p19090 => ?_))
      obtain ⟨e19091, w19093, f19094, e19092⟩ := p19090
      subst e19091
      subst e19092
      have f19095 := f0.tr f19094 rfl
      show wp _ _ 67 31 [(0, .ref r0), (1, vI a1)] [] _ H19089 _
      refine wp_of e67 c67_31 (rw_iconst (pc' := 32) rfl ?_)
      exact wp_ireturn e67 c67_32 rfl ⟨rfl, w19093, f19095, 0, rfl, ⟨by omega, by omega⟩, by omega⟩
    · refine wp_of e67 c67_18 (rw_iconst (pc' := 19) rfl ?_)
      exact wp_ireturn e67 c67_19 rfl ⟨rfl, hW, f0, 5, rfl, ⟨by omega, by omega⟩, by omega⟩
  · refine wp_of e67 c67_4 (rw_iconst (pc' := 5) rfl ?_)
    exact wp_ireturn e67 c67_5 rfl ⟨rfl, hW, f0, 1, rfl, ⟨by omega, by omega⟩, by omega⟩
/-! StrikeAwake$Walk.strokesDue(I)I -/
theorem e72 : wq_en 72 = some (3, 6, false, some FieldType.int) := rfl
theorem c72_0 : mc_cd 72 0 = some (.iload_n 1, 1) := by decide +kernel
theorem c72_1 : mc_cd 72 1 = some (.bipush 12, 2) := by decide +kernel
theorem c72_3 : mc_cd 72 3 = some (.if_icmp .ge 7, 3) := by decide +kernel
theorem c72_6 : mc_cd 72 6 = some (.iconst 1, 1) := by decide +kernel
theorem c72_7 : mc_cd 72 7 = some (.goto 4, 3) := by decide +kernel
theorem c72_10 : mc_cd 72 10 = some (.iconst 0, 1) := by decide +kernel
theorem c72_11 : mc_cd 72 11 = some (.istore_n 2, 1) := by decide +kernel
theorem c72_12 : mc_cd 72 12 = some (.iload_n 2, 1) := by decide +kernel
theorem c72_13 : mc_cd 72 13 = some (.ifCond .eq 15, 3) := by decide +kernel
theorem c72_16 : mc_cd 72 16 = some (.aload_n 0, 1) := by decide +kernel
theorem c72_17 : mc_cd 72 17 = some (.getfield 15, 3) := by decide +kernel
theorem c72_20 : mc_cd 72 20 = some (.aload_n 0, 1) := by decide +kernel
theorem c72_21 : mc_cd 72 21 = some (.getfield 51, 3) := by decide +kernel
theorem c72_24 : mc_cd 72 24 = some (.laload, 1) := by decide +kernel
theorem c72_25 : mc_cd 72 25 = some (.goto 12, 3) := by decide +kernel
theorem c72_28 : mc_cd 72 28 = some (.aload_n 0, 1) := by decide +kernel
theorem c72_29 : mc_cd 72 29 = some (.getfield 19, 3) := by decide +kernel
theorem c72_32 : mc_cd 72 32 = some (.aload_n 0, 1) := by decide +kernel
theorem c72_33 : mc_cd 72 33 = some (.getfield 51, 3) := by decide +kernel
theorem c72_36 : mc_cd 72 36 = some (.laload, 1) := by decide +kernel
theorem c72_37 : mc_cd 72 37 = some (.lstore_n 3, 1) := by decide +kernel
theorem c72_38 : mc_cd 72 38 = some (.iload_n 2, 1) := by decide +kernel
theorem c72_39 : mc_cd 72 39 = some (.ifCond .eq 7, 3) := by decide +kernel
theorem c72_42 : mc_cd 72 42 = some (.iload_n 1, 1) := by decide +kernel
theorem c72_43 : mc_cd 72 43 = some (.goto 7, 3) := by decide +kernel
theorem c72_46 : mc_cd 72 46 = some (.iload_n 1, 1) := by decide +kernel
theorem c72_47 : mc_cd 72 47 = some (.bipush 12, 2) := by decide +kernel
theorem c72_49 : mc_cd 72 49 = some (.isub, 1) := by decide +kernel
theorem c72_50 : mc_cd 72 50 = some (.istore 5, 2) := by decide +kernel
theorem c72_52 : mc_cd 72 52 = some (.lload_n 3, 1) := by decide +kernel
theorem c72_53 : mc_cd 72 53 = some (.iload 5, 2) := by decide +kernel
theorem c72_55 : mc_cd 72 55 = some (.iconst 4, 1) := by decide +kernel
theorem c72_56 : mc_cd 72 56 = some (.imul, 1) := by decide +kernel
theorem c72_57 : mc_cd 72 57 = some (.lshr, 1) := by decide +kernel
theorem c72_58 : mc_cd 72 58 = some (.l2i, 1) := by decide +kernel
theorem c72_59 : mc_cd 72 59 = some (.bipush 15, 2) := by decide +kernel
theorem c72_61 : mc_cd 72 61 = some (.iand, 1) := by decide +kernel
theorem c72_62 : mc_cd 72 62 = some (.ireturn, 1) := by decide +kernel
abbrev q_72 (r0 : Nat) (a1 : Int) (T : wq_T) (H : wq_H) : Option Value → wq_T → wq_H → Prop := fun r T' H' => T = T' ∧ H = H' ∧ ∃ z : Int, some (vI z) = r ∧ ((-2147483648) ≤ z ∧ z ≤ 2147483647)
set_option maxHeartbeats 4000000 in
theorem s_72 {kt : Nat → Option mc_E} {T : wq_T} {H : wq_H} {r0 : Nat} {a1 : Int} (hW : WT T H) (g0 : T.2.2.2 r0 = some 6) (i1 : 0 ≤ a1 ∧ a1 ≤ 23) : wpc kt 1 72 [.ref r0, vI a1] T H (q_72 r0 a1 T H) := by
  refine wp_enter e72 (Nat.le_of_ble_eq_true rfl) rfl ?_
  show wp _ _ 72 0 [(0, .ref r0), (1, vI a1)] [] _ H _
  refine wp_of e72 c72_0 (rw_iload_n (pc' := 1) (z := a1) rfl rfl ?_)
  refine wp_of e72 c72_1 (rw_bipush (pc' := 3) (z := 12) rfl (by decide) ?_)
  refine wp_of e72 c72_3 (rw_icmp_ge (p1 := 10) (p2 := 6) (by decide) rfl ⟨by omega, by omega⟩ ⟨by omega, by omega⟩ (fun c19127 => ?_) (fun c19127 => ?_))
  · refine wp_of e72 c72_10 (rw_iconst (pc' := 11) rfl ?_)
    refine wp_of e72 c72_11 (rw_istore_n (pc' := 12) (z := 0) (L' := [(2, vI 0), (0, .ref r0), (1, vI a1)]) rfl rfl rfl ?_)
    refine wp_of e72 c72_12 (rw_iload_n (pc' := 13) (z := 0) rfl rfl ?_)
    refine wp_of e72 c72_13 (rw_if_eq (p1 := 28) (p2 := 16) (by decide) rfl ⟨by omega, by omega⟩ (fun c19128 => ?_) (fun c19128 => ?_))
    · refine wp_of e72 c72_28 (rw_aload_n (pc' := 29) (v := .ref r0) rfl rfl rfl ?_)
      refine wp_of e72 c72_29 (xg_R (pc' := 32) lf_3_19 hW g0 sh_6 (by decide) (by decide) ty_6_2 rfl rfl (fun r19129 q19130 g19131 => ?_))
      refine wp_of e72 c72_32 (rw_aload_n (pc' := 33) (v := .ref r0) rfl rfl rfl ?_)
      refine wp_of e72 c72_33 (xg_I (pc' := 36) lf_3_51 hW g0 sh_6 (by decide) (by decide) ty_6_5 rfl rfl (fun b19132 b19133 => ?_))
      refine wp_of e72 c72_36 (xa_L (pc' := 37) hW g19131 sh_9 (by decide) (ty_9 _) (by omega) (by omega) rfl (fun b19134 b19135 => ?_))
      refine wp_of e72 c72_37 (rw_lstore_n (pc' := 38) (z := H r19129 ((H r0 5).toNat)) (L' := [(3, vL (H r19129 ((H r0 5).toNat))), (2, vI 0), (0, .ref r0), (1, vI a1)]) rfl rfl rfl ?_)
      refine wp_of e72 c72_38 (rw_iload_n (pc' := 39) (z := 0) rfl rfl ?_)
      refine wp_of e72 c72_39 (rw_if_eq (p1 := 46) (p2 := 42) (by decide) rfl ⟨by omega, by omega⟩ (fun c19136 => ?_) (fun c19136 => ?_))
      · refine wp_of e72 c72_46 (rw_iload_n (pc' := 47) (z := a1) rfl rfl ?_)
        refine wp_of e72 c72_47 (rw_bipush (pc' := 49) (z := 12) rfl (by decide) ?_)
        refine wp_of e72 c72_49 (rw_isub (pc' := 50) rfl ?_)
        refine wp_of e72 c72_50 (rw_istore (pc' := 52) (z := a1 - 12) (L' := [(5, vI (a1 - 12)), (3, vL (H r19129 ((H r0 5).toNat))), (2, vI 0), (0, .ref r0), (1, vI a1)]) rfl rfl rfl ?_)
        refine wp_of e72 c72_52 (rw_lload_n (pc' := 53) (z := H r19129 ((H r0 5).toNat)) rfl rfl ?_)
        refine wp_of e72 c72_53 (rw_iload (pc' := 55) (z := a1 - 12) rfl rfl ?_)
        refine wp_of e72 c72_55 (rw_iconst (pc' := 56) rfl ?_)
        refine wp_of e72 c72_56 (rw_imul (pc' := 57) rfl ?_)
        refine wp_of e72 c72_57 (rw_lshr (pc' := 58) rfl ?_)
        obtain ⟨v19137, e19138⟩ : ∃ x : Int, x = wl_shr (H r19129 ((H r0 5).toNat)) ((a1 - 12) * 4) := ⟨_, rfl⟩
        rw [← e19138]
        have b19139 : -9223372036854775808 ≤ v19137 ∧ v19137 ≤ 9223372036854775807 := by
          rw [e19138]
          exact wL_shr _ _
        refine wp_of e72 c72_58 (rw_l2i (pc' := 59) rfl ?_)
        obtain ⟨v19140, e19141⟩ : ∃ x : Int, x = wq_w v19137 := ⟨_, rfl⟩
        rw [← e19141]
        have b19142 : -2147483648 ≤ v19140 ∧ v19140 ≤ 2147483647 := by
          rw [e19141]
          exact wI_w _
        have b19143 : (-2147483648 ≤ v19137 ∧ v19137 ≤ 2147483647) → v19140 = v19137 := by
          rw [e19141]
          exact fun h => wq_w_id h
        refine wp_of e72 c72_59 (rw_bipush (pc' := 61) (z := 15) rfl (by decide) ?_)
        refine wp_of e72 c72_61 (rw_iand (pc' := 62) rfl ?_)
        obtain ⟨v19144, e19145⟩ : ∃ x : Int, x = wq_and v19140 15 := ⟨_, rfl⟩
        rw [← e19145]
        have b19146 : 0 ≤ v19144 ∧ v19144 ≤ 15 := by
          rw [e19145]
          exact wq_and_b _ (by omega) (by omega)
        exact wp_ireturn e72 c72_62 rfl ⟨rfl, rfl, v19144, rfl, ⟨by omega, by omega⟩⟩
      · exfalso
        omega
    · exfalso
      omega
  · refine wp_of e72 c72_6 (rw_iconst (pc' := 7) rfl ?_)
    refine wp_of e72 c72_7 (rw_goto (p1 := 11) (by decide) ?_)
    refine wp_of e72 c72_11 (rw_istore_n (pc' := 12) (z := 1) (L' := [(2, vI 1), (0, .ref r0), (1, vI a1)]) rfl rfl rfl ?_)
    refine wp_of e72 c72_12 (rw_iload_n (pc' := 13) (z := 1) rfl rfl ?_)
    refine wp_of e72 c72_13 (rw_if_eq (p1 := 28) (p2 := 16) (by decide) rfl ⟨by omega, by omega⟩ (fun c19147 => ?_) (fun c19147 => ?_))
    · exfalso
      omega
    · refine wp_of e72 c72_16 (rw_aload_n (pc' := 17) (v := .ref r0) rfl rfl rfl ?_)
      refine wp_of e72 c72_17 (xg_R (pc' := 20) lf_3_15 hW g0 sh_6 (by decide) (by decide) ty_6_1 rfl rfl (fun r19148 q19149 g19150 => ?_))
      refine wp_of e72 c72_20 (rw_aload_n (pc' := 21) (v := .ref r0) rfl rfl rfl ?_)
      refine wp_of e72 c72_21 (xg_I (pc' := 24) lf_3_51 hW g0 sh_6 (by decide) (by decide) ty_6_5 rfl rfl (fun b19151 b19152 => ?_))
      refine wp_of e72 c72_24 (xa_L (pc' := 25) hW g19150 sh_8 (by decide) (ty_8 _) (by omega) (by omega) rfl (fun b19153 b19154 => ?_))
      refine wp_of e72 c72_25 (rw_goto (p1 := 37) (by decide) ?_)
      refine wp_of e72 c72_37 (rw_lstore_n (pc' := 38) (z := H r19148 ((H r0 5).toNat)) (L' := [(3, vL (H r19148 ((H r0 5).toNat))), (2, vI 1), (0, .ref r0), (1, vI a1)]) rfl rfl rfl ?_)
      refine wp_of e72 c72_38 (rw_iload_n (pc' := 39) (z := 1) rfl rfl ?_)
      refine wp_of e72 c72_39 (rw_if_eq (p1 := 46) (p2 := 42) (by decide) rfl ⟨by omega, by omega⟩ (fun c19155 => ?_) (fun c19155 => ?_))
      · exfalso
        omega
      · refine wp_of e72 c72_42 (rw_iload_n (pc' := 43) (z := a1) rfl rfl ?_)
        refine wp_of e72 c72_43 (rw_goto (p1 := 50) (by decide) ?_)
        refine wp_of e72 c72_50 (rw_istore (pc' := 52) (z := a1) (L' := [(5, vI a1), (3, vL (H r19148 ((H r0 5).toNat))), (2, vI 1), (0, .ref r0), (1, vI a1)]) rfl rfl rfl ?_)
        refine wp_of e72 c72_52 (rw_lload_n (pc' := 53) (z := H r19148 ((H r0 5).toNat)) rfl rfl ?_)
        refine wp_of e72 c72_53 (rw_iload (pc' := 55) (z := a1) rfl rfl ?_)
        refine wp_of e72 c72_55 (rw_iconst (pc' := 56) rfl ?_)
        refine wp_of e72 c72_56 (rw_imul (pc' := 57) rfl ?_)
        refine wp_of e72 c72_57 (rw_lshr (pc' := 58) rfl ?_)
        obtain ⟨v19156, e19157⟩ : ∃ x : Int, x = wl_shr (H r19148 ((H r0 5).toNat)) (a1 * 4) := ⟨_, rfl⟩
        rw [← e19157]
        have b19158 : -9223372036854775808 ≤ v19156 ∧ v19156 ≤ 9223372036854775807 := by
          rw [e19157]
          exact wL_shr _ _
        refine wp_of e72 c72_58 (rw_l2i (pc' := 59) rfl ?_)
        obtain ⟨v19159, e19160⟩ : ∃ x : Int, x = wq_w v19156 := ⟨_, rfl⟩
        rw [← e19160]
        have b19161 : -2147483648 ≤ v19159 ∧ v19159 ≤ 2147483647 := by
          rw [e19160]
          exact wI_w _
        have b19162 : (-2147483648 ≤ v19156 ∧ v19156 ≤ 2147483647) → v19159 = v19156 := by
          rw [e19160]
          exact fun h => wq_w_id h
        refine wp_of e72 c72_59 (rw_bipush (pc' := 61) (z := 15) rfl (by decide) ?_)
        refine wp_of e72 c72_61 (rw_iand (pc' := 62) rfl ?_)
        obtain ⟨v19163, e19164⟩ : ∃ x : Int, x = wq_and v19159 15 := ⟨_, rfl⟩
        rw [← e19164]
        have b19165 : 0 ≤ v19163 ∧ v19163 ≤ 15 := by
          rw [e19164]
          exact wq_and_b _ (by omega) (by omega)
        exact wp_ireturn e72 c72_62 rfl ⟨rfl, rfl, v19163, rfl, ⟨by omega, by omega⟩⟩
/-! StrikeAwake.strikes(I)I -/
theorem e66 : wq_en 66 = some (0, 3, false, some FieldType.int) := rfl
theorem c66_0 : mc_cd 66 0 = some (.aload_n 0, 1) := by decide +kernel
theorem c66_1 : mc_cd 66 1 = some (.aload_n 0, 1) := by decide +kernel
theorem c66_2 : mc_cd 66 2 = some (.iload_n 1, 1) := by decide +kernel
theorem c66_3 : mc_cd 66 3 = some (.invokevirtual 132, 3) := by decide +kernel
theorem c66_6 : mc_cd 66 6 = some (.invokevirtual 155, 3) := by decide +kernel
theorem c66_9 : mc_cd 66 9 = some (.istore_n 2, 1) := by decide +kernel
theorem c66_10 : mc_cd 66 10 = some (.iload_n 2, 1) := by decide +kernel
theorem c66_11 : mc_cd 66 11 = some (.ifCond .eq 9, 3) := by decide +kernel
theorem c66_14 : mc_cd 66 14 = some (.aload_n 0, 1) := by decide +kernel
theorem c66_15 : mc_cd 66 15 = some (.iload_n 2, 1) := by decide +kernel
theorem c66_16 : mc_cd 66 16 = some (.invokevirtual 70, 3) := by decide +kernel
theorem c66_19 : mc_cd 66 19 = some (.ireturn, 1) := by decide +kernel
theorem c66_20 : mc_cd 66 20 = some (.aload_n 0, 1) := by decide +kernel
theorem c66_21 : mc_cd 66 21 = some (.aload_n 0, 1) := by decide +kernel
theorem c66_22 : mc_cd 66 22 = some (.getfield 23, 3) := by decide +kernel
theorem c66_25 : mc_cd 66 25 = some (.iload_n 1, 1) := by decide +kernel
theorem c66_26 : mc_cd 66 26 = some (.invokevirtual 159, 3) := by decide +kernel
theorem c66_29 : mc_cd 66 29 = some (.invokevirtual 99, 3) := by decide +kernel
theorem c66_32 : mc_cd 66 32 = some (.ireturn, 1) := by decide +kernel
abbrev q_66 (r0 : Nat) (a1 : Int) (T : wq_T) (H : wq_H) : Option Value → wq_T → wq_H → Prop := fun r T' H' => T = T' ∧ WT T H' ∧ wfr [(1, 10), (6, 5), (8, 999), (10, 999), (9, 999), (7, 999), (11, 999)] T H H' ∧ ∃ z : Int, some (vI z) = r ∧ ((-2147483648) ≤ z ∧ z ≤ 2147483647)
set_option maxHeartbeats 4000000 in
theorem s_66 {kt : Nat → Option mc_E} {T : wq_T} {H : wq_H} {r0 : Nat} {a1 : Int} (hW : WT T H) (g0 : T.2.2.2 r0 = some 1) (i1 : (-2147483648) ≤ a1 ∧ a1 ≤ 2147483647) : wpc kt 5 66 [.ref r0, vI a1] T H (q_66 r0 a1 T H) := by
  refine wp_enter e66 (Nat.le_of_ble_eq_true rfl) rfl ?_
  have f0 : wfr [(1, 10), (6, 5), (8, 999), (10, 999), (9, 999), (7, 999), (11, 999)] T H H := wfr.rf
  show wp _ _ 66 0 [(0, .ref r0), (1, vI a1)] [] _ H _
  refine wp_of e66 c66_0 (rw_aload_n (pc' := 1) (v := .ref r0) rfl rfl rfl ?_)
  refine wp_of e66 c66_1 (rw_aload_n (pc' := 2) (v := .ref r0) rfl rfl rfl ?_)
  refine wp_of e66 c66_2 (rw_iload_n (pc' := 3) (z := a1) rfl rfl ?_)
  refine wp_of e66 c66_3 (xc_V (pc' := 6) (r := r0) (as := [vI a1]) (st := [.ref r0]) (lm_0_132) rfl rfl (Nat.le_of_ble_eq_true rfl) hW g0 sh_1 (by decide) rfl (by decide) (s_60 hW g0 ⟨by omega, by omega⟩) (fun R19223 T19224 H19225 p19226 => ?_))
  obtain ⟨e19227, e19229, z19231, e19228, b19232, p19230⟩ := p19226
  subst e19227
  subst e19228
  subst e19229
  show wp _ _ 66 6 [(0, .ref r0), (1, vI a1)] [vI z19231, .ref r0] _ H _
  refine wp_of e66 c66_6 (xc_V (pc' := 9) (r := r0) (as := [vI z19231]) (st := []) (lm_0_155) rfl rfl (Nat.le_of_ble_eq_true rfl) hW g0 sh_1 (by decide) rfl (by decide) (s_67 hW g0 ⟨by omega, by omega⟩) (fun R19233 T19234 H19235 p19236 => ?_))
  obtain ⟨e19237, w19239, f19240, z19242, e19238, b19243, p19241⟩ := p19236
  subst e19237
  subst e19238
  have f19244 := f0.tr f19240 rfl
  show wp _ _ 66 9 [(0, .ref r0), (1, vI a1)] [vI z19242] _ H19235 _
  refine wp_of e66 c66_9 (rw_istore_n (pc' := 10) (z := z19242) (L' := [(2, vI z19242), (0, .ref r0), (1, vI a1)]) rfl rfl rfl ?_)
  refine wp_of e66 c66_10 (rw_iload_n (pc' := 11) (z := z19242) rfl rfl ?_)
  refine wp_of e66 c66_11 (rw_if_eq (p1 := 20) (p2 := 14) (by decide) rfl ⟨by omega, by omega⟩ (fun c19245 => ?_) (fun c19245 => ?_))
  · refine wp_of e66 c66_20 (rw_aload_n (pc' := 21) (v := .ref r0) rfl rfl rfl ?_)
    refine wp_of e66 c66_21 (rw_aload_n (pc' := 22) (v := .ref r0) rfl rfl rfl ?_)
    refine wp_of e66 c66_22 (xg_R (pc' := 25) lf_0_23 w19239 g0 sh_1 (by decide) (by decide) ty_1_2 rfl rfl (fun r19246 q19247 g19248 => ?_))
    refine wp_of e66 c66_25 (rw_iload_n (pc' := 26) (z := a1) rfl rfl ?_)
    refine wp_of e66 c66_26 (xc_V (pc' := 29) (r := r19246) (as := [vI a1]) (st := [.ref r0]) (lm_0_159) rfl rfl (Nat.le_of_ble_eq_true rfl) w19239 g19248 sh_6 (by decide) rfl (by decide) (s_72 w19239 g19248 ⟨by omega, by omega⟩) (fun R19249 T19250 H19251 p19252 => ?_))
    obtain ⟨e19253, e19255, z19256, e19254, b19257⟩ := p19252
    subst e19253
    subst e19254
    subst e19255
    show wp _ _ 66 29 [(2, vI z19242), (0, .ref r0), (1, vI a1)] [vI z19256, .ref r0] _ H19235 _
    refine wp_of e66 c66_29 (xc_V (pc' := 32) (r := r0) (as := [vI z19256]) (st := []) (lm_0_99) rfl rfl (Nat.le_of_ble_eq_true rfl) w19239 g0 sh_1 (by decide) rfl (by decide) (s_51 w19239 g0 ⟨by omega, by omega⟩) (fun R19258 T19259 H19260 p19261 => ?_))
    obtain ⟨e19262, w19264, f19265, z19266, e19263, b19267⟩ := p19261
    subst e19262
    subst e19263
    have f19268 := f19244.tr f19265 rfl
    show wp _ _ 66 32 [(2, vI z19242), (0, .ref r0), (1, vI a1)] [vI z19266] _ H19260 _
    exact wp_ireturn e66 c66_32 rfl ⟨rfl, w19264, f19268, z19266, rfl, ⟨by omega, by omega⟩⟩
  · refine wp_of e66 c66_14 (rw_aload_n (pc' := 15) (v := .ref r0) rfl rfl rfl ?_)
    refine wp_of e66 c66_15 (rw_iload_n (pc' := 16) (z := z19242) rfl rfl ?_)
    refine wp_of e66 c66_16 (xc_V (pc' := 19) (r := r0) (as := [vI z19242]) (st := []) (lm_0_70) rfl rfl (Nat.le_of_ble_eq_true rfl) w19239 g0 sh_1 (by decide) rfl (by decide) (s_12 w19239 g0 ⟨by omega, by omega⟩) (fun R19269 T19270 H19271 p19272 => ?_))
    obtain ⟨e19273, w19275, f19276, z19277, e19274, b19278⟩ := p19272
    subst e19273
    subst e19274
    have f19279 := f19244.tr f19276 rfl
    show wp _ _ 66 19 [(2, vI z19242), (0, .ref r0), (1, vI a1)] [vI z19277] _ H19271 _
    exact wp_ireturn e66 c66_19 rfl ⟨rfl, w19275, f19279, z19277, rfl, ⟨by omega, by omega⟩⟩
/-! StrikeAwake$Parish.verdict(II)I -/
theorem e76 : wq_en 76 = some (7, 4, false, some FieldType.int) := rfl
theorem c76_0 : mc_cd 76 0 = some (.aload_n 0, 1) := by decide +kernel
theorem c76_1 : mc_cd 76 1 = some (.getfield 17, 3) := by decide +kernel
theorem c76_4 : mc_cd 76 4 = some (.iload_n 1, 1) := by decide +kernel
theorem c76_5 : mc_cd 76 5 = some (.iaload, 1) := by decide +kernel
theorem c76_6 : mc_cd 76 6 = some (.istore_n 3, 1) := by decide +kernel
theorem c76_7 : mc_cd 76 7 = some (.iload_n 3, 1) := by decide +kernel
theorem c76_8 : mc_cd 76 8 = some (.ifCond .lt 18, 3) := by decide +kernel
theorem c76_11 : mc_cd 76 11 = some (.iload_n 3, 1) := by decide +kernel
theorem c76_12 : mc_cd 76 12 = some (.iload_n 2, 1) := by decide +kernel
theorem c76_13 : mc_cd 76 13 = some (.if_icmp .lt 15, 3) := by decide +kernel
theorem c76_16 : mc_cd 76 16 = some (.iload_n 3, 1) := by decide +kernel
theorem c76_17 : mc_cd 76 17 = some (.iload_n 2, 1) := by decide +kernel
theorem c76_18 : mc_cd 76 18 = some (.aload_n 0, 1) := by decide +kernel
theorem c76_19 : mc_cd 76 19 = some (.getfield 44, 3) := by decide +kernel
theorem c76_22 : mc_cd 76 22 = some (.iadd, 1) := by decide +kernel
theorem c76_23 : mc_cd 76 23 = some (.if_icmp .gt 5, 3) := by decide +kernel
theorem c76_26 : mc_cd 76 26 = some (.iconst 0, 1) := by decide +kernel
theorem c76_27 : mc_cd 76 27 = some (.ireturn, 1) := by decide +kernel
theorem c76_28 : mc_cd 76 28 = some (.iload_n 3, 1) := by decide +kernel
theorem c76_29 : mc_cd 76 29 = some (.iload_n 2, 1) := by decide +kernel
theorem c76_30 : mc_cd 76 30 = some (.iconst 1, 1) := by decide +kernel
theorem c76_31 : mc_cd 76 31 = some (.isub, 1) := by decide +kernel
theorem c76_32 : mc_cd 76 32 = some (.if_icmp .eq 15, 3) := by decide +kernel
theorem c76_35 : mc_cd 76 35 = some (.iload_n 3, 1) := by decide +kernel
theorem c76_36 : mc_cd 76 36 = some (.iload_n 2, 1) := by decide +kernel
theorem c76_37 : mc_cd 76 37 = some (.aload_n 0, 1) := by decide +kernel
theorem c76_38 : mc_cd 76 38 = some (.getfield 44, 3) := by decide +kernel
theorem c76_41 : mc_cd 76 41 = some (.iadd, 1) := by decide +kernel
theorem c76_42 : mc_cd 76 42 = some (.iconst 1, 1) := by decide +kernel
theorem c76_43 : mc_cd 76 43 = some (.iadd, 1) := by decide +kernel
theorem c76_44 : mc_cd 76 44 = some (.if_icmp .ne 7, 3) := by decide +kernel
theorem c76_47 : mc_cd 76 47 = some (.iconst 1, 1) := by decide +kernel
theorem c76_48 : mc_cd 76 48 = some (.goto 4, 3) := by decide +kernel
theorem c76_51 : mc_cd 76 51 = some (.iconst 2, 1) := by decide +kernel
theorem c76_52 : mc_cd 76 52 = some (.ireturn, 1) := by decide +kernel
abbrev q_76 (r0 : Nat) (a1 : Int) (a2 : Int) (T : wq_T) (H : wq_H) : Option Value → wq_T → wq_H → Prop := fun r T' H' => T = T' ∧ H = H' ∧ ∃ z : Int, some (vI z) = r ∧ (0 ≤ z ∧ z ≤ 2)
set_option maxHeartbeats 4000000 in
theorem s_76 {kt : Nat → Option mc_E} {T : wq_T} {H : wq_H} {r0 : Nat} {a1 : Int} {a2 : Int} (hW : WT T H) (g0 : T.2.2.2 r0 = some 27) (i1 : 0 ≤ a1 ∧ a1 ≤ 23) (i2 : (-2147483648) ≤ a2 ∧ a2 ≤ 2147483647) : wpc kt 1 76 [.ref r0, vI a1, vI a2] T H (q_76 r0 a1 a2 T H) := by
  refine wp_enter e76 (Nat.le_of_ble_eq_true rfl) rfl ?_
  show wp _ _ 76 0 [(0, .ref r0), (1, vI a1), (2, vI a2)] [] _ H _
  refine wp_of e76 c76_0 (rw_aload_n (pc' := 1) (v := .ref r0) rfl rfl rfl ?_)
  refine wp_of e76 c76_1 (xg_R (pc' := 4) lf_7_17 hW g0 sh_27 (by decide) (by decide) ty_27_1 rfl rfl (fun r19310 q19311 g19312 => ?_))
  refine wp_of e76 c76_4 (rw_iload_n (pc' := 5) (z := a1) rfl rfl ?_)
  refine wp_of e76 c76_5 (xa_I (so := 0) (pc' := 6) hW g19312 sh_29 (by decide) (ty_29 _) (by omega) (by omega) rfl (fun b19313 b19314 => ?_))
  refine wp_of e76 c76_6 (rw_istore_n (pc' := 7) (z := H r19310 (a1.toNat)) (L' := [(3, vI (H r19310 (a1.toNat))), (0, .ref r0), (1, vI a1), (2, vI a2)]) rfl rfl rfl ?_)
  refine wp_of e76 c76_7 (rw_iload_n (pc' := 8) (z := H r19310 (a1.toNat)) rfl rfl ?_)
  refine wp_of e76 c76_8 (rw_if_lt (p1 := 26) (p2 := 11) (by decide) rfl ⟨by omega, by omega⟩ (fun c19315 => ?_) (fun c19315 => ?_))
  · refine wp_of e76 c76_26 (rw_iconst (pc' := 27) rfl ?_)
    exact wp_ireturn e76 c76_27 rfl ⟨rfl, rfl, 0, rfl, ⟨by omega, by omega⟩⟩
  · refine wp_of e76 c76_11 (rw_iload_n (pc' := 12) (z := H r19310 (a1.toNat)) rfl rfl ?_)
    refine wp_of e76 c76_12 (rw_iload_n (pc' := 13) (z := a2) rfl rfl ?_)
    refine wp_of e76 c76_13 (rw_icmp_lt (p1 := 28) (p2 := 16) (by decide) rfl ⟨by omega, by omega⟩ ⟨by omega, by omega⟩ (fun c19316 => ?_) (fun c19316 => ?_))
    · refine wp_of e76 c76_28 (rw_iload_n (pc' := 29) (z := H r19310 (a1.toNat)) rfl rfl ?_)
      refine wp_of e76 c76_29 (rw_iload_n (pc' := 30) (z := a2) rfl rfl ?_)
      refine wp_of e76 c76_30 (rw_iconst (pc' := 31) rfl ?_)
      refine wp_of e76 c76_31 (rw_isub (pc' := 32) rfl ?_)
      refine wp_of e76 c76_32 (rw_icmp_eq (p1 := 47) (p2 := 35) (by decide) rfl ⟨by omega, by omega⟩ ⟨by omega, by omega⟩ (fun c19317 => ?_) (fun c19317 => ?_))
      · refine wp_of e76 c76_47 (rw_iconst (pc' := 48) rfl ?_)
        refine wp_of e76 c76_48 (rw_goto (p1 := 52) (by decide) ?_)
        exact wp_ireturn e76 c76_52 rfl ⟨rfl, rfl, 1, rfl, ⟨by omega, by omega⟩⟩
      · refine wp_of e76 c76_35 (rw_iload_n (pc' := 36) (z := H r19310 (a1.toNat)) rfl rfl ?_)
        refine wp_of e76 c76_36 (rw_iload_n (pc' := 37) (z := a2) rfl rfl ?_)
        refine wp_of e76 c76_37 (rw_aload_n (pc' := 38) (v := .ref r0) rfl rfl rfl ?_)
        refine wp_of e76 c76_38 (xg_I (pc' := 41) lf_7_44 hW g0 sh_27 (by decide) (by decide) ty_27_8 rfl rfl (fun b19318 b19319 => ?_))
        refine wp_of e76 c76_41 (rw_iaddw (pc' := 42) rfl ?_)
        obtain ⟨v19320, e19321⟩ : ∃ x : Int, x = wq_w (a2 + (H r0 8)) := ⟨_, rfl⟩
        rw [← e19321]
        have b19322 : -2147483648 ≤ v19320 ∧ v19320 ≤ 2147483647 := by
          rw [e19321]
          exact wI_w _
        refine wp_of e76 c76_42 (rw_iconst (pc' := 43) rfl ?_)
        refine wp_of e76 c76_43 (rw_iaddw (pc' := 44) rfl ?_)
        obtain ⟨v19323, e19324⟩ : ∃ x : Int, x = wq_w (v19320 + 1) := ⟨_, rfl⟩
        rw [← e19324]
        have b19325 : -2147483648 ≤ v19323 ∧ v19323 ≤ 2147483647 := by
          rw [e19324]
          exact wI_w _
        refine wp_of e76 c76_44 (rw_icmp_ne (p1 := 51) (p2 := 47) (by decide) rfl ⟨by omega, by omega⟩ ⟨by omega, by omega⟩ (fun c19326 => ?_) (fun c19326 => ?_))
        · refine wp_of e76 c76_51 (rw_iconst (pc' := 52) rfl ?_)
          exact wp_ireturn e76 c76_52 rfl ⟨rfl, rfl, 2, rfl, ⟨by omega, by omega⟩⟩
        · refine wp_of e76 c76_47 (rw_iconst (pc' := 48) rfl ?_)
          refine wp_of e76 c76_48 (rw_goto (p1 := 52) (by decide) ?_)
          exact wp_ireturn e76 c76_52 rfl ⟨rfl, rfl, 1, rfl, ⟨by omega, by omega⟩⟩
    · refine wp_of e76 c76_16 (rw_iload_n (pc' := 17) (z := H r19310 (a1.toNat)) rfl rfl ?_)
      refine wp_of e76 c76_17 (rw_iload_n (pc' := 18) (z := a2) rfl rfl ?_)
      refine wp_of e76 c76_18 (rw_aload_n (pc' := 19) (v := .ref r0) rfl rfl rfl ?_)
      refine wp_of e76 c76_19 (xg_I (pc' := 22) lf_7_44 hW g0 sh_27 (by decide) (by decide) ty_27_8 rfl rfl (fun b19327 b19328 => ?_))
      refine wp_of e76 c76_22 (rw_iaddw (pc' := 23) rfl ?_)
      obtain ⟨v19329, e19330⟩ : ∃ x : Int, x = wq_w (a2 + (H r0 8)) := ⟨_, rfl⟩
      rw [← e19330]
      have b19331 : -2147483648 ≤ v19329 ∧ v19329 ≤ 2147483647 := by
        rw [e19330]
        exact wI_w _
      refine wp_of e76 c76_23 (rw_icmp_gt (p1 := 28) (p2 := 26) (by decide) rfl ⟨by omega, by omega⟩ ⟨by omega, by omega⟩ (fun c19332 => ?_) (fun c19332 => ?_))
      · refine wp_of e76 c76_28 (rw_iload_n (pc' := 29) (z := H r19310 (a1.toNat)) rfl rfl ?_)
        refine wp_of e76 c76_29 (rw_iload_n (pc' := 30) (z := a2) rfl rfl ?_)
        refine wp_of e76 c76_30 (rw_iconst (pc' := 31) rfl ?_)
        refine wp_of e76 c76_31 (rw_isubw (pc' := 32) rfl ?_)
        obtain ⟨v19333, e19334⟩ : ∃ x : Int, x = wq_w (a2 - 1) := ⟨_, rfl⟩
        rw [← e19334]
        have b19335 : -2147483648 ≤ v19333 ∧ v19333 ≤ 2147483647 := by
          rw [e19334]
          exact wI_w _
        refine wp_of e76 c76_32 (rw_icmp_eq (p1 := 47) (p2 := 35) (by decide) rfl ⟨by omega, by omega⟩ ⟨by omega, by omega⟩ (fun c19336 => ?_) (fun c19336 => ?_))
        · refine wp_of e76 c76_47 (rw_iconst (pc' := 48) rfl ?_)
          refine wp_of e76 c76_48 (rw_goto (p1 := 52) (by decide) ?_)
          exact wp_ireturn e76 c76_52 rfl ⟨rfl, rfl, 1, rfl, ⟨by omega, by omega⟩⟩
        · refine wp_of e76 c76_35 (rw_iload_n (pc' := 36) (z := H r19310 (a1.toNat)) rfl rfl ?_)
          refine wp_of e76 c76_36 (rw_iload_n (pc' := 37) (z := a2) rfl rfl ?_)
          refine wp_of e76 c76_37 (rw_aload_n (pc' := 38) (v := .ref r0) rfl rfl rfl ?_)
          refine wp_of e76 c76_38 (xg_I (pc' := 41) lf_7_44 hW g0 sh_27 (by decide) (by decide) ty_27_8 rfl rfl (fun b19337 b19338 => ?_))
          refine wp_of e76 c76_41 (rw_iaddw (pc' := 42) rfl ?_)
          obtain ⟨v19339, e19340⟩ : ∃ x : Int, x = wq_w (a2 + (H r0 8)) := ⟨_, rfl⟩
          rw [← e19340]
          have b19341 : -2147483648 ≤ v19339 ∧ v19339 ≤ 2147483647 := by
            rw [e19340]
            exact wI_w _
          refine wp_of e76 c76_42 (rw_iconst (pc' := 43) rfl ?_)
          refine wp_of e76 c76_43 (rw_iaddw (pc' := 44) rfl ?_)
          obtain ⟨v19342, e19343⟩ : ∃ x : Int, x = wq_w (v19339 + 1) := ⟨_, rfl⟩
          rw [← e19343]
          have b19344 : -2147483648 ≤ v19342 ∧ v19342 ≤ 2147483647 := by
            rw [e19343]
            exact wI_w _
          refine wp_of e76 c76_44 (rw_icmp_ne (p1 := 51) (p2 := 47) (by decide) rfl ⟨by omega, by omega⟩ ⟨by omega, by omega⟩ (fun c19345 => ?_) (fun c19345 => ?_))
          · refine wp_of e76 c76_51 (rw_iconst (pc' := 52) rfl ?_)
            exact wp_ireturn e76 c76_52 rfl ⟨rfl, rfl, 2, rfl, ⟨by omega, by omega⟩⟩
          · refine wp_of e76 c76_47 (rw_iconst (pc' := 48) rfl ?_)
            refine wp_of e76 c76_48 (rw_goto (p1 := 52) (by decide) ?_)
            exact wp_ireturn e76 c76_52 rfl ⟨rfl, rfl, 1, rfl, ⟨by omega, by omega⟩⟩
      · refine wp_of e76 c76_26 (rw_iconst (pc' := 27) rfl ?_)
        exact wp_ireturn e76 c76_27 rfl ⟨rfl, rfl, 0, rfl, ⟨by omega, by omega⟩⟩
/-! StrikeAwake$Walk.wrongIn(LStrikeAwake$Parish;I)I -/
theorem e75 : wq_en 75 = some (3, 3, false, some FieldType.int) := rfl
theorem c75_0 : mc_cd 75 0 = some (.aload_n 1, 1) := by decide +kernel
theorem c75_1 : mc_cd 75 1 = some (.iload_n 2, 1) := by decide +kernel
theorem c75_2 : mc_cd 75 2 = some (.aload_n 0, 1) := by decide +kernel
theorem c75_3 : mc_cd 75 3 = some (.iload_n 2, 1) := by decide +kernel
theorem c75_4 : mc_cd 75 4 = some (.invokevirtual 92, 3) := by decide +kernel
theorem c75_7 : mc_cd 75 7 = some (.invokevirtual 96, 3) := by decide +kernel
theorem c75_10 : mc_cd 75 10 = some (.ifCond .eq 5, 3) := by decide +kernel
theorem c75_13 : mc_cd 75 13 = some (.iconst 1, 1) := by decide +kernel
theorem c75_14 : mc_cd 75 14 = some (.ireturn, 1) := by decide +kernel
theorem c75_15 : mc_cd 75 15 = some (.aload_n 0, 1) := by decide +kernel
theorem c75_16 : mc_cd 75 16 = some (.getfield 25, 3) := by decide +kernel
theorem c75_19 : mc_cd 75 19 = some (.aload_n 0, 1) := by decide +kernel
theorem c75_20 : mc_cd 75 20 = some (.getfield 51, 3) := by decide +kernel
theorem c75_23 : mc_cd 75 23 = some (.iaload, 1) := by decide +kernel
theorem c75_24 : mc_cd 75 24 = some (.iload_n 2, 1) := by decide +kernel
theorem c75_25 : mc_cd 75 25 = some (.invokestatic 99, 3) := by decide +kernel
theorem c75_28 : mc_cd 75 28 = some (.ifCond .eq 7, 3) := by decide +kernel
theorem c75_31 : mc_cd 75 31 = some (.iconst 2, 1) := by decide +kernel
theorem c75_32 : mc_cd 75 32 = some (.goto 4, 3) := by decide +kernel
theorem c75_35 : mc_cd 75 35 = some (.iconst 0, 1) := by decide +kernel
theorem c75_36 : mc_cd 75 36 = some (.ireturn, 1) := by decide +kernel
abbrev q_75 (r0 : Nat) (r1 : Nat) (a2 : Int) (T : wq_T) (H : wq_H) : Option Value → wq_T → wq_H → Prop := fun r T' H' => T = T' ∧ H = H' ∧ ∃ z : Int, some (vI z) = r ∧ (0 ≤ z ∧ z ≤ 2)
set_option maxHeartbeats 4000000 in
theorem s_75 {kt : Nat → Option mc_E} {T : wq_T} {H : wq_H} {r0 : Nat} {r1 : Nat} {a2 : Int} (hW : WT T H) (g0 : T.2.2.2 r0 = some 6) (g1 : T.2.2.2 r1 = some 27) (i2 : 0 ≤ a2 ∧ a2 ≤ 23) : wpc kt 2 75 [.ref r0, .ref r1, vI a2] T H (q_75 r0 r1 a2 T H) := by
  refine wp_enter e75 (Nat.le_of_ble_eq_true rfl) rfl ?_
  show wp _ _ 75 0 [(0, .ref r0), (1, .ref r1), (2, vI a2)] [] _ H _
  refine wp_of e75 c75_0 (rw_aload_n (pc' := 1) (v := .ref r1) rfl rfl rfl ?_)
  refine wp_of e75 c75_1 (rw_iload_n (pc' := 2) (z := a2) rfl rfl ?_)
  refine wp_of e75 c75_2 (rw_aload_n (pc' := 3) (v := .ref r0) rfl rfl rfl ?_)
  refine wp_of e75 c75_3 (rw_iload_n (pc' := 4) (z := a2) rfl rfl ?_)
  refine wp_of e75 c75_4 (xc_V (pc' := 7) (r := r0) (as := [vI a2]) (st := [vI a2, .ref r1]) (lm_3_92) rfl rfl (Nat.le_of_ble_eq_true rfl) hW g0 sh_6 (by decide) rfl (by decide) (s_72 hW g0 ⟨by omega, by omega⟩) (fun R19382 T19383 H19384 p19385 => ?_))
  obtain ⟨e19386, e19388, z19389, e19387, b19390⟩ := p19385
  subst e19386
  subst e19387
  subst e19388
  show wp _ _ 75 7 [(0, .ref r0), (1, .ref r1), (2, vI a2)] [vI z19389, vI a2, .ref r1] _ H _
  refine wp_of e75 c75_7 (xc_V (pc' := 10) (r := r1) (as := [vI a2, vI z19389]) (st := []) (lm_3_96) rfl rfl (Nat.le_of_ble_eq_true rfl) hW g1 sh_27 (by decide) rfl (by decide) (s_76 hW g1 ⟨by omega, by omega⟩ ⟨by omega, by omega⟩) (fun R19391 T19392 H19393 p19394 => ?_))
  obtain ⟨e19395, e19397, z19398, e19396, b19399⟩ := p19394
  subst e19395
  subst e19396
  subst e19397
  show wp _ _ 75 10 [(0, .ref r0), (1, .ref r1), (2, vI a2)] [vI z19398] _ H _
  refine wp_of e75 c75_10 (rw_if_eq (p1 := 15) (p2 := 13) (by decide) rfl ⟨by omega, by omega⟩ (fun c19400 => ?_) (fun c19400 => ?_))
  · refine wp_of e75 c75_15 (rw_aload_n (pc' := 16) (v := .ref r0) rfl rfl rfl ?_)
    refine wp_of e75 c75_16 (xg_R (pc' := 19) lf_3_25 hW g0 sh_6 (by decide) (by decide) ty_6_4 rfl rfl (fun r19401 q19402 g19403 => ?_))
    refine wp_of e75 c75_19 (rw_aload_n (pc' := 20) (v := .ref r0) rfl rfl rfl ?_)
    refine wp_of e75 c75_20 (xg_I (pc' := 23) lf_3_51 hW g0 sh_6 (by decide) (by decide) ty_6_5 rfl rfl (fun b19404 b19405 => ?_))
    refine wp_of e75 c75_23 (xa_I (so := 0) (pc' := 24) hW g19403 sh_11 (by decide) (ty_11 _) (by omega) (by omega) rfl (fun b19406 b19407 => ?_))
    refine wp_of e75 c75_24 (rw_iload_n (pc' := 25) (z := a2) rfl rfl ?_)
    refine wp_of e75 c75_25 (xc_S (pc' := 28) (as := [vI (H r19401 ((H r0 5).toNat)), vI a2]) (st := []) (lm_3_99) rfl rfl (Nat.le_of_ble_eq_true rfl) rfl (by decide) (s_36 hW ⟨by omega, by omega⟩ ⟨by omega, by omega⟩) (fun R19408 T19409 H19410 p19411 => ?_))
    obtain ⟨e19412, e19414, z19415, e19413, b19416⟩ := p19411
    subst e19412
    subst e19413
    subst e19414
    show wp _ _ 75 28 [(0, .ref r0), (1, .ref r1), (2, vI a2)] [vI z19415] _ H _
    refine wp_of e75 c75_28 (rw_if_eq (p1 := 35) (p2 := 31) (by decide) rfl ⟨by omega, by omega⟩ (fun c19417 => ?_) (fun c19417 => ?_))
    · refine wp_of e75 c75_35 (rw_iconst (pc' := 36) rfl ?_)
      exact wp_ireturn e75 c75_36 rfl ⟨rfl, rfl, 0, rfl, ⟨by omega, by omega⟩⟩
    · refine wp_of e75 c75_31 (rw_iconst (pc' := 32) rfl ?_)
      refine wp_of e75 c75_32 (rw_goto (p1 := 36) (by decide) ?_)
      exact wp_ireturn e75 c75_36 rfl ⟨rfl, rfl, 2, rfl, ⟨by omega, by omega⟩⟩
  · refine wp_of e75 c75_13 (rw_iconst (pc' := 14) rfl ?_)
    exact wp_ireturn e75 c75_14 rfl ⟨rfl, rfl, 1, rfl, ⟨by omega, by omega⟩⟩
/-! StrikeAwake$Walk.firstWrong(LStrikeAwake$Parish;)I -/
theorem e74 : wq_en 74 = some (3, 3, false, some FieldType.int) := rfl
theorem c74_0 : mc_cd 74 0 = some (.iconst 0, 1) := by decide +kernel
theorem c74_1 : mc_cd 74 1 = some (.istore_n 2, 1) := by decide +kernel
theorem c74_2 : mc_cd 74 2 = some (.iload_n 2, 1) := by decide +kernel
theorem c74_3 : mc_cd 74 3 = some (.aload_n 1, 1) := by decide +kernel
theorem c74_4 : mc_cd 74 4 = some (.getfield 103, 3) := by decide +kernel
theorem c74_7 : mc_cd 74 7 = some (.if_icmp .ge 20, 3) := by decide +kernel
theorem c74_10 : mc_cd 74 10 = some (.aload_n 0, 1) := by decide +kernel
theorem c74_11 : mc_cd 74 11 = some (.aload_n 1, 1) := by decide +kernel
theorem c74_12 : mc_cd 74 12 = some (.iload_n 2, 1) := by decide +kernel
theorem c74_13 : mc_cd 74 13 = some (.invokevirtual 106, 3) := by decide +kernel
theorem c74_16 : mc_cd 74 16 = some (.ifCond .eq 5, 3) := by decide +kernel
theorem c74_19 : mc_cd 74 19 = some (.iload_n 2, 1) := by decide +kernel
theorem c74_20 : mc_cd 74 20 = some (.ireturn, 1) := by decide +kernel
theorem c74_21 : mc_cd 74 21 = some (.iinc 2 1, 3) := by decide +kernel
theorem c74_24 : mc_cd 74 24 = some (.goto (-22), 3) := by decide +kernel
theorem c74_27 : mc_cd 74 27 = some (.bipush (-2), 2) := by decide +kernel
theorem c74_29 : mc_cd 74 29 = some (.ireturn, 1) := by decide +kernel
abbrev q_74 (r0 : Nat) (r1 : Nat) (T : wq_T) (H : wq_H) : Option Value → wq_T → wq_H → Prop := fun r T' H' => T = T' ∧ H = H' ∧ ∃ z : Int, some (vI z) = r ∧ ((-2) ≤ z ∧ z ≤ 23)
set_option maxHeartbeats 4000000 in
theorem s_74 {kt : Nat → Option mc_E} {T : wq_T} {H : wq_H} {r0 : Nat} {r1 : Nat} (hW : WT T H) (g0 : T.2.2.2 r0 = some 6) (g1 : T.2.2.2 r1 = some 27) : wpc kt 3 74 [.ref r0, .ref r1] T H (q_74 r0 r1 T H) := by
  refine wp_enter e74 (Nat.le_of_ble_eq_true rfl) rfl ?_
  show wp _ _ 74 0 [(0, .ref r0), (1, .ref r1)] [] _ H _
  refine wp_of e74 c74_0 (rw_iconst (pc' := 1) rfl ?_)
  refine wp_of e74 c74_1 (rw_istore_n (pc' := 2) (z := 0) (L' := [(2, vI 0), (0, .ref r0), (1, .ref r1)]) rfl rfl rfl ?_)
  have lp19640 : ∀ (n19641 : Nat) (v19643 : Int), (0 ≤ v19643 ∧ v19643 ≤ 24) → (24 - v19643).toNat = n19641 → wp kt 2 74 2 [(2, vI v19643), (0, .ref r0), (1, .ref r1)] [] T H (q_74 r0 r1 T H) := by
    intro n19641
    induction n19641 using Nat.strongRecOn with
    | _ n19641 ih19642 =>
      intro v19643 b19646 m19647
      refine wp_of e74 c74_2 (rw_iload_n (pc' := 3) (z := v19643) rfl rfl ?_)
      refine wp_of e74 c74_3 (rw_aload_n (pc' := 4) (v := .ref r1) rfl rfl rfl ?_)
      refine wp_of e74 c74_4 (xg_I (pc' := 7) lf_3_103 hW g1 sh_27 (by decide) (by decide) ty_27_7 rfl rfl (fun b19648 b19649 => ?_))
      refine wp_of e74 c74_7 (rw_icmp_ge (p1 := 27) (p2 := 10) (by decide) rfl ⟨by omega, by omega⟩ ⟨by omega, by omega⟩ (fun c19650 => ?_) (fun c19650 => ?_))
      · refine wp_of e74 c74_27 (rw_bipush (pc' := 29) (z := -2) rfl (by decide) ?_)
        exact wp_ireturn e74 c74_29 rfl ⟨rfl, rfl, -2, rfl, ⟨by omega, by omega⟩⟩
      · refine wp_of e74 c74_10 (rw_aload_n (pc' := 11) (v := .ref r0) rfl rfl rfl ?_)
        refine wp_of e74 c74_11 (rw_aload_n (pc' := 12) (v := .ref r1) rfl rfl rfl ?_)
        refine wp_of e74 c74_12 (rw_iload_n (pc' := 13) (z := v19643) rfl rfl ?_)
        refine wp_of e74 c74_13 (xc_V (pc' := 16) (r := r0) (as := [.ref r1, vI v19643]) (st := []) (lm_3_106) rfl rfl (Nat.le_of_ble_eq_true rfl) hW g0 sh_6 (by decide) rfl (by decide) (s_75 hW g0 g1 ⟨by omega, by omega⟩) (fun R19651 T19652 H19653 p19654 => ?_))
        obtain ⟨e19655, e19657, z19658, e19656, b19659⟩ := p19654
        subst e19655
        subst e19656
        subst e19657
        show wp _ _ 74 16 [(2, vI v19643), (0, .ref r0), (1, .ref r1)] [vI z19658] _ H _
        refine wp_of e74 c74_16 (rw_if_eq (p1 := 21) (p2 := 19) (by decide) rfl ⟨by omega, by omega⟩ (fun c19660 => ?_) (fun c19660 => ?_))
        · refine wp_of e74 c74_21 (rw_iinc (pc' := 24) (z := v19643) (L' := [(2, vI (v19643 + 1)), (0, .ref r0), (1, .ref r1)]) rfl rfl rfl rfl ?_)
          refine wp_of e74 c74_24 (rw_goto (p1 := 2) (by decide) ?_)
          exact wp_lc (ks := [2, 0, 1]) (wl_c rfl (wl_c rfl (wl_c rfl wl_n))) rfl (by decide) (ih19642 _ (by omega) (v19643 + 1) ⟨by omega, by omega⟩ rfl)
        · refine wp_of e74 c74_19 (rw_iload_n (pc' := 20) (z := v19643) rfl rfl ?_)
          exact wp_ireturn e74 c74_20 rfl ⟨rfl, rfl, v19643, rfl, ⟨by omega, by omega⟩⟩
  exact wp_lc (ks := [2, 0, 1]) (wl_c rfl (wl_c rfl (wl_c rfl wl_n))) rfl (by decide) (lp19640 _ 0 ⟨by omega, by omega⟩ rfl)
/-! StrikeAwake.judge()I -/
theorem e73 : wq_en 73 = some (0, 2, false, some FieldType.int) := rfl
theorem c73_0 : mc_cd 73 0 = some (.aload_n 0, 1) := by decide +kernel
theorem c73_1 : mc_cd 73 1 = some (.aload_n 0, 1) := by decide +kernel
theorem c73_2 : mc_cd 73 2 = some (.getfield 58, 3) := by decide +kernel
theorem c73_5 : mc_cd 73 5 = some (.invokevirtual 155, 3) := by decide +kernel
theorem c73_8 : mc_cd 73 8 = some (.istore_n 1, 1) := by decide +kernel
theorem c73_9 : mc_cd 73 9 = some (.iload_n 1, 1) := by decide +kernel
theorem c73_10 : mc_cd 73 10 = some (.ifCond .eq 9, 3) := by decide +kernel
theorem c73_13 : mc_cd 73 13 = some (.aload_n 0, 1) := by decide +kernel
theorem c73_14 : mc_cd 73 14 = some (.iload_n 1, 1) := by decide +kernel
theorem c73_15 : mc_cd 73 15 = some (.invokevirtual 70, 3) := by decide +kernel
theorem c73_18 : mc_cd 73 18 = some (.ireturn, 1) := by decide +kernel
theorem c73_19 : mc_cd 73 19 = some (.aload_n 0, 1) := by decide +kernel
theorem c73_20 : mc_cd 73 20 = some (.aload_n 0, 1) := by decide +kernel
theorem c73_21 : mc_cd 73 21 = some (.getfield 23, 3) := by decide +kernel
theorem c73_24 : mc_cd 73 24 = some (.aload_n 0, 1) := by decide +kernel
theorem c73_25 : mc_cd 73 25 = some (.getfield 51, 3) := by decide +kernel
theorem c73_28 : mc_cd 73 28 = some (.invokevirtual 162, 3) := by decide +kernel
theorem c73_31 : mc_cd 73 31 = some (.invokevirtual 99, 3) := by decide +kernel
theorem c73_34 : mc_cd 73 34 = some (.ireturn, 1) := by decide +kernel
abbrev q_73 (r0 : Nat) (T : wq_T) (H : wq_H) : Option Value → wq_T → wq_H → Prop := fun r T' H' => T = T' ∧ WT T H' ∧ wfr [(1, 10), (6, 5), (8, 999), (10, 999), (9, 999), (7, 999), (11, 999)] T H H' ∧ ∃ z : Int, some (vI z) = r ∧ ((-2147483648) ≤ z ∧ z ≤ 2147483647)
set_option maxHeartbeats 4000000 in
theorem s_73 {kt : Nat → Option mc_E} {T : wq_T} {H : wq_H} {r0 : Nat} (hW : WT T H) (g0 : T.2.2.2 r0 = some 1) : wpc kt 5 73 [.ref r0] T H (q_73 r0 T H) := by
  refine wp_enter e73 (Nat.le_of_ble_eq_true rfl) rfl ?_
  have f0 : wfr [(1, 10), (6, 5), (8, 999), (10, 999), (9, 999), (7, 999), (11, 999)] T H H := wfr.rf
  show wp _ _ 73 0 [(0, .ref r0)] [] _ H _
  refine wp_of e73 c73_0 (rw_aload_n (pc' := 1) (v := .ref r0) rfl rfl rfl ?_)
  refine wp_of e73 c73_1 (rw_aload_n (pc' := 2) (v := .ref r0) rfl rfl rfl ?_)
  refine wp_of e73 c73_2 (xg_I (pc' := 5) lf_0_58 hW g0 sh_1 (by decide) (by decide) ty_1_8 rfl rfl (fun b19713 b19714 => ?_))
  refine wp_of e73 c73_5 (xc_V (pc' := 8) (r := r0) (as := [vI (H r0 8)]) (st := []) (lm_0_155) rfl rfl (Nat.le_of_ble_eq_true rfl) hW g0 sh_1 (by decide) rfl (by decide) (s_67 hW g0 ⟨by omega, by omega⟩) (fun R19715 T19716 H19717 p19718 => ?_))
  obtain ⟨e19719, w19721, f19722, z19724, e19720, b19725, p19723⟩ := p19718
  subst e19719
  subst e19720
  have f19726 := f0.tr f19722 rfl
  show wp _ _ 73 8 [(0, .ref r0)] [vI z19724] _ H19717 _
  refine wp_of e73 c73_8 (rw_istore_n (pc' := 9) (z := z19724) (L' := [(1, vI z19724), (0, .ref r0)]) rfl rfl rfl ?_)
  refine wp_of e73 c73_9 (rw_iload_n (pc' := 10) (z := z19724) rfl rfl ?_)
  refine wp_of e73 c73_10 (rw_if_eq (p1 := 19) (p2 := 13) (by decide) rfl ⟨by omega, by omega⟩ (fun c19727 => ?_) (fun c19727 => ?_))
  · refine wp_of e73 c73_19 (rw_aload_n (pc' := 20) (v := .ref r0) rfl rfl rfl ?_)
    refine wp_of e73 c73_20 (rw_aload_n (pc' := 21) (v := .ref r0) rfl rfl rfl ?_)
    refine wp_of e73 c73_21 (xg_R (pc' := 24) lf_0_23 w19721 g0 sh_1 (by decide) (by decide) ty_1_2 rfl rfl (fun r19728 q19729 g19730 => ?_))
    refine wp_of e73 c73_24 (rw_aload_n (pc' := 25) (v := .ref r0) rfl rfl rfl ?_)
    refine wp_of e73 c73_25 (xg_R (pc' := 28) lf_0_51 w19721 g0 sh_1 (by decide) (by decide) ty_1_6 rfl rfl (fun r19731 q19732 g19733 => ?_))
    refine wp_of e73 c73_28 (xc_V (pc' := 31) (r := r19728) (as := [.ref r19731]) (st := [.ref r0]) (lm_0_162) rfl rfl (Nat.le_of_ble_eq_true rfl) w19721 g19730 sh_6 (by decide) rfl (by decide) (s_74 w19721 g19730 g19733) (fun R19734 T19735 H19736 p19737 => ?_))
    obtain ⟨e19738, e19740, z19741, e19739, b19742⟩ := p19737
    subst e19738
    subst e19739
    subst e19740
    show wp _ _ 73 31 [(1, vI z19724), (0, .ref r0)] [vI z19741, .ref r0] _ H19717 _
    refine wp_of e73 c73_31 (xc_V (pc' := 34) (r := r0) (as := [vI z19741]) (st := []) (lm_0_99) rfl rfl (Nat.le_of_ble_eq_true rfl) w19721 g0 sh_1 (by decide) rfl (by decide) (s_51 w19721 g0 ⟨by omega, by omega⟩) (fun R19743 T19744 H19745 p19746 => ?_))
    obtain ⟨e19747, w19749, f19750, z19751, e19748, b19752⟩ := p19746
    subst e19747
    subst e19748
    have f19753 := f19726.tr f19750 rfl
    show wp _ _ 73 34 [(1, vI z19724), (0, .ref r0)] [vI z19751] _ H19745 _
    exact wp_ireturn e73 c73_34 rfl ⟨rfl, w19749, f19753, z19751, rfl, ⟨by omega, by omega⟩⟩
  · refine wp_of e73 c73_13 (rw_aload_n (pc' := 14) (v := .ref r0) rfl rfl rfl ?_)
    refine wp_of e73 c73_14 (rw_iload_n (pc' := 15) (z := z19724) rfl rfl ?_)
    refine wp_of e73 c73_15 (xc_V (pc' := 18) (r := r0) (as := [vI z19724]) (st := []) (lm_0_70) rfl rfl (Nat.le_of_ble_eq_true rfl) w19721 g0 sh_1 (by decide) rfl (by decide) (s_12 w19721 g0 ⟨by omega, by omega⟩) (fun R19754 T19755 H19756 p19757 => ?_))
    obtain ⟨e19758, w19760, f19761, z19762, e19759, b19763⟩ := p19757
    subst e19758
    subst e19759
    have f19764 := f19726.tr f19761 rfl
    show wp _ _ 73 18 [(1, vI z19724), (0, .ref r0)] [vI z19762] _ H19756 _
    exact wp_ireturn e73 c73_18 rfl ⟨rfl, w19760, f19764, z19762, rfl, ⟨by omega, by omega⟩⟩
/-! StrikeAwake.why()I -/
theorem e77 : wq_en 77 = some (0, 3, false, some FieldType.int) := rfl
theorem c77_0 : mc_cd 77 0 = some (.aload_n 0, 1) := by decide +kernel
theorem c77_1 : mc_cd 77 1 = some (.aload_n 0, 1) := by decide +kernel
theorem c77_2 : mc_cd 77 2 = some (.getfield 58, 3) := by decide +kernel
theorem c77_5 : mc_cd 77 5 = some (.invokevirtual 155, 3) := by decide +kernel
theorem c77_8 : mc_cd 77 8 = some (.istore_n 1, 1) := by decide +kernel
theorem c77_9 : mc_cd 77 9 = some (.iload_n 1, 1) := by decide +kernel
theorem c77_10 : mc_cd 77 10 = some (.ifCond .eq 9, 3) := by decide +kernel
theorem c77_13 : mc_cd 77 13 = some (.aload_n 0, 1) := by decide +kernel
theorem c77_14 : mc_cd 77 14 = some (.iload_n 1, 1) := by decide +kernel
theorem c77_15 : mc_cd 77 15 = some (.invokevirtual 70, 3) := by decide +kernel
theorem c77_18 : mc_cd 77 18 = some (.ireturn, 1) := by decide +kernel
theorem c77_19 : mc_cd 77 19 = some (.aload_n 0, 1) := by decide +kernel
theorem c77_20 : mc_cd 77 20 = some (.getfield 23, 3) := by decide +kernel
theorem c77_23 : mc_cd 77 23 = some (.aload_n 0, 1) := by decide +kernel
theorem c77_24 : mc_cd 77 24 = some (.getfield 51, 3) := by decide +kernel
theorem c77_27 : mc_cd 77 27 = some (.invokevirtual 162, 3) := by decide +kernel
theorem c77_30 : mc_cd 77 30 = some (.istore_n 2, 1) := by decide +kernel
theorem c77_31 : mc_cd 77 31 = some (.aload_n 0, 1) := by decide +kernel
theorem c77_32 : mc_cd 77 32 = some (.iload_n 2, 1) := by decide +kernel
theorem c77_33 : mc_cd 77 33 = some (.ifCond .ge 7, 3) := by decide +kernel
theorem c77_36 : mc_cd 77 36 = some (.iconst 0, 1) := by decide +kernel
theorem c77_37 : mc_cd 77 37 = some (.goto 15, 3) := by decide +kernel
theorem c77_40 : mc_cd 77 40 = some (.aload_n 0, 1) := by decide +kernel
theorem c77_41 : mc_cd 77 41 = some (.getfield 23, 3) := by decide +kernel
theorem c77_44 : mc_cd 77 44 = some (.aload_n 0, 1) := by decide +kernel
theorem c77_45 : mc_cd 77 45 = some (.getfield 51, 3) := by decide +kernel
theorem c77_48 : mc_cd 77 48 = some (.iload_n 2, 1) := by decide +kernel
theorem c77_49 : mc_cd 77 49 = some (.invokevirtual 166, 3) := by decide +kernel
theorem c77_52 : mc_cd 77 52 = some (.invokevirtual 99, 3) := by decide +kernel
theorem c77_55 : mc_cd 77 55 = some (.ireturn, 1) := by decide +kernel
abbrev q_77 (r0 : Nat) (T : wq_T) (H : wq_H) : Option Value → wq_T → wq_H → Prop := fun r T' H' => T = T' ∧ WT T H' ∧ wfr [(1, 10), (6, 5), (8, 999), (10, 999), (9, 999), (7, 999), (11, 999)] T H H' ∧ ∃ z : Int, some (vI z) = r ∧ ((-2147483648) ≤ z ∧ z ≤ 2147483647)
set_option maxHeartbeats 4000000 in
theorem s_77 {kt : Nat → Option mc_E} {T : wq_T} {H : wq_H} {r0 : Nat} (hW : WT T H) (g0 : T.2.2.2 r0 = some 1) : wpc kt 5 77 [.ref r0] T H (q_77 r0 T H) := by
  refine wp_enter e77 (Nat.le_of_ble_eq_true rfl) rfl ?_
  have f0 : wfr [(1, 10), (6, 5), (8, 999), (10, 999), (9, 999), (7, 999), (11, 999)] T H H := wfr.rf
  show wp _ _ 77 0 [(0, .ref r0)] [] _ H _
  refine wp_of e77 c77_0 (rw_aload_n (pc' := 1) (v := .ref r0) rfl rfl rfl ?_)
  refine wp_of e77 c77_1 (rw_aload_n (pc' := 2) (v := .ref r0) rfl rfl rfl ?_)
  refine wp_of e77 c77_2 (xg_I (pc' := 5) lf_0_58 hW g0 sh_1 (by decide) (by decide) ty_1_8 rfl rfl (fun b19838 b19839 => ?_))
  refine wp_of e77 c77_5 (xc_V (pc' := 8) (r := r0) (as := [vI (H r0 8)]) (st := []) (lm_0_155) rfl rfl (Nat.le_of_ble_eq_true rfl) hW g0 sh_1 (by decide) rfl (by decide) (s_67 hW g0 ⟨by omega, by omega⟩) (fun R19840 T19841 H19842 p19843 => ?_))
  obtain ⟨e19844, w19846, f19847, z19849, e19845, b19850, p19848⟩ := p19843
  subst e19844
  subst e19845
  have f19851 := f0.tr f19847 rfl
  show wp _ _ 77 8 [(0, .ref r0)] [vI z19849] _ H19842 _
  refine wp_of e77 c77_8 (rw_istore_n (pc' := 9) (z := z19849) (L' := [(1, vI z19849), (0, .ref r0)]) rfl rfl rfl ?_)
  refine wp_of e77 c77_9 (rw_iload_n (pc' := 10) (z := z19849) rfl rfl ?_)
  refine wp_of e77 c77_10 (rw_if_eq (p1 := 19) (p2 := 13) (by decide) rfl ⟨by omega, by omega⟩ (fun c19852 => ?_) (fun c19852 => ?_))
  · refine wp_of e77 c77_19 (rw_aload_n (pc' := 20) (v := .ref r0) rfl rfl rfl ?_)
    refine wp_of e77 c77_20 (xg_R (pc' := 23) lf_0_23 w19846 g0 sh_1 (by decide) (by decide) ty_1_2 rfl rfl (fun r19853 q19854 g19855 => ?_))
    refine wp_of e77 c77_23 (rw_aload_n (pc' := 24) (v := .ref r0) rfl rfl rfl ?_)
    refine wp_of e77 c77_24 (xg_R (pc' := 27) lf_0_51 w19846 g0 sh_1 (by decide) (by decide) ty_1_6 rfl rfl (fun r19856 q19857 g19858 => ?_))
    refine wp_of e77 c77_27 (xc_V (pc' := 30) (r := r19853) (as := [.ref r19856]) (st := []) (lm_0_162) rfl rfl (Nat.le_of_ble_eq_true rfl) w19846 g19855 sh_6 (by decide) rfl (by decide) (s_74 w19846 g19855 g19858) (fun R19859 T19860 H19861 p19862 => ?_))
    obtain ⟨e19863, e19865, z19866, e19864, b19867⟩ := p19862
    subst e19863
    subst e19864
    subst e19865
    show wp _ _ 77 30 [(1, vI z19849), (0, .ref r0)] [vI z19866] _ H19842 _
    refine wp_of e77 c77_30 (rw_istore_n (pc' := 31) (z := z19866) (L' := [(2, vI z19866), (1, vI z19849), (0, .ref r0)]) rfl rfl rfl ?_)
    refine wp_of e77 c77_31 (rw_aload_n (pc' := 32) (v := .ref r0) rfl rfl rfl ?_)
    refine wp_of e77 c77_32 (rw_iload_n (pc' := 33) (z := z19866) rfl rfl ?_)
    refine wp_of e77 c77_33 (rw_if_ge (p1 := 40) (p2 := 36) (by decide) rfl ⟨by omega, by omega⟩ (fun c19868 => ?_) (fun c19868 => ?_))
    · refine wp_of e77 c77_40 (rw_aload_n (pc' := 41) (v := .ref r0) rfl rfl rfl ?_)
      refine wp_of e77 c77_41 (xg_K (pc' := 44) lf_0_23 w19846 g0 sh_1 (by decide) (by decide) rfl q19854 rfl ?_)
      refine wp_of e77 c77_44 (rw_aload_n (pc' := 45) (v := .ref r0) rfl rfl rfl ?_)
      refine wp_of e77 c77_45 (xg_K (pc' := 48) lf_0_51 w19846 g0 sh_1 (by decide) (by decide) rfl q19857 rfl ?_)
      refine wp_of e77 c77_48 (rw_iload_n (pc' := 49) (z := z19866) rfl rfl ?_)
      refine wp_of e77 c77_49 (xc_V (pc' := 52) (r := r19853) (as := [.ref r19856, vI z19866]) (st := [.ref r0]) (lm_0_166) rfl rfl (Nat.le_of_ble_eq_true rfl) w19846 g19855 sh_6 (by decide) rfl (by decide) (s_75 w19846 g19855 g19858 ⟨by omega, by omega⟩) (fun R19869 T19870 H19871 p19872 => ?_))
      obtain ⟨e19873, e19875, z19876, e19874, b19877⟩ := p19872
      subst e19873
      subst e19874
      subst e19875
      show wp _ _ 77 52 [(2, vI z19866), (1, vI z19849), (0, .ref r0)] [vI z19876, .ref r0] _ H19842 _
      refine wp_of e77 c77_52 (xc_V (pc' := 55) (r := r0) (as := [vI z19876]) (st := []) (lm_0_99) rfl rfl (Nat.le_of_ble_eq_true rfl) w19846 g0 sh_1 (by decide) rfl (by decide) (s_51 w19846 g0 ⟨by omega, by omega⟩) (fun R19878 T19879 H19880 p19881 => ?_))
      obtain ⟨e19882, w19884, f19885, z19886, e19883, b19887⟩ := p19881
      subst e19882
      subst e19883
      have f19888 := f19851.tr f19885 rfl
      show wp _ _ 77 55 [(2, vI z19866), (1, vI z19849), (0, .ref r0)] [vI z19886] _ H19880 _
      exact wp_ireturn e77 c77_55 rfl ⟨rfl, w19884, f19888, z19886, rfl, ⟨by omega, by omega⟩⟩
    · refine wp_of e77 c77_36 (rw_iconst (pc' := 37) rfl ?_)
      refine wp_of e77 c77_37 (rw_goto (p1 := 52) (by decide) ?_)
      refine wp_of e77 c77_52 (xc_V (pc' := 55) (r := r0) (as := [vI 0]) (st := []) (lm_0_99) rfl rfl (Nat.le_of_ble_eq_true rfl) w19846 g0 sh_1 (by decide) rfl (by decide) (s_51 w19846 g0 ⟨by omega, by omega⟩) (fun R19889 T19890 H19891 p19892 => ?_))
      obtain ⟨e19893, w19895, f19896, z19897, e19894, b19898⟩ := p19892
      subst e19893
      subst e19894
      have f19899 := f19851.tr f19896 rfl
      show wp _ _ 77 55 [(2, vI z19866), (1, vI z19849), (0, .ref r0)] [vI z19897] _ H19891 _
      exact wp_ireturn e77 c77_55 rfl ⟨rfl, w19895, f19899, z19897, rfl, ⟨by omega, by omega⟩⟩
  · refine wp_of e77 c77_13 (rw_aload_n (pc' := 14) (v := .ref r0) rfl rfl rfl ?_)
    refine wp_of e77 c77_14 (rw_iload_n (pc' := 15) (z := z19849) rfl rfl ?_)
    refine wp_of e77 c77_15 (xc_V (pc' := 18) (r := r0) (as := [vI z19849]) (st := []) (lm_0_70) rfl rfl (Nat.le_of_ble_eq_true rfl) w19846 g0 sh_1 (by decide) rfl (by decide) (s_12 w19846 g0 ⟨by omega, by omega⟩) (fun R19900 T19901 H19902 p19903 => ?_))
    obtain ⟨e19904, w19906, f19907, z19908, e19905, b19909⟩ := p19903
    subst e19904
    subst e19905
    have f19910 := f19851.tr f19907 rfl
    show wp _ _ 77 18 [(1, vI z19849), (0, .ref r0)] [vI z19908] _ H19902 _
    exact wp_ireturn e77 c77_18 rfl ⟨rfl, w19906, f19910, z19908, rfl, ⟨by omega, by omega⟩⟩
/-! StrikeAwake$Walk.isQuarrel()Z -/
theorem e80 : wq_en 80 = some (3, 1, false, some FieldType.boolean) := rfl
theorem c80_0 : mc_cd 80 0 = some (.aload_n 0, 1) := by decide +kernel
theorem c80_1 : mc_cd 80 1 = some (.getfield 25, 3) := by decide +kernel
theorem c80_4 : mc_cd 80 4 = some (.aload_n 0, 1) := by decide +kernel
theorem c80_5 : mc_cd 80 5 = some (.getfield 51, 3) := by decide +kernel
theorem c80_8 : mc_cd 80 8 = some (.iaload, 1) := by decide +kernel
theorem c80_9 : mc_cd 80 9 = some (.ifCond .eq 7, 3) := by decide +kernel
theorem c80_12 : mc_cd 80 12 = some (.iconst 1, 1) := by decide +kernel
theorem c80_13 : mc_cd 80 13 = some (.goto 4, 3) := by decide +kernel
theorem c80_16 : mc_cd 80 16 = some (.iconst 0, 1) := by decide +kernel
theorem c80_17 : mc_cd 80 17 = some (.ireturn, 1) := by decide +kernel
abbrev q_80 (r0 : Nat) (T : wq_T) (H : wq_H) : Option Value → wq_T → wq_H → Prop := fun r T' H' => T = T' ∧ H = H' ∧ ∃ z : Int, some (vI z) = r ∧ (0 ≤ z ∧ z ≤ 1)
set_option maxHeartbeats 4000000 in
theorem s_80 {kt : Nat → Option mc_E} {T : wq_T} {H : wq_H} {r0 : Nat} (hW : WT T H) (g0 : T.2.2.2 r0 = some 6) : wpc kt 1 80 [.ref r0] T H (q_80 r0 T H) := by
  refine wp_enter e80 (Nat.le_of_ble_eq_true rfl) rfl ?_
  show wp _ _ 80 0 [(0, .ref r0)] [] _ H _
  refine wp_of e80 c80_0 (rw_aload_n (pc' := 1) (v := .ref r0) rfl rfl rfl ?_)
  refine wp_of e80 c80_1 (xg_R (pc' := 4) lf_3_25 hW g0 sh_6 (by decide) (by decide) ty_6_4 rfl rfl (fun r19919 q19920 g19921 => ?_))
  refine wp_of e80 c80_4 (rw_aload_n (pc' := 5) (v := .ref r0) rfl rfl rfl ?_)
  refine wp_of e80 c80_5 (xg_I (pc' := 8) lf_3_51 hW g0 sh_6 (by decide) (by decide) ty_6_5 rfl rfl (fun b19922 b19923 => ?_))
  refine wp_of e80 c80_8 (xa_I (so := 0) (pc' := 9) hW g19921 sh_11 (by decide) (ty_11 _) (by omega) (by omega) rfl (fun b19924 b19925 => ?_))
  refine wp_of e80 c80_9 (rw_if_eq (p1 := 16) (p2 := 12) (by decide) rfl ⟨by omega, by omega⟩ (fun c19926 => ?_) (fun c19926 => ?_))
  · refine wp_of e80 c80_16 (rw_iconst (pc' := 17) rfl ?_)
    exact wp_zreturn e80 c80_17 rfl (by omega) ⟨rfl, rfl, 0, rfl, ⟨by omega, by omega⟩⟩
  · refine wp_of e80 c80_12 (rw_iconst (pc' := 13) rfl ?_)
    refine wp_of e80 c80_13 (rw_goto (p1 := 17) (by decide) ?_)
    exact wp_zreturn e80 c80_17 rfl (by omega) ⟨rfl, rfl, 1, rfl, ⟨by omega, by omega⟩⟩
/-! StrikeAwake$Walk.failsIn(LStrikeAwake$Parish;)I -/
theorem e81 : wq_en 81 = some (3, 6, false, some FieldType.int) := rfl
theorem c81_0 : mc_cd 81 0 = some (.iconst 0, 1) := by decide +kernel
theorem c81_1 : mc_cd 81 1 = some (.istore_n 2, 1) := by decide +kernel
theorem c81_2 : mc_cd 81 2 = some (.iconst 0, 1) := by decide +kernel
theorem c81_3 : mc_cd 81 3 = some (.istore_n 3, 1) := by decide +kernel
theorem c81_4 : mc_cd 81 4 = some (.iload_n 3, 1) := by decide +kernel
theorem c81_5 : mc_cd 81 5 = some (.aload_n 1, 1) := by decide +kernel
theorem c81_6 : mc_cd 81 6 = some (.getfield 109, 3) := by decide +kernel
theorem c81_9 : mc_cd 81 9 = some (.if_icmp .ge 57, 3) := by decide +kernel
theorem c81_12 : mc_cd 81 12 = some (.aload_n 1, 1) := by decide +kernel
theorem c81_13 : mc_cd 81 13 = some (.getfield 112, 3) := by decide +kernel
theorem c81_16 : mc_cd 81 16 = some (.iload_n 3, 1) := by decide +kernel
theorem c81_17 : mc_cd 81 17 = some (.iaload, 1) := by decide +kernel
theorem c81_18 : mc_cd 81 18 = some (.istore 4, 2) := by decide +kernel
theorem c81_20 : mc_cd 81 20 = some (.aload_n 1, 1) := by decide +kernel
theorem c81_21 : mc_cd 81 21 = some (.iload 4, 2) := by decide +kernel
theorem c81_23 : mc_cd 81 23 = some (.aload_n 0, 1) := by decide +kernel
theorem c81_24 : mc_cd 81 24 = some (.iload 4, 2) := by decide +kernel
theorem c81_26 : mc_cd 81 26 = some (.invokevirtual 92, 3) := by decide +kernel
theorem c81_29 : mc_cd 81 29 = some (.invokevirtual 96, 3) := by decide +kernel
theorem c81_32 : mc_cd 81 32 = some (.istore 5, 2) := by decide +kernel
theorem c81_34 : mc_cd 81 34 = some (.iload 5, 2) := by decide +kernel
theorem c81_36 : mc_cd 81 36 = some (.iconst 1, 1) := by decide +kernel
theorem c81_37 : mc_cd 81 37 = some (.if_icmp .ne 6, 3) := by decide +kernel
theorem c81_40 : mc_cd 81 40 = some (.iinc 2 1, 3) := by decide +kernel
theorem c81_43 : mc_cd 81 43 = some (.iload 5, 2) := by decide +kernel
theorem c81_45 : mc_cd 81 45 = some (.iconst 2, 1) := by decide +kernel
theorem c81_46 : mc_cd 81 46 = some (.if_icmp .eq 11, 3) := by decide +kernel
theorem c81_49 : mc_cd 81 49 = some (.iload_n 2, 1) := by decide +kernel
theorem c81_50 : mc_cd 81 50 = some (.aload_n 1, 1) := by decide +kernel
theorem c81_51 : mc_cd 81 51 = some (.getfield 115, 3) := by decide +kernel
theorem c81_54 : mc_cd 81 54 = some (.if_icmp .le 6, 3) := by decide +kernel
theorem c81_57 : mc_cd 81 57 = some (.iload 4, 2) := by decide +kernel
theorem c81_59 : mc_cd 81 59 = some (.ireturn, 1) := by decide +kernel
theorem c81_60 : mc_cd 81 60 = some (.iinc 3 1, 3) := by decide +kernel
theorem c81_63 : mc_cd 81 63 = some (.goto (-59), 3) := by decide +kernel
theorem c81_66 : mc_cd 81 66 = some (.bipush 24, 2) := by decide +kernel
theorem c81_68 : mc_cd 81 68 = some (.ireturn, 1) := by decide +kernel
abbrev q_81 (r0 : Nat) (r1 : Nat) (T : wq_T) (H : wq_H) : Option Value → wq_T → wq_H → Prop := fun r T' H' => T = T' ∧ H = H' ∧ ∃ z : Int, some (vI z) = r ∧ (0 ≤ z ∧ z ≤ 24)
set_option maxHeartbeats 4000000 in
theorem s_81 {kt : Nat → Option mc_E} {T : wq_T} {H : wq_H} {r0 : Nat} {r1 : Nat} (hW : WT T H) (g0 : T.2.2.2 r0 = some 6) (g1 : T.2.2.2 r1 = some 27) : wpc kt 2 81 [.ref r0, .ref r1] T H (q_81 r0 r1 T H) := by
  refine wp_enter e81 (Nat.le_of_ble_eq_true rfl) rfl ?_
  show wp _ _ 81 0 [(0, .ref r0), (1, .ref r1)] [] _ H _
  refine wp_of e81 c81_0 (rw_iconst (pc' := 1) rfl ?_)
  refine wp_of e81 c81_1 (rw_istore_n (pc' := 2) (z := 0) (L' := [(2, vI 0), (0, .ref r0), (1, .ref r1)]) rfl rfl rfl ?_)
  refine wp_of e81 c81_2 (rw_iconst (pc' := 3) rfl ?_)
  refine wp_of e81 c81_3 (rw_istore_n (pc' := 4) (z := 0) (L' := [(3, vI 0), (2, vI 0), (0, .ref r0), (1, .ref r1)]) rfl rfl rfl ?_)
  have lp20523 : ∀ (n20524 : Nat) (v20526 : Int) (v20527 : Int), (0 ≤ v20526 ∧ v20526 ≤ 24) → (0 ≤ v20527 ∧ v20527 ≤ 24) → (v20527 ≤ v20526) → (24 - v20526).toNat = n20524 → wp kt 1 81 4 [(3, vI v20526), (2, vI v20527), (0, .ref r0), (1, .ref r1)] [] T H (q_81 r0 r1 T H) := by
    intro n20524
    induction n20524 using Nat.strongRecOn with
    | _ n20524 ih20525 =>
      intro v20526 v20527 b20530 b20531 x20532 m20533
      refine wp_of e81 c81_4 (rw_iload_n (pc' := 5) (z := v20526) rfl rfl ?_)
      refine wp_of e81 c81_5 (rw_aload_n (pc' := 6) (v := .ref r1) rfl rfl rfl ?_)
      refine wp_of e81 c81_6 (xg_I (pc' := 9) lf_3_109 hW g1 sh_27 (by decide) (by decide) ty_27_16 rfl rfl (fun b20534 b20535 => ?_))
      refine wp_of e81 c81_9 (rw_icmp_ge (p1 := 66) (p2 := 12) (by decide) rfl ⟨by omega, by omega⟩ ⟨by omega, by omega⟩ (fun c20536 => ?_) (fun c20536 => ?_))
      · refine wp_of e81 c81_66 (rw_bipush (pc' := 68) (z := 24) rfl (by decide) ?_)
        exact wp_ireturn e81 c81_68 rfl ⟨rfl, rfl, 24, rfl, ⟨by omega, by omega⟩⟩
      · refine wp_of e81 c81_12 (rw_aload_n (pc' := 13) (v := .ref r1) rfl rfl rfl ?_)
        refine wp_of e81 c81_13 (xg_R (pc' := 16) lf_3_112 hW g1 sh_27 (by decide) (by decide) ty_27_2 rfl rfl (fun r20537 q20538 g20539 => ?_))
        refine wp_of e81 c81_16 (rw_iload_n (pc' := 17) (z := v20526) rfl rfl ?_)
        refine wp_of e81 c81_17 (xa_I (so := 0) (pc' := 18) hW g20539 sh_30 (by decide) (ty_30 _) (by omega) (by omega) rfl (fun b20540 b20541 => ?_))
        refine wp_of e81 c81_18 (rw_istore (pc' := 20) (z := H r20537 (v20526.toNat)) (L' := [(4, vI (H r20537 (v20526.toNat))), (3, vI v20526), (2, vI v20527), (0, .ref r0), (1, .ref r1)]) rfl rfl rfl ?_)
        refine wp_of e81 c81_20 (rw_aload_n (pc' := 21) (v := .ref r1) rfl rfl rfl ?_)
        refine wp_of e81 c81_21 (rw_iload (pc' := 23) (z := H r20537 (v20526.toNat)) rfl rfl ?_)
        refine wp_of e81 c81_23 (rw_aload_n (pc' := 24) (v := .ref r0) rfl rfl rfl ?_)
        refine wp_of e81 c81_24 (rw_iload (pc' := 26) (z := H r20537 (v20526.toNat)) rfl rfl ?_)
        refine wp_of e81 c81_26 (xc_V (pc' := 29) (r := r0) (as := [vI (H r20537 (v20526.toNat))]) (st := [vI (H r20537 (v20526.toNat)), .ref r1]) (lm_3_92) rfl rfl (Nat.le_of_ble_eq_true rfl) hW g0 sh_6 (by decide) rfl (by decide) (s_72 hW g0 ⟨by omega, by omega⟩) (fun R20542 T20543 H20544 p20545 => ?_))
        obtain ⟨e20546, e20548, z20549, e20547, b20550⟩ := p20545
        subst e20546
        subst e20547
        subst e20548
        show wp _ _ 81 29 [(4, vI (H r20537 (v20526.toNat))), (3, vI v20526), (2, vI v20527), (0, .ref r0), (1, .ref r1)] [vI z20549, vI (H r20537 (v20526.toNat)), .ref r1] _ H _
        refine wp_of e81 c81_29 (xc_V (pc' := 32) (r := r1) (as := [vI (H r20537 (v20526.toNat)), vI z20549]) (st := []) (lm_3_96) rfl rfl (Nat.le_of_ble_eq_true rfl) hW g1 sh_27 (by decide) rfl (by decide) (s_76 hW g1 ⟨by omega, by omega⟩ ⟨by omega, by omega⟩) (fun R20551 T20552 H20553 p20554 => ?_))
        obtain ⟨e20555, e20557, z20558, e20556, b20559⟩ := p20554
        subst e20555
        subst e20556
        subst e20557
        show wp _ _ 81 32 [(4, vI (H r20537 (v20526.toNat))), (3, vI v20526), (2, vI v20527), (0, .ref r0), (1, .ref r1)] [vI z20558] _ H _
        refine wp_of e81 c81_32 (rw_istore (pc' := 34) (z := z20558) (L' := [(5, vI z20558), (4, vI (H r20537 (v20526.toNat))), (3, vI v20526), (2, vI v20527), (0, .ref r0), (1, .ref r1)]) rfl rfl rfl ?_)
        refine wp_of e81 c81_34 (rw_iload (pc' := 36) (z := z20558) rfl rfl ?_)
        refine wp_of e81 c81_36 (rw_iconst (pc' := 37) rfl ?_)
        refine wp_of e81 c81_37 (rw_icmp_ne (p1 := 43) (p2 := 40) (by decide) rfl ⟨by omega, by omega⟩ ⟨by omega, by omega⟩ (fun c20560 => ?_) (fun c20560 => ?_))
        · refine wp_of e81 c81_43 (rw_iload (pc' := 45) (z := z20558) rfl rfl ?_)
          refine wp_of e81 c81_45 (rw_iconst (pc' := 46) rfl ?_)
          refine wp_of e81 c81_46 (rw_icmp_eq (p1 := 57) (p2 := 49) (by decide) rfl ⟨by omega, by omega⟩ ⟨by omega, by omega⟩ (fun c20561 => ?_) (fun c20561 => ?_))
          · refine wp_of e81 c81_57 (rw_iload (pc' := 59) (z := H r20537 (v20526.toNat)) rfl rfl ?_)
            exact wp_ireturn e81 c81_59 rfl ⟨rfl, rfl, H r20537 (v20526.toNat), rfl, ⟨by omega, by omega⟩⟩
          · refine wp_of e81 c81_49 (rw_iload_n (pc' := 50) (z := v20527) rfl rfl ?_)
            refine wp_of e81 c81_50 (rw_aload_n (pc' := 51) (v := .ref r1) rfl rfl rfl ?_)
            refine wp_of e81 c81_51 (xg_I (pc' := 54) lf_3_115 hW g1 sh_27 (by decide) (by decide) ty_27_9 rfl rfl (fun b20562 b20563 => ?_))
            refine wp_of e81 c81_54 (rw_icmp_le (p1 := 60) (p2 := 57) (by decide) rfl ⟨by omega, by omega⟩ ⟨by omega, by omega⟩ (fun c20564 => ?_) (fun c20564 => ?_))
            · refine wp_of e81 c81_60 (rw_iinc (pc' := 63) (z := v20526) (L' := [(3, vI (v20526 + 1)), (5, vI z20558), (4, vI (H r20537 (v20526.toNat))), (2, vI v20527), (0, .ref r0), (1, .ref r1)]) rfl rfl rfl rfl ?_)
              refine wp_of e81 c81_63 (rw_goto (p1 := 4) (by decide) ?_)
              exact wp_lc (ks := [3, 5, 4, 2, 0, 1]) (wl_c rfl (wl_c rfl (wl_c rfl (wl_c rfl wl_n)))) rfl (by decide) (ih20525 _ (by omega) (v20526 + 1) v20527 ⟨by omega, by omega⟩ ⟨by omega, by omega⟩ (by omega) rfl)
            · refine wp_of e81 c81_57 (rw_iload (pc' := 59) (z := H r20537 (v20526.toNat)) rfl rfl ?_)
              exact wp_ireturn e81 c81_59 rfl ⟨rfl, rfl, H r20537 (v20526.toNat), rfl, ⟨by omega, by omega⟩⟩
        · refine wp_of e81 c81_40 (rw_iinc (pc' := 43) (z := v20527) (L' := [(2, vI (v20527 + 1)), (5, vI z20558), (4, vI (H r20537 (v20526.toNat))), (3, vI v20526), (0, .ref r0), (1, .ref r1)]) rfl rfl rfl rfl ?_)
          refine wp_of e81 c81_43 (rw_iload (pc' := 45) (z := z20558) rfl rfl ?_)
          refine wp_of e81 c81_45 (rw_iconst (pc' := 46) rfl ?_)
          refine wp_of e81 c81_46 (rw_icmp_eq (p1 := 57) (p2 := 49) (by decide) rfl ⟨by omega, by omega⟩ ⟨by omega, by omega⟩ (fun c20565 => ?_) (fun c20565 => ?_))
          · exfalso
            omega
          · refine wp_of e81 c81_49 (rw_iload_n (pc' := 50) (z := v20527 + 1) rfl rfl ?_)
            refine wp_of e81 c81_50 (rw_aload_n (pc' := 51) (v := .ref r1) rfl rfl rfl ?_)
            refine wp_of e81 c81_51 (xg_I (pc' := 54) lf_3_115 hW g1 sh_27 (by decide) (by decide) ty_27_9 rfl rfl (fun b20566 b20567 => ?_))
            refine wp_of e81 c81_54 (rw_icmp_le (p1 := 60) (p2 := 57) (by decide) rfl ⟨by omega, by omega⟩ ⟨by omega, by omega⟩ (fun c20568 => ?_) (fun c20568 => ?_))
            · refine wp_of e81 c81_60 (rw_iinc (pc' := 63) (z := v20526) (L' := [(3, vI (v20526 + 1)), (2, vI (v20527 + 1)), (5, vI z20558), (4, vI (H r20537 (v20526.toNat))), (0, .ref r0), (1, .ref r1)]) rfl rfl rfl rfl ?_)
              refine wp_of e81 c81_63 (rw_goto (p1 := 4) (by decide) ?_)
              exact wp_lc (ks := [3, 2, 5, 4, 0, 1]) (wl_c rfl (wl_c rfl (wl_c rfl (wl_c rfl wl_n)))) rfl (by decide) (ih20525 _ (by omega) (v20526 + 1) (v20527 + 1) ⟨by omega, by omega⟩ ⟨by omega, by omega⟩ (by omega) rfl)
            · refine wp_of e81 c81_57 (rw_iload (pc' := 59) (z := H r20537 (v20526.toNat)) rfl rfl ?_)
              exact wp_ireturn e81 c81_59 rfl ⟨rfl, rfl, H r20537 (v20526.toNat), rfl, ⟨by omega, by omega⟩⟩
  exact wp_lc (ks := [3, 2, 0, 1]) (wl_c rfl (wl_c rfl (wl_c rfl (wl_c rfl wl_n)))) rfl (by decide) (lp20523 _ 0 0 ⟨by omega, by omega⟩ ⟨by omega, by omega⟩ (by omega) rfl)
