/-! methods (own work, written by wip/gen2/sx.py) -/
/-! StrikeAwake.isHour(I)Z -/
theorem e60 : wq_en 60 = some (0, 2, false, some FieldType.boolean) := rfl
theorem c60_0 : mc_cd 60 0 = some (.iload_n 1, 1) := by decide +kernel
theorem c60_1 : mc_cd 60 1 = some (.ifCond .lt 18, 3) := by decide +kernel
theorem c60_4 : mc_cd 60 4 = some (.iload_n 1, 1) := by decide +kernel
theorem c60_5 : mc_cd 60 5 = some (.aload_n 0, 1) := by decide +kernel
theorem c60_6 : mc_cd 60 6 = some (.getfield 51, 3) := by decide +kernel
theorem c60_9 : mc_cd 60 9 = some (.getfield 339, 3) := by decide +kernel
theorem c60_12 : mc_cd 60 12 = some (.if_icmp .ge 7, 3) := by decide +kernel
theorem c60_15 : mc_cd 60 15 = some (.iconst 1, 1) := by decide +kernel
theorem c60_16 : mc_cd 60 16 = some (.goto 4, 3) := by decide +kernel
theorem c60_19 : mc_cd 60 19 = some (.iconst 0, 1) := by decide +kernel
theorem c60_20 : mc_cd 60 20 = some (.ireturn, 1) := by decide +kernel
abbrev q_60 (r0 : Nat) (a1 : Int) (T : wq_T) (H : wq_H) : Option Value → wq_T → wq_H → Prop := fun r T' H' => T = T' ∧ H = H' ∧ ∃ z : Int, some (vI z) = r ∧ (0 ≤ z ∧ z ≤ 1) ∧ (z = 0 ∨ (0 ≤ a1 ∧ a1 ≤ 23))
set_option maxHeartbeats 4000000 in
theorem s_60 {kt : Nat → Option mc_E} {T : wq_T} {H : wq_H} {r0 : Nat} {a1 : Int} (hW : WT T H) (g0 : T.2.2.2 r0 = some 1) (i1 : (-2147483648) ≤ a1 ∧ a1 ≤ 2147483647) : wpc kt 1 60 [.ref r0, vI a1] T H (q_60 r0 a1 T H) := by
  refine wp_enter e60 (Nat.le_of_ble_eq_true rfl) rfl ?_
  show wp _ _ 60 0 [(0, .ref r0), (1, vI a1)] [] _ H _
  refine wp_of e60 c60_0 (rw_iload_n (pc' := 1) (z := a1) rfl rfl ?_)
  refine wp_of e60 c60_1 (rw_if_lt (p1 := 19) (p2 := 4) (by decide) rfl ⟨by omega, by omega⟩ (fun c16656 => ?_) (fun c16656 => ?_))
  · refine wp_of e60 c60_19 (rw_iconst (pc' := 20) rfl ?_)
    exact wp_zreturn e60 c60_20 rfl (by omega) ⟨rfl, rfl, 0, rfl, ⟨by omega, by omega⟩, by omega⟩
  · refine wp_of e60 c60_4 (rw_iload_n (pc' := 5) (z := a1) rfl rfl ?_)
    refine wp_of e60 c60_5 (rw_aload_n (pc' := 6) (v := .ref r0) rfl rfl rfl ?_)
    refine wp_of e60 c60_6 (xg_R (pc' := 9) lf_0_51 hW g0 sh_1 (by decide) (by decide) ty_1_6 rfl rfl (fun r16657 q16658 g16659 => ?_))
    refine wp_of e60 c60_9 (xg_I (pc' := 12) lf_0_339 hW g16659 sh_27 (by decide) (by decide) ty_27_7 rfl rfl (fun b16660 b16661 => ?_))
    refine wp_of e60 c60_12 (rw_icmp_ge (p1 := 19) (p2 := 15) (by decide) rfl ⟨by omega, by omega⟩ ⟨by omega, by omega⟩ (fun c16662 => ?_) (fun c16662 => ?_))
    · refine wp_of e60 c60_19 (rw_iconst (pc' := 20) rfl ?_)
      exact wp_zreturn e60 c60_20 rfl (by omega) ⟨rfl, rfl, 0, rfl, ⟨by omega, by omega⟩, by omega⟩
    · refine wp_of e60 c60_15 (rw_iconst (pc' := 16) rfl ?_)
      refine wp_of e60 c60_16 (rw_goto (p1 := 20) (by decide) ?_)
      exact wp_zreturn e60 c60_20 rfl (by omega) ⟨rfl, rfl, 1, rfl, ⟨by omega, by omega⟩, by omega⟩
/-! StrikeAwake.awake(III)I -/
theorem e59 : wq_en 59 = some (0, 4, false, some FieldType.int) := rfl
theorem c59_0 : mc_cd 59 0 = some (.aload_n 0, 1) := by decide +kernel
theorem c59_1 : mc_cd 59 1 = some (.iload_n 1, 1) := by decide +kernel
theorem c59_2 : mc_cd 59 2 = some (.iload_n 2, 1) := by decide +kernel
theorem c59_3 : mc_cd 59 3 = some (.invokevirtual 118, 3) := by decide +kernel
theorem c59_6 : mc_cd 59 6 = some (.ifCond .eq 11, 3) := by decide +kernel
theorem c59_9 : mc_cd 59 9 = some (.aload_n 0, 1) := by decide +kernel
theorem c59_10 : mc_cd 59 10 = some (.iload_n 3, 1) := by decide +kernel
theorem c59_11 : mc_cd 59 11 = some (.invokevirtual 132, 3) := by decide +kernel
theorem c59_14 : mc_cd 59 14 = some (.ifCond .ne 9, 3) := by decide +kernel
theorem c59_17 : mc_cd 59 17 = some (.aload_n 0, 1) := by decide +kernel
theorem c59_18 : mc_cd 59 18 = some (.iconst 1, 1) := by decide +kernel
theorem c59_19 : mc_cd 59 19 = some (.invokevirtual 70, 3) := by decide +kernel
theorem c59_22 : mc_cd 59 22 = some (.ireturn, 1) := by decide +kernel
theorem c59_23 : mc_cd 59 23 = some (.aload_n 0, 1) := by decide +kernel
theorem c59_24 : mc_cd 59 24 = some (.aload_n 0, 1) := by decide +kernel
theorem c59_25 : mc_cd 59 25 = some (.getfield 51, 3) := by decide +kernel
theorem c59_28 : mc_cd 59 28 = some (.getfield 109, 3) := by decide +kernel
theorem c59_31 : mc_cd 59 31 = some (.iload_n 1, 1) := by decide +kernel
theorem c59_32 : mc_cd 59 32 = some (.aaload, 1) := by decide +kernel
theorem c59_33 : mc_cd 59 33 = some (.getfield 135, 3) := by decide +kernel
theorem c59_36 : mc_cd 59 36 = some (.iload_n 2, 1) := by decide +kernel
theorem c59_37 : mc_cd 59 37 = some (.iaload, 1) := by decide +kernel
theorem c59_38 : mc_cd 59 38 = some (.iload_n 3, 1) := by decide +kernel
theorem c59_39 : mc_cd 59 39 = some (.invokestatic 138, 3) := by decide +kernel
theorem c59_42 : mc_cd 59 42 = some (.ifCond .eq 7, 3) := by decide +kernel
theorem c59_45 : mc_cd 59 45 = some (.iconst 1, 1) := by decide +kernel
theorem c59_46 : mc_cd 59 46 = some (.goto 4, 3) := by decide +kernel
theorem c59_49 : mc_cd 59 49 = some (.iconst 0, 1) := by decide +kernel
theorem c59_50 : mc_cd 59 50 = some (.invokevirtual 99, 3) := by decide +kernel
theorem c59_53 : mc_cd 59 53 = some (.ireturn, 1) := by decide +kernel
abbrev q_59 (r0 : Nat) (a1 : Int) (a2 : Int) (a3 : Int) (T : wq_T) (H : wq_H) : Option Value → wq_T → wq_H → Prop := fun r T' H' => T = T' ∧ WT T H' ∧ wfr [(1, 10)] T H H' ∧ ∃ z : Int, some (vI z) = r ∧ ((-2147483648) ≤ z ∧ z ≤ 2147483647) ∧ (H' r0 10 ≠ 4)
set_option maxHeartbeats 4000000 in
theorem s_59 {kt : Nat → Option mc_E} {T : wq_T} {H : wq_H} {r0 : Nat} {a1 : Int} {a2 : Int} {a3 : Int} (hW : WT T H) (g0 : T.2.2.2 r0 = some 1) (i1 : (-2147483648) ≤ a1 ∧ a1 ≤ 2147483647) (i2 : (-2147483648) ≤ a2 ∧ a2 ≤ 2147483647) (i3 : (-2147483648) ≤ a3 ∧ a3 ≤ 2147483647) : wpc kt 3 59 [.ref r0, vI a1, vI a2, vI a3] T H (q_59 r0 a1 a2 a3 T H) := by
  refine wp_enter e59 (Nat.le_of_ble_eq_true rfl) rfl ?_
  have f0 : wfr [(1, 10)] T H H := wfr.rf
  show wp _ _ 59 0 [(0, .ref r0), (1, vI a1), (2, vI a2), (3, vI a3)] [] _ H _
  refine wp_of e59 c59_0 (rw_aload_n (pc' := 1) (v := .ref r0) rfl rfl rfl ?_)
  refine wp_of e59 c59_1 (rw_iload_n (pc' := 2) (z := a1) rfl rfl ?_)
  refine wp_of e59 c59_2 (rw_iload_n (pc' := 3) (z := a2) rfl rfl ?_)
  refine wp_of e59 c59_3 (xc_V (pc' := 6) (r := r0) (as := [vI a1, vI a2]) (st := []) (lm_0_118) rfl rfl (Nat.le_of_ble_eq_true rfl) hW g0 sh_1 (by decide) rfl (by decide) (s_57 hW g0 ⟨by omega, by omega⟩ ⟨by omega, by omega⟩) (fun R16757 T16758 H16759 p16760 => ?_))
  obtain ⟨e16761, e16763, z16765, e16762, b16766, p16764⟩ := p16760
  subst e16761
  subst e16762
  subst e16763
  show wp _ _ 59 6 [(0, .ref r0), (1, vI a1), (2, vI a2), (3, vI a3)] [vI z16765] _ H _
  refine wp_of e59 c59_6 (rw_if_eq (p1 := 17) (p2 := 9) (by decide) rfl ⟨by omega, by omega⟩ (fun c16767 => ?_) (fun c16767 => ?_))
  · refine wp_of e59 c59_17 (rw_aload_n (pc' := 18) (v := .ref r0) rfl rfl rfl ?_)
    refine wp_of e59 c59_18 (rw_iconst (pc' := 19) rfl ?_)
    refine wp_of e59 c59_19 (xc_V (pc' := 22) (r := r0) (as := [vI 1]) (st := []) (lm_0_70) rfl rfl (Nat.le_of_ble_eq_true rfl) hW g0 sh_1 (by decide) rfl (by decide) (s_12 hW g0 ⟨by omega, by omega⟩) (fun R16768 T16769 H16770 p16771 => ?_))
    obtain ⟨e16772, w16774, f16775, z16777, e16773, b16778, p16776⟩ := p16771
    subst e16772
    subst e16773
    have f16779 := f0.tr f16775 rfl
    show wp _ _ 59 22 [(0, .ref r0), (1, vI a1), (2, vI a2), (3, vI a3)] [vI z16777] _ H16770 _
    exact wp_ireturn e59 c59_22 rfl ⟨rfl, w16774, f16779, z16777, rfl, ⟨by omega, by omega⟩, by omega⟩
  · refine wp_of e59 c59_9 (rw_aload_n (pc' := 10) (v := .ref r0) rfl rfl rfl ?_)
    refine wp_of e59 c59_10 (rw_iload_n (pc' := 11) (z := a3) rfl rfl ?_)
    refine wp_of e59 c59_11 (xc_V (pc' := 14) (r := r0) (as := [vI a3]) (st := []) (lm_0_132) rfl rfl (Nat.le_of_ble_eq_true rfl) hW g0 sh_1 (by decide) rfl (by decide) (s_60 hW g0 ⟨by omega, by omega⟩) (fun R16780 T16781 H16782 p16783 => ?_))
    obtain ⟨e16784, e16786, z16788, e16785, b16789, p16787⟩ := p16783
    subst e16784
    subst e16785
    subst e16786
    show wp _ _ 59 14 [(0, .ref r0), (1, vI a1), (2, vI a2), (3, vI a3)] [vI z16788] _ H _
    refine wp_of e59 c59_14 (rw_if_ne (p1 := 23) (p2 := 17) (by decide) rfl ⟨by omega, by omega⟩ (fun c16790 => ?_) (fun c16790 => ?_))
    · refine wp_of e59 c59_23 (rw_aload_n (pc' := 24) (v := .ref r0) rfl rfl rfl ?_)
      refine wp_of e59 c59_24 (rw_aload_n (pc' := 25) (v := .ref r0) rfl rfl rfl ?_)
      refine wp_of e59 c59_25 (xg_R (pc' := 28) lf_0_51 hW g0 sh_1 (by decide) (by decide) ty_1_6 rfl rfl (fun r16791 q16792 g16793 => ?_))
      refine wp_of e59 c59_28 (xg_R (pc' := 31) lf_0_109 hW g16793 sh_27 (by decide) (by decide) ty_27_0 rfl rfl (fun r16794 q16795 g16796 => ?_))
      refine wp_of e59 c59_31 (rw_iload_n (pc' := 32) (z := a1) rfl rfl ?_)
      refine wp_of e59 c59_32 (xa_R (pc' := 33) (by decide) hW g16796 sh_28 (by decide) (ty_28 _) (by omega) (by omega) rfl (fun r16797 q16798 g16799 => ?_))
      refine wp_of e59 c59_33 (xg_R (pc' := 36) lf_0_135 hW g16799 sh_35 (by decide) (by decide) ty_35_3 rfl rfl (fun r16800 q16801 g16802 => ?_))
      refine wp_of e59 c59_36 (rw_iload_n (pc' := 37) (z := a2) rfl rfl ?_)
      refine wp_of e59 c59_37 (xa_I (so := 0) (pc' := 38) hW g16802 sh_39 (by decide) (ty_39 _) (by omega) (by omega) rfl (fun b16803 b16804 => ?_))
      refine wp_of e59 c59_38 (rw_iload_n (pc' := 39) (z := a3) rfl rfl ?_)
      refine wp_of e59 c59_39 (xc_S (pc' := 42) (as := [vI (H r16800 (a2.toNat)), vI a3]) (st := [.ref r0]) (lm_0_138) rfl rfl (Nat.le_of_ble_eq_true rfl) rfl (by decide) (s_36 hW ⟨by omega, by omega⟩ ⟨by omega, by omega⟩) (fun R16805 T16806 H16807 p16808 => ?_))
      obtain ⟨e16809, e16811, z16812, e16810, b16813⟩ := p16808
      subst e16809
      subst e16810
      subst e16811
      show wp _ _ 59 42 [(0, .ref r0), (1, vI a1), (2, vI a2), (3, vI a3)] [vI z16812, .ref r0] _ H _
      refine wp_of e59 c59_42 (rw_if_eq (p1 := 49) (p2 := 45) (by decide) rfl ⟨by omega, by omega⟩ (fun c16814 => ?_) (fun c16814 => ?_))
      · refine wp_of e59 c59_49 (rw_iconst (pc' := 50) rfl ?_)
        refine wp_of e59 c59_50 (xc_V (pc' := 53) (r := r0) (as := [vI 0]) (st := []) (lm_0_99) rfl rfl (Nat.le_of_ble_eq_true rfl) hW g0 sh_1 (by decide) rfl (by decide) (s_51 hW g0 ⟨by omega, by omega⟩) (fun R16815 T16816 H16817 p16818 => ?_))
        obtain ⟨e16819, w16821, f16822, z16824, e16820, b16825, p16823⟩ := p16818
        subst e16819
        subst e16820
        have f16826 := f0.tr f16822 rfl
        show wp _ _ 59 53 [(0, .ref r0), (1, vI a1), (2, vI a2), (3, vI a3)] [vI z16824] _ H16817 _
        exact wp_ireturn e59 c59_53 rfl ⟨rfl, w16821, f16826, z16824, rfl, ⟨by omega, by omega⟩, by omega⟩
      · refine wp_of e59 c59_45 (rw_iconst (pc' := 46) rfl ?_)
        refine wp_of e59 c59_46 (rw_goto (p1 := 50) (by decide) ?_)
        refine wp_of e59 c59_50 (xc_V (pc' := 53) (r := r0) (as := [vI 1]) (st := []) (lm_0_99) rfl rfl (Nat.le_of_ble_eq_true rfl) hW g0 sh_1 (by decide) rfl (by decide) (s_51 hW g0 ⟨by omega, by omega⟩) (fun R16827 T16828 H16829 p16830 => ?_))
        obtain ⟨e16831, w16833, f16834, z16836, e16832, b16837, p16835⟩ := p16830
        subst e16831
        subst e16832
        have f16838 := f0.tr f16834 rfl
        show wp _ _ 59 53 [(0, .ref r0), (1, vI a1), (2, vI a2), (3, vI a3)] [vI z16836] _ H16829 _
        exact wp_ireturn e59 c59_53 rfl ⟨rfl, w16833, f16838, z16836, rfl, ⟨by omega, by omega⟩, by omega⟩
    · refine wp_of e59 c59_17 (rw_aload_n (pc' := 18) (v := .ref r0) rfl rfl rfl ?_)
      refine wp_of e59 c59_18 (rw_iconst (pc' := 19) rfl ?_)
      refine wp_of e59 c59_19 (xc_V (pc' := 22) (r := r0) (as := [vI 1]) (st := []) (lm_0_70) rfl rfl (Nat.le_of_ble_eq_true rfl) hW g0 sh_1 (by decide) rfl (by decide) (s_12 hW g0 ⟨by omega, by omega⟩) (fun R16839 T16840 H16841 p16842 => ?_))
      obtain ⟨e16843, w16845, f16846, z16848, e16844, b16849, p16847⟩ := p16842
      subst e16843
      subst e16844
      have f16850 := f0.tr f16846 rfl
      show wp _ _ 59 22 [(0, .ref r0), (1, vI a1), (2, vI a2), (3, vI a3)] [vI z16848] _ H16841 _
      exact wp_ireturn e59 c59_22 rfl ⟨rfl, w16845, f16850, z16848, rfl, ⟨by omega, by omega⟩, by omega⟩
/-! StrikeAwake.lots()J -/
theorem e61 : wq_en 61 = some (0, 1, false, some FieldType.long) := rfl
theorem c61_0 : mc_cd 61 0 = some (.aload_n 0, 1) := by decide +kernel
theorem c61_1 : mc_cd 61 1 = some (.getfield 58, 3) := by decide +kernel
theorem c61_4 : mc_cd 61 4 = some (.ifCond .ne 10, 3) := by decide +kernel
theorem c61_7 : mc_cd 61 7 = some (.aload_n 0, 1) := by decide +kernel
theorem c61_8 : mc_cd 61 8 = some (.iconst 1, 1) := by decide +kernel
theorem c61_9 : mc_cd 61 9 = some (.invokevirtual 70, 3) := by decide +kernel
theorem c61_12 : mc_cd 61 12 = some (.i2l, 1) := by decide +kernel
theorem c61_13 : mc_cd 61 13 = some (.lreturn, 1) := by decide +kernel
theorem c61_14 : mc_cd 61 14 = some (.aload_n 0, 1) := by decide +kernel
theorem c61_15 : mc_cd 61 15 = some (.iconst 0, 1) := by decide +kernel
theorem c61_16 : mc_cd 61 16 = some (.putfield 102, 3) := by decide +kernel
theorem c61_19 : mc_cd 61 19 = some (.aload_n 0, 1) := by decide +kernel
theorem c61_20 : mc_cd 61 20 = some (.getfield 51, 3) := by decide +kernel
theorem c61_23 : mc_cd 61 23 = some (.getfield 141, 3) := by decide +kernel
theorem c61_26 : mc_cd 61 26 = some (.lreturn, 1) := by decide +kernel
abbrev q_61 (r0 : Nat) (T : wq_T) (H : wq_H) : Option Value → wq_T → wq_H → Prop := fun r T' H' => T = T' ∧ WT T H' ∧ wfr [(1, 10)] T H H' ∧ ∃ z : Int, some (vL z) = r ∧ ((-9223372036854775808) ≤ z ∧ z ≤ 9223372036854775807) ∧ (H' r0 10 ≠ 4)
set_option maxHeartbeats 4000000 in
theorem s_61 {kt : Nat → Option mc_E} {T : wq_T} {H : wq_H} {r0 : Nat} (hW : WT T H) (g0 : T.2.2.2 r0 = some 1) : wpc kt 2 61 [.ref r0] T H (q_61 r0 T H) := by
  refine wp_enter e61 (Nat.le_of_ble_eq_true rfl) rfl ?_
  have f0 : wfr [(1, 10)] T H H := wfr.rf
  show wp _ _ 61 0 [(0, .ref r0)] [] _ H _
  refine wp_of e61 c61_0 (rw_aload_n (pc' := 1) (v := .ref r0) rfl rfl rfl ?_)
  refine wp_of e61 c61_1 (xg_I (pc' := 4) lf_0_58 hW g0 sh_1 (by decide) (by decide) ty_1_8 rfl rfl (fun b16876 b16877 => ?_))
  refine wp_of e61 c61_4 (rw_if_ne (p1 := 14) (p2 := 7) (by decide) rfl ⟨by omega, by omega⟩ (fun c16878 => ?_) (fun c16878 => ?_))
  · refine wp_of e61 c61_14 (rw_aload_n (pc' := 15) (v := .ref r0) rfl rfl rfl ?_)
    refine wp_of e61 c61_15 (rw_iconst (pc' := 16) rfl ?_)
    refine wp_of e61 c61_16 (xp_I (pc' := 19) lf_0_102 hW g0 sh_1 (by decide) (by decide) ty_1_10 rfl rfl (by omega) (by omega) ⟨by omega, by omega⟩ rfl (fun H16879 e16880 w16881 => ?_))
    have f16882 := f0.put' e16880 g0 rfl
    have k16883 : H16879 r0 10 = 0 := wq_u_s e16880
    refine wp_of e61 c61_19 (rw_aload_n (pc' := 20) (v := .ref r0) rfl rfl rfl ?_)
    refine wp_of e61 c61_20 (xg_R (pc' := 23) lf_0_51 w16881 g0 sh_1 (by decide) (by decide) ty_1_6 rfl rfl (fun r16884 q16885 g16886 => ?_))
    refine wp_of e61 c61_23 (xg_L (pc' := 26) lf_0_141 w16881 g16886 sh_27 (by decide) (by decide) ty_27_18 rfl rfl (fun b16887 b16888 => ?_))
    exact wp_lreturn e61 c61_26 rfl ⟨rfl, w16881, f16882, H16879 r16884 18, rfl, ⟨by omega, by omega⟩, by omega⟩
  · refine wp_of e61 c61_7 (rw_aload_n (pc' := 8) (v := .ref r0) rfl rfl rfl ?_)
    refine wp_of e61 c61_8 (rw_iconst (pc' := 9) rfl ?_)
    refine wp_of e61 c61_9 (xc_V (pc' := 12) (r := r0) (as := [vI 1]) (st := []) (lm_0_70) rfl rfl (Nat.le_of_ble_eq_true rfl) hW g0 sh_1 (by decide) rfl (by decide) (s_12 hW g0 ⟨by omega, by omega⟩) (fun R16889 T16890 H16891 p16892 => ?_))
    obtain ⟨e16893, w16895, f16896, z16898, e16894, b16899, p16897⟩ := p16892
    subst e16893
    subst e16894
    have f16900 := f0.tr f16896 rfl
    show wp _ _ 61 12 [(0, .ref r0)] [vI z16898] _ H16891 _
    refine wp_of e61 c61_12 (rw_i2l (pc' := 13) rfl ⟨by omega, by omega⟩ ?_)
    exact wp_lreturn e61 c61_13 rfl ⟨rfl, w16895, f16900, z16898, rfl, ⟨by omega, by omega⟩, by omega⟩
/-! StrikeAwake.deny(I)Z -/
theorem e63 : wq_en 63 = some (0, 2, false, some FieldType.boolean) := rfl
theorem c63_0 : mc_cd 63 0 = some (.aload_n 0, 1) := by decide +kernel
theorem c63_1 : mc_cd 63 1 = some (.iload_n 1, 1) := by decide +kernel
theorem c63_2 : mc_cd 63 2 = some (.putfield 102, 3) := by decide +kernel
theorem c63_5 : mc_cd 63 5 = some (.iconst 0, 1) := by decide +kernel
theorem c63_6 : mc_cd 63 6 = some (.ireturn, 1) := by decide +kernel
abbrev q_63 (r0 : Nat) (a1 : Int) (T : wq_T) (H : wq_H) : Option Value → wq_T → wq_H → Prop := fun r T' H' => T = T' ∧ WT T H' ∧ wfr [(1, 10)] T H H' ∧ ∃ z : Int, some (vI z) = r ∧ (0 ≤ z ∧ z ≤ 1) ∧ (H' r0 10 = a1)
set_option maxHeartbeats 4000000 in
theorem s_63 {kt : Nat → Option mc_E} {T : wq_T} {H : wq_H} {r0 : Nat} {a1 : Int} (hW : WT T H) (g0 : T.2.2.2 r0 = some 1) (i1 : (-2147483648) ≤ a1 ∧ a1 ≤ 2147483647) : wpc kt 1 63 [.ref r0, vI a1] T H (q_63 r0 a1 T H) := by
  refine wp_enter e63 (Nat.le_of_ble_eq_true rfl) rfl ?_
  have f0 : wfr [(1, 10)] T H H := wfr.rf
  show wp _ _ 63 0 [(0, .ref r0), (1, vI a1)] [] _ H _
  refine wp_of e63 c63_0 (rw_aload_n (pc' := 1) (v := .ref r0) rfl rfl rfl ?_)
  refine wp_of e63 c63_1 (rw_iload_n (pc' := 2) (z := a1) rfl rfl ?_)
  refine wp_of e63 c63_2 (xp_I (pc' := 5) lf_0_102 hW g0 sh_1 (by decide) (by decide) ty_1_10 rfl rfl (by omega) (by omega) ⟨by omega, by omega⟩ rfl (fun H16906 e16907 w16908 => ?_))
  have f16909 := f0.put' e16907 g0 rfl
  have k16910 : H16906 r0 10 = a1 := wq_u_s e16907
  refine wp_of e63 c63_5 (rw_iconst (pc' := 6) rfl ?_)
  exact wp_zreturn e63 c63_6 rfl (by omega) ⟨rfl, w16908, f16909, 0, rfl, ⟨by omega, by omega⟩, by omega⟩
/-! StrikeAwake.grant()Z -/
theorem e64 : wq_en 64 = some (0, 1, false, some FieldType.boolean) := rfl
theorem c64_0 : mc_cd 64 0 = some (.aload_n 0, 1) := by decide +kernel
theorem c64_1 : mc_cd 64 1 = some (.iconst 0, 1) := by decide +kernel
theorem c64_2 : mc_cd 64 2 = some (.putfield 102, 3) := by decide +kernel
theorem c64_5 : mc_cd 64 5 = some (.iconst 1, 1) := by decide +kernel
theorem c64_6 : mc_cd 64 6 = some (.ireturn, 1) := by decide +kernel
abbrev q_64 (r0 : Nat) (T : wq_T) (H : wq_H) : Option Value → wq_T → wq_H → Prop := fun r T' H' => T = T' ∧ WT T H' ∧ wfr [(1, 10)] T H H' ∧ ∃ z : Int, some (vI z) = r ∧ (0 ≤ z ∧ z ≤ 1) ∧ (H' r0 10 = 0)
set_option maxHeartbeats 4000000 in
theorem s_64 {kt : Nat → Option mc_E} {T : wq_T} {H : wq_H} {r0 : Nat} (hW : WT T H) (g0 : T.2.2.2 r0 = some 1) : wpc kt 1 64 [.ref r0] T H (q_64 r0 T H) := by
  refine wp_enter e64 (Nat.le_of_ble_eq_true rfl) rfl ?_
  have f0 : wfr [(1, 10)] T H H := wfr.rf
  show wp _ _ 64 0 [(0, .ref r0)] [] _ H _
  refine wp_of e64 c64_0 (rw_aload_n (pc' := 1) (v := .ref r0) rfl rfl rfl ?_)
  refine wp_of e64 c64_1 (rw_iconst (pc' := 2) rfl ?_)
  refine wp_of e64 c64_2 (xp_I (pc' := 5) lf_0_102 hW g0 sh_1 (by decide) (by decide) ty_1_10 rfl rfl (by omega) (by omega) ⟨by omega, by omega⟩ rfl (fun H16916 e16917 w16918 => ?_))
  have f16919 := f0.put' e16917 g0 rfl
  have k16920 : H16916 r0 10 = 0 := wq_u_s e16917
  refine wp_of e64 c64_5 (rw_iconst (pc' := 6) rfl ?_)
  exact wp_zreturn e64 c64_6 rfl (by omega) ⟨rfl, w16918, f16919, 1, rfl, ⟨by omega, by omega⟩, by omega⟩
/-! StrikeAwake.say(II)Z -/
theorem e62 : wq_en 62 = some (0, 3, false, some FieldType.boolean) := rfl
theorem c62_0 : mc_cd 62 0 = some (.aload_n 0, 1) := by decide +kernel
theorem c62_1 : mc_cd 62 1 = some (.iload_n 1, 1) := by decide +kernel
theorem c62_2 : mc_cd 62 2 = some (.iload_n 2, 1) := by decide +kernel
theorem c62_3 : mc_cd 62 3 = some (.invokevirtual 118, 3) := by decide +kernel
theorem c62_6 : mc_cd 62 6 = some (.ifCond .ne 9, 3) := by decide +kernel
theorem c62_9 : mc_cd 62 9 = some (.aload_n 0, 1) := by decide +kernel
theorem c62_10 : mc_cd 62 10 = some (.iconst 1, 1) := by decide +kernel
theorem c62_11 : mc_cd 62 11 = some (.invokevirtual 145, 3) := by decide +kernel
theorem c62_14 : mc_cd 62 14 = some (.ireturn, 1) := by decide +kernel
theorem c62_15 : mc_cd 62 15 = some (.aload_n 0, 1) := by decide +kernel
theorem c62_16 : mc_cd 62 16 = some (.getfield 51, 3) := by decide +kernel
theorem c62_19 : mc_cd 62 19 = some (.getfield 109, 3) := by decide +kernel
theorem c62_22 : mc_cd 62 22 = some (.iload_n 1, 1) := by decide +kernel
theorem c62_23 : mc_cd 62 23 = some (.aaload, 1) := by decide +kernel
theorem c62_24 : mc_cd 62 24 = some (.iload_n 2, 1) := by decide +kernel
theorem c62_25 : mc_cd 62 25 = some (.putfield 148, 3) := by decide +kernel
theorem c62_28 : mc_cd 62 28 = some (.aload_n 0, 1) := by decide +kernel
theorem c62_29 : mc_cd 62 29 = some (.invokevirtual 151, 3) := by decide +kernel
theorem c62_32 : mc_cd 62 32 = some (.ireturn, 1) := by decide +kernel
abbrev q_62 (r0 : Nat) (a1 : Int) (a2 : Int) (T : wq_T) (H : wq_H) : Option Value → wq_T → wq_H → Prop := fun r T' H' => T = T' ∧ WT T H' ∧ wfr [(35, 16), (1, 10)] T H H' ∧ ∃ z : Int, some (vI z) = r ∧ (0 ≤ z ∧ z ≤ 1) ∧ (H' r0 10 ≠ 4)
set_option maxHeartbeats 4000000 in
theorem s_62 {kt : Nat → Option mc_E} {T : wq_T} {H : wq_H} {r0 : Nat} {a1 : Int} {a2 : Int} (hW : WT T H) (g0 : T.2.2.2 r0 = some 1) (i1 : (-2147483648) ≤ a1 ∧ a1 ≤ 2147483647) (i2 : (-2147483648) ≤ a2 ∧ a2 ≤ 2147483647) : wpc kt 3 62 [.ref r0, vI a1, vI a2] T H (q_62 r0 a1 a2 T H) := by
  refine wp_enter e62 (Nat.le_of_ble_eq_true rfl) rfl ?_
  have f0 : wfr [(35, 16), (1, 10)] T H H := wfr.rf
  show wp _ _ 62 0 [(0, .ref r0), (1, vI a1), (2, vI a2)] [] _ H _
  refine wp_of e62 c62_0 (rw_aload_n (pc' := 1) (v := .ref r0) rfl rfl rfl ?_)
  refine wp_of e62 c62_1 (rw_iload_n (pc' := 2) (z := a1) rfl rfl ?_)
  refine wp_of e62 c62_2 (rw_iload_n (pc' := 3) (z := a2) rfl rfl ?_)
  refine wp_of e62 c62_3 (xc_V (pc' := 6) (r := r0) (as := [vI a1, vI a2]) (st := []) (lm_0_118) rfl rfl (Nat.le_of_ble_eq_true rfl) hW g0 sh_1 (by decide) rfl (by decide) (s_57 hW g0 ⟨by omega, by omega⟩ ⟨by omega, by omega⟩) (fun R16970 T16971 H16972 p16973 => ?_))
  obtain ⟨e16974, e16976, z16978, e16975, b16979, p16977⟩ := p16973
  subst e16974
  subst e16975
  subst e16976
  show wp _ _ 62 6 [(0, .ref r0), (1, vI a1), (2, vI a2)] [vI z16978] _ H _
  refine wp_of e62 c62_6 (rw_if_ne (p1 := 15) (p2 := 9) (by decide) rfl ⟨by omega, by omega⟩ (fun c16980 => ?_) (fun c16980 => ?_))
  · refine wp_of e62 c62_15 (rw_aload_n (pc' := 16) (v := .ref r0) rfl rfl rfl ?_)
    refine wp_of e62 c62_16 (xg_R (pc' := 19) lf_0_51 hW g0 sh_1 (by decide) (by decide) ty_1_6 rfl rfl (fun r16981 q16982 g16983 => ?_))
    refine wp_of e62 c62_19 (xg_R (pc' := 22) lf_0_109 hW g16983 sh_27 (by decide) (by decide) ty_27_0 rfl rfl (fun r16984 q16985 g16986 => ?_))
    refine wp_of e62 c62_22 (rw_iload_n (pc' := 23) (z := a1) rfl rfl ?_)
    refine wp_of e62 c62_23 (xa_R (pc' := 24) (by decide) hW g16986 sh_28 (by decide) (ty_28 _) (by omega) (by omega) rfl (fun r16987 q16988 g16989 => ?_))
    refine wp_of e62 c62_24 (rw_iload_n (pc' := 25) (z := a2) rfl rfl ?_)
    refine wp_of e62 c62_25 (xp_I (pc' := 28) lf_0_148 hW g16989 sh_35 (by decide) (by decide) ty_35_16 rfl rfl (by omega) (by omega) ⟨by omega, by omega⟩ rfl (fun H16990 e16991 w16992 => ?_))
    have f16993 := f0.put' e16991 g16989 rfl
    have k16994 : H16990 r16987 16 = a2 := wq_u_s e16991
    refine wp_of e62 c62_28 (rw_aload_n (pc' := 29) (v := .ref r0) rfl rfl rfl ?_)
    refine wp_of e62 c62_29 (xc_V (pc' := 32) (r := r0) (as := []) (st := []) (lm_0_151) rfl rfl (Nat.le_of_ble_eq_true rfl) w16992 g0 sh_1 (by decide) rfl (by decide) (s_64 w16992 g0) (fun R16995 T16996 H16997 p16998 => ?_))
    obtain ⟨e16999, w17001, f17002, z17004, e17000, b17005, p17003⟩ := p16998
    subst e16999
    subst e17000
    have f17006 := f16993.tr f17002 rfl
    show wp _ _ 62 32 [(0, .ref r0), (1, vI a1), (2, vI a2)] [vI z17004] _ H16997 _
    exact wp_zreturn e62 c62_32 rfl (by omega) ⟨rfl, w17001, f17006, z17004, rfl, ⟨by omega, by omega⟩, by omega⟩
  · refine wp_of e62 c62_9 (rw_aload_n (pc' := 10) (v := .ref r0) rfl rfl rfl ?_)
    refine wp_of e62 c62_10 (rw_iconst (pc' := 11) rfl ?_)
    refine wp_of e62 c62_11 (xc_V (pc' := 14) (r := r0) (as := [vI 1]) (st := []) (lm_0_145) rfl rfl (Nat.le_of_ble_eq_true rfl) hW g0 sh_1 (by decide) rfl (by decide) (s_63 hW g0 ⟨by omega, by omega⟩) (fun R17007 T17008 H17009 p17010 => ?_))
    obtain ⟨e17011, w17013, f17014, z17016, e17012, b17017, p17015⟩ := p17010
    subst e17011
    subst e17012
    have f17018 := f0.tr f17014 rfl
    show wp _ _ 62 14 [(0, .ref r0), (1, vI a1), (2, vI a2)] [vI z17016] _ H17009 _
    exact wp_zreturn e62 c62_14 rfl (by omega) ⟨rfl, w17013, f17018, z17016, rfl, ⟨by omega, by omega⟩, by omega⟩
/-! StrikeAwake.said(I)I -/
theorem e65 : wq_en 65 = some (0, 2, false, some FieldType.int) := rfl
theorem c65_0 : mc_cd 65 0 = some (.aload_n 0, 1) := by decide +kernel
theorem c65_1 : mc_cd 65 1 = some (.iload_n 1, 1) := by decide +kernel
theorem c65_2 : mc_cd 65 2 = some (.invokevirtual 105, 3) := by decide +kernel
theorem c65_5 : mc_cd 65 5 = some (.ifCond .eq 18, 3) := by decide +kernel
theorem c65_8 : mc_cd 65 8 = some (.aload_n 0, 1) := by decide +kernel
theorem c65_9 : mc_cd 65 9 = some (.getfield 51, 3) := by decide +kernel
theorem c65_12 : mc_cd 65 12 = some (.getfield 109, 3) := by decide +kernel
theorem c65_15 : mc_cd 65 15 = some (.iload_n 1, 1) := by decide +kernel
theorem c65_16 : mc_cd 65 16 = some (.aaload, 1) := by decide +kernel
theorem c65_17 : mc_cd 65 17 = some (.getfield 113, 3) := by decide +kernel
theorem c65_20 : mc_cd 65 20 = some (.ifCond .ne 9, 3) := by decide +kernel
theorem c65_23 : mc_cd 65 23 = some (.aload_n 0, 1) := by decide +kernel
theorem c65_24 : mc_cd 65 24 = some (.iconst 1, 1) := by decide +kernel
theorem c65_25 : mc_cd 65 25 = some (.invokevirtual 70, 3) := by decide +kernel
theorem c65_28 : mc_cd 65 28 = some (.ireturn, 1) := by decide +kernel
theorem c65_29 : mc_cd 65 29 = some (.aload_n 0, 1) := by decide +kernel
theorem c65_30 : mc_cd 65 30 = some (.aload_n 0, 1) := by decide +kernel
theorem c65_31 : mc_cd 65 31 = some (.getfield 51, 3) := by decide +kernel
theorem c65_34 : mc_cd 65 34 = some (.getfield 109, 3) := by decide +kernel
theorem c65_37 : mc_cd 65 37 = some (.iload_n 1, 1) := by decide +kernel
theorem c65_38 : mc_cd 65 38 = some (.aaload, 1) := by decide +kernel
theorem c65_39 : mc_cd 65 39 = some (.getfield 148, 3) := by decide +kernel
theorem c65_42 : mc_cd 65 42 = some (.invokevirtual 99, 3) := by decide +kernel
theorem c65_45 : mc_cd 65 45 = some (.ireturn, 1) := by decide +kernel
abbrev q_65 (r0 : Nat) (a1 : Int) (T : wq_T) (H : wq_H) : Option Value → wq_T → wq_H → Prop := fun r T' H' => T = T' ∧ WT T H' ∧ wfr [(1, 10)] T H H' ∧ ∃ z : Int, some (vI z) = r ∧ ((-2147483648) ≤ z ∧ z ≤ 2147483647) ∧ (H' r0 10 ≠ 4)
set_option maxHeartbeats 4000000 in
theorem s_65 {kt : Nat → Option mc_E} {T : wq_T} {H : wq_H} {r0 : Nat} {a1 : Int} (hW : WT T H) (g0 : T.2.2.2 r0 = some 1) (i1 : (-2147483648) ≤ a1 ∧ a1 ≤ 2147483647) : wpc kt 2 65 [.ref r0, vI a1] T H (q_65 r0 a1 T H) := by
  refine wp_enter e65 (Nat.le_of_ble_eq_true rfl) rfl ?_
  have f0 : wfr [(1, 10)] T H H := wfr.rf
  show wp _ _ 65 0 [(0, .ref r0), (1, vI a1)] [] _ H _
  refine wp_of e65 c65_0 (rw_aload_n (pc' := 1) (v := .ref r0) rfl rfl rfl ?_)
  refine wp_of e65 c65_1 (rw_iload_n (pc' := 2) (z := a1) rfl rfl ?_)
  refine wp_of e65 c65_2 (xc_V (pc' := 5) (r := r0) (as := [vI a1]) (st := []) (lm_0_105) rfl rfl (Nat.le_of_ble_eq_true rfl) hW g0 sh_1 (by decide) rfl (by decide) (s_55 hW g0 ⟨by omega, by omega⟩) (fun R17080 T17081 H17082 p17083 => ?_))
  obtain ⟨e17084, e17086, z17088, e17085, b17089, p17087⟩ := p17083
  subst e17084
  subst e17085
  subst e17086
  show wp _ _ 65 5 [(0, .ref r0), (1, vI a1)] [vI z17088] _ H _
  refine wp_of e65 c65_5 (rw_if_eq (p1 := 23) (p2 := 8) (by decide) rfl ⟨by omega, by omega⟩ (fun c17090 => ?_) (fun c17090 => ?_))
  · refine wp_of e65 c65_23 (rw_aload_n (pc' := 24) (v := .ref r0) rfl rfl rfl ?_)
    refine wp_of e65 c65_24 (rw_iconst (pc' := 25) rfl ?_)
    refine wp_of e65 c65_25 (xc_V (pc' := 28) (r := r0) (as := [vI 1]) (st := []) (lm_0_70) rfl rfl (Nat.le_of_ble_eq_true rfl) hW g0 sh_1 (by decide) rfl (by decide) (s_12 hW g0 ⟨by omega, by omega⟩) (fun R17091 T17092 H17093 p17094 => ?_))
    obtain ⟨e17095, w17097, f17098, z17100, e17096, b17101, p17099⟩ := p17094
    subst e17095
    subst e17096
    have f17102 := f0.tr f17098 rfl
    show wp _ _ 65 28 [(0, .ref r0), (1, vI a1)] [vI z17100] _ H17093 _
    exact wp_ireturn e65 c65_28 rfl ⟨rfl, w17097, f17102, z17100, rfl, ⟨by omega, by omega⟩, by omega⟩
  · refine wp_of e65 c65_8 (rw_aload_n (pc' := 9) (v := .ref r0) rfl rfl rfl ?_)
    refine wp_of e65 c65_9 (xg_R (pc' := 12) lf_0_51 hW g0 sh_1 (by decide) (by decide) ty_1_6 rfl rfl (fun r17103 q17104 g17105 => ?_))
    refine wp_of e65 c65_12 (xg_R (pc' := 15) lf_0_109 hW g17105 sh_27 (by decide) (by decide) ty_27_0 rfl rfl (fun r17106 q17107 g17108 => ?_))
    refine wp_of e65 c65_15 (rw_iload_n (pc' := 16) (z := a1) rfl rfl ?_)
    refine wp_of e65 c65_16 (xa_R (pc' := 17) (by decide) hW g17108 sh_28 (by decide) (ty_28 _) (by omega) (by omega) rfl (fun r17109 q17110 g17111 => ?_))
    refine wp_of e65 c65_17 (xg_I (pc' := 20) lf_0_113 hW g17111 sh_35 (by decide) (by decide) ty_35_15 rfl rfl (fun b17112 b17113 => ?_))
    refine wp_of e65 c65_20 (rw_if_ne (p1 := 29) (p2 := 23) (by decide) rfl ⟨by omega, by omega⟩ (fun c17114 => ?_) (fun c17114 => ?_))
    · refine wp_of e65 c65_29 (rw_aload_n (pc' := 30) (v := .ref r0) rfl rfl rfl ?_)
      refine wp_of e65 c65_30 (rw_aload_n (pc' := 31) (v := .ref r0) rfl rfl rfl ?_)
      refine wp_of e65 c65_31 (xg_K (pc' := 34) lf_0_51 hW g0 sh_1 (by decide) (by decide) rfl q17104 rfl ?_)
      refine wp_of e65 c65_34 (xg_K (pc' := 37) lf_0_109 hW g17105 sh_27 (by decide) (by decide) rfl q17107 rfl ?_)
      refine wp_of e65 c65_37 (rw_iload_n (pc' := 38) (z := a1) rfl rfl ?_)
      refine wp_of e65 c65_38 (xa_K (pc' := 39) (by decide) hW g17108 sh_28 (by decide) (by omega) (by omega) q17110 rfl ?_)
      refine wp_of e65 c65_39 (xg_I (pc' := 42) lf_0_148 hW g17111 sh_35 (by decide) (by decide) ty_35_16 rfl rfl (fun b17115 b17116 => ?_))
      refine wp_of e65 c65_42 (xc_V (pc' := 45) (r := r0) (as := [vI (H r17109 16)]) (st := []) (lm_0_99) rfl rfl (Nat.le_of_ble_eq_true rfl) hW g0 sh_1 (by decide) rfl (by decide) (s_51 hW g0 ⟨by omega, by omega⟩) (fun R17117 T17118 H17119 p17120 => ?_))
      obtain ⟨e17121, w17123, f17124, z17126, e17122, b17127, p17125⟩ := p17120
      subst e17121
      subst e17122
      have f17128 := f0.tr f17124 rfl
      show wp _ _ 65 45 [(0, .ref r0), (1, vI a1)] [vI z17126] _ H17119 _
      exact wp_ireturn e65 c65_45 rfl ⟨rfl, w17123, f17128, z17126, rfl, ⟨by omega, by omega⟩, by omega⟩
    · refine wp_of e65 c65_23 (rw_aload_n (pc' := 24) (v := .ref r0) rfl rfl rfl ?_)
      refine wp_of e65 c65_24 (rw_iconst (pc' := 25) rfl ?_)
      refine wp_of e65 c65_25 (xc_V (pc' := 28) (r := r0) (as := [vI 1]) (st := []) (lm_0_70) rfl rfl (Nat.le_of_ble_eq_true rfl) hW g0 sh_1 (by decide) rfl (by decide) (s_12 hW g0 ⟨by omega, by omega⟩) (fun R17129 T17130 H17131 p17132 => ?_))
      obtain ⟨e17133, w17135, f17136, z17138, e17134, b17139, p17137⟩ := p17132
      subst e17133
      subst e17134
      have f17140 := f0.tr f17136 rfl
      show wp _ _ 65 28 [(0, .ref r0), (1, vI a1)] [vI z17138] _ H17131 _
      exact wp_ireturn e65 c65_28 rfl ⟨rfl, w17135, f17140, z17138, rfl, ⟨by omega, by omega⟩, by omega⟩
/-! StrikeAwake$Walk.countBirths(LStrikeAwake$Parish;)V -/
theorem e69 : wq_en 69 = some (3, 4, false, none) := rfl
theorem c69_0 : mc_cd 69 0 = some (.aload_n 0, 1) := by decide +kernel
theorem c69_1 : mc_cd 69 1 = some (.aload_n 1, 1) := by decide +kernel
theorem c69_2 : mc_cd 69 2 = some (.getfield 36, 3) := by decide +kernel
theorem c69_5 : mc_cd 69 5 = some (.putfield 51, 3) := by decide +kernel
theorem c69_8 : mc_cd 69 8 = some (.aload_n 0, 1) := by decide +kernel
theorem c69_9 : mc_cd 69 9 = some (.getfield 15, 3) := by decide +kernel
theorem c69_12 : mc_cd 69 12 = some (.iconst 0, 1) := by decide +kernel
theorem c69_13 : mc_cd 69 13 = some (.lconst 0, 1) := by decide +kernel
theorem c69_14 : mc_cd 69 14 = some (.lastore, 1) := by decide +kernel
theorem c69_15 : mc_cd 69 15 = some (.aload_n 0, 1) := by decide +kernel
theorem c69_16 : mc_cd 69 16 = some (.getfield 19, 3) := by decide +kernel
theorem c69_19 : mc_cd 69 19 = some (.iconst 0, 1) := by decide +kernel
theorem c69_20 : mc_cd 69 20 = some (.lconst 0, 1) := by decide +kernel
theorem c69_21 : mc_cd 69 21 = some (.lastore, 1) := by decide +kernel
theorem c69_22 : mc_cd 69 22 = some (.aload_n 0, 1) := by decide +kernel
theorem c69_23 : mc_cd 69 23 = some (.getfield 22, 3) := by decide +kernel
theorem c69_26 : mc_cd 69 26 = some (.iconst 0, 1) := by decide +kernel
theorem c69_27 : mc_cd 69 27 = some (.iconst 0, 1) := by decide +kernel
theorem c69_28 : mc_cd 69 28 = some (.iastore, 1) := by decide +kernel
theorem c69_29 : mc_cd 69 29 = some (.iconst 0, 1) := by decide +kernel
theorem c69_30 : mc_cd 69 30 = some (.istore_n 2, 1) := by decide +kernel
theorem c69_31 : mc_cd 69 31 = some (.iload_n 2, 1) := by decide +kernel
theorem c69_32 : mc_cd 69 32 = some (.aload_n 1, 1) := by decide +kernel
theorem c69_33 : mc_cd 69 33 = some (.getfield 55, 3) := by decide +kernel
theorem c69_36 : mc_cd 69 36 = some (.if_icmp .ge 60, 3) := by decide +kernel
theorem c69_39 : mc_cd 69 39 = some (.aload_n 1, 1) := by decide +kernel
theorem c69_40 : mc_cd 69 40 = some (.getfield 58, 3) := by decide +kernel
theorem c69_43 : mc_cd 69 43 = some (.iload_n 2, 1) := by decide +kernel
theorem c69_44 : mc_cd 69 44 = some (.iaload, 1) := by decide +kernel
theorem c69_45 : mc_cd 69 45 = some (.bipush 24, 2) := by decide +kernel
theorem c69_47 : mc_cd 69 47 = some (.invokestatic 61, 3) := by decide +kernel
theorem c69_50 : mc_cd 69 50 = some (.istore_n 3, 1) := by decide +kernel
theorem c69_51 : mc_cd 69 51 = some (.aload_n 0, 1) := by decide +kernel
theorem c69_52 : mc_cd 69 52 = some (.getfield 15, 3) := by decide +kernel
theorem c69_55 : mc_cd 69 55 = some (.iconst 0, 1) := by decide +kernel
theorem c69_56 : mc_cd 69 56 = some (.dup2, 1) := by decide +kernel
theorem c69_57 : mc_cd 69 57 = some (.laload, 1) := by decide +kernel
theorem c69_58 : mc_cd 69 58 = some (.iload_n 3, 1) := by decide +kernel
theorem c69_59 : mc_cd 69 59 = some (.invokestatic 65, 3) := by decide +kernel
theorem c69_62 : mc_cd 69 62 = some (.ladd, 1) := by decide +kernel
theorem c69_63 : mc_cd 69 63 = some (.lastore, 1) := by decide +kernel
theorem c69_64 : mc_cd 69 64 = some (.aload_n 0, 1) := by decide +kernel
theorem c69_65 : mc_cd 69 65 = some (.getfield 19, 3) := by decide +kernel
theorem c69_68 : mc_cd 69 68 = some (.iconst 0, 1) := by decide +kernel
theorem c69_69 : mc_cd 69 69 = some (.dup2, 1) := by decide +kernel
theorem c69_70 : mc_cd 69 70 = some (.laload, 1) := by decide +kernel
theorem c69_71 : mc_cd 69 71 = some (.iload_n 3, 1) := by decide +kernel
theorem c69_72 : mc_cd 69 72 = some (.bipush 12, 2) := by decide +kernel
theorem c69_74 : mc_cd 69 74 = some (.ishr, 1) := by decide +kernel
theorem c69_75 : mc_cd 69 75 = some (.invokestatic 65, 3) := by decide +kernel
theorem c69_78 : mc_cd 69 78 = some (.ladd, 1) := by decide +kernel
theorem c69_79 : mc_cd 69 79 = some (.lastore, 1) := by decide +kernel
theorem c69_80 : mc_cd 69 80 = some (.aload_n 0, 1) := by decide +kernel
theorem c69_81 : mc_cd 69 81 = some (.getfield 22, 3) := by decide +kernel
theorem c69_84 : mc_cd 69 84 = some (.iconst 0, 1) := by decide +kernel
theorem c69_85 : mc_cd 69 85 = some (.dup2, 1) := by decide +kernel
theorem c69_86 : mc_cd 69 86 = some (.iaload, 1) := by decide +kernel
theorem c69_87 : mc_cd 69 87 = some (.iload_n 3, 1) := by decide +kernel
theorem c69_88 : mc_cd 69 88 = some (.ior, 1) := by decide +kernel
theorem c69_89 : mc_cd 69 89 = some (.iastore, 1) := by decide +kernel
theorem c69_90 : mc_cd 69 90 = some (.iinc 2 1, 3) := by decide +kernel
theorem c69_93 : mc_cd 69 93 = some (.goto (-62), 3) := by decide +kernel
theorem c69_96 : mc_cd 69 96 = some (.return_, 1) := by decide +kernel
abbrev q_69 (r0 : Nat) (r1 : Nat) (T : wq_T) (H : wq_H) : Option Value → wq_T → wq_H → Prop := fun r T' H' => T = T' ∧ WT T H' ∧ wfr [(6, 5), (8, 999), (10, 999), (9, 999)] T H H' ∧ none = r
set_option maxHeartbeats 4000000 in
theorem s_69 {kt : Nat → Option mc_E} {T : wq_T} {H : wq_H} {r0 : Nat} {r1 : Nat} (hW : WT T H) (g0 : T.2.2.2 r0 = some 6) (g1 : T.2.2.2 r1 = some 27) : wpc kt 2 69 [.ref r0, .ref r1] T H (q_69 r0 r1 T H) := by
  refine wp_enter e69 (Nat.le_of_ble_eq_true rfl) rfl ?_
  have f0 : wfr [(6, 5), (8, 999), (10, 999), (9, 999)] T H H := wfr.rf
  show wp _ _ 69 0 [(0, .ref r0), (1, .ref r1)] [] _ H _
  refine wp_of e69 c69_0 (rw_aload_n (pc' := 1) (v := .ref r0) rfl rfl rfl ?_)
  refine wp_of e69 c69_1 (rw_aload_n (pc' := 2) (v := .ref r1) rfl rfl rfl ?_)
  refine wp_of e69 c69_2 (xg_I (pc' := 5) lf_3_36 hW g1 sh_27 (by decide) (by decide) ty_27_10 rfl rfl (fun b17505 b17506 => ?_))
  refine wp_of e69 c69_5 (xp_I (pc' := 8) lf_3_51 hW g0 sh_6 (by decide) (by decide) ty_6_5 rfl rfl (by omega) (by omega) ⟨by omega, by omega⟩ rfl (fun H17507 e17508 w17509 => ?_))
  have f17510 := f0.put' e17508 g0 rfl
  have k17511 : H17507 r0 5 = H r1 10 := wq_u_s e17508
  refine wp_of e69 c69_8 (rw_aload_n (pc' := 9) (v := .ref r0) rfl rfl rfl ?_)
  refine wp_of e69 c69_9 (xg_R (pc' := 12) lf_3_15 w17509 g0 sh_6 (by decide) (by decide) ty_6_1 rfl rfl (fun r17512 q17513 g17514 => ?_))
  refine wp_of e69 c69_12 (rw_iconst (pc' := 13) rfl ?_)
  refine wp_of e69 c69_13 (rw_lconst (pc' := 14) (z := 0) rfl rfl ?_)
  refine wp_of e69 c69_14 (xs_L (pc' := 15) w17509 g17514 (by decide) sh_8 (by decide) (ty_8 _) (by omega) (by omega) ⟨by omega, by omega⟩ (by omega) (by omega) rfl (fun H17515 e17516 w17517 => ?_))
  have f17518 := f17510.put' e17516 g17514 rfl
  refine wp_of e69 c69_15 (rw_aload_n (pc' := 16) (v := .ref r0) rfl rfl rfl ?_)
  refine wp_of e69 c69_16 (xg_R (pc' := 19) lf_3_19 w17517 g0 sh_6 (by decide) (by decide) ty_6_2 rfl rfl (fun r17519 q17520 g17521 => ?_))
  refine wp_of e69 c69_19 (rw_iconst (pc' := 20) rfl ?_)
  refine wp_of e69 c69_20 (rw_lconst (pc' := 21) (z := 0) rfl rfl ?_)
  refine wp_of e69 c69_21 (xs_L (pc' := 22) w17517 g17521 (by decide) sh_9 (by decide) (ty_9 _) (by omega) (by omega) ⟨by omega, by omega⟩ (by omega) (by omega) rfl (fun H17522 e17523 w17524 => ?_))
  have f17525 := f17518.put' e17523 g17521 rfl
  refine wp_of e69 c69_22 (rw_aload_n (pc' := 23) (v := .ref r0) rfl rfl rfl ?_)
  refine wp_of e69 c69_23 (xg_R (pc' := 26) lf_3_22 w17524 g0 sh_6 (by decide) (by decide) ty_6_3 rfl rfl (fun r17526 q17527 g17528 => ?_))
  refine wp_of e69 c69_26 (rw_iconst (pc' := 27) rfl ?_)
  refine wp_of e69 c69_27 (rw_iconst (pc' := 28) rfl ?_)
  refine wp_of e69 c69_28 (xs_I (pc' := 29) w17524 g17528 (by decide) sh_10 (by decide) (ty_10 _) (by omega) (by omega) ⟨by omega, by omega⟩ (by omega) (by omega) rfl (fun H17529 e17530 w17531 => ?_))
  have f17532 := f17525.put' e17530 g17528 rfl
  refine wp_of e69 c69_29 (rw_iconst (pc' := 30) rfl ?_)
  refine wp_of e69 c69_30 (rw_istore_n (pc' := 31) (z := 0) (L' := [(2, vI 0), (0, .ref r0), (1, .ref r1)]) rfl rfl rfl ?_)
  have lp17801 : ∀ (n17802 : Nat) (v17804 : Int) (H17805 : wq_H), WT T H17805 → wfr [(8, 999), (10, 999), (9, 999)] T H17529 H17805 → (0 ≤ v17804 ∧ v17804 ≤ 3) → (3 - v17804).toNat = n17802 → wp kt 1 69 31 [(2, vI v17804), (0, .ref r0), (1, .ref r1)] [] T H17805 (q_69 r0 r1 T H) := by
    intro n17802
    induction n17802 using Nat.strongRecOn with
    | _ n17802 ih17803 =>
      intro v17804 H17805 w17806 f17807 b17808 m17809
      have f17810 := f17532.tr f17807 rfl
      refine wp_of e69 c69_31 (rw_iload_n (pc' := 32) (z := v17804) rfl rfl ?_)
      refine wp_of e69 c69_32 (rw_aload_n (pc' := 33) (v := .ref r1) rfl rfl rfl ?_)
      refine wp_of e69 c69_33 (xg_I (pc' := 36) lf_3_55 w17806 g1 sh_27 (by decide) (by decide) ty_27_12 rfl rfl (fun b17811 b17812 => ?_))
      refine wp_of e69 c69_36 (rw_icmp_ge (p1 := 96) (p2 := 39) (by decide) rfl ⟨by omega, by omega⟩ ⟨by omega, by omega⟩ (fun c17813 => ?_) (fun c17813 => ?_))
      · exact wp_return e69 c69_96 rfl ⟨rfl, w17806, f17810, rfl⟩
      · refine wp_of e69 c69_39 (rw_aload_n (pc' := 40) (v := .ref r1) rfl rfl rfl ?_)
        refine wp_of e69 c69_40 (xg_R (pc' := 43) lf_3_58 w17806 g1 sh_27 (by decide) (by decide) ty_27_3 rfl rfl (fun r17814 q17815 g17816 => ?_))
        refine wp_of e69 c69_43 (rw_iload_n (pc' := 44) (z := v17804) rfl rfl ?_)
        refine wp_of e69 c69_44 (xa_I (so := 0) (pc' := 45) w17806 g17816 sh_31 (by decide) (ty_31 _) (by omega) (by omega) rfl (fun b17817 b17818 => ?_))
        refine wp_of e69 c69_45 (rw_bipush (pc' := 47) (z := 24) rfl (by decide) ?_)
        refine wp_of e69 c69_47 (xc_S (pc' := 50) (as := [vI (H17805 r17814 (v17804.toNat)), vI 24]) (st := []) (lm_3_61) rfl rfl (Nat.le_of_ble_eq_true rfl) rfl (by decide) (s_31 w17806 ⟨by omega, by omega⟩ ⟨by omega, by omega⟩) (fun R17819 T17820 H17821 p17822 => ?_))
        obtain ⟨e17823, e17825, z17826, e17824, b17827⟩ := p17822
        subst e17823
        subst e17824
        subst e17825
        show wp _ _ 69 50 [(2, vI v17804), (0, .ref r0), (1, .ref r1)] [vI z17826] _ H17805 _
        refine wp_of e69 c69_50 (rw_istore_n (pc' := 51) (z := z17826) (L' := [(3, vI z17826), (2, vI v17804), (0, .ref r0), (1, .ref r1)]) rfl rfl rfl ?_)
        refine wp_of e69 c69_51 (rw_aload_n (pc' := 52) (v := .ref r0) rfl rfl rfl ?_)
        have k17828 : H17805 r0 1 = H17507 r0 1 := ((f17807 r0 1 _ g0 rfl).trans ((wq_u_t e17530 g17528 g0 rfl 1).trans ((wq_u_t e17523 g17521 g0 rfl 1).trans (wq_u_t e17516 g17514 g0 rfl 1))))
        have q17829 : H17805 r0 1 = (r17512 : Int) := k17828.trans q17513
        refine wp_of e69 c69_52 (xg_K (pc' := 55) lf_3_15 w17806 g0 sh_6 (by decide) (by decide) rfl q17829 rfl ?_)
        refine wp_of e69 c69_55 (rw_iconst (pc' := 56) rfl ?_)
        refine wp_of e69 c69_56 (rw_dup2 (pc' := 57) rfl rfl rfl ?_)
        refine wp_of e69 c69_57 (xa_L (pc' := 58) w17806 g17514 sh_8 (by decide) (ty_8 _) (by omega) (by omega) rfl (fun b17830 b17831 => ?_))
        refine wp_of e69 c69_58 (rw_iload_n (pc' := 59) (z := z17826) rfl rfl ?_)
        refine wp_of e69 c69_59 (xc_S (pc' := 62) (as := [vI z17826]) (st := [vL (H17805 r17512 ((0 : Int).toNat)), vI 0, .ref r17512]) (lm_3_65) rfl rfl (Nat.le_of_ble_eq_true rfl) rfl (by decide) (s_49 w17806 ⟨by omega, by omega⟩) (fun R17832 T17833 H17834 p17835 => ?_))
        obtain ⟨e17836, e17838, z17839, e17837, b17840⟩ := p17835
        subst e17836
        subst e17837
        subst e17838
        show wp _ _ 69 62 [(3, vI z17826), (2, vI v17804), (0, .ref r0), (1, .ref r1)] [vL z17839, vL (H17805 r17512 ((0 : Int).toNat)), vI 0, .ref r17512] _ H17805 _
        refine wp_of e69 c69_62 (rw_laddw (pc' := 63) rfl ?_)
        obtain ⟨v17841, e17842⟩ : ∃ x : Int, x = wl_w ((H17805 r17512 ((0 : Int).toNat)) + z17839) := ⟨_, rfl⟩
        rw [← e17842]
        have b17843 : -9223372036854775808 ≤ v17841 ∧ v17841 ≤ 9223372036854775807 := by
          rw [e17842]
          exact wL_w _
        refine wp_of e69 c69_63 (xs_L (pc' := 64) w17806 g17514 (by decide) sh_8 (by decide) (ty_8 _) (by omega) (by omega) ⟨by omega, by omega⟩ (by omega) (by omega) rfl (fun H17844 e17845 w17846 => ?_))
        have f17847 := f17810.put' e17845 g17514 rfl
        have f17848 := f17807.put' e17845 g17514 rfl
        refine wp_of e69 c69_64 (rw_aload_n (pc' := 65) (v := .ref r0) rfl rfl rfl ?_)
        have k17849 : H17844 r0 2 = H17515 r0 2 := ((wq_u_t e17845 g17514 g0 rfl 2).trans ((f17807 r0 2 _ g0 rfl).trans ((wq_u_t e17530 g17528 g0 rfl 2).trans (wq_u_t e17523 g17521 g0 rfl 2))))
        have q17850 : H17844 r0 2 = (r17519 : Int) := k17849.trans q17520
        refine wp_of e69 c69_65 (xg_K (pc' := 68) lf_3_19 w17846 g0 sh_6 (by decide) (by decide) rfl q17850 rfl ?_)
        refine wp_of e69 c69_68 (rw_iconst (pc' := 69) rfl ?_)
        refine wp_of e69 c69_69 (rw_dup2 (pc' := 70) rfl rfl rfl ?_)
        refine wp_of e69 c69_70 (xa_L (pc' := 71) w17846 g17521 sh_9 (by decide) (ty_9 _) (by omega) (by omega) rfl (fun b17851 b17852 => ?_))
        refine wp_of e69 c69_71 (rw_iload_n (pc' := 72) (z := z17826) rfl rfl ?_)
        refine wp_of e69 c69_72 (rw_bipush (pc' := 74) (z := 12) rfl (by decide) ?_)
        refine wp_of e69 c69_74 (rw_ishr (pc' := 75) rfl ?_)
        obtain ⟨v17853, e17854⟩ : ∃ x : Int, x = wq_shr z17826 12 := ⟨_, rfl⟩
        rw [← e17854]
        have b17855 : -2147483648 ≤ v17853 ∧ v17853 ≤ 2147483647 := by
          rw [e17854]
          exact wI_shr _ _
        refine wp_of e69 c69_75 (xc_S (pc' := 78) (as := [vI v17853]) (st := [vL (H17844 r17519 ((0 : Int).toNat)), vI 0, .ref r17519]) (lm_3_65) rfl rfl (Nat.le_of_ble_eq_true rfl) rfl (by decide) (s_49 w17846 ⟨by omega, by omega⟩) (fun R17856 T17857 H17858 p17859 => ?_))
        obtain ⟨e17860, e17862, z17863, e17861, b17864⟩ := p17859
        subst e17860
        subst e17861
        subst e17862
        show wp _ _ 69 78 [(3, vI z17826), (2, vI v17804), (0, .ref r0), (1, .ref r1)] [vL z17863, vL (H17844 r17519 ((0 : Int).toNat)), vI 0, .ref r17519] _ H17844 _
        refine wp_of e69 c69_78 (rw_laddw (pc' := 79) rfl ?_)
        obtain ⟨v17865, e17866⟩ : ∃ x : Int, x = wl_w ((H17844 r17519 ((0 : Int).toNat)) + z17863) := ⟨_, rfl⟩
        rw [← e17866]
        have b17867 : -9223372036854775808 ≤ v17865 ∧ v17865 ≤ 9223372036854775807 := by
          rw [e17866]
          exact wL_w _
        refine wp_of e69 c69_79 (xs_L (pc' := 80) w17846 g17521 (by decide) sh_9 (by decide) (ty_9 _) (by omega) (by omega) ⟨by omega, by omega⟩ (by omega) (by omega) rfl (fun H17868 e17869 w17870 => ?_))
        have f17871 := f17847.put' e17869 g17521 rfl
        have f17872 := f17848.put' e17869 g17521 rfl
        refine wp_of e69 c69_80 (rw_aload_n (pc' := 81) (v := .ref r0) rfl rfl rfl ?_)
        have k17873 : H17868 r0 3 = H17522 r0 3 := ((wq_u_t e17869 g17521 g0 rfl 3).trans ((wq_u_t e17845 g17514 g0 rfl 3).trans ((f17807 r0 3 _ g0 rfl).trans (wq_u_t e17530 g17528 g0 rfl 3))))
        have q17874 : H17868 r0 3 = (r17526 : Int) := k17873.trans q17527
        refine wp_of e69 c69_81 (xg_K (pc' := 84) lf_3_22 w17870 g0 sh_6 (by decide) (by decide) rfl q17874 rfl ?_)
        refine wp_of e69 c69_84 (rw_iconst (pc' := 85) rfl ?_)
        refine wp_of e69 c69_85 (rw_dup2 (pc' := 86) rfl rfl rfl ?_)
        refine wp_of e69 c69_86 (xa_I (so := 0) (pc' := 87) w17870 g17528 sh_10 (by decide) (ty_10 _) (by omega) (by omega) rfl (fun b17875 b17876 => ?_))
        refine wp_of e69 c69_87 (rw_iload_n (pc' := 88) (z := z17826) rfl rfl ?_)
        refine wp_of e69 c69_88 (rw_ior (pc' := 89) rfl ?_)
        obtain ⟨v17877, e17878⟩ : ∃ x : Int, x = wq_or (H17868 r17526 ((0 : Int).toNat)) z17826 := ⟨_, rfl⟩
        rw [← e17878]
        have b17879 : -2147483648 ≤ v17877 ∧ v17877 ≤ 2147483647 := by
          rw [e17878]
          exact wI_or _ _
        refine wp_of e69 c69_89 (xs_I (pc' := 90) w17870 g17528 (by decide) sh_10 (by decide) (ty_10 _) (by omega) (by omega) ⟨by omega, by omega⟩ (by omega) (by omega) rfl (fun H17880 e17881 w17882 => ?_))
        have f17883 := f17871.put' e17881 g17528 rfl
        have f17884 := f17872.put' e17881 g17528 rfl
        refine wp_of e69 c69_90 (rw_iinc (pc' := 93) (z := v17804) (L' := [(2, vI (v17804 + 1)), (3, vI z17826), (0, .ref r0), (1, .ref r1)]) rfl rfl rfl rfl ?_)
        refine wp_of e69 c69_93 (rw_goto (p1 := 31) (by decide) ?_)
        exact wp_lc (ks := [2, 3, 0, 1]) (wl_c rfl (wl_c rfl (wl_c rfl wl_n))) rfl (by decide) (ih17803 _ (by omega) (v17804 + 1) H17880 w17882 f17884 ⟨by omega, by omega⟩ rfl)
  exact wp_lc (ks := [2, 0, 1]) (wl_c rfl (wl_c rfl (wl_c rfl wl_n))) rfl (by decide) (lp17801 _ 0 H17529 w17531 wfr.rf ⟨by omega, by omega⟩ rfl)
/-! StrikeAwake$Walk.quarrelsOf(LStrikeAwake$Parish;I)I -/
theorem e71 : wq_en 71 = some (3, 7, false, some FieldType.int) := rfl
theorem c71_0 : mc_cd 71 0 = some (.aload_n 1, 1) := by decide +kernel
theorem c71_1 : mc_cd 71 1 = some (.getfield 42, 3) := by decide +kernel
theorem c71_4 : mc_cd 71 4 = some (.iload_n 2, 1) := by decide +kernel
theorem c71_5 : mc_cd 71 5 = some (.aaload, 1) := by decide +kernel
theorem c71_6 : mc_cd 71 6 = some (.getfield 82, 3) := by decide +kernel
theorem c71_9 : mc_cd 71 9 = some (.istore_n 3, 1) := by decide +kernel
theorem c71_10 : mc_cd 71 10 = some (.aload_n 1, 1) := by decide +kernel
theorem c71_11 : mc_cd 71 11 = some (.getfield 42, 3) := by decide +kernel
theorem c71_14 : mc_cd 71 14 = some (.iload_n 2, 1) := by decide +kernel
theorem c71_15 : mc_cd 71 15 = some (.aaload, 1) := by decide +kernel
theorem c71_16 : mc_cd 71 16 = some (.getfield 85, 3) := by decide +kernel
theorem c71_19 : mc_cd 71 19 = some (.aload_n 0, 1) := by decide +kernel
theorem c71_20 : mc_cd 71 20 = some (.getfield 9, 3) := by decide +kernel
theorem c71_23 : mc_cd 71 23 = some (.iload_n 2, 1) := by decide +kernel
theorem c71_24 : mc_cd 71 24 = some (.iaload, 1) := by decide +kernel
theorem c71_25 : mc_cd 71 25 = some (.iaload, 1) := by decide +kernel
theorem c71_26 : mc_cd 71 26 = some (.istore 4, 2) := by decide +kernel
theorem c71_28 : mc_cd 71 28 = some (.iconst 0, 1) := by decide +kernel
theorem c71_29 : mc_cd 71 29 = some (.istore 5, 2) := by decide +kernel
theorem c71_31 : mc_cd 71 31 = some (.iconst 0, 1) := by decide +kernel
theorem c71_32 : mc_cd 71 32 = some (.istore 6, 2) := by decide +kernel
theorem c71_34 : mc_cd 71 34 = some (.iload 6, 2) := by decide +kernel
theorem c71_36 : mc_cd 71 36 = some (.iload_n 2, 1) := by decide +kernel
theorem c71_37 : mc_cd 71 37 = some (.if_icmp .ge 48, 3) := by decide +kernel
theorem c71_40 : mc_cd 71 40 = some (.iload_n 3, 1) := by decide +kernel
theorem c71_41 : mc_cd 71 41 = some (.ifCond .eq 44, 3) := by decide +kernel
theorem c71_44 : mc_cd 71 44 = some (.iload_n 3, 1) := by decide +kernel
theorem c71_45 : mc_cd 71 45 = some (.iload 6, 2) := by decide +kernel
theorem c71_47 : mc_cd 71 47 = some (.ishr, 1) := by decide +kernel
theorem c71_48 : mc_cd 71 48 = some (.iconst 1, 1) := by decide +kernel
theorem c71_49 : mc_cd 71 49 = some (.iand, 1) := by decide +kernel
theorem c71_50 : mc_cd 71 50 = some (.ifCond .eq 29, 3) := by decide +kernel
theorem c71_53 : mc_cd 71 53 = some (.iload 5, 2) := by decide +kernel
theorem c71_55 : mc_cd 71 55 = some (.iload 4, 2) := by decide +kernel
theorem c71_57 : mc_cd 71 57 = some (.aload_n 1, 1) := by decide +kernel
theorem c71_58 : mc_cd 71 58 = some (.getfield 42, 3) := by decide +kernel
theorem c71_61 : mc_cd 71 61 = some (.iload 6, 2) := by decide +kernel
theorem c71_63 : mc_cd 71 63 = some (.aaload, 1) := by decide +kernel
theorem c71_64 : mc_cd 71 64 = some (.getfield 85, 3) := by decide +kernel
theorem c71_67 : mc_cd 71 67 = some (.aload_n 0, 1) := by decide +kernel
theorem c71_68 : mc_cd 71 68 = some (.getfield 9, 3) := by decide +kernel
theorem c71_71 : mc_cd 71 71 = some (.iload 6, 2) := by decide +kernel
theorem c71_73 : mc_cd 71 73 = some (.iaload, 1) := by decide +kernel
theorem c71_74 : mc_cd 71 74 = some (.iaload, 1) := by decide +kernel
theorem c71_75 : mc_cd 71 75 = some (.iand, 1) := by decide +kernel
theorem c71_76 : mc_cd 71 76 = some (.ior, 1) := by decide +kernel
theorem c71_77 : mc_cd 71 77 = some (.istore 5, 2) := by decide +kernel
theorem c71_79 : mc_cd 71 79 = some (.iinc 6 1, 3) := by decide +kernel
theorem c71_82 : mc_cd 71 82 = some (.goto (-48), 3) := by decide +kernel
theorem c71_85 : mc_cd 71 85 = some (.iload 5, 2) := by decide +kernel
theorem c71_87 : mc_cd 71 87 = some (.ireturn, 1) := by decide +kernel
abbrev q_71 (r0 : Nat) (r1 : Nat) (a2 : Int) (T : wq_T) (H : wq_H) : Option Value → wq_T → wq_H → Prop := fun r T' H' => T = T' ∧ H = H' ∧ ∃ z : Int, some (vI z) = r ∧ ((-2147483648) ≤ z ∧ z ≤ 2147483647)
set_option maxHeartbeats 4000000 in
theorem s_71 {kt : Nat → Option mc_E} {T : wq_T} {H : wq_H} {r0 : Nat} {r1 : Nat} {a2 : Int} (hW : WT T H) (g0 : T.2.2.2 r0 = some 6) (g1 : T.2.2.2 r1 = some 27) (i2 : 0 ≤ a2 ∧ a2 ≤ 5) : wpc kt 1 71 [.ref r0, .ref r1, vI a2] T H (q_71 r0 r1 a2 T H) := by
  refine wp_enter e71 (Nat.le_of_ble_eq_true rfl) rfl ?_
  show wp _ _ 71 0 [(0, .ref r0), (1, .ref r1), (2, vI a2)] [] _ H _
  refine wp_of e71 c71_0 (rw_aload_n (pc' := 1) (v := .ref r1) rfl rfl rfl ?_)
  refine wp_of e71 c71_1 (xg_R (pc' := 4) lf_3_42 hW g1 sh_27 (by decide) (by decide) ty_27_0 rfl rfl (fun r18075 q18076 g18077 => ?_))
  refine wp_of e71 c71_4 (rw_iload_n (pc' := 5) (z := a2) rfl rfl ?_)
  refine wp_of e71 c71_5 (xa_R (pc' := 6) (by decide) hW g18077 sh_28 (by decide) (ty_28 _) (by omega) (by omega) rfl (fun r18078 q18079 g18080 => ?_))
  refine wp_of e71 c71_6 (xg_I (pc' := 9) lf_3_82 hW g18080 sh_35 (by decide) (by decide) ty_35_14 rfl rfl (fun b18081 b18082 => ?_))
  refine wp_of e71 c71_9 (rw_istore_n (pc' := 10) (z := H r18078 14) (L' := [(3, vI (H r18078 14)), (0, .ref r0), (1, .ref r1), (2, vI a2)]) rfl rfl rfl ?_)
  refine wp_of e71 c71_10 (rw_aload_n (pc' := 11) (v := .ref r1) rfl rfl rfl ?_)
  refine wp_of e71 c71_11 (xg_K (pc' := 14) lf_3_42 hW g1 sh_27 (by decide) (by decide) rfl q18076 rfl ?_)
  refine wp_of e71 c71_14 (rw_iload_n (pc' := 15) (z := a2) rfl rfl ?_)
  refine wp_of e71 c71_15 (xa_K (pc' := 16) (by decide) hW g18077 sh_28 (by decide) (by omega) (by omega) q18079 rfl ?_)
  refine wp_of e71 c71_16 (xg_R (pc' := 19) lf_3_85 hW g18080 sh_35 (by decide) (by decide) ty_35_2 rfl rfl (fun r18083 q18084 g18085 => ?_))
  refine wp_of e71 c71_19 (rw_aload_n (pc' := 20) (v := .ref r0) rfl rfl rfl ?_)
  refine wp_of e71 c71_20 (xg_R (pc' := 23) lf_3_9 hW g0 sh_6 (by decide) (by decide) ty_6_0 rfl rfl (fun r18086 q18087 g18088 => ?_))
  refine wp_of e71 c71_23 (rw_iload_n (pc' := 24) (z := a2) rfl rfl ?_)
  refine wp_of e71 c71_24 (xa_I (so := 0) (pc' := 25) hW g18088 sh_7 (by decide) (ty_7 _) (by omega) (by omega) rfl (fun b18089 b18090 => ?_))
  refine wp_of e71 c71_25 (xa_I (so := 0) (pc' := 26) hW g18085 sh_38 (by decide) (ty_38 _) (by omega) (by omega) rfl (fun b18091 b18092 => ?_))
  refine wp_of e71 c71_26 (rw_istore (pc' := 28) (z := H r18083 ((H r18086 (a2.toNat)).toNat)) (L' := [(4, vI (H r18083 ((H r18086 (a2.toNat)).toNat))), (3, vI (H r18078 14)), (0, .ref r0), (1, .ref r1), (2, vI a2)]) rfl rfl rfl ?_)
  refine wp_of e71 c71_28 (rw_iconst (pc' := 29) rfl ?_)
  refine wp_of e71 c71_29 (rw_istore (pc' := 31) (z := 0) (L' := [(5, vI 0), (4, vI (H r18083 ((H r18086 (a2.toNat)).toNat))), (3, vI (H r18078 14)), (0, .ref r0), (1, .ref r1), (2, vI a2)]) rfl rfl rfl ?_)
  refine wp_of e71 c71_31 (rw_iconst (pc' := 32) rfl ?_)
  refine wp_of e71 c71_32 (rw_istore (pc' := 34) (z := 0) (L' := [(6, vI 0), (5, vI 0), (4, vI (H r18083 ((H r18086 (a2.toNat)).toNat))), (3, vI (H r18078 14)), (0, .ref r0), (1, .ref r1), (2, vI a2)]) rfl rfl rfl ?_)
  have lp18243 : ∀ (n18244 : Nat) (v18246 : Int) (v18247 : Int), (0 ≤ v18246 ∧ v18246 ≤ 5) → ((-2147483648) ≤ v18247 ∧ v18247 ≤ 2147483647) → (5 - v18246).toNat = n18244 → wp kt 0 71 34 [(6, vI v18246), (5, vI v18247), (4, vI (H r18083 ((H r18086 (a2.toNat)).toNat))), (3, vI (H r18078 14)), (0, .ref r0), (1, .ref r1), (2, vI a2)] [] T H (q_71 r0 r1 a2 T H) := by
    intro n18244
    induction n18244 using Nat.strongRecOn with
    | _ n18244 ih18245 =>
      intro v18246 v18247 b18250 b18251 m18252
      refine wp_of e71 c71_34 (rw_iload (pc' := 36) (z := v18246) rfl rfl ?_)
      refine wp_of e71 c71_36 (rw_iload_n (pc' := 37) (z := a2) rfl rfl ?_)
      refine wp_of e71 c71_37 (rw_icmp_ge (p1 := 85) (p2 := 40) (by decide) rfl ⟨by omega, by omega⟩ ⟨by omega, by omega⟩ (fun c18253 => ?_) (fun c18253 => ?_))
      · refine wp_of e71 c71_85 (rw_iload (pc' := 87) (z := v18247) rfl rfl ?_)
        exact wp_ireturn e71 c71_87 rfl ⟨rfl, rfl, v18247, rfl, ⟨by omega, by omega⟩⟩
      · refine wp_of e71 c71_40 (rw_iload_n (pc' := 41) (z := H r18078 14) rfl rfl ?_)
        refine wp_of e71 c71_41 (rw_if_eq (p1 := 85) (p2 := 44) (by decide) rfl ⟨by omega, by omega⟩ (fun c18254 => ?_) (fun c18254 => ?_))
        · refine wp_of e71 c71_85 (rw_iload (pc' := 87) (z := v18247) rfl rfl ?_)
          exact wp_ireturn e71 c71_87 rfl ⟨rfl, rfl, v18247, rfl, ⟨by omega, by omega⟩⟩
        · refine wp_of e71 c71_44 (rw_iload_n (pc' := 45) (z := H r18078 14) rfl rfl ?_)
          refine wp_of e71 c71_45 (rw_iload (pc' := 47) (z := v18246) rfl rfl ?_)
          refine wp_of e71 c71_47 (rw_ishr (pc' := 48) rfl ?_)
          obtain ⟨v18255, e18256⟩ : ∃ x : Int, x = wq_shr (H r18078 14) v18246 := ⟨_, rfl⟩
          rw [← e18256]
          have b18257 : -2147483648 ≤ v18255 ∧ v18255 ≤ 2147483647 := by
            rw [e18256]
            exact wI_shr _ _
          refine wp_of e71 c71_48 (rw_iconst (pc' := 49) rfl ?_)
          refine wp_of e71 c71_49 (rw_iand (pc' := 50) rfl ?_)
          obtain ⟨v18258, e18259⟩ : ∃ x : Int, x = wq_and v18255 1 := ⟨_, rfl⟩
          rw [← e18259]
          have b18260 : 0 ≤ v18258 ∧ v18258 ≤ 1 := by
            rw [e18259]
            exact wq_and_b _ (by omega) (by omega)
          refine wp_of e71 c71_50 (rw_if_eq (p1 := 79) (p2 := 53) (by decide) rfl ⟨by omega, by omega⟩ (fun c18261 => ?_) (fun c18261 => ?_))
          · refine wp_of e71 c71_79 (rw_iinc (pc' := 82) (z := v18246) (L' := [(6, vI (v18246 + 1)), (5, vI v18247), (4, vI (H r18083 ((H r18086 (a2.toNat)).toNat))), (3, vI (H r18078 14)), (0, .ref r0), (1, .ref r1), (2, vI a2)]) rfl rfl rfl rfl ?_)
            refine wp_of e71 c71_82 (rw_goto (p1 := 34) (by decide) ?_)
            exact wp_lc (ks := [6, 5, 4, 3, 0, 1, 2]) (wl_c rfl (wl_c rfl (wl_c rfl (wl_c rfl (wl_c rfl (wl_c rfl (wl_c rfl wl_n))))))) rfl (by decide) (ih18245 _ (by omega) (v18246 + 1) v18247 ⟨by omega, by omega⟩ ⟨by omega, by omega⟩ rfl)
          · refine wp_of e71 c71_53 (rw_iload (pc' := 55) (z := v18247) rfl rfl ?_)
            refine wp_of e71 c71_55 (rw_iload (pc' := 57) (z := H r18083 ((H r18086 (a2.toNat)).toNat)) rfl rfl ?_)
            refine wp_of e71 c71_57 (rw_aload_n (pc' := 58) (v := .ref r1) rfl rfl rfl ?_)
            refine wp_of e71 c71_58 (xg_K (pc' := 61) lf_3_42 hW g1 sh_27 (by decide) (by decide) rfl q18076 rfl ?_)
            refine wp_of e71 c71_61 (rw_iload (pc' := 63) (z := v18246) rfl rfl ?_)
            refine wp_of e71 c71_63 (xa_R (pc' := 64) (by decide) hW g18077 sh_28 (by decide) (ty_28 _) (by omega) (by omega) rfl (fun r18262 q18263 g18264 => ?_))
            refine wp_of e71 c71_64 (xg_R (pc' := 67) lf_3_85 hW g18264 sh_35 (by decide) (by decide) ty_35_2 rfl rfl (fun r18265 q18266 g18267 => ?_))
            refine wp_of e71 c71_67 (rw_aload_n (pc' := 68) (v := .ref r0) rfl rfl rfl ?_)
            refine wp_of e71 c71_68 (xg_K (pc' := 71) lf_3_9 hW g0 sh_6 (by decide) (by decide) rfl q18087 rfl ?_)
            refine wp_of e71 c71_71 (rw_iload (pc' := 73) (z := v18246) rfl rfl ?_)
            refine wp_of e71 c71_73 (xa_I (so := 0) (pc' := 74) hW g18088 sh_7 (by decide) (ty_7 _) (by omega) (by omega) rfl (fun b18268 b18269 => ?_))
            refine wp_of e71 c71_74 (xa_I (so := 0) (pc' := 75) hW g18267 sh_38 (by decide) (ty_38 _) (by omega) (by omega) rfl (fun b18270 b18271 => ?_))
            refine wp_of e71 c71_75 (rw_iand (pc' := 76) rfl ?_)
            obtain ⟨v18272, e18273⟩ : ∃ x : Int, x = wq_and (H r18083 ((H r18086 (a2.toNat)).toNat)) (H r18265 ((H r18086 (v18246.toNat)).toNat)) := ⟨_, rfl⟩
            rw [← e18273]
            have b18274 : -2147483648 ≤ v18272 ∧ v18272 ≤ 2147483647 := by
              rw [e18273]
              exact wI_and _ _
            refine wp_of e71 c71_76 (rw_ior (pc' := 77) rfl ?_)
            obtain ⟨v18275, e18276⟩ : ∃ x : Int, x = wq_or v18247 v18272 := ⟨_, rfl⟩
            rw [← e18276]
            have b18277 : -2147483648 ≤ v18275 ∧ v18275 ≤ 2147483647 := by
              rw [e18276]
              exact wI_or _ _
            refine wp_of e71 c71_77 (rw_istore (pc' := 79) (z := v18275) (L' := [(5, vI v18275), (6, vI v18246), (4, vI (H r18083 ((H r18086 (a2.toNat)).toNat))), (3, vI (H r18078 14)), (0, .ref r0), (1, .ref r1), (2, vI a2)]) rfl rfl rfl ?_)
            refine wp_of e71 c71_79 (rw_iinc (pc' := 82) (z := v18246) (L' := [(6, vI (v18246 + 1)), (5, vI v18275), (4, vI (H r18083 ((H r18086 (a2.toNat)).toNat))), (3, vI (H r18078 14)), (0, .ref r0), (1, .ref r1), (2, vI a2)]) rfl rfl rfl rfl ?_)
            refine wp_of e71 c71_82 (rw_goto (p1 := 34) (by decide) ?_)
            exact wp_lc (ks := [6, 5, 4, 3, 0, 1, 2]) (wl_c rfl (wl_c rfl (wl_c rfl (wl_c rfl (wl_c rfl (wl_c rfl (wl_c rfl wl_n))))))) rfl (by decide) (ih18245 _ (by omega) (v18246 + 1) v18275 ⟨by omega, by omega⟩ ⟨by omega, by omega⟩ rfl)
  exact wp_lc (ks := [6, 5, 4, 3, 0, 1, 2]) (wl_c rfl (wl_c rfl (wl_c rfl (wl_c rfl (wl_c rfl (wl_c rfl (wl_c rfl wl_n))))))) rfl (by decide) (lp18243 _ 0 0 ⟨by omega, by omega⟩ ⟨by omega, by omega⟩ rfl)
/-! StrikeAwake$Walk.countFrom(LStrikeAwake$Parish;I)V -/
theorem e70 : wq_en 70 = some (3, 6, false, none) := rfl
theorem c70_0 : mc_cd 70 0 = some (.iload_n 2, 1) := by decide +kernel
theorem c70_1 : mc_cd 70 1 = some (.istore_n 3, 1) := by decide +kernel
theorem c70_2 : mc_cd 70 2 = some (.iload_n 3, 1) := by decide +kernel
theorem c70_3 : mc_cd 70 3 = some (.aload_n 0, 1) := by decide +kernel
theorem c70_4 : mc_cd 70 4 = some (.getfield 51, 3) := by decide +kernel
theorem c70_7 : mc_cd 70 7 = some (.if_icmp .ge 115, 3) := by decide +kernel
theorem c70_10 : mc_cd 70 10 = some (.aload_n 1, 1) := by decide +kernel
theorem c70_11 : mc_cd 70 11 = some (.getfield 42, 3) := by decide +kernel
theorem c70_14 : mc_cd 70 14 = some (.iload_n 3, 1) := by decide +kernel
theorem c70_15 : mc_cd 70 15 = some (.aaload, 1) := by decide +kernel
theorem c70_16 : mc_cd 70 16 = some (.astore 4, 2) := by decide +kernel
theorem c70_18 : mc_cd 70 18 = some (.aload_n 0, 1) := by decide +kernel
theorem c70_19 : mc_cd 70 19 = some (.getfield 9, 3) := by decide +kernel
theorem c70_22 : mc_cd 70 22 = some (.iload_n 3, 1) := by decide +kernel
theorem c70_23 : mc_cd 70 23 = some (.iaload, 1) := by decide +kernel
theorem c70_24 : mc_cd 70 24 = some (.istore 5, 2) := by decide +kernel
theorem c70_26 : mc_cd 70 26 = some (.aload_n 0, 1) := by decide +kernel
theorem c70_27 : mc_cd 70 27 = some (.getfield 15, 3) := by decide +kernel
theorem c70_30 : mc_cd 70 30 = some (.iload_n 3, 1) := by decide +kernel
theorem c70_31 : mc_cd 70 31 = some (.iconst 1, 1) := by decide +kernel
theorem c70_32 : mc_cd 70 32 = some (.iadd, 1) := by decide +kernel
theorem c70_33 : mc_cd 70 33 = some (.aload_n 0, 1) := by decide +kernel
theorem c70_34 : mc_cd 70 34 = some (.getfield 15, 3) := by decide +kernel
theorem c70_37 : mc_cd 70 37 = some (.iload_n 3, 1) := by decide +kernel
theorem c70_38 : mc_cd 70 38 = some (.laload, 1) := by decide +kernel
theorem c70_39 : mc_cd 70 39 = some (.aload 4, 2) := by decide +kernel
theorem c70_41 : mc_cd 70 41 = some (.getfield 69, 3) := by decide +kernel
theorem c70_44 : mc_cd 70 44 = some (.iload 5, 2) := by decide +kernel
theorem c70_46 : mc_cd 70 46 = some (.laload, 1) := by decide +kernel
theorem c70_47 : mc_cd 70 47 = some (.ladd, 1) := by decide +kernel
theorem c70_48 : mc_cd 70 48 = some (.lastore, 1) := by decide +kernel
theorem c70_49 : mc_cd 70 49 = some (.aload_n 0, 1) := by decide +kernel
theorem c70_50 : mc_cd 70 50 = some (.getfield 19, 3) := by decide +kernel
theorem c70_53 : mc_cd 70 53 = some (.iload_n 3, 1) := by decide +kernel
theorem c70_54 : mc_cd 70 54 = some (.iconst 1, 1) := by decide +kernel
theorem c70_55 : mc_cd 70 55 = some (.iadd, 1) := by decide +kernel
theorem c70_56 : mc_cd 70 56 = some (.aload_n 0, 1) := by decide +kernel
theorem c70_57 : mc_cd 70 57 = some (.getfield 19, 3) := by decide +kernel
theorem c70_60 : mc_cd 70 60 = some (.iload_n 3, 1) := by decide +kernel
theorem c70_61 : mc_cd 70 61 = some (.laload, 1) := by decide +kernel
theorem c70_62 : mc_cd 70 62 = some (.aload 4, 2) := by decide +kernel
theorem c70_64 : mc_cd 70 64 = some (.getfield 72, 3) := by decide +kernel
theorem c70_67 : mc_cd 70 67 = some (.iload 5, 2) := by decide +kernel
theorem c70_69 : mc_cd 70 69 = some (.laload, 1) := by decide +kernel
theorem c70_70 : mc_cd 70 70 = some (.ladd, 1) := by decide +kernel
theorem c70_71 : mc_cd 70 71 = some (.lastore, 1) := by decide +kernel
theorem c70_72 : mc_cd 70 72 = some (.aload_n 0, 1) := by decide +kernel
theorem c70_73 : mc_cd 70 73 = some (.getfield 22, 3) := by decide +kernel
theorem c70_76 : mc_cd 70 76 = some (.iload_n 3, 1) := by decide +kernel
theorem c70_77 : mc_cd 70 77 = some (.iconst 1, 1) := by decide +kernel
theorem c70_78 : mc_cd 70 78 = some (.iadd, 1) := by decide +kernel
theorem c70_79 : mc_cd 70 79 = some (.aload_n 0, 1) := by decide +kernel
theorem c70_80 : mc_cd 70 80 = some (.getfield 22, 3) := by decide +kernel
theorem c70_83 : mc_cd 70 83 = some (.iload_n 3, 1) := by decide +kernel
theorem c70_84 : mc_cd 70 84 = some (.iaload, 1) := by decide +kernel
theorem c70_85 : mc_cd 70 85 = some (.aload 4, 2) := by decide +kernel
theorem c70_87 : mc_cd 70 87 = some (.getfield 75, 3) := by decide +kernel
theorem c70_90 : mc_cd 70 90 = some (.iload 5, 2) := by decide +kernel
theorem c70_92 : mc_cd 70 92 = some (.iaload, 1) := by decide +kernel
theorem c70_93 : mc_cd 70 93 = some (.ior, 1) := by decide +kernel
theorem c70_94 : mc_cd 70 94 = some (.iastore, 1) := by decide +kernel
theorem c70_95 : mc_cd 70 95 = some (.aload_n 0, 1) := by decide +kernel
theorem c70_96 : mc_cd 70 96 = some (.getfield 25, 3) := by decide +kernel
theorem c70_99 : mc_cd 70 99 = some (.iload_n 3, 1) := by decide +kernel
theorem c70_100 : mc_cd 70 100 = some (.iconst 1, 1) := by decide +kernel
theorem c70_101 : mc_cd 70 101 = some (.iadd, 1) := by decide +kernel
theorem c70_102 : mc_cd 70 102 = some (.aload_n 0, 1) := by decide +kernel
theorem c70_103 : mc_cd 70 103 = some (.getfield 25, 3) := by decide +kernel
theorem c70_106 : mc_cd 70 106 = some (.iload_n 3, 1) := by decide +kernel
theorem c70_107 : mc_cd 70 107 = some (.iaload, 1) := by decide +kernel
theorem c70_108 : mc_cd 70 108 = some (.aload_n 0, 1) := by decide +kernel
theorem c70_109 : mc_cd 70 109 = some (.aload_n 1, 1) := by decide +kernel
theorem c70_110 : mc_cd 70 110 = some (.iload_n 3, 1) := by decide +kernel
theorem c70_111 : mc_cd 70 111 = some (.invokevirtual 78, 3) := by decide +kernel
theorem c70_114 : mc_cd 70 114 = some (.ior, 1) := by decide +kernel
theorem c70_115 : mc_cd 70 115 = some (.iastore, 1) := by decide +kernel
theorem c70_116 : mc_cd 70 116 = some (.iinc 3 1, 3) := by decide +kernel
theorem c70_119 : mc_cd 70 119 = some (.goto (-117), 3) := by decide +kernel
theorem c70_122 : mc_cd 70 122 = some (.return_, 1) := by decide +kernel
abbrev q_70 (r0 : Nat) (r1 : Nat) (a2 : Int) (T : wq_T) (H : wq_H) : Option Value → wq_T → wq_H → Prop := fun r T' H' => T = T' ∧ WT T H' ∧ wfr [(8, 999), (10, 999), (9, 999), (11, 999)] T H H' ∧ none = r
set_option maxHeartbeats 4000000 in
theorem s_70 {kt : Nat → Option mc_E} {T : wq_T} {H : wq_H} {r0 : Nat} {r1 : Nat} {a2 : Int} (hW : WT T H) (g0 : T.2.2.2 r0 = some 6) (g1 : T.2.2.2 r1 = some 27) (i2 : 0 ≤ a2 ∧ a2 ≤ 6) : wpc kt 2 70 [.ref r0, .ref r1, vI a2] T H (q_70 r0 r1 a2 T H) := by
  refine wp_enter e70 (Nat.le_of_ble_eq_true rfl) rfl ?_
  have f0 : wfr [(8, 999), (10, 999), (9, 999), (11, 999)] T H H := wfr.rf
  show wp _ _ 70 0 [(0, .ref r0), (1, .ref r1), (2, vI a2)] [] _ H _
  refine wp_of e70 c70_0 (rw_iload_n (pc' := 1) (z := a2) rfl rfl ?_)
  refine wp_of e70 c70_1 (rw_istore_n (pc' := 2) (z := a2) (L' := [(3, vI a2), (0, .ref r0), (1, .ref r1), (2, vI a2)]) rfl rfl rfl ?_)
  have lp18689 : ∀ (n18690 : Nat) (v18692 : Int) (H18693 : wq_H), WT T H18693 → wfr [(8, 999), (10, 999), (9, 999), (11, 999)] T H H18693 → (0 ≤ v18692 ∧ v18692 ≤ 6) → (6 - v18692).toNat = n18690 → wp kt 1 70 2 [(3, vI v18692), (0, .ref r0), (1, .ref r1)] [] T H18693 (q_70 r0 r1 a2 T H) := by
    intro n18690
    induction n18690 using Nat.strongRecOn with
    | _ n18690 ih18691 =>
      intro v18692 H18693 w18694 f18695 b18696 m18697
      have f18698 := f0.tr f18695 rfl
      refine wp_of e70 c70_2 (rw_iload_n (pc' := 3) (z := v18692) rfl rfl ?_)
      refine wp_of e70 c70_3 (rw_aload_n (pc' := 4) (v := .ref r0) rfl rfl rfl ?_)
      refine wp_of e70 c70_4 (xg_I (pc' := 7) lf_3_51 w18694 g0 sh_6 (by decide) (by decide) ty_6_5 rfl rfl (fun b18699 b18700 => ?_))
      refine wp_of e70 c70_7 (rw_icmp_ge (p1 := 122) (p2 := 10) (by decide) rfl ⟨by omega, by omega⟩ ⟨by omega, by omega⟩ (fun c18701 => ?_) (fun c18701 => ?_))
      · exact wp_return e70 c70_122 rfl ⟨rfl, w18694, f18698, rfl⟩
      · refine wp_of e70 c70_10 (rw_aload_n (pc' := 11) (v := .ref r1) rfl rfl rfl ?_)
        refine wp_of e70 c70_11 (xg_R (pc' := 14) lf_3_42 w18694 g1 sh_27 (by decide) (by decide) ty_27_0 rfl rfl (fun r18702 q18703 g18704 => ?_))
        refine wp_of e70 c70_14 (rw_iload_n (pc' := 15) (z := v18692) rfl rfl ?_)
        refine wp_of e70 c70_15 (xa_R (pc' := 16) (by decide) w18694 g18704 sh_28 (by decide) (ty_28 _) (by omega) (by omega) rfl (fun r18705 q18706 g18707 => ?_))
        refine wp_of e70 c70_16 (rw_astore (pc' := 18) (v := .ref r18705) (L' := [(4, .ref r18705), (3, vI v18692), (0, .ref r0), (1, .ref r1)]) rfl rfl rfl rfl ?_)
        refine wp_of e70 c70_18 (rw_aload_n (pc' := 19) (v := .ref r0) rfl rfl rfl ?_)
        refine wp_of e70 c70_19 (xg_R (pc' := 22) lf_3_9 w18694 g0 sh_6 (by decide) (by decide) ty_6_0 rfl rfl (fun r18708 q18709 g18710 => ?_))
        refine wp_of e70 c70_22 (rw_iload_n (pc' := 23) (z := v18692) rfl rfl ?_)
        refine wp_of e70 c70_23 (xa_I (so := 0) (pc' := 24) w18694 g18710 sh_7 (by decide) (ty_7 _) (by omega) (by omega) rfl (fun b18711 b18712 => ?_))
        refine wp_of e70 c70_24 (rw_istore (pc' := 26) (z := H18693 r18708 (v18692.toNat)) (L' := [(5, vI (H18693 r18708 (v18692.toNat))), (4, .ref r18705), (3, vI v18692), (0, .ref r0), (1, .ref r1)]) rfl rfl rfl ?_)
        refine wp_of e70 c70_26 (rw_aload_n (pc' := 27) (v := .ref r0) rfl rfl rfl ?_)
        refine wp_of e70 c70_27 (xg_R (pc' := 30) lf_3_15 w18694 g0 sh_6 (by decide) (by decide) ty_6_1 rfl rfl (fun r18713 q18714 g18715 => ?_))
        refine wp_of e70 c70_30 (rw_iload_n (pc' := 31) (z := v18692) rfl rfl ?_)
        refine wp_of e70 c70_31 (rw_iconst (pc' := 32) rfl ?_)
        refine wp_of e70 c70_32 (rw_iadd (pc' := 33) rfl ?_)
        refine wp_of e70 c70_33 (rw_aload_n (pc' := 34) (v := .ref r0) rfl rfl rfl ?_)
        refine wp_of e70 c70_34 (xg_K (pc' := 37) lf_3_15 w18694 g0 sh_6 (by decide) (by decide) rfl q18714 rfl ?_)
        refine wp_of e70 c70_37 (rw_iload_n (pc' := 38) (z := v18692) rfl rfl ?_)
        refine wp_of e70 c70_38 (xa_L (pc' := 39) w18694 g18715 sh_8 (by decide) (ty_8 _) (by omega) (by omega) rfl (fun b18716 b18717 => ?_))
        refine wp_of e70 c70_39 (rw_aload (pc' := 41) (v := .ref r18705) rfl rfl rfl ?_)
        refine wp_of e70 c70_41 (xg_R (pc' := 44) lf_3_69 w18694 g18707 sh_35 (by decide) (by decide) ty_35_4 rfl rfl (fun r18718 q18719 g18720 => ?_))
        refine wp_of e70 c70_44 (rw_iload (pc' := 46) (z := H18693 r18708 (v18692.toNat)) rfl rfl ?_)
        refine wp_of e70 c70_46 (xa_L (pc' := 47) w18694 g18720 sh_40 (by decide) (ty_40 _) (by omega) (by omega) rfl (fun b18721 b18722 => ?_))
        refine wp_of e70 c70_47 (rw_laddw (pc' := 48) rfl ?_)
        obtain ⟨v18723, e18724⟩ : ∃ x : Int, x = wl_w ((H18693 r18713 (v18692.toNat)) + (H18693 r18718 ((H18693 r18708 (v18692.toNat)).toNat))) := ⟨_, rfl⟩
        rw [← e18724]
        have b18725 : -9223372036854775808 ≤ v18723 ∧ v18723 ≤ 9223372036854775807 := by
          rw [e18724]
          exact wL_w _
        refine wp_of e70 c70_48 (xs_L (pc' := 49) w18694 g18715 (by decide) sh_8 (by decide) (ty_8 _) (by omega) (by omega) ⟨by omega, by omega⟩ (by omega) (by omega) rfl (fun H18726 e18727 w18728 => ?_))
        have f18729 := f18698.put' e18727 g18715 rfl
        have f18730 := f18695.put' e18727 g18715 rfl
        refine wp_of e70 c70_49 (rw_aload_n (pc' := 50) (v := .ref r0) rfl rfl rfl ?_)
        refine wp_of e70 c70_50 (xg_R (pc' := 53) lf_3_19 w18728 g0 sh_6 (by decide) (by decide) ty_6_2 rfl rfl (fun r18731 q18732 g18733 => ?_))
        refine wp_of e70 c70_53 (rw_iload_n (pc' := 54) (z := v18692) rfl rfl ?_)
        refine wp_of e70 c70_54 (rw_iconst (pc' := 55) rfl ?_)
        refine wp_of e70 c70_55 (rw_iadd (pc' := 56) rfl ?_)
        refine wp_of e70 c70_56 (rw_aload_n (pc' := 57) (v := .ref r0) rfl rfl rfl ?_)
        refine wp_of e70 c70_57 (xg_K (pc' := 60) lf_3_19 w18728 g0 sh_6 (by decide) (by decide) rfl q18732 rfl ?_)
        refine wp_of e70 c70_60 (rw_iload_n (pc' := 61) (z := v18692) rfl rfl ?_)
        refine wp_of e70 c70_61 (xa_L (pc' := 62) w18728 g18733 sh_9 (by decide) (ty_9 _) (by omega) (by omega) rfl (fun b18734 b18735 => ?_))
        refine wp_of e70 c70_62 (rw_aload (pc' := 64) (v := .ref r18705) rfl rfl rfl ?_)
        refine wp_of e70 c70_64 (xg_R (pc' := 67) lf_3_72 w18728 g18707 sh_35 (by decide) (by decide) ty_35_5 rfl rfl (fun r18736 q18737 g18738 => ?_))
        refine wp_of e70 c70_67 (rw_iload (pc' := 69) (z := H18693 r18708 (v18692.toNat)) rfl rfl ?_)
        refine wp_of e70 c70_69 (xa_L (pc' := 70) w18728 g18738 sh_41 (by decide) (ty_41 _) (by omega) (by omega) rfl (fun b18739 b18740 => ?_))
        refine wp_of e70 c70_70 (rw_laddw (pc' := 71) rfl ?_)
        obtain ⟨v18741, e18742⟩ : ∃ x : Int, x = wl_w ((H18726 r18731 (v18692.toNat)) + (H18726 r18736 ((H18693 r18708 (v18692.toNat)).toNat))) := ⟨_, rfl⟩
        rw [← e18742]
        have b18743 : -9223372036854775808 ≤ v18741 ∧ v18741 ≤ 9223372036854775807 := by
          rw [e18742]
          exact wL_w _
        refine wp_of e70 c70_71 (xs_L (pc' := 72) w18728 g18733 (by decide) sh_9 (by decide) (ty_9 _) (by omega) (by omega) ⟨by omega, by omega⟩ (by omega) (by omega) rfl (fun H18744 e18745 w18746 => ?_))
        have f18747 := f18729.put' e18745 g18733 rfl
        have f18748 := f18730.put' e18745 g18733 rfl
        refine wp_of e70 c70_72 (rw_aload_n (pc' := 73) (v := .ref r0) rfl rfl rfl ?_)
        refine wp_of e70 c70_73 (xg_R (pc' := 76) lf_3_22 w18746 g0 sh_6 (by decide) (by decide) ty_6_3 rfl rfl (fun r18749 q18750 g18751 => ?_))
        refine wp_of e70 c70_76 (rw_iload_n (pc' := 77) (z := v18692) rfl rfl ?_)
        refine wp_of e70 c70_77 (rw_iconst (pc' := 78) rfl ?_)
        refine wp_of e70 c70_78 (rw_iadd (pc' := 79) rfl ?_)
        refine wp_of e70 c70_79 (rw_aload_n (pc' := 80) (v := .ref r0) rfl rfl rfl ?_)
        refine wp_of e70 c70_80 (xg_K (pc' := 83) lf_3_22 w18746 g0 sh_6 (by decide) (by decide) rfl q18750 rfl ?_)
        refine wp_of e70 c70_83 (rw_iload_n (pc' := 84) (z := v18692) rfl rfl ?_)
        refine wp_of e70 c70_84 (xa_I (so := 0) (pc' := 85) w18746 g18751 sh_10 (by decide) (ty_10 _) (by omega) (by omega) rfl (fun b18752 b18753 => ?_))
        refine wp_of e70 c70_85 (rw_aload (pc' := 87) (v := .ref r18705) rfl rfl rfl ?_)
        refine wp_of e70 c70_87 (xg_R (pc' := 90) lf_3_75 w18746 g18707 sh_35 (by decide) (by decide) ty_35_3 rfl rfl (fun r18754 q18755 g18756 => ?_))
        refine wp_of e70 c70_90 (rw_iload (pc' := 92) (z := H18693 r18708 (v18692.toNat)) rfl rfl ?_)
        refine wp_of e70 c70_92 (xa_I (so := 0) (pc' := 93) w18746 g18756 sh_39 (by decide) (ty_39 _) (by omega) (by omega) rfl (fun b18757 b18758 => ?_))
        refine wp_of e70 c70_93 (rw_ior (pc' := 94) rfl ?_)
        obtain ⟨v18759, e18760⟩ : ∃ x : Int, x = wq_or (H18744 r18749 (v18692.toNat)) (H18744 r18754 ((H18693 r18708 (v18692.toNat)).toNat)) := ⟨_, rfl⟩
        rw [← e18760]
        have b18761 : -2147483648 ≤ v18759 ∧ v18759 ≤ 2147483647 := by
          rw [e18760]
          exact wI_or _ _
        refine wp_of e70 c70_94 (xs_I (pc' := 95) w18746 g18751 (by decide) sh_10 (by decide) (ty_10 _) (by omega) (by omega) ⟨by omega, by omega⟩ (by omega) (by omega) rfl (fun H18762 e18763 w18764 => ?_))
        have f18765 := f18747.put' e18763 g18751 rfl
        have f18766 := f18748.put' e18763 g18751 rfl
        refine wp_of e70 c70_95 (rw_aload_n (pc' := 96) (v := .ref r0) rfl rfl rfl ?_)
        refine wp_of e70 c70_96 (xg_R (pc' := 99) lf_3_25 w18764 g0 sh_6 (by decide) (by decide) ty_6_4 rfl rfl (fun r18767 q18768 g18769 => ?_))
        refine wp_of e70 c70_99 (rw_iload_n (pc' := 100) (z := v18692) rfl rfl ?_)
        refine wp_of e70 c70_100 (rw_iconst (pc' := 101) rfl ?_)
        refine wp_of e70 c70_101 (rw_iadd (pc' := 102) rfl ?_)
        refine wp_of e70 c70_102 (rw_aload_n (pc' := 103) (v := .ref r0) rfl rfl rfl ?_)
        refine wp_of e70 c70_103 (xg_K (pc' := 106) lf_3_25 w18764 g0 sh_6 (by decide) (by decide) rfl q18768 rfl ?_)
        refine wp_of e70 c70_106 (rw_iload_n (pc' := 107) (z := v18692) rfl rfl ?_)
        refine wp_of e70 c70_107 (xa_I (so := 0) (pc' := 108) w18764 g18769 sh_11 (by decide) (ty_11 _) (by omega) (by omega) rfl (fun b18770 b18771 => ?_))
        refine wp_of e70 c70_108 (rw_aload_n (pc' := 109) (v := .ref r0) rfl rfl rfl ?_)
        refine wp_of e70 c70_109 (rw_aload_n (pc' := 110) (v := .ref r1) rfl rfl rfl ?_)
        refine wp_of e70 c70_110 (rw_iload_n (pc' := 111) (z := v18692) rfl rfl ?_)
        refine wp_of e70 c70_111 (xc_V (pc' := 114) (r := r0) (as := [.ref r1, vI v18692]) (st := [vI (H18762 r18767 (v18692.toNat)), vI (v18692 + 1), .ref r18767]) (lm_3_78) rfl rfl (Nat.le_of_ble_eq_true rfl) w18764 g0 sh_6 (by decide) rfl (by decide) (s_71 w18764 g0 g1 ⟨by omega, by omega⟩) (fun R18772 T18773 H18774 p18775 => ?_))
        obtain ⟨e18776, e18778, z18779, e18777, b18780⟩ := p18775
        subst e18776
        subst e18777
        subst e18778
        show wp _ _ 70 114 [(5, vI (H18693 r18708 (v18692.toNat))), (4, .ref r18705), (3, vI v18692), (0, .ref r0), (1, .ref r1)] [vI z18779, vI (H18762 r18767 (v18692.toNat)), vI (v18692 + 1), .ref r18767] _ H18762 _
        refine wp_of e70 c70_114 (rw_ior (pc' := 115) rfl ?_)
        obtain ⟨v18781, e18782⟩ : ∃ x : Int, x = wq_or (H18762 r18767 (v18692.toNat)) z18779 := ⟨_, rfl⟩
        rw [← e18782]
        have b18783 : -2147483648 ≤ v18781 ∧ v18781 ≤ 2147483647 := by
          rw [e18782]
          exact wI_or _ _
        refine wp_of e70 c70_115 (xs_I (pc' := 116) w18764 g18769 (by decide) sh_11 (by decide) (ty_11 _) (by omega) (by omega) ⟨by omega, by omega⟩ (by omega) (by omega) rfl (fun H18784 e18785 w18786 => ?_))
        have f18787 := f18765.put' e18785 g18769 rfl
        have f18788 := f18766.put' e18785 g18769 rfl
        refine wp_of e70 c70_116 (rw_iinc (pc' := 119) (z := v18692) (L' := [(3, vI (v18692 + 1)), (5, vI (H18693 r18708 (v18692.toNat))), (4, .ref r18705), (0, .ref r0), (1, .ref r1)]) rfl rfl rfl rfl ?_)
        refine wp_of e70 c70_119 (rw_goto (p1 := 2) (by decide) ?_)
        exact wp_lc (ks := [3, 5, 4, 0, 1]) (wl_c rfl (wl_c rfl (wl_c rfl wl_n))) rfl (by decide) (ih18691 _ (by omega) (v18692 + 1) H18784 w18786 f18788 ⟨by omega, by omega⟩ rfl)
  exact wp_lc (ks := [3, 0, 1, 2]) (wl_c rfl (wl_c rfl (wl_c rfl wl_n))) rfl (by decide) (lp18689 _ a2 H hW wfr.rf ⟨by omega, by omega⟩ rfl)
/-! StrikeAwake$Walk.toSaid(LStrikeAwake$Parish;)V -/
theorem e68 : wq_en 68 = some (3, 3, false, none) := rfl
theorem c68_0 : mc_cd 68 0 = some (.iconst 0, 1) := by decide +kernel
theorem c68_1 : mc_cd 68 1 = some (.istore_n 2, 1) := by decide +kernel
theorem c68_2 : mc_cd 68 2 = some (.iload_n 2, 1) := by decide +kernel
theorem c68_3 : mc_cd 68 3 = some (.aload_n 1, 1) := by decide +kernel
theorem c68_4 : mc_cd 68 4 = some (.getfield 36, 3) := by decide +kernel
theorem c68_7 : mc_cd 68 7 = some (.if_icmp .ge 24, 3) := by decide +kernel
theorem c68_10 : mc_cd 68 10 = some (.aload_n 0, 1) := by decide +kernel
theorem c68_11 : mc_cd 68 11 = some (.getfield 9, 3) := by decide +kernel
theorem c68_14 : mc_cd 68 14 = some (.iload_n 2, 1) := by decide +kernel
theorem c68_15 : mc_cd 68 15 = some (.aload_n 1, 1) := by decide +kernel
theorem c68_16 : mc_cd 68 16 = some (.getfield 42, 3) := by decide +kernel
theorem c68_19 : mc_cd 68 19 = some (.iload_n 2, 1) := by decide +kernel
theorem c68_20 : mc_cd 68 20 = some (.aaload, 1) := by decide +kernel
theorem c68_21 : mc_cd 68 21 = some (.getfield 46, 3) := by decide +kernel
theorem c68_24 : mc_cd 68 24 = some (.iastore, 1) := by decide +kernel
theorem c68_25 : mc_cd 68 25 = some (.iinc 2 1, 3) := by decide +kernel
theorem c68_28 : mc_cd 68 28 = some (.goto (-26), 3) := by decide +kernel
theorem c68_31 : mc_cd 68 31 = some (.aload_n 0, 1) := by decide +kernel
theorem c68_32 : mc_cd 68 32 = some (.aload_n 1, 1) := by decide +kernel
theorem c68_33 : mc_cd 68 33 = some (.invokevirtual 28, 3) := by decide +kernel
theorem c68_36 : mc_cd 68 36 = some (.aload_n 0, 1) := by decide +kernel
theorem c68_37 : mc_cd 68 37 = some (.aload_n 1, 1) := by decide +kernel
theorem c68_38 : mc_cd 68 38 = some (.iconst 0, 1) := by decide +kernel
theorem c68_39 : mc_cd 68 39 = some (.invokevirtual 32, 3) := by decide +kernel
theorem c68_42 : mc_cd 68 42 = some (.return_, 1) := by decide +kernel
abbrev q_68 (r0 : Nat) (r1 : Nat) (T : wq_T) (H : wq_H) : Option Value → wq_T → wq_H → Prop := fun r T' H' => T = T' ∧ WT T H' ∧ wfr [(6, 5), (8, 999), (10, 999), (9, 999), (7, 999), (11, 999)] T H H' ∧ none = r
set_option maxHeartbeats 4000000 in
theorem s_68 {kt : Nat → Option mc_E} {T : wq_T} {H : wq_H} {r0 : Nat} {r1 : Nat} (hW : WT T H) (g0 : T.2.2.2 r0 = some 6) (g1 : T.2.2.2 r1 = some 27) : wpc kt 3 68 [.ref r0, .ref r1] T H (q_68 r0 r1 T H) := by
  refine wp_enter e68 (Nat.le_of_ble_eq_true rfl) rfl ?_
  have f0 : wfr [(6, 5), (8, 999), (10, 999), (9, 999), (7, 999), (11, 999)] T H H := wfr.rf
  show wp _ _ 68 0 [(0, .ref r0), (1, .ref r1)] [] _ H _
  refine wp_of e68 c68_0 (rw_iconst (pc' := 1) rfl ?_)
  refine wp_of e68 c68_1 (rw_istore_n (pc' := 2) (z := 0) (L' := [(2, vI 0), (0, .ref r0), (1, .ref r1)]) rfl rfl rfl ?_)
  have lp19078 : ∀ (n19079 : Nat) (v19081 : Int) (H19082 : wq_H), WT T H19082 → wfr [(7, 999)] T H H19082 → (0 ≤ v19081 ∧ v19081 ≤ 6) → (6 - v19081).toNat = n19079 → wp kt 2 68 2 [(2, vI v19081), (0, .ref r0), (1, .ref r1)] [] T H19082 (q_68 r0 r1 T H) := by
    intro n19079
    induction n19079 using Nat.strongRecOn with
    | _ n19079 ih19080 =>
      intro v19081 H19082 w19083 f19084 b19085 m19086
      have f19087 := f0.tr f19084 rfl
      refine wp_of e68 c68_2 (rw_iload_n (pc' := 3) (z := v19081) rfl rfl ?_)
      refine wp_of e68 c68_3 (rw_aload_n (pc' := 4) (v := .ref r1) rfl rfl rfl ?_)
      refine wp_of e68 c68_4 (xg_I (pc' := 7) lf_3_36 w19083 g1 sh_27 (by decide) (by decide) ty_27_10 rfl rfl (fun b19088 b19089 => ?_))
      refine wp_of e68 c68_7 (rw_icmp_ge (p1 := 31) (p2 := 10) (by decide) rfl ⟨by omega, by omega⟩ ⟨by omega, by omega⟩ (fun c19090 => ?_) (fun c19090 => ?_))
      · refine wp_of e68 c68_31 (rw_aload_n (pc' := 32) (v := .ref r0) rfl rfl rfl ?_)
        refine wp_of e68 c68_32 (rw_aload_n (pc' := 33) (v := .ref r1) rfl rfl rfl ?_)
        refine wp_of e68 c68_33 (xc_V (pc' := 36) (r := r0) (as := [.ref r1]) (st := []) (lm_3_28) rfl rfl (Nat.le_of_ble_eq_true rfl) w19083 g0 sh_6 (by decide) rfl (by decide) (s_69 w19083 g0 g1) (fun R19091 T19092 H19093 p19094 => ?_))
        obtain ⟨e19095, w19097, f19098, e19096⟩ := p19094
        subst e19095
        subst e19096
        have f19099 := f19087.tr f19098 rfl
        show wp _ _ 68 36 [(2, vI v19081), (0, .ref r0), (1, .ref r1)] [] _ H19093 _
        refine wp_of e68 c68_36 (rw_aload_n (pc' := 37) (v := .ref r0) rfl rfl rfl ?_)
        refine wp_of e68 c68_37 (rw_aload_n (pc' := 38) (v := .ref r1) rfl rfl rfl ?_)
        refine wp_of e68 c68_38 (rw_iconst (pc' := 39) rfl ?_)
        refine wp_of e68 c68_39 (xc_V (pc' := 42) (r := r0) (as := [.ref r1, vI 0]) (st := []) (lm_3_32) rfl rfl (Nat.le_of_ble_eq_true rfl) w19097 g0 sh_6 (by decide) rfl (by decide) (s_70 w19097 g0 g1 ⟨by omega, by omega⟩) (fun R19100 T19101 H19102 p19103 => ?_))
        obtain ⟨e19104, w19106, f19107, e19105⟩ := p19103
        subst e19104
        subst e19105
        have f19108 := f19099.tr f19107 rfl
        show wp _ _ 68 42 [(2, vI v19081), (0, .ref r0), (1, .ref r1)] [] _ H19102 _
        exact wp_return e68 c68_42 rfl ⟨rfl, w19106, f19108, rfl⟩
      · refine wp_of e68 c68_10 (rw_aload_n (pc' := 11) (v := .ref r0) rfl rfl rfl ?_)
        refine wp_of e68 c68_11 (xg_R (pc' := 14) lf_3_9 w19083 g0 sh_6 (by decide) (by decide) ty_6_0 rfl rfl (fun r19109 q19110 g19111 => ?_))
        refine wp_of e68 c68_14 (rw_iload_n (pc' := 15) (z := v19081) rfl rfl ?_)
        refine wp_of e68 c68_15 (rw_aload_n (pc' := 16) (v := .ref r1) rfl rfl rfl ?_)
        refine wp_of e68 c68_16 (xg_R (pc' := 19) lf_3_42 w19083 g1 sh_27 (by decide) (by decide) ty_27_0 rfl rfl (fun r19112 q19113 g19114 => ?_))
        refine wp_of e68 c68_19 (rw_iload_n (pc' := 20) (z := v19081) rfl rfl ?_)
        refine wp_of e68 c68_20 (xa_R (pc' := 21) (by decide) w19083 g19114 sh_28 (by decide) (ty_28 _) (by omega) (by omega) rfl (fun r19115 q19116 g19117 => ?_))
        refine wp_of e68 c68_21 (xg_I (pc' := 24) lf_3_46 w19083 g19117 sh_35 (by decide) (by decide) ty_35_16 rfl rfl (fun b19118 b19119 => ?_))
        refine wp_of e68 c68_24 (xs_I (pc' := 25) w19083 g19111 (by decide) sh_7 (by decide) (ty_7 _) (by omega) (by omega) ⟨by omega, by omega⟩ (by omega) (by omega) rfl (fun H19120 e19121 w19122 => ?_))
        have f19123 := f19087.put' e19121 g19111 rfl
        have f19124 := f19084.put' e19121 g19111 rfl
        refine wp_of e68 c68_25 (rw_iinc (pc' := 28) (z := v19081) (L' := [(2, vI (v19081 + 1)), (0, .ref r0), (1, .ref r1)]) rfl rfl rfl rfl ?_)
        refine wp_of e68 c68_28 (rw_goto (p1 := 2) (by decide) ?_)
        exact wp_lc (ks := [2, 0, 1]) (wl_c rfl (wl_c rfl (wl_c rfl wl_n))) rfl (by decide) (ih19080 _ (by omega) (v19081 + 1) H19120 w19122 f19124 ⟨by omega, by omega⟩ rfl)
  exact wp_lc (ks := [2, 0, 1]) (wl_c rfl (wl_c rfl (wl_c rfl wl_n))) rfl (by decide) (lp19078 _ 0 H hW wfr.rf ⟨by omega, by omega⟩ rfl)
/-! StrikeAwake.barOfSaid(Z)I -/
theorem e67 : wq_en 67 = some (0, 2, false, some FieldType.int) := rfl
theorem c67_0 : mc_cd 67 0 = some (.iload_n 1, 1) := by decide +kernel
theorem c67_1 : mc_cd 67 1 = some (.ifCond .ne 5, 3) := by decide +kernel
theorem c67_4 : mc_cd 67 4 = some (.iconst 1, 1) := by decide +kernel
theorem c67_5 : mc_cd 67 5 = some (.ireturn, 1) := by decide +kernel
theorem c67_6 : mc_cd 67 6 = some (.aload_n 0, 1) := by decide +kernel
theorem c67_7 : mc_cd 67 7 = some (.getfield 51, 3) := by decide +kernel
theorem c67_10 : mc_cd 67 10 = some (.getfield 141, 3) := by decide +kernel
theorem c67_13 : mc_cd 67 13 = some (.lconst 0, 1) := by decide +kernel
theorem c67_14 : mc_cd 67 14 = some (.lcmp, 1) := by decide +kernel
theorem c67_15 : mc_cd 67 15 = some (.ifCond .ne 5, 3) := by decide +kernel
theorem c67_18 : mc_cd 67 18 = some (.iconst 5, 1) := by decide +kernel
theorem c67_19 : mc_cd 67 19 = some (.ireturn, 1) := by decide +kernel
theorem c67_20 : mc_cd 67 20 = some (.aload_n 0, 1) := by decide +kernel
theorem c67_21 : mc_cd 67 21 = some (.getfield 23, 3) := by decide +kernel
theorem c67_24 : mc_cd 67 24 = some (.aload_n 0, 1) := by decide +kernel
theorem c67_25 : mc_cd 67 25 = some (.getfield 51, 3) := by decide +kernel
theorem c67_28 : mc_cd 67 28 = some (.invokevirtual 345, 3) := by decide +kernel
theorem c67_31 : mc_cd 67 31 = some (.iconst 0, 1) := by decide +kernel
theorem c67_32 : mc_cd 67 32 = some (.ireturn, 1) := by decide +kernel
abbrev q_67 (r0 : Nat) (a1 : Int) (T : wq_T) (H : wq_H) : Option Value → wq_T → wq_H → Prop := fun r T' H' => T = T' ∧ WT T H' ∧ wfr [(6, 5), (8, 999), (10, 999), (9, 999), (7, 999), (11, 999)] T H H' ∧ ∃ z : Int, some (vI z) = r ∧ (0 ≤ z ∧ z ≤ 6) ∧ (z ≠ 0 ∨ a1 = 1) ∧ (z ≠ 4)
set_option maxHeartbeats 4000000 in
theorem s_67 {kt : Nat → Option mc_E} {T : wq_T} {H : wq_H} {r0 : Nat} {a1 : Int} (hW : WT T H) (g0 : T.2.2.2 r0 = some 1) (i1 : 0 ≤ a1 ∧ a1 ≤ 1) : wpc kt 4 67 [.ref r0, vI a1] T H (q_67 r0 a1 T H) := by
  refine wp_enter e67 (Nat.le_of_ble_eq_true rfl) rfl ?_
  have f0 : wfr [(6, 5), (8, 999), (10, 999), (9, 999), (7, 999), (11, 999)] T H H := wfr.rf
  show wp _ _ 67 0 [(0, .ref r0), (1, vI a1)] [] _ H _
  refine wp_of e67 c67_0 (rw_iload_n (pc' := 1) (z := a1) rfl rfl ?_)
  refine wp_of e67 c67_1 (rw_if_ne (p1 := 6) (p2 := 4) (by decide) rfl ⟨by omega, by omega⟩ (fun c19145 => ?_) (fun c19145 => ?_))
  · refine wp_of e67 c67_6 (rw_aload_n (pc' := 7) (v := .ref r0) rfl rfl rfl ?_)
    refine wp_of e67 c67_7 (xg_R (pc' := 10) lf_0_51 hW g0 sh_1 (by decide) (by decide) ty_1_6 rfl rfl (fun r19146 q19147 g19148 => ?_))
    refine wp_of e67 c67_10 (xg_L (pc' := 13) lf_0_141 hW g19148 sh_27 (by decide) (by decide) ty_27_18 rfl rfl (fun b19149 b19150 => ?_))
    refine wp_of e67 c67_13 (rw_lconst (pc' := 14) (z := 0) rfl rfl ?_)
    refine wp_of e67 c67_14 (rw_lcmp (pc' := 15) rfl ⟨by omega, by omega⟩ ⟨by omega, by omega⟩ ?_)
    have b19151 := wq_cmp_b (H r19146 18) 0
    refine wp_of e67 c67_15 (rw_if_ne (p1 := 20) (p2 := 18) (by decide) rfl ⟨by omega, by omega⟩ (fun c19152 => ?_) (fun c19152 => ?_))
    · refine wp_of e67 c67_20 (rw_aload_n (pc' := 21) (v := .ref r0) rfl rfl rfl ?_)
      refine wp_of e67 c67_21 (xg_R (pc' := 24) lf_0_23 hW g0 sh_1 (by decide) (by decide) ty_1_2 rfl rfl (fun r19153 q19154 g19155 => ?_))
      refine wp_of e67 c67_24 (rw_aload_n (pc' := 25) (v := .ref r0) rfl rfl rfl ?_)
      refine wp_of e67 c67_25 (xg_K (pc' := 28) lf_0_51 hW g0 sh_1 (by decide) (by decide) rfl q19147 rfl ?_)
      refine wp_of e67 c67_28 (xc_V (pc' := 31) (r := r19153) (as := [.ref r19146]) (st := []) (lm_0_345) rfl rfl (Nat.le_of_ble_eq_true rfl) hW g19155 sh_6 (by decide) rfl (by decide) (s_68 hW g19155 g19148) (fun R19156 T19157 H19158 p19159 => ?_))
      obtain ⟨e19160, w19162, f19163, e19161⟩ := p19159
      subst e19160
      subst e19161
      have f19164 := f0.tr f19163 rfl
      show wp _ _ 67 31 [(0, .ref r0), (1, vI a1)] [] _ H19158 _
      refine wp_of e67 c67_31 (rw_iconst (pc' := 32) rfl ?_)
      exact wp_ireturn e67 c67_32 rfl ⟨rfl, w19162, f19164, 0, rfl, ⟨by omega, by omega⟩, by omega, by omega⟩
    · refine wp_of e67 c67_18 (rw_iconst (pc' := 19) rfl ?_)
      exact wp_ireturn e67 c67_19 rfl ⟨rfl, hW, f0, 5, rfl, ⟨by omega, by omega⟩, by omega, by omega⟩
  · refine wp_of e67 c67_4 (rw_iconst (pc' := 5) rfl ?_)
    exact wp_ireturn e67 c67_5 rfl ⟨rfl, hW, f0, 1, rfl, ⟨by omega, by omega⟩, by omega, by omega⟩
/-! StrikeAwake$Walk.strokesDue(I)I -/
theorem e72 : wq_en 72 = some (3, 6, false, some FieldType.int) := rfl
theorem c72_0 : mc_cd 72 0 = some (.iload_n 1, 1) := by decide +kernel
theorem c72_1 : mc_cd 72 1 = some (.bipush 12, 2) := by decide +kernel
theorem c72_3 : mc_cd 72 3 = some (.if_icmp .ge 7, 3) := by decide +kernel
theorem c72_6 : mc_cd 72 6 = some (.iconst 1, 1) := by decide +kernel
theorem c72_7 : mc_cd 72 7 = some (.goto 4, 3) := by decide +kernel
theorem c72_10 : mc_cd 72 10 = some (.iconst 0, 1) := by decide +kernel
theorem c72_11 : mc_cd 72 11 = some (.istore_n 2, 1) := by decide +kernel
theorem c72_12 : mc_cd 72 12 = some (.iload_n 2, 1) := by decide +kernel
theorem c72_13 : mc_cd 72 13 = some (.ifCond .eq 15, 3) := by decide +kernel
theorem c72_16 : mc_cd 72 16 = some (.aload_n 0, 1) := by decide +kernel
theorem c72_17 : mc_cd 72 17 = some (.getfield 15, 3) := by decide +kernel
theorem c72_20 : mc_cd 72 20 = some (.aload_n 0, 1) := by decide +kernel
theorem c72_21 : mc_cd 72 21 = some (.getfield 51, 3) := by decide +kernel
theorem c72_24 : mc_cd 72 24 = some (.laload, 1) := by decide +kernel
theorem c72_25 : mc_cd 72 25 = some (.goto 12, 3) := by decide +kernel
theorem c72_28 : mc_cd 72 28 = some (.aload_n 0, 1) := by decide +kernel
theorem c72_29 : mc_cd 72 29 = some (.getfield 19, 3) := by decide +kernel
theorem c72_32 : mc_cd 72 32 = some (.aload_n 0, 1) := by decide +kernel
theorem c72_33 : mc_cd 72 33 = some (.getfield 51, 3) := by decide +kernel
theorem c72_36 : mc_cd 72 36 = some (.laload, 1) := by decide +kernel
theorem c72_37 : mc_cd 72 37 = some (.lstore_n 3, 1) := by decide +kernel
theorem c72_38 : mc_cd 72 38 = some (.iload_n 2, 1) := by decide +kernel
theorem c72_39 : mc_cd 72 39 = some (.ifCond .eq 7, 3) := by decide +kernel
theorem c72_42 : mc_cd 72 42 = some (.iload_n 1, 1) := by decide +kernel
theorem c72_43 : mc_cd 72 43 = some (.goto 7, 3) := by decide +kernel
theorem c72_46 : mc_cd 72 46 = some (.iload_n 1, 1) := by decide +kernel
theorem c72_47 : mc_cd 72 47 = some (.bipush 12, 2) := by decide +kernel
theorem c72_49 : mc_cd 72 49 = some (.isub, 1) := by decide +kernel
theorem c72_50 : mc_cd 72 50 = some (.istore 5, 2) := by decide +kernel
theorem c72_52 : mc_cd 72 52 = some (.lload_n 3, 1) := by decide +kernel
theorem c72_53 : mc_cd 72 53 = some (.iload 5, 2) := by decide +kernel
theorem c72_55 : mc_cd 72 55 = some (.iconst 4, 1) := by decide +kernel
theorem c72_56 : mc_cd 72 56 = some (.imul, 1) := by decide +kernel
theorem c72_57 : mc_cd 72 57 = some (.lshr, 1) := by decide +kernel
theorem c72_58 : mc_cd 72 58 = some (.l2i, 1) := by decide +kernel
theorem c72_59 : mc_cd 72 59 = some (.bipush 15, 2) := by decide +kernel
theorem c72_61 : mc_cd 72 61 = some (.iand, 1) := by decide +kernel
theorem c72_62 : mc_cd 72 62 = some (.ireturn, 1) := by decide +kernel
abbrev q_72 (r0 : Nat) (a1 : Int) (T : wq_T) (H : wq_H) : Option Value → wq_T → wq_H → Prop := fun r T' H' => T = T' ∧ H = H' ∧ ∃ z : Int, some (vI z) = r ∧ ((-2147483648) ≤ z ∧ z ≤ 2147483647)
set_option maxHeartbeats 4000000 in
theorem s_72 {kt : Nat → Option mc_E} {T : wq_T} {H : wq_H} {r0 : Nat} {a1 : Int} (hW : WT T H) (g0 : T.2.2.2 r0 = some 6) (i1 : 0 ≤ a1 ∧ a1 ≤ 23) : wpc kt 1 72 [.ref r0, vI a1] T H (q_72 r0 a1 T H) := by
  refine wp_enter e72 (Nat.le_of_ble_eq_true rfl) rfl ?_
  show wp _ _ 72 0 [(0, .ref r0), (1, vI a1)] [] _ H _
  refine wp_of e72 c72_0 (rw_iload_n (pc' := 1) (z := a1) rfl rfl ?_)
  refine wp_of e72 c72_1 (rw_bipush (pc' := 3) (z := 12) rfl (by decide) ?_)
  refine wp_of e72 c72_3 (rw_icmp_ge (p1 := 10) (p2 := 6) (by decide) rfl ⟨by omega, by omega⟩ ⟨by omega, by omega⟩ (fun c19196 => ?_) (fun c19196 => ?_))
  · refine wp_of e72 c72_10 (rw_iconst (pc' := 11) rfl ?_)
    refine wp_of e72 c72_11 (rw_istore_n (pc' := 12) (z := 0) (L' := [(2, vI 0), (0, .ref r0), (1, vI a1)]) rfl rfl rfl ?_)
    refine wp_of e72 c72_12 (rw_iload_n (pc' := 13) (z := 0) rfl rfl ?_)
    refine wp_of e72 c72_13 (rw_if_eq (p1 := 28) (p2 := 16) (by decide) rfl ⟨by omega, by omega⟩ (fun c19197 => ?_) (fun c19197 => ?_))
    · refine wp_of e72 c72_28 (rw_aload_n (pc' := 29) (v := .ref r0) rfl rfl rfl ?_)
      refine wp_of e72 c72_29 (xg_R (pc' := 32) lf_3_19 hW g0 sh_6 (by decide) (by decide) ty_6_2 rfl rfl (fun r19198 q19199 g19200 => ?_))
      refine wp_of e72 c72_32 (rw_aload_n (pc' := 33) (v := .ref r0) rfl rfl rfl ?_)
      refine wp_of e72 c72_33 (xg_I (pc' := 36) lf_3_51 hW g0 sh_6 (by decide) (by decide) ty_6_5 rfl rfl (fun b19201 b19202 => ?_))
      refine wp_of e72 c72_36 (xa_L (pc' := 37) hW g19200 sh_9 (by decide) (ty_9 _) (by omega) (by omega) rfl (fun b19203 b19204 => ?_))
      refine wp_of e72 c72_37 (rw_lstore_n (pc' := 38) (z := H r19198 ((H r0 5).toNat)) (L' := [(3, vL (H r19198 ((H r0 5).toNat))), (2, vI 0), (0, .ref r0), (1, vI a1)]) rfl rfl rfl ?_)
      refine wp_of e72 c72_38 (rw_iload_n (pc' := 39) (z := 0) rfl rfl ?_)
      refine wp_of e72 c72_39 (rw_if_eq (p1 := 46) (p2 := 42) (by decide) rfl ⟨by omega, by omega⟩ (fun c19205 => ?_) (fun c19205 => ?_))
      · refine wp_of e72 c72_46 (rw_iload_n (pc' := 47) (z := a1) rfl rfl ?_)
        refine wp_of e72 c72_47 (rw_bipush (pc' := 49) (z := 12) rfl (by decide) ?_)
        refine wp_of e72 c72_49 (rw_isub (pc' := 50) rfl ?_)
        refine wp_of e72 c72_50 (rw_istore (pc' := 52) (z := a1 - 12) (L' := [(5, vI (a1 - 12)), (3, vL (H r19198 ((H r0 5).toNat))), (2, vI 0), (0, .ref r0), (1, vI a1)]) rfl rfl rfl ?_)
        refine wp_of e72 c72_52 (rw_lload_n (pc' := 53) (z := H r19198 ((H r0 5).toNat)) rfl rfl ?_)
        refine wp_of e72 c72_53 (rw_iload (pc' := 55) (z := a1 - 12) rfl rfl ?_)
        refine wp_of e72 c72_55 (rw_iconst (pc' := 56) rfl ?_)
        refine wp_of e72 c72_56 (rw_imul (pc' := 57) rfl ?_)
        refine wp_of e72 c72_57 (rw_lshr (pc' := 58) rfl ?_)
        obtain ⟨v19206, e19207⟩ : ∃ x : Int, x = wl_shr (H r19198 ((H r0 5).toNat)) ((a1 - 12) * 4) := ⟨_, rfl⟩
        rw [← e19207]
        have b19208 : -9223372036854775808 ≤ v19206 ∧ v19206 ≤ 9223372036854775807 := by
          rw [e19207]
          exact wL_shr _ _
        refine wp_of e72 c72_58 (rw_l2i (pc' := 59) rfl ?_)
        obtain ⟨v19209, e19210⟩ : ∃ x : Int, x = wq_w v19206 := ⟨_, rfl⟩
        rw [← e19210]
        have b19211 : -2147483648 ≤ v19209 ∧ v19209 ≤ 2147483647 := by
          rw [e19210]
          exact wI_w _
        have b19212 : (-2147483648 ≤ v19206 ∧ v19206 ≤ 2147483647) → v19209 = v19206 := by
          rw [e19210]
          exact fun h => wq_w_id h
        refine wp_of e72 c72_59 (rw_bipush (pc' := 61) (z := 15) rfl (by decide) ?_)
        refine wp_of e72 c72_61 (rw_iand (pc' := 62) rfl ?_)
        obtain ⟨v19213, e19214⟩ : ∃ x : Int, x = wq_and v19209 15 := ⟨_, rfl⟩
        rw [← e19214]
        have b19215 : 0 ≤ v19213 ∧ v19213 ≤ 15 := by
          rw [e19214]
          exact wq_and_b _ (by omega) (by omega)
        exact wp_ireturn e72 c72_62 rfl ⟨rfl, rfl, v19213, rfl, ⟨by omega, by omega⟩⟩
      · exfalso
        omega
    · exfalso
      omega
  · refine wp_of e72 c72_6 (rw_iconst (pc' := 7) rfl ?_)
    refine wp_of e72 c72_7 (rw_goto (p1 := 11) (by decide) ?_)
    refine wp_of e72 c72_11 (rw_istore_n (pc' := 12) (z := 1) (L' := [(2, vI 1), (0, .ref r0), (1, vI a1)]) rfl rfl rfl ?_)
    refine wp_of e72 c72_12 (rw_iload_n (pc' := 13) (z := 1) rfl rfl ?_)
    refine wp_of e72 c72_13 (rw_if_eq (p1 := 28) (p2 := 16) (by decide) rfl ⟨by omega, by omega⟩ (fun c19216 => ?_) (fun c19216 => ?_))
    · exfalso
      omega
    · refine wp_of e72 c72_16 (rw_aload_n (pc' := 17) (v := .ref r0) rfl rfl rfl ?_)
      refine wp_of e72 c72_17 (xg_R (pc' := 20) lf_3_15 hW g0 sh_6 (by decide) (by decide) ty_6_1 rfl rfl (fun r19217 q19218 g19219 => ?_))
      refine wp_of e72 c72_20 (rw_aload_n (pc' := 21) (v := .ref r0) rfl rfl rfl ?_)
      refine wp_of e72 c72_21 (xg_I (pc' := 24) lf_3_51 hW g0 sh_6 (by decide) (by decide) ty_6_5 rfl rfl (fun b19220 b19221 => ?_))
      refine wp_of e72 c72_24 (xa_L (pc' := 25) hW g19219 sh_8 (by decide) (ty_8 _) (by omega) (by omega) rfl (fun b19222 b19223 => ?_))
      refine wp_of e72 c72_25 (rw_goto (p1 := 37) (by decide) ?_)
      refine wp_of e72 c72_37 (rw_lstore_n (pc' := 38) (z := H r19217 ((H r0 5).toNat)) (L' := [(3, vL (H r19217 ((H r0 5).toNat))), (2, vI 1), (0, .ref r0), (1, vI a1)]) rfl rfl rfl ?_)
      refine wp_of e72 c72_38 (rw_iload_n (pc' := 39) (z := 1) rfl rfl ?_)
      refine wp_of e72 c72_39 (rw_if_eq (p1 := 46) (p2 := 42) (by decide) rfl ⟨by omega, by omega⟩ (fun c19224 => ?_) (fun c19224 => ?_))
      · exfalso
        omega
      · refine wp_of e72 c72_42 (rw_iload_n (pc' := 43) (z := a1) rfl rfl ?_)
        refine wp_of e72 c72_43 (rw_goto (p1 := 50) (by decide) ?_)
        refine wp_of e72 c72_50 (rw_istore (pc' := 52) (z := a1) (L' := [(5, vI a1), (3, vL (H r19217 ((H r0 5).toNat))), (2, vI 1), (0, .ref r0), (1, vI a1)]) rfl rfl rfl ?_)
        refine wp_of e72 c72_52 (rw_lload_n (pc' := 53) (z := H r19217 ((H r0 5).toNat)) rfl rfl ?_)
        refine wp_of e72 c72_53 (rw_iload (pc' := 55) (z := a1) rfl rfl ?_)
        refine wp_of e72 c72_55 (rw_iconst (pc' := 56) rfl ?_)
        refine wp_of e72 c72_56 (rw_imul (pc' := 57) rfl ?_)
        refine wp_of e72 c72_57 (rw_lshr (pc' := 58) rfl ?_)
        obtain ⟨v19225, e19226⟩ : ∃ x : Int, x = wl_shr (H r19217 ((H r0 5).toNat)) (a1 * 4) := ⟨_, rfl⟩
        rw [← e19226]
        have b19227 : -9223372036854775808 ≤ v19225 ∧ v19225 ≤ 9223372036854775807 := by
          rw [e19226]
          exact wL_shr _ _
        refine wp_of e72 c72_58 (rw_l2i (pc' := 59) rfl ?_)
        obtain ⟨v19228, e19229⟩ : ∃ x : Int, x = wq_w v19225 := ⟨_, rfl⟩
        rw [← e19229]
        have b19230 : -2147483648 ≤ v19228 ∧ v19228 ≤ 2147483647 := by
          rw [e19229]
          exact wI_w _
        have b19231 : (-2147483648 ≤ v19225 ∧ v19225 ≤ 2147483647) → v19228 = v19225 := by
          rw [e19229]
          exact fun h => wq_w_id h
        refine wp_of e72 c72_59 (rw_bipush (pc' := 61) (z := 15) rfl (by decide) ?_)
        refine wp_of e72 c72_61 (rw_iand (pc' := 62) rfl ?_)
        obtain ⟨v19232, e19233⟩ : ∃ x : Int, x = wq_and v19228 15 := ⟨_, rfl⟩
        rw [← e19233]
        have b19234 : 0 ≤ v19232 ∧ v19232 ≤ 15 := by
          rw [e19233]
          exact wq_and_b _ (by omega) (by omega)
        exact wp_ireturn e72 c72_62 rfl ⟨rfl, rfl, v19232, rfl, ⟨by omega, by omega⟩⟩
/-! StrikeAwake.strikes(I)I -/
theorem e66 : wq_en 66 = some (0, 3, false, some FieldType.int) := rfl
theorem c66_0 : mc_cd 66 0 = some (.aload_n 0, 1) := by decide +kernel
theorem c66_1 : mc_cd 66 1 = some (.aload_n 0, 1) := by decide +kernel
theorem c66_2 : mc_cd 66 2 = some (.iload_n 1, 1) := by decide +kernel
theorem c66_3 : mc_cd 66 3 = some (.invokevirtual 132, 3) := by decide +kernel
theorem c66_6 : mc_cd 66 6 = some (.invokevirtual 155, 3) := by decide +kernel
theorem c66_9 : mc_cd 66 9 = some (.istore_n 2, 1) := by decide +kernel
theorem c66_10 : mc_cd 66 10 = some (.iload_n 2, 1) := by decide +kernel
theorem c66_11 : mc_cd 66 11 = some (.ifCond .eq 9, 3) := by decide +kernel
theorem c66_14 : mc_cd 66 14 = some (.aload_n 0, 1) := by decide +kernel
theorem c66_15 : mc_cd 66 15 = some (.iload_n 2, 1) := by decide +kernel
theorem c66_16 : mc_cd 66 16 = some (.invokevirtual 70, 3) := by decide +kernel
theorem c66_19 : mc_cd 66 19 = some (.ireturn, 1) := by decide +kernel
theorem c66_20 : mc_cd 66 20 = some (.aload_n 0, 1) := by decide +kernel
theorem c66_21 : mc_cd 66 21 = some (.aload_n 0, 1) := by decide +kernel
theorem c66_22 : mc_cd 66 22 = some (.getfield 23, 3) := by decide +kernel
theorem c66_25 : mc_cd 66 25 = some (.iload_n 1, 1) := by decide +kernel
theorem c66_26 : mc_cd 66 26 = some (.invokevirtual 159, 3) := by decide +kernel
theorem c66_29 : mc_cd 66 29 = some (.invokevirtual 99, 3) := by decide +kernel
theorem c66_32 : mc_cd 66 32 = some (.ireturn, 1) := by decide +kernel
abbrev q_66 (r0 : Nat) (a1 : Int) (T : wq_T) (H : wq_H) : Option Value → wq_T → wq_H → Prop := fun r T' H' => T = T' ∧ WT T H' ∧ wfr [(1, 10), (6, 5), (8, 999), (10, 999), (9, 999), (7, 999), (11, 999)] T H H' ∧ ∃ z : Int, some (vI z) = r ∧ ((-2147483648) ≤ z ∧ z ≤ 2147483647) ∧ (H' r0 10 ≠ 4)
set_option maxHeartbeats 4000000 in
theorem s_66 {kt : Nat → Option mc_E} {T : wq_T} {H : wq_H} {r0 : Nat} {a1 : Int} (hW : WT T H) (g0 : T.2.2.2 r0 = some 1) (i1 : (-2147483648) ≤ a1 ∧ a1 ≤ 2147483647) : wpc kt 5 66 [.ref r0, vI a1] T H (q_66 r0 a1 T H) := by
  refine wp_enter e66 (Nat.le_of_ble_eq_true rfl) rfl ?_
  have f0 : wfr [(1, 10), (6, 5), (8, 999), (10, 999), (9, 999), (7, 999), (11, 999)] T H H := wfr.rf
  show wp _ _ 66 0 [(0, .ref r0), (1, vI a1)] [] _ H _
  refine wp_of e66 c66_0 (rw_aload_n (pc' := 1) (v := .ref r0) rfl rfl rfl ?_)
  refine wp_of e66 c66_1 (rw_aload_n (pc' := 2) (v := .ref r0) rfl rfl rfl ?_)
  refine wp_of e66 c66_2 (rw_iload_n (pc' := 3) (z := a1) rfl rfl ?_)
  refine wp_of e66 c66_3 (xc_V (pc' := 6) (r := r0) (as := [vI a1]) (st := [.ref r0]) (lm_0_132) rfl rfl (Nat.le_of_ble_eq_true rfl) hW g0 sh_1 (by decide) rfl (by decide) (s_60 hW g0 ⟨by omega, by omega⟩) (fun R19295 T19296 H19297 p19298 => ?_))
  obtain ⟨e19299, e19301, z19303, e19300, b19304, p19302⟩ := p19298
  subst e19299
  subst e19300
  subst e19301
  show wp _ _ 66 6 [(0, .ref r0), (1, vI a1)] [vI z19303, .ref r0] _ H _
  refine wp_of e66 c66_6 (xc_V (pc' := 9) (r := r0) (as := [vI z19303]) (st := []) (lm_0_155) rfl rfl (Nat.le_of_ble_eq_true rfl) hW g0 sh_1 (by decide) rfl (by decide) (s_67 hW g0 ⟨by omega, by omega⟩) (fun R19305 T19306 H19307 p19308 => ?_))
  obtain ⟨e19309, w19311, f19312, z19315, e19310, b19316, p19313, p19314⟩ := p19308
  subst e19309
  subst e19310
  have f19317 := f0.tr f19312 rfl
  show wp _ _ 66 9 [(0, .ref r0), (1, vI a1)] [vI z19315] _ H19307 _
  refine wp_of e66 c66_9 (rw_istore_n (pc' := 10) (z := z19315) (L' := [(2, vI z19315), (0, .ref r0), (1, vI a1)]) rfl rfl rfl ?_)
  refine wp_of e66 c66_10 (rw_iload_n (pc' := 11) (z := z19315) rfl rfl ?_)
  refine wp_of e66 c66_11 (rw_if_eq (p1 := 20) (p2 := 14) (by decide) rfl ⟨by omega, by omega⟩ (fun c19318 => ?_) (fun c19318 => ?_))
  · refine wp_of e66 c66_20 (rw_aload_n (pc' := 21) (v := .ref r0) rfl rfl rfl ?_)
    refine wp_of e66 c66_21 (rw_aload_n (pc' := 22) (v := .ref r0) rfl rfl rfl ?_)
    refine wp_of e66 c66_22 (xg_R (pc' := 25) lf_0_23 w19311 g0 sh_1 (by decide) (by decide) ty_1_2 rfl rfl (fun r19319 q19320 g19321 => ?_))
    refine wp_of e66 c66_25 (rw_iload_n (pc' := 26) (z := a1) rfl rfl ?_)
    refine wp_of e66 c66_26 (xc_V (pc' := 29) (r := r19319) (as := [vI a1]) (st := [.ref r0]) (lm_0_159) rfl rfl (Nat.le_of_ble_eq_true rfl) w19311 g19321 sh_6 (by decide) rfl (by decide) (s_72 w19311 g19321 ⟨by omega, by omega⟩) (fun R19322 T19323 H19324 p19325 => ?_))
    obtain ⟨e19326, e19328, z19329, e19327, b19330⟩ := p19325
    subst e19326
    subst e19327
    subst e19328
    show wp _ _ 66 29 [(2, vI z19315), (0, .ref r0), (1, vI a1)] [vI z19329, .ref r0] _ H19307 _
    refine wp_of e66 c66_29 (xc_V (pc' := 32) (r := r0) (as := [vI z19329]) (st := []) (lm_0_99) rfl rfl (Nat.le_of_ble_eq_true rfl) w19311 g0 sh_1 (by decide) rfl (by decide) (s_51 w19311 g0 ⟨by omega, by omega⟩) (fun R19331 T19332 H19333 p19334 => ?_))
    obtain ⟨e19335, w19337, f19338, z19340, e19336, b19341, p19339⟩ := p19334
    subst e19335
    subst e19336
    have f19342 := f19317.tr f19338 rfl
    show wp _ _ 66 32 [(2, vI z19315), (0, .ref r0), (1, vI a1)] [vI z19340] _ H19333 _
    exact wp_ireturn e66 c66_32 rfl ⟨rfl, w19337, f19342, z19340, rfl, ⟨by omega, by omega⟩, by omega⟩
  · refine wp_of e66 c66_14 (rw_aload_n (pc' := 15) (v := .ref r0) rfl rfl rfl ?_)
    refine wp_of e66 c66_15 (rw_iload_n (pc' := 16) (z := z19315) rfl rfl ?_)
    refine wp_of e66 c66_16 (xc_V (pc' := 19) (r := r0) (as := [vI z19315]) (st := []) (lm_0_70) rfl rfl (Nat.le_of_ble_eq_true rfl) w19311 g0 sh_1 (by decide) rfl (by decide) (s_12 w19311 g0 ⟨by omega, by omega⟩) (fun R19343 T19344 H19345 p19346 => ?_))
    obtain ⟨e19347, w19349, f19350, z19352, e19348, b19353, p19351⟩ := p19346
    subst e19347
    subst e19348
    have f19354 := f19317.tr f19350 rfl
    show wp _ _ 66 19 [(2, vI z19315), (0, .ref r0), (1, vI a1)] [vI z19352] _ H19345 _
    exact wp_ireturn e66 c66_19 rfl ⟨rfl, w19349, f19354, z19352, rfl, ⟨by omega, by omega⟩, by omega⟩
/-! StrikeAwake$Parish.verdict(II)I -/
theorem e76 : wq_en 76 = some (7, 4, false, some FieldType.int) := rfl
theorem c76_0 : mc_cd 76 0 = some (.aload_n 0, 1) := by decide +kernel
theorem c76_1 : mc_cd 76 1 = some (.getfield 17, 3) := by decide +kernel
theorem c76_4 : mc_cd 76 4 = some (.iload_n 1, 1) := by decide +kernel
theorem c76_5 : mc_cd 76 5 = some (.iaload, 1) := by decide +kernel
theorem c76_6 : mc_cd 76 6 = some (.istore_n 3, 1) := by decide +kernel
theorem c76_7 : mc_cd 76 7 = some (.iload_n 3, 1) := by decide +kernel
theorem c76_8 : mc_cd 76 8 = some (.ifCond .lt 18, 3) := by decide +kernel
theorem c76_11 : mc_cd 76 11 = some (.iload_n 3, 1) := by decide +kernel
theorem c76_12 : mc_cd 76 12 = some (.iload_n 2, 1) := by decide +kernel
theorem c76_13 : mc_cd 76 13 = some (.if_icmp .lt 15, 3) := by decide +kernel
theorem c76_16 : mc_cd 76 16 = some (.iload_n 3, 1) := by decide +kernel
theorem c76_17 : mc_cd 76 17 = some (.iload_n 2, 1) := by decide +kernel
theorem c76_18 : mc_cd 76 18 = some (.aload_n 0, 1) := by decide +kernel
theorem c76_19 : mc_cd 76 19 = some (.getfield 44, 3) := by decide +kernel
theorem c76_22 : mc_cd 76 22 = some (.iadd, 1) := by decide +kernel
theorem c76_23 : mc_cd 76 23 = some (.if_icmp .gt 5, 3) := by decide +kernel
theorem c76_26 : mc_cd 76 26 = some (.iconst 0, 1) := by decide +kernel
theorem c76_27 : mc_cd 76 27 = some (.ireturn, 1) := by decide +kernel
theorem c76_28 : mc_cd 76 28 = some (.iload_n 3, 1) := by decide +kernel
theorem c76_29 : mc_cd 76 29 = some (.iload_n 2, 1) := by decide +kernel
theorem c76_30 : mc_cd 76 30 = some (.iconst 1, 1) := by decide +kernel
theorem c76_31 : mc_cd 76 31 = some (.isub, 1) := by decide +kernel
theorem c76_32 : mc_cd 76 32 = some (.if_icmp .eq 15, 3) := by decide +kernel
theorem c76_35 : mc_cd 76 35 = some (.iload_n 3, 1) := by decide +kernel
theorem c76_36 : mc_cd 76 36 = some (.iload_n 2, 1) := by decide +kernel
theorem c76_37 : mc_cd 76 37 = some (.aload_n 0, 1) := by decide +kernel
theorem c76_38 : mc_cd 76 38 = some (.getfield 44, 3) := by decide +kernel
theorem c76_41 : mc_cd 76 41 = some (.iadd, 1) := by decide +kernel
theorem c76_42 : mc_cd 76 42 = some (.iconst 1, 1) := by decide +kernel
theorem c76_43 : mc_cd 76 43 = some (.iadd, 1) := by decide +kernel
theorem c76_44 : mc_cd 76 44 = some (.if_icmp .ne 7, 3) := by decide +kernel
theorem c76_47 : mc_cd 76 47 = some (.iconst 1, 1) := by decide +kernel
theorem c76_48 : mc_cd 76 48 = some (.goto 4, 3) := by decide +kernel
theorem c76_51 : mc_cd 76 51 = some (.iconst 2, 1) := by decide +kernel
theorem c76_52 : mc_cd 76 52 = some (.ireturn, 1) := by decide +kernel
abbrev q_76 (r0 : Nat) (a1 : Int) (a2 : Int) (T : wq_T) (H : wq_H) : Option Value → wq_T → wq_H → Prop := fun r T' H' => T = T' ∧ H = H' ∧ ∃ z : Int, some (vI z) = r ∧ (0 ≤ z ∧ z ≤ 2)
set_option maxHeartbeats 4000000 in
theorem s_76 {kt : Nat → Option mc_E} {T : wq_T} {H : wq_H} {r0 : Nat} {a1 : Int} {a2 : Int} (hW : WT T H) (g0 : T.2.2.2 r0 = some 27) (i1 : 0 ≤ a1 ∧ a1 ≤ 23) (i2 : (-2147483648) ≤ a2 ∧ a2 ≤ 2147483647) : wpc kt 1 76 [.ref r0, vI a1, vI a2] T H (q_76 r0 a1 a2 T H) := by
  refine wp_enter e76 (Nat.le_of_ble_eq_true rfl) rfl ?_
  show wp _ _ 76 0 [(0, .ref r0), (1, vI a1), (2, vI a2)] [] _ H _
  refine wp_of e76 c76_0 (rw_aload_n (pc' := 1) (v := .ref r0) rfl rfl rfl ?_)
  refine wp_of e76 c76_1 (xg_R (pc' := 4) lf_7_17 hW g0 sh_27 (by decide) (by decide) ty_27_1 rfl rfl (fun r19385 q19386 g19387 => ?_))
  refine wp_of e76 c76_4 (rw_iload_n (pc' := 5) (z := a1) rfl rfl ?_)
  refine wp_of e76 c76_5 (xa_I (so := 0) (pc' := 6) hW g19387 sh_29 (by decide) (ty_29 _) (by omega) (by omega) rfl (fun b19388 b19389 => ?_))
  refine wp_of e76 c76_6 (rw_istore_n (pc' := 7) (z := H r19385 (a1.toNat)) (L' := [(3, vI (H r19385 (a1.toNat))), (0, .ref r0), (1, vI a1), (2, vI a2)]) rfl rfl rfl ?_)
  refine wp_of e76 c76_7 (rw_iload_n (pc' := 8) (z := H r19385 (a1.toNat)) rfl rfl ?_)
  refine wp_of e76 c76_8 (rw_if_lt (p1 := 26) (p2 := 11) (by decide) rfl ⟨by omega, by omega⟩ (fun c19390 => ?_) (fun c19390 => ?_))
  · refine wp_of e76 c76_26 (rw_iconst (pc' := 27) rfl ?_)
    exact wp_ireturn e76 c76_27 rfl ⟨rfl, rfl, 0, rfl, ⟨by omega, by omega⟩⟩
  · refine wp_of e76 c76_11 (rw_iload_n (pc' := 12) (z := H r19385 (a1.toNat)) rfl rfl ?_)
    refine wp_of e76 c76_12 (rw_iload_n (pc' := 13) (z := a2) rfl rfl ?_)
    refine wp_of e76 c76_13 (rw_icmp_lt (p1 := 28) (p2 := 16) (by decide) rfl ⟨by omega, by omega⟩ ⟨by omega, by omega⟩ (fun c19391 => ?_) (fun c19391 => ?_))
    · refine wp_of e76 c76_28 (rw_iload_n (pc' := 29) (z := H r19385 (a1.toNat)) rfl rfl ?_)
      refine wp_of e76 c76_29 (rw_iload_n (pc' := 30) (z := a2) rfl rfl ?_)
      refine wp_of e76 c76_30 (rw_iconst (pc' := 31) rfl ?_)
      refine wp_of e76 c76_31 (rw_isub (pc' := 32) rfl ?_)
      refine wp_of e76 c76_32 (rw_icmp_eq (p1 := 47) (p2 := 35) (by decide) rfl ⟨by omega, by omega⟩ ⟨by omega, by omega⟩ (fun c19392 => ?_) (fun c19392 => ?_))
      · refine wp_of e76 c76_47 (rw_iconst (pc' := 48) rfl ?_)
        refine wp_of e76 c76_48 (rw_goto (p1 := 52) (by decide) ?_)
        exact wp_ireturn e76 c76_52 rfl ⟨rfl, rfl, 1, rfl, ⟨by omega, by omega⟩⟩
      · refine wp_of e76 c76_35 (rw_iload_n (pc' := 36) (z := H r19385 (a1.toNat)) rfl rfl ?_)
        refine wp_of e76 c76_36 (rw_iload_n (pc' := 37) (z := a2) rfl rfl ?_)
        refine wp_of e76 c76_37 (rw_aload_n (pc' := 38) (v := .ref r0) rfl rfl rfl ?_)
        refine wp_of e76 c76_38 (xg_I (pc' := 41) lf_7_44 hW g0 sh_27 (by decide) (by decide) ty_27_8 rfl rfl (fun b19393 b19394 => ?_))
        refine wp_of e76 c76_41 (rw_iaddw (pc' := 42) rfl ?_)
        obtain ⟨v19395, e19396⟩ : ∃ x : Int, x = wq_w (a2 + (H r0 8)) := ⟨_, rfl⟩
        rw [← e19396]
        have b19397 : -2147483648 ≤ v19395 ∧ v19395 ≤ 2147483647 := by
          rw [e19396]
          exact wI_w _
        refine wp_of e76 c76_42 (rw_iconst (pc' := 43) rfl ?_)
        refine wp_of e76 c76_43 (rw_iaddw (pc' := 44) rfl ?_)
        obtain ⟨v19398, e19399⟩ : ∃ x : Int, x = wq_w (v19395 + 1) := ⟨_, rfl⟩
        rw [← e19399]
        have b19400 : -2147483648 ≤ v19398 ∧ v19398 ≤ 2147483647 := by
          rw [e19399]
          exact wI_w _
        refine wp_of e76 c76_44 (rw_icmp_ne (p1 := 51) (p2 := 47) (by decide) rfl ⟨by omega, by omega⟩ ⟨by omega, by omega⟩ (fun c19401 => ?_) (fun c19401 => ?_))
        · refine wp_of e76 c76_51 (rw_iconst (pc' := 52) rfl ?_)
          exact wp_ireturn e76 c76_52 rfl ⟨rfl, rfl, 2, rfl, ⟨by omega, by omega⟩⟩
        · refine wp_of e76 c76_47 (rw_iconst (pc' := 48) rfl ?_)
          refine wp_of e76 c76_48 (rw_goto (p1 := 52) (by decide) ?_)
          exact wp_ireturn e76 c76_52 rfl ⟨rfl, rfl, 1, rfl, ⟨by omega, by omega⟩⟩
    · refine wp_of e76 c76_16 (rw_iload_n (pc' := 17) (z := H r19385 (a1.toNat)) rfl rfl ?_)
      refine wp_of e76 c76_17 (rw_iload_n (pc' := 18) (z := a2) rfl rfl ?_)
      refine wp_of e76 c76_18 (rw_aload_n (pc' := 19) (v := .ref r0) rfl rfl rfl ?_)
      refine wp_of e76 c76_19 (xg_I (pc' := 22) lf_7_44 hW g0 sh_27 (by decide) (by decide) ty_27_8 rfl rfl (fun b19402 b19403 => ?_))
      refine wp_of e76 c76_22 (rw_iaddw (pc' := 23) rfl ?_)
      obtain ⟨v19404, e19405⟩ : ∃ x : Int, x = wq_w (a2 + (H r0 8)) := ⟨_, rfl⟩
      rw [← e19405]
      have b19406 : -2147483648 ≤ v19404 ∧ v19404 ≤ 2147483647 := by
        rw [e19405]
        exact wI_w _
      refine wp_of e76 c76_23 (rw_icmp_gt (p1 := 28) (p2 := 26) (by decide) rfl ⟨by omega, by omega⟩ ⟨by omega, by omega⟩ (fun c19407 => ?_) (fun c19407 => ?_))
      · refine wp_of e76 c76_28 (rw_iload_n (pc' := 29) (z := H r19385 (a1.toNat)) rfl rfl ?_)
        refine wp_of e76 c76_29 (rw_iload_n (pc' := 30) (z := a2) rfl rfl ?_)
        refine wp_of e76 c76_30 (rw_iconst (pc' := 31) rfl ?_)
        refine wp_of e76 c76_31 (rw_isubw (pc' := 32) rfl ?_)
        obtain ⟨v19408, e19409⟩ : ∃ x : Int, x = wq_w (a2 - 1) := ⟨_, rfl⟩
        rw [← e19409]
        have b19410 : -2147483648 ≤ v19408 ∧ v19408 ≤ 2147483647 := by
          rw [e19409]
          exact wI_w _
        refine wp_of e76 c76_32 (rw_icmp_eq (p1 := 47) (p2 := 35) (by decide) rfl ⟨by omega, by omega⟩ ⟨by omega, by omega⟩ (fun c19411 => ?_) (fun c19411 => ?_))
        · refine wp_of e76 c76_47 (rw_iconst (pc' := 48) rfl ?_)
          refine wp_of e76 c76_48 (rw_goto (p1 := 52) (by decide) ?_)
          exact wp_ireturn e76 c76_52 rfl ⟨rfl, rfl, 1, rfl, ⟨by omega, by omega⟩⟩
        · refine wp_of e76 c76_35 (rw_iload_n (pc' := 36) (z := H r19385 (a1.toNat)) rfl rfl ?_)
          refine wp_of e76 c76_36 (rw_iload_n (pc' := 37) (z := a2) rfl rfl ?_)
          refine wp_of e76 c76_37 (rw_aload_n (pc' := 38) (v := .ref r0) rfl rfl rfl ?_)
          refine wp_of e76 c76_38 (xg_I (pc' := 41) lf_7_44 hW g0 sh_27 (by decide) (by decide) ty_27_8 rfl rfl (fun b19412 b19413 => ?_))
          refine wp_of e76 c76_41 (rw_iaddw (pc' := 42) rfl ?_)
          obtain ⟨v19414, e19415⟩ : ∃ x : Int, x = wq_w (a2 + (H r0 8)) := ⟨_, rfl⟩
          rw [← e19415]
          have b19416 : -2147483648 ≤ v19414 ∧ v19414 ≤ 2147483647 := by
            rw [e19415]
            exact wI_w _
          refine wp_of e76 c76_42 (rw_iconst (pc' := 43) rfl ?_)
          refine wp_of e76 c76_43 (rw_iaddw (pc' := 44) rfl ?_)
          obtain ⟨v19417, e19418⟩ : ∃ x : Int, x = wq_w (v19414 + 1) := ⟨_, rfl⟩
          rw [← e19418]
          have b19419 : -2147483648 ≤ v19417 ∧ v19417 ≤ 2147483647 := by
            rw [e19418]
            exact wI_w _
          refine wp_of e76 c76_44 (rw_icmp_ne (p1 := 51) (p2 := 47) (by decide) rfl ⟨by omega, by omega⟩ ⟨by omega, by omega⟩ (fun c19420 => ?_) (fun c19420 => ?_))
          · refine wp_of e76 c76_51 (rw_iconst (pc' := 52) rfl ?_)
            exact wp_ireturn e76 c76_52 rfl ⟨rfl, rfl, 2, rfl, ⟨by omega, by omega⟩⟩
          · refine wp_of e76 c76_47 (rw_iconst (pc' := 48) rfl ?_)
            refine wp_of e76 c76_48 (rw_goto (p1 := 52) (by decide) ?_)
            exact wp_ireturn e76 c76_52 rfl ⟨rfl, rfl, 1, rfl, ⟨by omega, by omega⟩⟩
      · refine wp_of e76 c76_26 (rw_iconst (pc' := 27) rfl ?_)
        exact wp_ireturn e76 c76_27 rfl ⟨rfl, rfl, 0, rfl, ⟨by omega, by omega⟩⟩
/-! StrikeAwake$Walk.wrongIn(LStrikeAwake$Parish;I)I -/
theorem e75 : wq_en 75 = some (3, 3, false, some FieldType.int) := rfl
theorem c75_0 : mc_cd 75 0 = some (.aload_n 1, 1) := by decide +kernel
theorem c75_1 : mc_cd 75 1 = some (.iload_n 2, 1) := by decide +kernel
theorem c75_2 : mc_cd 75 2 = some (.aload_n 0, 1) := by decide +kernel
theorem c75_3 : mc_cd 75 3 = some (.iload_n 2, 1) := by decide +kernel
theorem c75_4 : mc_cd 75 4 = some (.invokevirtual 92, 3) := by decide +kernel
theorem c75_7 : mc_cd 75 7 = some (.invokevirtual 96, 3) := by decide +kernel
theorem c75_10 : mc_cd 75 10 = some (.ifCond .eq 5, 3) := by decide +kernel
theorem c75_13 : mc_cd 75 13 = some (.iconst 1, 1) := by decide +kernel
theorem c75_14 : mc_cd 75 14 = some (.ireturn, 1) := by decide +kernel
theorem c75_15 : mc_cd 75 15 = some (.aload_n 0, 1) := by decide +kernel
theorem c75_16 : mc_cd 75 16 = some (.getfield 25, 3) := by decide +kernel
theorem c75_19 : mc_cd 75 19 = some (.aload_n 0, 1) := by decide +kernel
theorem c75_20 : mc_cd 75 20 = some (.getfield 51, 3) := by decide +kernel
theorem c75_23 : mc_cd 75 23 = some (.iaload, 1) := by decide +kernel
theorem c75_24 : mc_cd 75 24 = some (.iload_n 2, 1) := by decide +kernel
theorem c75_25 : mc_cd 75 25 = some (.invokestatic 99, 3) := by decide +kernel
theorem c75_28 : mc_cd 75 28 = some (.ifCond .eq 7, 3) := by decide +kernel
theorem c75_31 : mc_cd 75 31 = some (.iconst 2, 1) := by decide +kernel
theorem c75_32 : mc_cd 75 32 = some (.goto 4, 3) := by decide +kernel
theorem c75_35 : mc_cd 75 35 = some (.iconst 0, 1) := by decide +kernel
theorem c75_36 : mc_cd 75 36 = some (.ireturn, 1) := by decide +kernel
abbrev q_75 (r0 : Nat) (r1 : Nat) (a2 : Int) (T : wq_T) (H : wq_H) : Option Value → wq_T → wq_H → Prop := fun r T' H' => T = T' ∧ H = H' ∧ ∃ z : Int, some (vI z) = r ∧ (0 ≤ z ∧ z ≤ 2)
set_option maxHeartbeats 4000000 in
theorem s_75 {kt : Nat → Option mc_E} {T : wq_T} {H : wq_H} {r0 : Nat} {r1 : Nat} {a2 : Int} (hW : WT T H) (g0 : T.2.2.2 r0 = some 6) (g1 : T.2.2.2 r1 = some 27) (i2 : 0 ≤ a2 ∧ a2 ≤ 23) : wpc kt 2 75 [.ref r0, .ref r1, vI a2] T H (q_75 r0 r1 a2 T H) := by
  refine wp_enter e75 (Nat.le_of_ble_eq_true rfl) rfl ?_
  show wp _ _ 75 0 [(0, .ref r0), (1, .ref r1), (2, vI a2)] [] _ H _
  refine wp_of e75 c75_0 (rw_aload_n (pc' := 1) (v := .ref r1) rfl rfl rfl ?_)
  refine wp_of e75 c75_1 (rw_iload_n (pc' := 2) (z := a2) rfl rfl ?_)
  refine wp_of e75 c75_2 (rw_aload_n (pc' := 3) (v := .ref r0) rfl rfl rfl ?_)
  refine wp_of e75 c75_3 (rw_iload_n (pc' := 4) (z := a2) rfl rfl ?_)
  refine wp_of e75 c75_4 (xc_V (pc' := 7) (r := r0) (as := [vI a2]) (st := [vI a2, .ref r1]) (lm_3_92) rfl rfl (Nat.le_of_ble_eq_true rfl) hW g0 sh_6 (by decide) rfl (by decide) (s_72 hW g0 ⟨by omega, by omega⟩) (fun R19457 T19458 H19459 p19460 => ?_))
  obtain ⟨e19461, e19463, z19464, e19462, b19465⟩ := p19460
  subst e19461
  subst e19462
  subst e19463
  show wp _ _ 75 7 [(0, .ref r0), (1, .ref r1), (2, vI a2)] [vI z19464, vI a2, .ref r1] _ H _
  refine wp_of e75 c75_7 (xc_V (pc' := 10) (r := r1) (as := [vI a2, vI z19464]) (st := []) (lm_3_96) rfl rfl (Nat.le_of_ble_eq_true rfl) hW g1 sh_27 (by decide) rfl (by decide) (s_76 hW g1 ⟨by omega, by omega⟩ ⟨by omega, by omega⟩) (fun R19466 T19467 H19468 p19469 => ?_))
  obtain ⟨e19470, e19472, z19473, e19471, b19474⟩ := p19469
  subst e19470
  subst e19471
  subst e19472
  show wp _ _ 75 10 [(0, .ref r0), (1, .ref r1), (2, vI a2)] [vI z19473] _ H _
  refine wp_of e75 c75_10 (rw_if_eq (p1 := 15) (p2 := 13) (by decide) rfl ⟨by omega, by omega⟩ (fun c19475 => ?_) (fun c19475 => ?_))
  · refine wp_of e75 c75_15 (rw_aload_n (pc' := 16) (v := .ref r0) rfl rfl rfl ?_)
    refine wp_of e75 c75_16 (xg_R (pc' := 19) lf_3_25 hW g0 sh_6 (by decide) (by decide) ty_6_4 rfl rfl (fun r19476 q19477 g19478 => ?_))
    refine wp_of e75 c75_19 (rw_aload_n (pc' := 20) (v := .ref r0) rfl rfl rfl ?_)
    refine wp_of e75 c75_20 (xg_I (pc' := 23) lf_3_51 hW g0 sh_6 (by decide) (by decide) ty_6_5 rfl rfl (fun b19479 b19480 => ?_))
    refine wp_of e75 c75_23 (xa_I (so := 0) (pc' := 24) hW g19478 sh_11 (by decide) (ty_11 _) (by omega) (by omega) rfl (fun b19481 b19482 => ?_))
    refine wp_of e75 c75_24 (rw_iload_n (pc' := 25) (z := a2) rfl rfl ?_)
    refine wp_of e75 c75_25 (xc_S (pc' := 28) (as := [vI (H r19476 ((H r0 5).toNat)), vI a2]) (st := []) (lm_3_99) rfl rfl (Nat.le_of_ble_eq_true rfl) rfl (by decide) (s_36 hW ⟨by omega, by omega⟩ ⟨by omega, by omega⟩) (fun R19483 T19484 H19485 p19486 => ?_))
    obtain ⟨e19487, e19489, z19490, e19488, b19491⟩ := p19486
    subst e19487
    subst e19488
    subst e19489
    show wp _ _ 75 28 [(0, .ref r0), (1, .ref r1), (2, vI a2)] [vI z19490] _ H _
    refine wp_of e75 c75_28 (rw_if_eq (p1 := 35) (p2 := 31) (by decide) rfl ⟨by omega, by omega⟩ (fun c19492 => ?_) (fun c19492 => ?_))
    · refine wp_of e75 c75_35 (rw_iconst (pc' := 36) rfl ?_)
      exact wp_ireturn e75 c75_36 rfl ⟨rfl, rfl, 0, rfl, ⟨by omega, by omega⟩⟩
    · refine wp_of e75 c75_31 (rw_iconst (pc' := 32) rfl ?_)
      refine wp_of e75 c75_32 (rw_goto (p1 := 36) (by decide) ?_)
      exact wp_ireturn e75 c75_36 rfl ⟨rfl, rfl, 2, rfl, ⟨by omega, by omega⟩⟩
  · refine wp_of e75 c75_13 (rw_iconst (pc' := 14) rfl ?_)
    exact wp_ireturn e75 c75_14 rfl ⟨rfl, rfl, 1, rfl, ⟨by omega, by omega⟩⟩
/-! StrikeAwake$Walk.firstWrong(LStrikeAwake$Parish;)I -/
theorem e74 : wq_en 74 = some (3, 3, false, some FieldType.int) := rfl
theorem c74_0 : mc_cd 74 0 = some (.iconst 0, 1) := by decide +kernel
theorem c74_1 : mc_cd 74 1 = some (.istore_n 2, 1) := by decide +kernel
theorem c74_2 : mc_cd 74 2 = some (.iload_n 2, 1) := by decide +kernel
theorem c74_3 : mc_cd 74 3 = some (.aload_n 1, 1) := by decide +kernel
theorem c74_4 : mc_cd 74 4 = some (.getfield 103, 3) := by decide +kernel
theorem c74_7 : mc_cd 74 7 = some (.if_icmp .ge 20, 3) := by decide +kernel
theorem c74_10 : mc_cd 74 10 = some (.aload_n 0, 1) := by decide +kernel
theorem c74_11 : mc_cd 74 11 = some (.aload_n 1, 1) := by decide +kernel
theorem c74_12 : mc_cd 74 12 = some (.iload_n 2, 1) := by decide +kernel
theorem c74_13 : mc_cd 74 13 = some (.invokevirtual 106, 3) := by decide +kernel
theorem c74_16 : mc_cd 74 16 = some (.ifCond .eq 5, 3) := by decide +kernel
theorem c74_19 : mc_cd 74 19 = some (.iload_n 2, 1) := by decide +kernel
theorem c74_20 : mc_cd 74 20 = some (.ireturn, 1) := by decide +kernel
theorem c74_21 : mc_cd 74 21 = some (.iinc 2 1, 3) := by decide +kernel
theorem c74_24 : mc_cd 74 24 = some (.goto (-22), 3) := by decide +kernel
theorem c74_27 : mc_cd 74 27 = some (.bipush (-2), 2) := by decide +kernel
theorem c74_29 : mc_cd 74 29 = some (.ireturn, 1) := by decide +kernel
abbrev q_74 (r0 : Nat) (r1 : Nat) (T : wq_T) (H : wq_H) : Option Value → wq_T → wq_H → Prop := fun r T' H' => T = T' ∧ H = H' ∧ ∃ z : Int, some (vI z) = r ∧ ((-2) ≤ z ∧ z ≤ 23)
set_option maxHeartbeats 4000000 in
theorem s_74 {kt : Nat → Option mc_E} {T : wq_T} {H : wq_H} {r0 : Nat} {r1 : Nat} (hW : WT T H) (g0 : T.2.2.2 r0 = some 6) (g1 : T.2.2.2 r1 = some 27) : wpc kt 3 74 [.ref r0, .ref r1] T H (q_74 r0 r1 T H) := by
  refine wp_enter e74 (Nat.le_of_ble_eq_true rfl) rfl ?_
  show wp _ _ 74 0 [(0, .ref r0), (1, .ref r1)] [] _ H _
  refine wp_of e74 c74_0 (rw_iconst (pc' := 1) rfl ?_)
  refine wp_of e74 c74_1 (rw_istore_n (pc' := 2) (z := 0) (L' := [(2, vI 0), (0, .ref r0), (1, .ref r1)]) rfl rfl rfl ?_)
  have lp19715 : ∀ (n19716 : Nat) (v19718 : Int), (0 ≤ v19718 ∧ v19718 ≤ 24) → (24 - v19718).toNat = n19716 → wp kt 2 74 2 [(2, vI v19718), (0, .ref r0), (1, .ref r1)] [] T H (q_74 r0 r1 T H) := by
    intro n19716
    induction n19716 using Nat.strongRecOn with
    | _ n19716 ih19717 =>
      intro v19718 b19721 m19722
      refine wp_of e74 c74_2 (rw_iload_n (pc' := 3) (z := v19718) rfl rfl ?_)
      refine wp_of e74 c74_3 (rw_aload_n (pc' := 4) (v := .ref r1) rfl rfl rfl ?_)
      refine wp_of e74 c74_4 (xg_I (pc' := 7) lf_3_103 hW g1 sh_27 (by decide) (by decide) ty_27_7 rfl rfl (fun b19723 b19724 => ?_))
      refine wp_of e74 c74_7 (rw_icmp_ge (p1 := 27) (p2 := 10) (by decide) rfl ⟨by omega, by omega⟩ ⟨by omega, by omega⟩ (fun c19725 => ?_) (fun c19725 => ?_))
      · refine wp_of e74 c74_27 (rw_bipush (pc' := 29) (z := -2) rfl (by decide) ?_)
        exact wp_ireturn e74 c74_29 rfl ⟨rfl, rfl, -2, rfl, ⟨by omega, by omega⟩⟩
      · refine wp_of e74 c74_10 (rw_aload_n (pc' := 11) (v := .ref r0) rfl rfl rfl ?_)
        refine wp_of e74 c74_11 (rw_aload_n (pc' := 12) (v := .ref r1) rfl rfl rfl ?_)
        refine wp_of e74 c74_12 (rw_iload_n (pc' := 13) (z := v19718) rfl rfl ?_)
        refine wp_of e74 c74_13 (xc_V (pc' := 16) (r := r0) (as := [.ref r1, vI v19718]) (st := []) (lm_3_106) rfl rfl (Nat.le_of_ble_eq_true rfl) hW g0 sh_6 (by decide) rfl (by decide) (s_75 hW g0 g1 ⟨by omega, by omega⟩) (fun R19726 T19727 H19728 p19729 => ?_))
        obtain ⟨e19730, e19732, z19733, e19731, b19734⟩ := p19729
        subst e19730
        subst e19731
        subst e19732
        show wp _ _ 74 16 [(2, vI v19718), (0, .ref r0), (1, .ref r1)] [vI z19733] _ H _
        refine wp_of e74 c74_16 (rw_if_eq (p1 := 21) (p2 := 19) (by decide) rfl ⟨by omega, by omega⟩ (fun c19735 => ?_) (fun c19735 => ?_))
        · refine wp_of e74 c74_21 (rw_iinc (pc' := 24) (z := v19718) (L' := [(2, vI (v19718 + 1)), (0, .ref r0), (1, .ref r1)]) rfl rfl rfl rfl ?_)
          refine wp_of e74 c74_24 (rw_goto (p1 := 2) (by decide) ?_)
          exact wp_lc (ks := [2, 0, 1]) (wl_c rfl (wl_c rfl (wl_c rfl wl_n))) rfl (by decide) (ih19717 _ (by omega) (v19718 + 1) ⟨by omega, by omega⟩ rfl)
        · refine wp_of e74 c74_19 (rw_iload_n (pc' := 20) (z := v19718) rfl rfl ?_)
          exact wp_ireturn e74 c74_20 rfl ⟨rfl, rfl, v19718, rfl, ⟨by omega, by omega⟩⟩
  exact wp_lc (ks := [2, 0, 1]) (wl_c rfl (wl_c rfl (wl_c rfl wl_n))) rfl (by decide) (lp19715 _ 0 ⟨by omega, by omega⟩ rfl)
/-! StrikeAwake.judge()I -/
theorem e73 : wq_en 73 = some (0, 2, false, some FieldType.int) := rfl
theorem c73_0 : mc_cd 73 0 = some (.aload_n 0, 1) := by decide +kernel
theorem c73_1 : mc_cd 73 1 = some (.aload_n 0, 1) := by decide +kernel
theorem c73_2 : mc_cd 73 2 = some (.getfield 58, 3) := by decide +kernel
theorem c73_5 : mc_cd 73 5 = some (.invokevirtual 155, 3) := by decide +kernel
theorem c73_8 : mc_cd 73 8 = some (.istore_n 1, 1) := by decide +kernel
theorem c73_9 : mc_cd 73 9 = some (.iload_n 1, 1) := by decide +kernel
theorem c73_10 : mc_cd 73 10 = some (.ifCond .eq 9, 3) := by decide +kernel
theorem c73_13 : mc_cd 73 13 = some (.aload_n 0, 1) := by decide +kernel
theorem c73_14 : mc_cd 73 14 = some (.iload_n 1, 1) := by decide +kernel
theorem c73_15 : mc_cd 73 15 = some (.invokevirtual 70, 3) := by decide +kernel
theorem c73_18 : mc_cd 73 18 = some (.ireturn, 1) := by decide +kernel
theorem c73_19 : mc_cd 73 19 = some (.aload_n 0, 1) := by decide +kernel
theorem c73_20 : mc_cd 73 20 = some (.aload_n 0, 1) := by decide +kernel
theorem c73_21 : mc_cd 73 21 = some (.getfield 23, 3) := by decide +kernel
theorem c73_24 : mc_cd 73 24 = some (.aload_n 0, 1) := by decide +kernel
theorem c73_25 : mc_cd 73 25 = some (.getfield 51, 3) := by decide +kernel
theorem c73_28 : mc_cd 73 28 = some (.invokevirtual 162, 3) := by decide +kernel
theorem c73_31 : mc_cd 73 31 = some (.invokevirtual 99, 3) := by decide +kernel
theorem c73_34 : mc_cd 73 34 = some (.ireturn, 1) := by decide +kernel
abbrev q_73 (r0 : Nat) (T : wq_T) (H : wq_H) : Option Value → wq_T → wq_H → Prop := fun r T' H' => T = T' ∧ WT T H' ∧ wfr [(1, 10), (6, 5), (8, 999), (10, 999), (9, 999), (7, 999), (11, 999)] T H H' ∧ ∃ z : Int, some (vI z) = r ∧ ((-2147483648) ≤ z ∧ z ≤ 2147483647) ∧ (H' r0 10 ≠ 4)
set_option maxHeartbeats 4000000 in
theorem s_73 {kt : Nat → Option mc_E} {T : wq_T} {H : wq_H} {r0 : Nat} (hW : WT T H) (g0 : T.2.2.2 r0 = some 1) : wpc kt 5 73 [.ref r0] T H (q_73 r0 T H) := by
  refine wp_enter e73 (Nat.le_of_ble_eq_true rfl) rfl ?_
  have f0 : wfr [(1, 10), (6, 5), (8, 999), (10, 999), (9, 999), (7, 999), (11, 999)] T H H := wfr.rf
  show wp _ _ 73 0 [(0, .ref r0)] [] _ H _
  refine wp_of e73 c73_0 (rw_aload_n (pc' := 1) (v := .ref r0) rfl rfl rfl ?_)
  refine wp_of e73 c73_1 (rw_aload_n (pc' := 2) (v := .ref r0) rfl rfl rfl ?_)
  refine wp_of e73 c73_2 (xg_I (pc' := 5) lf_0_58 hW g0 sh_1 (by decide) (by decide) ty_1_8 rfl rfl (fun b19791 b19792 => ?_))
  refine wp_of e73 c73_5 (xc_V (pc' := 8) (r := r0) (as := [vI (H r0 8)]) (st := []) (lm_0_155) rfl rfl (Nat.le_of_ble_eq_true rfl) hW g0 sh_1 (by decide) rfl (by decide) (s_67 hW g0 ⟨by omega, by omega⟩) (fun R19793 T19794 H19795 p19796 => ?_))
  obtain ⟨e19797, w19799, f19800, z19803, e19798, b19804, p19801, p19802⟩ := p19796
  subst e19797
  subst e19798
  have f19805 := f0.tr f19800 rfl
  show wp _ _ 73 8 [(0, .ref r0)] [vI z19803] _ H19795 _
  refine wp_of e73 c73_8 (rw_istore_n (pc' := 9) (z := z19803) (L' := [(1, vI z19803), (0, .ref r0)]) rfl rfl rfl ?_)
  refine wp_of e73 c73_9 (rw_iload_n (pc' := 10) (z := z19803) rfl rfl ?_)
  refine wp_of e73 c73_10 (rw_if_eq (p1 := 19) (p2 := 13) (by decide) rfl ⟨by omega, by omega⟩ (fun c19806 => ?_) (fun c19806 => ?_))
  · refine wp_of e73 c73_19 (rw_aload_n (pc' := 20) (v := .ref r0) rfl rfl rfl ?_)
    refine wp_of e73 c73_20 (rw_aload_n (pc' := 21) (v := .ref r0) rfl rfl rfl ?_)
    refine wp_of e73 c73_21 (xg_R (pc' := 24) lf_0_23 w19799 g0 sh_1 (by decide) (by decide) ty_1_2 rfl rfl (fun r19807 q19808 g19809 => ?_))
    refine wp_of e73 c73_24 (rw_aload_n (pc' := 25) (v := .ref r0) rfl rfl rfl ?_)
    refine wp_of e73 c73_25 (xg_R (pc' := 28) lf_0_51 w19799 g0 sh_1 (by decide) (by decide) ty_1_6 rfl rfl (fun r19810 q19811 g19812 => ?_))
    refine wp_of e73 c73_28 (xc_V (pc' := 31) (r := r19807) (as := [.ref r19810]) (st := [.ref r0]) (lm_0_162) rfl rfl (Nat.le_of_ble_eq_true rfl) w19799 g19809 sh_6 (by decide) rfl (by decide) (s_74 w19799 g19809 g19812) (fun R19813 T19814 H19815 p19816 => ?_))
    obtain ⟨e19817, e19819, z19820, e19818, b19821⟩ := p19816
    subst e19817
    subst e19818
    subst e19819
    show wp _ _ 73 31 [(1, vI z19803), (0, .ref r0)] [vI z19820, .ref r0] _ H19795 _
    refine wp_of e73 c73_31 (xc_V (pc' := 34) (r := r0) (as := [vI z19820]) (st := []) (lm_0_99) rfl rfl (Nat.le_of_ble_eq_true rfl) w19799 g0 sh_1 (by decide) rfl (by decide) (s_51 w19799 g0 ⟨by omega, by omega⟩) (fun R19822 T19823 H19824 p19825 => ?_))
    obtain ⟨e19826, w19828, f19829, z19831, e19827, b19832, p19830⟩ := p19825
    subst e19826
    subst e19827
    have f19833 := f19805.tr f19829 rfl
    show wp _ _ 73 34 [(1, vI z19803), (0, .ref r0)] [vI z19831] _ H19824 _
    exact wp_ireturn e73 c73_34 rfl ⟨rfl, w19828, f19833, z19831, rfl, ⟨by omega, by omega⟩, by omega⟩
  · refine wp_of e73 c73_13 (rw_aload_n (pc' := 14) (v := .ref r0) rfl rfl rfl ?_)
    refine wp_of e73 c73_14 (rw_iload_n (pc' := 15) (z := z19803) rfl rfl ?_)
    refine wp_of e73 c73_15 (xc_V (pc' := 18) (r := r0) (as := [vI z19803]) (st := []) (lm_0_70) rfl rfl (Nat.le_of_ble_eq_true rfl) w19799 g0 sh_1 (by decide) rfl (by decide) (s_12 w19799 g0 ⟨by omega, by omega⟩) (fun R19834 T19835 H19836 p19837 => ?_))
    obtain ⟨e19838, w19840, f19841, z19843, e19839, b19844, p19842⟩ := p19837
    subst e19838
    subst e19839
    have f19845 := f19805.tr f19841 rfl
    show wp _ _ 73 18 [(1, vI z19803), (0, .ref r0)] [vI z19843] _ H19836 _
    exact wp_ireturn e73 c73_18 rfl ⟨rfl, w19840, f19845, z19843, rfl, ⟨by omega, by omega⟩, by omega⟩
/-! StrikeAwake.why()I -/
theorem e77 : wq_en 77 = some (0, 3, false, some FieldType.int) := rfl
theorem c77_0 : mc_cd 77 0 = some (.aload_n 0, 1) := by decide +kernel
theorem c77_1 : mc_cd 77 1 = some (.aload_n 0, 1) := by decide +kernel
theorem c77_2 : mc_cd 77 2 = some (.getfield 58, 3) := by decide +kernel
theorem c77_5 : mc_cd 77 5 = some (.invokevirtual 155, 3) := by decide +kernel
theorem c77_8 : mc_cd 77 8 = some (.istore_n 1, 1) := by decide +kernel
theorem c77_9 : mc_cd 77 9 = some (.iload_n 1, 1) := by decide +kernel
theorem c77_10 : mc_cd 77 10 = some (.ifCond .eq 9, 3) := by decide +kernel
theorem c77_13 : mc_cd 77 13 = some (.aload_n 0, 1) := by decide +kernel
theorem c77_14 : mc_cd 77 14 = some (.iload_n 1, 1) := by decide +kernel
theorem c77_15 : mc_cd 77 15 = some (.invokevirtual 70, 3) := by decide +kernel
theorem c77_18 : mc_cd 77 18 = some (.ireturn, 1) := by decide +kernel
theorem c77_19 : mc_cd 77 19 = some (.aload_n 0, 1) := by decide +kernel
theorem c77_20 : mc_cd 77 20 = some (.getfield 23, 3) := by decide +kernel
theorem c77_23 : mc_cd 77 23 = some (.aload_n 0, 1) := by decide +kernel
theorem c77_24 : mc_cd 77 24 = some (.getfield 51, 3) := by decide +kernel
theorem c77_27 : mc_cd 77 27 = some (.invokevirtual 162, 3) := by decide +kernel
theorem c77_30 : mc_cd 77 30 = some (.istore_n 2, 1) := by decide +kernel
theorem c77_31 : mc_cd 77 31 = some (.aload_n 0, 1) := by decide +kernel
theorem c77_32 : mc_cd 77 32 = some (.iload_n 2, 1) := by decide +kernel
theorem c77_33 : mc_cd 77 33 = some (.ifCond .ge 7, 3) := by decide +kernel
theorem c77_36 : mc_cd 77 36 = some (.iconst 0, 1) := by decide +kernel
theorem c77_37 : mc_cd 77 37 = some (.goto 15, 3) := by decide +kernel
theorem c77_40 : mc_cd 77 40 = some (.aload_n 0, 1) := by decide +kernel
theorem c77_41 : mc_cd 77 41 = some (.getfield 23, 3) := by decide +kernel
theorem c77_44 : mc_cd 77 44 = some (.aload_n 0, 1) := by decide +kernel
theorem c77_45 : mc_cd 77 45 = some (.getfield 51, 3) := by decide +kernel
theorem c77_48 : mc_cd 77 48 = some (.iload_n 2, 1) := by decide +kernel
theorem c77_49 : mc_cd 77 49 = some (.invokevirtual 166, 3) := by decide +kernel
theorem c77_52 : mc_cd 77 52 = some (.invokevirtual 99, 3) := by decide +kernel
theorem c77_55 : mc_cd 77 55 = some (.ireturn, 1) := by decide +kernel
abbrev q_77 (r0 : Nat) (T : wq_T) (H : wq_H) : Option Value → wq_T → wq_H → Prop := fun r T' H' => T = T' ∧ WT T H' ∧ wfr [(1, 10), (6, 5), (8, 999), (10, 999), (9, 999), (7, 999), (11, 999)] T H H' ∧ ∃ z : Int, some (vI z) = r ∧ ((-2147483648) ≤ z ∧ z ≤ 2147483647) ∧ (H' r0 10 ≠ 4)
set_option maxHeartbeats 4000000 in
theorem s_77 {kt : Nat → Option mc_E} {T : wq_T} {H : wq_H} {r0 : Nat} (hW : WT T H) (g0 : T.2.2.2 r0 = some 1) : wpc kt 5 77 [.ref r0] T H (q_77 r0 T H) := by
  refine wp_enter e77 (Nat.le_of_ble_eq_true rfl) rfl ?_
  have f0 : wfr [(1, 10), (6, 5), (8, 999), (10, 999), (9, 999), (7, 999), (11, 999)] T H H := wfr.rf
  show wp _ _ 77 0 [(0, .ref r0)] [] _ H _
  refine wp_of e77 c77_0 (rw_aload_n (pc' := 1) (v := .ref r0) rfl rfl rfl ?_)
  refine wp_of e77 c77_1 (rw_aload_n (pc' := 2) (v := .ref r0) rfl rfl rfl ?_)
  refine wp_of e77 c77_2 (xg_I (pc' := 5) lf_0_58 hW g0 sh_1 (by decide) (by decide) ty_1_8 rfl rfl (fun b19923 b19924 => ?_))
  refine wp_of e77 c77_5 (xc_V (pc' := 8) (r := r0) (as := [vI (H r0 8)]) (st := []) (lm_0_155) rfl rfl (Nat.le_of_ble_eq_true rfl) hW g0 sh_1 (by decide) rfl (by decide) (s_67 hW g0 ⟨by omega, by omega⟩) (fun R19925 T19926 H19927 p19928 => ?_))
  obtain ⟨e19929, w19931, f19932, z19935, e19930, b19936, p19933, p19934⟩ := p19928
  subst e19929
  subst e19930
  have f19937 := f0.tr f19932 rfl
  show wp _ _ 77 8 [(0, .ref r0)] [vI z19935] _ H19927 _
  refine wp_of e77 c77_8 (rw_istore_n (pc' := 9) (z := z19935) (L' := [(1, vI z19935), (0, .ref r0)]) rfl rfl rfl ?_)
  refine wp_of e77 c77_9 (rw_iload_n (pc' := 10) (z := z19935) rfl rfl ?_)
  refine wp_of e77 c77_10 (rw_if_eq (p1 := 19) (p2 := 13) (by decide) rfl ⟨by omega, by omega⟩ (fun c19938 => ?_) (fun c19938 => ?_))
  · refine wp_of e77 c77_19 (rw_aload_n (pc' := 20) (v := .ref r0) rfl rfl rfl ?_)
    refine wp_of e77 c77_20 (xg_R (pc' := 23) lf_0_23 w19931 g0 sh_1 (by decide) (by decide) ty_1_2 rfl rfl (fun r19939 q19940 g19941 => ?_))
    refine wp_of e77 c77_23 (rw_aload_n (pc' := 24) (v := .ref r0) rfl rfl rfl ?_)
    refine wp_of e77 c77_24 (xg_R (pc' := 27) lf_0_51 w19931 g0 sh_1 (by decide) (by decide) ty_1_6 rfl rfl (fun r19942 q19943 g19944 => ?_))
    refine wp_of e77 c77_27 (xc_V (pc' := 30) (r := r19939) (as := [.ref r19942]) (st := []) (lm_0_162) rfl rfl (Nat.le_of_ble_eq_true rfl) w19931 g19941 sh_6 (by decide) rfl (by decide) (s_74 w19931 g19941 g19944) (fun R19945 T19946 H19947 p19948 => ?_))
    obtain ⟨e19949, e19951, z19952, e19950, b19953⟩ := p19948
    subst e19949
    subst e19950
    subst e19951
    show wp _ _ 77 30 [(1, vI z19935), (0, .ref r0)] [vI z19952] _ H19927 _
    refine wp_of e77 c77_30 (rw_istore_n (pc' := 31) (z := z19952) (L' := [(2, vI z19952), (1, vI z19935), (0, .ref r0)]) rfl rfl rfl ?_)
    refine wp_of e77 c77_31 (rw_aload_n (pc' := 32) (v := .ref r0) rfl rfl rfl ?_)
    refine wp_of e77 c77_32 (rw_iload_n (pc' := 33) (z := z19952) rfl rfl ?_)
    refine wp_of e77 c77_33 (rw_if_ge (p1 := 40) (p2 := 36) (by decide) rfl ⟨by omega, by omega⟩ (fun c19954 => ?_) (fun c19954 => ?_))
    · refine wp_of e77 c77_40 (rw_aload_n (pc' := 41) (v := .ref r0) rfl rfl rfl ?_)
      refine wp_of e77 c77_41 (xg_K (pc' := 44) lf_0_23 w19931 g0 sh_1 (by decide) (by decide) rfl q19940 rfl ?_)
      refine wp_of e77 c77_44 (rw_aload_n (pc' := 45) (v := .ref r0) rfl rfl rfl ?_)
      refine wp_of e77 c77_45 (xg_K (pc' := 48) lf_0_51 w19931 g0 sh_1 (by decide) (by decide) rfl q19943 rfl ?_)
      refine wp_of e77 c77_48 (rw_iload_n (pc' := 49) (z := z19952) rfl rfl ?_)
      refine wp_of e77 c77_49 (xc_V (pc' := 52) (r := r19939) (as := [.ref r19942, vI z19952]) (st := [.ref r0]) (lm_0_166) rfl rfl (Nat.le_of_ble_eq_true rfl) w19931 g19941 sh_6 (by decide) rfl (by decide) (s_75 w19931 g19941 g19944 ⟨by omega, by omega⟩) (fun R19955 T19956 H19957 p19958 => ?_))
      obtain ⟨e19959, e19961, z19962, e19960, b19963⟩ := p19958
      subst e19959
      subst e19960
      subst e19961
      show wp _ _ 77 52 [(2, vI z19952), (1, vI z19935), (0, .ref r0)] [vI z19962, .ref r0] _ H19927 _
      refine wp_of e77 c77_52 (xc_V (pc' := 55) (r := r0) (as := [vI z19962]) (st := []) (lm_0_99) rfl rfl (Nat.le_of_ble_eq_true rfl) w19931 g0 sh_1 (by decide) rfl (by decide) (s_51 w19931 g0 ⟨by omega, by omega⟩) (fun R19964 T19965 H19966 p19967 => ?_))
      obtain ⟨e19968, w19970, f19971, z19973, e19969, b19974, p19972⟩ := p19967
      subst e19968
      subst e19969
      have f19975 := f19937.tr f19971 rfl
      show wp _ _ 77 55 [(2, vI z19952), (1, vI z19935), (0, .ref r0)] [vI z19973] _ H19966 _
      exact wp_ireturn e77 c77_55 rfl ⟨rfl, w19970, f19975, z19973, rfl, ⟨by omega, by omega⟩, by omega⟩
    · refine wp_of e77 c77_36 (rw_iconst (pc' := 37) rfl ?_)
      refine wp_of e77 c77_37 (rw_goto (p1 := 52) (by decide) ?_)
      refine wp_of e77 c77_52 (xc_V (pc' := 55) (r := r0) (as := [vI 0]) (st := []) (lm_0_99) rfl rfl (Nat.le_of_ble_eq_true rfl) w19931 g0 sh_1 (by decide) rfl (by decide) (s_51 w19931 g0 ⟨by omega, by omega⟩) (fun R19976 T19977 H19978 p19979 => ?_))
      obtain ⟨e19980, w19982, f19983, z19985, e19981, b19986, p19984⟩ := p19979
      subst e19980
      subst e19981
      have f19987 := f19937.tr f19983 rfl
      show wp _ _ 77 55 [(2, vI z19952), (1, vI z19935), (0, .ref r0)] [vI z19985] _ H19978 _
      exact wp_ireturn e77 c77_55 rfl ⟨rfl, w19982, f19987, z19985, rfl, ⟨by omega, by omega⟩, by omega⟩
  · refine wp_of e77 c77_13 (rw_aload_n (pc' := 14) (v := .ref r0) rfl rfl rfl ?_)
    refine wp_of e77 c77_14 (rw_iload_n (pc' := 15) (z := z19935) rfl rfl ?_)
    refine wp_of e77 c77_15 (xc_V (pc' := 18) (r := r0) (as := [vI z19935]) (st := []) (lm_0_70) rfl rfl (Nat.le_of_ble_eq_true rfl) w19931 g0 sh_1 (by decide) rfl (by decide) (s_12 w19931 g0 ⟨by omega, by omega⟩) (fun R19988 T19989 H19990 p19991 => ?_))
    obtain ⟨e19992, w19994, f19995, z19997, e19993, b19998, p19996⟩ := p19991
    subst e19992
    subst e19993
    have f19999 := f19937.tr f19995 rfl
    show wp _ _ 77 18 [(1, vI z19935), (0, .ref r0)] [vI z19997] _ H19990 _
    exact wp_ireturn e77 c77_18 rfl ⟨rfl, w19994, f19999, z19997, rfl, ⟨by omega, by omega⟩, by omega⟩
/-! StrikeAwake$Walk.isQuarrel()Z -/
theorem e80 : wq_en 80 = some (3, 1, false, some FieldType.boolean) := rfl
theorem c80_0 : mc_cd 80 0 = some (.aload_n 0, 1) := by decide +kernel
theorem c80_1 : mc_cd 80 1 = some (.getfield 25, 3) := by decide +kernel
theorem c80_4 : mc_cd 80 4 = some (.aload_n 0, 1) := by decide +kernel
theorem c80_5 : mc_cd 80 5 = some (.getfield 51, 3) := by decide +kernel
theorem c80_8 : mc_cd 80 8 = some (.iaload, 1) := by decide +kernel
theorem c80_9 : mc_cd 80 9 = some (.ifCond .eq 7, 3) := by decide +kernel
theorem c80_12 : mc_cd 80 12 = some (.iconst 1, 1) := by decide +kernel
theorem c80_13 : mc_cd 80 13 = some (.goto 4, 3) := by decide +kernel
theorem c80_16 : mc_cd 80 16 = some (.iconst 0, 1) := by decide +kernel
theorem c80_17 : mc_cd 80 17 = some (.ireturn, 1) := by decide +kernel
abbrev q_80 (r0 : Nat) (T : wq_T) (H : wq_H) : Option Value → wq_T → wq_H → Prop := fun r T' H' => T = T' ∧ H = H' ∧ ∃ z : Int, some (vI z) = r ∧ (0 ≤ z ∧ z ≤ 1)
set_option maxHeartbeats 4000000 in
theorem s_80 {kt : Nat → Option mc_E} {T : wq_T} {H : wq_H} {r0 : Nat} (hW : WT T H) (g0 : T.2.2.2 r0 = some 6) : wpc kt 1 80 [.ref r0] T H (q_80 r0 T H) := by
  refine wp_enter e80 (Nat.le_of_ble_eq_true rfl) rfl ?_
  show wp _ _ 80 0 [(0, .ref r0)] [] _ H _
  refine wp_of e80 c80_0 (rw_aload_n (pc' := 1) (v := .ref r0) rfl rfl rfl ?_)
  refine wp_of e80 c80_1 (xg_R (pc' := 4) lf_3_25 hW g0 sh_6 (by decide) (by decide) ty_6_4 rfl rfl (fun r20008 q20009 g20010 => ?_))
  refine wp_of e80 c80_4 (rw_aload_n (pc' := 5) (v := .ref r0) rfl rfl rfl ?_)
  refine wp_of e80 c80_5 (xg_I (pc' := 8) lf_3_51 hW g0 sh_6 (by decide) (by decide) ty_6_5 rfl rfl (fun b20011 b20012 => ?_))
  refine wp_of e80 c80_8 (xa_I (so := 0) (pc' := 9) hW g20010 sh_11 (by decide) (ty_11 _) (by omega) (by omega) rfl (fun b20013 b20014 => ?_))
  refine wp_of e80 c80_9 (rw_if_eq (p1 := 16) (p2 := 12) (by decide) rfl ⟨by omega, by omega⟩ (fun c20015 => ?_) (fun c20015 => ?_))
  · refine wp_of e80 c80_16 (rw_iconst (pc' := 17) rfl ?_)
    exact wp_zreturn e80 c80_17 rfl (by omega) ⟨rfl, rfl, 0, rfl, ⟨by omega, by omega⟩⟩
  · refine wp_of e80 c80_12 (rw_iconst (pc' := 13) rfl ?_)
    refine wp_of e80 c80_13 (rw_goto (p1 := 17) (by decide) ?_)
    exact wp_zreturn e80 c80_17 rfl (by omega) ⟨rfl, rfl, 1, rfl, ⟨by omega, by omega⟩⟩
/-! StrikeAwake$Walk.failsIn(LStrikeAwake$Parish;)I -/
theorem e81 : wq_en 81 = some (3, 6, false, some FieldType.int) := rfl
theorem c81_0 : mc_cd 81 0 = some (.iconst 0, 1) := by decide +kernel
theorem c81_1 : mc_cd 81 1 = some (.istore_n 2, 1) := by decide +kernel
theorem c81_2 : mc_cd 81 2 = some (.iconst 0, 1) := by decide +kernel
theorem c81_3 : mc_cd 81 3 = some (.istore_n 3, 1) := by decide +kernel
theorem c81_4 : mc_cd 81 4 = some (.iload_n 3, 1) := by decide +kernel
theorem c81_5 : mc_cd 81 5 = some (.aload_n 1, 1) := by decide +kernel
theorem c81_6 : mc_cd 81 6 = some (.getfield 109, 3) := by decide +kernel
theorem c81_9 : mc_cd 81 9 = some (.if_icmp .ge 57, 3) := by decide +kernel
theorem c81_12 : mc_cd 81 12 = some (.aload_n 1, 1) := by decide +kernel
theorem c81_13 : mc_cd 81 13 = some (.getfield 112, 3) := by decide +kernel
theorem c81_16 : mc_cd 81 16 = some (.iload_n 3, 1) := by decide +kernel
theorem c81_17 : mc_cd 81 17 = some (.iaload, 1) := by decide +kernel
theorem c81_18 : mc_cd 81 18 = some (.istore 4, 2) := by decide +kernel
theorem c81_20 : mc_cd 81 20 = some (.aload_n 1, 1) := by decide +kernel
theorem c81_21 : mc_cd 81 21 = some (.iload 4, 2) := by decide +kernel
theorem c81_23 : mc_cd 81 23 = some (.aload_n 0, 1) := by decide +kernel
theorem c81_24 : mc_cd 81 24 = some (.iload 4, 2) := by decide +kernel
theorem c81_26 : mc_cd 81 26 = some (.invokevirtual 92, 3) := by decide +kernel
theorem c81_29 : mc_cd 81 29 = some (.invokevirtual 96, 3) := by decide +kernel
theorem c81_32 : mc_cd 81 32 = some (.istore 5, 2) := by decide +kernel
theorem c81_34 : mc_cd 81 34 = some (.iload 5, 2) := by decide +kernel
theorem c81_36 : mc_cd 81 36 = some (.iconst 1, 1) := by decide +kernel
theorem c81_37 : mc_cd 81 37 = some (.if_icmp .ne 6, 3) := by decide +kernel
theorem c81_40 : mc_cd 81 40 = some (.iinc 2 1, 3) := by decide +kernel
theorem c81_43 : mc_cd 81 43 = some (.iload 5, 2) := by decide +kernel
theorem c81_45 : mc_cd 81 45 = some (.iconst 2, 1) := by decide +kernel
theorem c81_46 : mc_cd 81 46 = some (.if_icmp .eq 11, 3) := by decide +kernel
theorem c81_49 : mc_cd 81 49 = some (.iload_n 2, 1) := by decide +kernel
theorem c81_50 : mc_cd 81 50 = some (.aload_n 1, 1) := by decide +kernel
theorem c81_51 : mc_cd 81 51 = some (.getfield 115, 3) := by decide +kernel
theorem c81_54 : mc_cd 81 54 = some (.if_icmp .le 6, 3) := by decide +kernel
theorem c81_57 : mc_cd 81 57 = some (.iload 4, 2) := by decide +kernel
theorem c81_59 : mc_cd 81 59 = some (.ireturn, 1) := by decide +kernel
theorem c81_60 : mc_cd 81 60 = some (.iinc 3 1, 3) := by decide +kernel
theorem c81_63 : mc_cd 81 63 = some (.goto (-59), 3) := by decide +kernel
theorem c81_66 : mc_cd 81 66 = some (.bipush 24, 2) := by decide +kernel
theorem c81_68 : mc_cd 81 68 = some (.ireturn, 1) := by decide +kernel
abbrev q_81 (r0 : Nat) (r1 : Nat) (T : wq_T) (H : wq_H) : Option Value → wq_T → wq_H → Prop := fun r T' H' => T = T' ∧ H = H' ∧ ∃ z : Int, some (vI z) = r ∧ (0 ≤ z ∧ z ≤ 24)
set_option maxHeartbeats 4000000 in
theorem s_81 {kt : Nat → Option mc_E} {T : wq_T} {H : wq_H} {r0 : Nat} {r1 : Nat} (hW : WT T H) (g0 : T.2.2.2 r0 = some 6) (g1 : T.2.2.2 r1 = some 27) : wpc kt 2 81 [.ref r0, .ref r1] T H (q_81 r0 r1 T H) := by
  refine wp_enter e81 (Nat.le_of_ble_eq_true rfl) rfl ?_
  show wp _ _ 81 0 [(0, .ref r0), (1, .ref r1)] [] _ H _
  refine wp_of e81 c81_0 (rw_iconst (pc' := 1) rfl ?_)
  refine wp_of e81 c81_1 (rw_istore_n (pc' := 2) (z := 0) (L' := [(2, vI 0), (0, .ref r0), (1, .ref r1)]) rfl rfl rfl ?_)
  refine wp_of e81 c81_2 (rw_iconst (pc' := 3) rfl ?_)
  refine wp_of e81 c81_3 (rw_istore_n (pc' := 4) (z := 0) (L' := [(3, vI 0), (2, vI 0), (0, .ref r0), (1, .ref r1)]) rfl rfl rfl ?_)
  have lp20612 : ∀ (n20613 : Nat) (v20615 : Int) (v20616 : Int), (0 ≤ v20615 ∧ v20615 ≤ 24) → (0 ≤ v20616 ∧ v20616 ≤ 24) → (v20616 ≤ v20615) → (24 - v20615).toNat = n20613 → wp kt 1 81 4 [(3, vI v20615), (2, vI v20616), (0, .ref r0), (1, .ref r1)] [] T H (q_81 r0 r1 T H) := by
    intro n20613
    induction n20613 using Nat.strongRecOn with
    | _ n20613 ih20614 =>
      intro v20615 v20616 b20619 b20620 x20621 m20622
      refine wp_of e81 c81_4 (rw_iload_n (pc' := 5) (z := v20615) rfl rfl ?_)
      refine wp_of e81 c81_5 (rw_aload_n (pc' := 6) (v := .ref r1) rfl rfl rfl ?_)
      refine wp_of e81 c81_6 (xg_I (pc' := 9) lf_3_109 hW g1 sh_27 (by decide) (by decide) ty_27_16 rfl rfl (fun b20623 b20624 => ?_))
      refine wp_of e81 c81_9 (rw_icmp_ge (p1 := 66) (p2 := 12) (by decide) rfl ⟨by omega, by omega⟩ ⟨by omega, by omega⟩ (fun c20625 => ?_) (fun c20625 => ?_))
      · refine wp_of e81 c81_66 (rw_bipush (pc' := 68) (z := 24) rfl (by decide) ?_)
        exact wp_ireturn e81 c81_68 rfl ⟨rfl, rfl, 24, rfl, ⟨by omega, by omega⟩⟩
      · refine wp_of e81 c81_12 (rw_aload_n (pc' := 13) (v := .ref r1) rfl rfl rfl ?_)
        refine wp_of e81 c81_13 (xg_R (pc' := 16) lf_3_112 hW g1 sh_27 (by decide) (by decide) ty_27_2 rfl rfl (fun r20626 q20627 g20628 => ?_))
        refine wp_of e81 c81_16 (rw_iload_n (pc' := 17) (z := v20615) rfl rfl ?_)
        refine wp_of e81 c81_17 (xa_I (so := 0) (pc' := 18) hW g20628 sh_30 (by decide) (ty_30 _) (by omega) (by omega) rfl (fun b20629 b20630 => ?_))
        refine wp_of e81 c81_18 (rw_istore (pc' := 20) (z := H r20626 (v20615.toNat)) (L' := [(4, vI (H r20626 (v20615.toNat))), (3, vI v20615), (2, vI v20616), (0, .ref r0), (1, .ref r1)]) rfl rfl rfl ?_)
        refine wp_of e81 c81_20 (rw_aload_n (pc' := 21) (v := .ref r1) rfl rfl rfl ?_)
        refine wp_of e81 c81_21 (rw_iload (pc' := 23) (z := H r20626 (v20615.toNat)) rfl rfl ?_)
        refine wp_of e81 c81_23 (rw_aload_n (pc' := 24) (v := .ref r0) rfl rfl rfl ?_)
        refine wp_of e81 c81_24 (rw_iload (pc' := 26) (z := H r20626 (v20615.toNat)) rfl rfl ?_)
        refine wp_of e81 c81_26 (xc_V (pc' := 29) (r := r0) (as := [vI (H r20626 (v20615.toNat))]) (st := [vI (H r20626 (v20615.toNat)), .ref r1]) (lm_3_92) rfl rfl (Nat.le_of_ble_eq_true rfl) hW g0 sh_6 (by decide) rfl (by decide) (s_72 hW g0 ⟨by omega, by omega⟩) (fun R20631 T20632 H20633 p20634 => ?_))
        obtain ⟨e20635, e20637, z20638, e20636, b20639⟩ := p20634
        subst e20635
        subst e20636
        subst e20637
        show wp _ _ 81 29 [(4, vI (H r20626 (v20615.toNat))), (3, vI v20615), (2, vI v20616), (0, .ref r0), (1, .ref r1)] [vI z20638, vI (H r20626 (v20615.toNat)), .ref r1] _ H _
        refine wp_of e81 c81_29 (xc_V (pc' := 32) (r := r1) (as := [vI (H r20626 (v20615.toNat)), vI z20638]) (st := []) (lm_3_96) rfl rfl (Nat.le_of_ble_eq_true rfl) hW g1 sh_27 (by decide) rfl (by decide) (s_76 hW g1 ⟨by omega, by omega⟩ ⟨by omega, by omega⟩) (fun R20640 T20641 H20642 p20643 => ?_))
        obtain ⟨e20644, e20646, z20647, e20645, b20648⟩ := p20643
        subst e20644
        subst e20645
        subst e20646
        show wp _ _ 81 32 [(4, vI (H r20626 (v20615.toNat))), (3, vI v20615), (2, vI v20616), (0, .ref r0), (1, .ref r1)] [vI z20647] _ H _
        refine wp_of e81 c81_32 (rw_istore (pc' := 34) (z := z20647) (L' := [(5, vI z20647), (4, vI (H r20626 (v20615.toNat))), (3, vI v20615), (2, vI v20616), (0, .ref r0), (1, .ref r1)]) rfl rfl rfl ?_)
        refine wp_of e81 c81_34 (rw_iload (pc' := 36) (z := z20647) rfl rfl ?_)
        refine wp_of e81 c81_36 (rw_iconst (pc' := 37) rfl ?_)
        refine wp_of e81 c81_37 (rw_icmp_ne (p1 := 43) (p2 := 40) (by decide) rfl ⟨by omega, by omega⟩ ⟨by omega, by omega⟩ (fun c20649 => ?_) (fun c20649 => ?_))
        · refine wp_of e81 c81_43 (rw_iload (pc' := 45) (z := z20647) rfl rfl ?_)
          refine wp_of e81 c81_45 (rw_iconst (pc' := 46) rfl ?_)
          refine wp_of e81 c81_46 (rw_icmp_eq (p1 := 57) (p2 := 49) (by decide) rfl ⟨by omega, by omega⟩ ⟨by omega, by omega⟩ (fun c20650 => ?_) (fun c20650 => ?_))
          · refine wp_of e81 c81_57 (rw_iload (pc' := 59) (z := H r20626 (v20615.toNat)) rfl rfl ?_)
            exact wp_ireturn e81 c81_59 rfl ⟨rfl, rfl, H r20626 (v20615.toNat), rfl, ⟨by omega, by omega⟩⟩
          · refine wp_of e81 c81_49 (rw_iload_n (pc' := 50) (z := v20616) rfl rfl ?_)
            refine wp_of e81 c81_50 (rw_aload_n (pc' := 51) (v := .ref r1) rfl rfl rfl ?_)
            refine wp_of e81 c81_51 (xg_I (pc' := 54) lf_3_115 hW g1 sh_27 (by decide) (by decide) ty_27_9 rfl rfl (fun b20651 b20652 => ?_))
            refine wp_of e81 c81_54 (rw_icmp_le (p1 := 60) (p2 := 57) (by decide) rfl ⟨by omega, by omega⟩ ⟨by omega, by omega⟩ (fun c20653 => ?_) (fun c20653 => ?_))
            · refine wp_of e81 c81_60 (rw_iinc (pc' := 63) (z := v20615) (L' := [(3, vI (v20615 + 1)), (5, vI z20647), (4, vI (H r20626 (v20615.toNat))), (2, vI v20616), (0, .ref r0), (1, .ref r1)]) rfl rfl rfl rfl ?_)
              refine wp_of e81 c81_63 (rw_goto (p1 := 4) (by decide) ?_)
              exact wp_lc (ks := [3, 5, 4, 2, 0, 1]) (wl_c rfl (wl_c rfl (wl_c rfl (wl_c rfl wl_n)))) rfl (by decide) (ih20614 _ (by omega) (v20615 + 1) v20616 ⟨by omega, by omega⟩ ⟨by omega, by omega⟩ (by omega) rfl)
            · refine wp_of e81 c81_57 (rw_iload (pc' := 59) (z := H r20626 (v20615.toNat)) rfl rfl ?_)
              exact wp_ireturn e81 c81_59 rfl ⟨rfl, rfl, H r20626 (v20615.toNat), rfl, ⟨by omega, by omega⟩⟩
        · refine wp_of e81 c81_40 (rw_iinc (pc' := 43) (z := v20616) (L' := [(2, vI (v20616 + 1)), (5, vI z20647), (4, vI (H r20626 (v20615.toNat))), (3, vI v20615), (0, .ref r0), (1, .ref r1)]) rfl rfl rfl rfl ?_)
          refine wp_of e81 c81_43 (rw_iload (pc' := 45) (z := z20647) rfl rfl ?_)
          refine wp_of e81 c81_45 (rw_iconst (pc' := 46) rfl ?_)
          refine wp_of e81 c81_46 (rw_icmp_eq (p1 := 57) (p2 := 49) (by decide) rfl ⟨by omega, by omega⟩ ⟨by omega, by omega⟩ (fun c20654 => ?_) (fun c20654 => ?_))
          · exfalso
            omega
          · refine wp_of e81 c81_49 (rw_iload_n (pc' := 50) (z := v20616 + 1) rfl rfl ?_)
            refine wp_of e81 c81_50 (rw_aload_n (pc' := 51) (v := .ref r1) rfl rfl rfl ?_)
            refine wp_of e81 c81_51 (xg_I (pc' := 54) lf_3_115 hW g1 sh_27 (by decide) (by decide) ty_27_9 rfl rfl (fun b20655 b20656 => ?_))
            refine wp_of e81 c81_54 (rw_icmp_le (p1 := 60) (p2 := 57) (by decide) rfl ⟨by omega, by omega⟩ ⟨by omega, by omega⟩ (fun c20657 => ?_) (fun c20657 => ?_))
            · refine wp_of e81 c81_60 (rw_iinc (pc' := 63) (z := v20615) (L' := [(3, vI (v20615 + 1)), (2, vI (v20616 + 1)), (5, vI z20647), (4, vI (H r20626 (v20615.toNat))), (0, .ref r0), (1, .ref r1)]) rfl rfl rfl rfl ?_)
              refine wp_of e81 c81_63 (rw_goto (p1 := 4) (by decide) ?_)
              exact wp_lc (ks := [3, 2, 5, 4, 0, 1]) (wl_c rfl (wl_c rfl (wl_c rfl (wl_c rfl wl_n)))) rfl (by decide) (ih20614 _ (by omega) (v20615 + 1) (v20616 + 1) ⟨by omega, by omega⟩ ⟨by omega, by omega⟩ (by omega) rfl)
            · refine wp_of e81 c81_57 (rw_iload (pc' := 59) (z := H r20626 (v20615.toNat)) rfl rfl ?_)
              exact wp_ireturn e81 c81_59 rfl ⟨rfl, rfl, H r20626 (v20615.toNat), rfl, ⟨by omega, by omega⟩⟩
  exact wp_lc (ks := [3, 2, 0, 1]) (wl_c rfl (wl_c rfl (wl_c rfl (wl_c rfl wl_n)))) rfl (by decide) (lp20612 _ 0 0 ⟨by omega, by omega⟩ ⟨by omega, by omega⟩ (by omega) rfl)
