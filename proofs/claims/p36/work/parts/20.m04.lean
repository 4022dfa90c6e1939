/-! methods (own work, written by wip/gen2/sx.py) -/
/-! StrikeAwake.isHour(I)Z -/
theorem e60 : wq_en 60 = some (0, 2, false, some FieldType.boolean) := rfl
theorem cg60_0 : mc_cd 60 0 = some (.iload_n 1, 1) ∧ mc_cd 60 1 = some (.ifCond .lt 18, 3) ∧ mc_cd 60 4 = some (.iload_n 1, 1) ∧ mc_cd 60 5 = some (.aload_n 0, 1) ∧ mc_cd 60 6 = some (.getfield 51, 3) ∧ mc_cd 60 9 = some (.getfield 339, 3) ∧ mc_cd 60 12 = some (.if_icmp .ge 7, 3) ∧ mc_cd 60 15 = some (.iconst 1, 1) := by decide +kernel
theorem c60_0 : mc_cd 60 0 = some (.iload_n 1, 1) := cg60_0.1
theorem c60_1 : mc_cd 60 1 = some (.ifCond .lt 18, 3) := cg60_0.2.1
theorem c60_4 : mc_cd 60 4 = some (.iload_n 1, 1) := cg60_0.2.2.1
theorem c60_5 : mc_cd 60 5 = some (.aload_n 0, 1) := cg60_0.2.2.2.1
theorem c60_6 : mc_cd 60 6 = some (.getfield 51, 3) := cg60_0.2.2.2.2.1
theorem c60_9 : mc_cd 60 9 = some (.getfield 339, 3) := cg60_0.2.2.2.2.2.1
theorem c60_12 : mc_cd 60 12 = some (.if_icmp .ge 7, 3) := cg60_0.2.2.2.2.2.2.1
theorem c60_15 : mc_cd 60 15 = some (.iconst 1, 1) := cg60_0.2.2.2.2.2.2.2
theorem cg60_16 : mc_cd 60 16 = some (.goto 4, 3) ∧ mc_cd 60 19 = some (.iconst 0, 1) ∧ mc_cd 60 20 = some (.ireturn, 1) := by decide +kernel
theorem c60_16 : mc_cd 60 16 = some (.goto 4, 3) := cg60_16.1
theorem c60_19 : mc_cd 60 19 = some (.iconst 0, 1) := cg60_16.2.1
theorem c60_20 : mc_cd 60 20 = some (.ireturn, 1) := cg60_16.2.2
abbrev q_60 (r0 : Nat) (a1 : Int) (T : wq_T) (H : wq_H) : Option Value → wq_T → wq_H → Prop := fun r T' H' => T = T' ∧ H = H' ∧ ∃ z : Int, some (vI z) = r ∧ (0 ≤ z ∧ z ≤ 1) ∧ (z = 0 ∨ (0 ≤ a1 ∧ a1 ≤ 23))
set_option maxHeartbeats 4000000 in
theorem s_60 {kt : Nat → Option mc_E} {T : wq_T} {H : wq_H} {r0 : Nat} {a1 : Int} (hW : WT T H) (g0 : T.2.2.2 r0 = some 1) (i1 : (-2147483648) ≤ a1 ∧ a1 ≤ 2147483647) : wpc kt 1 60 [.ref r0, vI a1] T H (q_60 r0 a1 T H) := by
  refine wp_enter e60 (Nat.le_of_ble_eq_true rfl) rfl ?_
  show wp _ _ 60 0 [(0, .ref r0), (1, vI a1)] [] _ H _
  refine wp_of e60 c60_0 (rw_iload_n (pc' := 1) (z := a1) rfl rfl ?_)
  refine wp_of e60 c60_1 (rw_if_lt (p1 := 19) (p2 := 4) (by decide) rfl ⟨by omega, by omega⟩ (fun c16632 => ?_) (fun c16632 => ?_))
  · refine wp_of e60 c60_19 (rw_iconst (pc' := 20) rfl ?_)
    exact wp_zreturn e60 c60_20 rfl (by omega) ⟨rfl, rfl, 0, rfl, ⟨by omega, by omega⟩, by omega⟩
  · refine wp_of e60 c60_4 (rw_iload_n (pc' := 5) (z := a1) rfl rfl ?_)
    refine wp_of e60 c60_5 (rw_aload_n (pc' := 6) (v := .ref r0) rfl rfl rfl ?_)
    refine wp_of e60 c60_6 (xg_R (pc' := 9) lf_0_51 hW g0 sh_1 (by decide) (by decide) ty_1_6 rfl rfl (fun r16633 q16634 g16635 => ?_))
    refine wp_of e60 c60_9 (xg_I (pc' := 12) lf_0_339 hW g16635 sh_27 (by decide) (by decide) ty_27_7 rfl rfl (fun b16636 b16637 => ?_))
    refine wp_of e60 c60_12 (rw_icmp_ge (p1 := 19) (p2 := 15) (by decide) rfl ⟨by omega, by omega⟩ ⟨by omega, by omega⟩ (fun c16638 => ?_) (fun c16638 => ?_))
    · refine wp_of e60 c60_19 (rw_iconst (pc' := 20) rfl ?_)
      exact wp_zreturn e60 c60_20 rfl (by omega) ⟨rfl, rfl, 0, rfl, ⟨by omega, by omega⟩, by omega⟩
    · refine wp_of e60 c60_15 (rw_iconst (pc' := 16) rfl ?_)
      refine wp_of e60 c60_16 (rw_goto (p1 := 20) (by decide) ?_)
      exact wp_zreturn e60 c60_20 rfl (by omega) ⟨rfl, rfl, 1, rfl, ⟨by omega, by omega⟩, by omega⟩
/-! StrikeAwake.awake(III)I -/
theorem e59 : wq_en 59 = some (0, 4, false, some FieldType.int) := rfl
theorem cg59_0 : mc_cd 59 0 = some (.aload_n 0, 1) ∧ mc_cd 59 1 = some (.iload_n 1, 1) ∧ mc_cd 59 2 = some (.iload_n 2, 1) ∧ mc_cd 59 3 = some (.invokevirtual 118, 3) ∧ mc_cd 59 6 = some (.ifCond .eq 11, 3) ∧ mc_cd 59 9 = some (.aload_n 0, 1) ∧ mc_cd 59 10 = some (.iload_n 3, 1) ∧ mc_cd 59 11 = some (.invokevirtual 132, 3) := by decide +kernel
theorem c59_0 : mc_cd 59 0 = some (.aload_n 0, 1) := cg59_0.1
theorem c59_1 : mc_cd 59 1 = some (.iload_n 1, 1) := cg59_0.2.1
theorem c59_2 : mc_cd 59 2 = some (.iload_n 2, 1) := cg59_0.2.2.1
theorem c59_3 : mc_cd 59 3 = some (.invokevirtual 118, 3) := cg59_0.2.2.2.1
theorem c59_6 : mc_cd 59 6 = some (.ifCond .eq 11, 3) := cg59_0.2.2.2.2.1
theorem c59_9 : mc_cd 59 9 = some (.aload_n 0, 1) := cg59_0.2.2.2.2.2.1
theorem c59_10 : mc_cd 59 10 = some (.iload_n 3, 1) := cg59_0.2.2.2.2.2.2.1
theorem c59_11 : mc_cd 59 11 = some (.invokevirtual 132, 3) := cg59_0.2.2.2.2.2.2.2
theorem cg59_14 : mc_cd 59 14 = some (.ifCond .ne 9, 3) ∧ mc_cd 59 17 = some (.aload_n 0, 1) ∧ mc_cd 59 18 = some (.iconst 1, 1) ∧ mc_cd 59 19 = some (.invokevirtual 70, 3) ∧ mc_cd 59 22 = some (.ireturn, 1) ∧ mc_cd 59 23 = some (.aload_n 0, 1) ∧ mc_cd 59 24 = some (.aload_n 0, 1) ∧ mc_cd 59 25 = some (.getfield 51, 3) := by decide +kernel
theorem c59_14 : mc_cd 59 14 = some (.ifCond .ne 9, 3) := cg59_14.1
theorem c59_17 : mc_cd 59 17 = some (.aload_n 0, 1) := cg59_14.2.1
theorem c59_18 : mc_cd 59 18 = some (.iconst 1, 1) := cg59_14.2.2.1
theorem c59_19 : mc_cd 59 19 = some (.invokevirtual 70, 3) := cg59_14.2.2.2.1
theorem c59_22 : mc_cd 59 22 = some (.ireturn, 1) := cg59_14.2.2.2.2.1
theorem c59_23 : mc_cd 59 23 = some (.aload_n 0, 1) := cg59_14.2.2.2.2.2.1
theorem c59_24 : mc_cd 59 24 = some (.aload_n 0, 1) := cg59_14.2.2.2.2.2.2.1
theorem c59_25 : mc_cd 59 25 = some (.getfield 51, 3) := cg59_14.2.2.2.2.2.2.2
theorem cg59_28 : mc_cd 59 28 = some (.getfield 109, 3) ∧ mc_cd 59 31 = some (.iload_n 1, 1) ∧ mc_cd 59 32 = some (.aaload, 1) ∧ mc_cd 59 33 = some (.getfield 135, 3) ∧ mc_cd 59 36 = some (.iload_n 2, 1) ∧ mc_cd 59 37 = some (.iaload, 1) ∧ mc_cd 59 38 = some (.iload_n 3, 1) ∧ mc_cd 59 39 = some (.invokestatic 138, 3) := by decide +kernel
theorem c59_28 : mc_cd 59 28 = some (.getfield 109, 3) := cg59_28.1
theorem c59_31 : mc_cd 59 31 = some (.iload_n 1, 1) := cg59_28.2.1
theorem c59_32 : mc_cd 59 32 = some (.aaload, 1) := cg59_28.2.2.1
theorem c59_33 : mc_cd 59 33 = some (.getfield 135, 3) := cg59_28.2.2.2.1
theorem c59_36 : mc_cd 59 36 = some (.iload_n 2, 1) := cg59_28.2.2.2.2.1
theorem c59_37 : mc_cd 59 37 = some (.iaload, 1) := cg59_28.2.2.2.2.2.1
theorem c59_38 : mc_cd 59 38 = some (.iload_n 3, 1) := cg59_28.2.2.2.2.2.2.1
theorem c59_39 : mc_cd 59 39 = some (.invokestatic 138, 3) := cg59_28.2.2.2.2.2.2.2
theorem cg59_42 : mc_cd 59 42 = some (.ifCond .eq 7, 3) ∧ mc_cd 59 45 = some (.iconst 1, 1) ∧ mc_cd 59 46 = some (.goto 4, 3) ∧ mc_cd 59 49 = some (.iconst 0, 1) ∧ mc_cd 59 50 = some (.invokevirtual 99, 3) ∧ mc_cd 59 53 = some (.ireturn, 1) := by decide +kernel
theorem c59_42 : mc_cd 59 42 = some (.ifCond .eq 7, 3) := cg59_42.1
theorem c59_45 : mc_cd 59 45 = some (.iconst 1, 1) := cg59_42.2.1
theorem c59_46 : mc_cd 59 46 = some (.goto 4, 3) := cg59_42.2.2.1
theorem c59_49 : mc_cd 59 49 = some (.iconst 0, 1) := cg59_42.2.2.2.1
theorem c59_50 : mc_cd 59 50 = some (.invokevirtual 99, 3) := cg59_42.2.2.2.2.1
theorem c59_53 : mc_cd 59 53 = some (.ireturn, 1) := cg59_42.2.2.2.2.2
abbrev q_59 (r0 : Nat) (a1 : Int) (a2 : Int) (a3 : Int) (T : wq_T) (H : wq_H) : Option Value → wq_T → wq_H → Prop := fun r T' H' => T = T' ∧ WT T H' ∧ wfr [(1, 10)] T H H' ∧ ∃ z : Int, some (vI z) = r ∧ ((-2147483648) ≤ z ∧ z ≤ 2147483647)
set_option maxHeartbeats 4000000 in
theorem s_59 {kt : Nat → Option mc_E} {T : wq_T} {H : wq_H} {r0 : Nat} {a1 : Int} {a2 : Int} {a3 : Int} (hW : WT T H) (g0 : T.2.2.2 r0 = some 1) (i1 : (-2147483648) ≤ a1 ∧ a1 ≤ 2147483647) (i2 : (-2147483648) ≤ a2 ∧ a2 ≤ 2147483647) (i3 : (-2147483648) ≤ a3 ∧ a3 ≤ 2147483647) : wpc kt 3 59 [.ref r0, vI a1, vI a2, vI a3] T H (q_59 r0 a1 a2 a3 T H) := by
  refine wp_enter e59 (Nat.le_of_ble_eq_true rfl) rfl ?_
  have f0 : wfr [(1, 10)] T H H := wfr.rf
  show wp _ _ 59 0 [(0, .ref r0), (1, vI a1), (2, vI a2), (3, vI a3)] [] _ H _
  refine wp_of e59 c59_0 (rw_aload_n (pc' := 1) (v := .ref r0) rfl rfl rfl ?_)
  refine wp_of e59 c59_1 (rw_iload_n (pc' := 2) (z := a1) rfl rfl ?_)
  refine wp_of e59 c59_2 (rw_iload_n (pc' := 3) (z := a2) rfl rfl ?_)
  refine wp_of e59 c59_3 (xc_V (pc' := 6) (r := r0) (as := [vI a1, vI a2]) (st := []) (lm_0_118) rfl rfl (Nat.le_of_ble_eq_true rfl) hW g0 sh_1 (by decide) rfl (by decide) (s_57 hW g0 ⟨by omega, by omega⟩ ⟨by omega, by omega⟩) (fun R16729 T16730 H16731 p16732 => ?_))
  obtain ⟨e16733, e16735, z16737, e16734, b16738, p16736⟩ := p16732
  subst e16733
  subst e16734
  subst e16735
  show wp _ _ 59 6 [(0, .ref r0), (1, vI a1), (2, vI a2), (3, vI a3)] [vI z16737] _ H _
  refine wp_of e59 c59_6 (rw_if_eq (p1 := 17) (p2 := 9) (by decide) rfl ⟨by omega, by omega⟩ (fun c16739 => ?_) (fun c16739 => ?_))
  · refine wp_of e59 c59_17 (rw_aload_n (pc' := 18) (v := .ref r0) rfl rfl rfl ?_)
    refine wp_of e59 c59_18 (rw_iconst (pc' := 19) rfl ?_)
    refine wp_of e59 c59_19 (xc_V (pc' := 22) (r := r0) (as := [vI 1]) (st := []) (lm_0_70) rfl rfl (Nat.le_of_ble_eq_true rfl) hW g0 sh_1 (by decide) rfl (by decide) (s_12 hW g0 ⟨by omega, by omega⟩) (fun R16740 T16741 H16742 p16743 => ?_))
    obtain ⟨e16744, w16746, f16747, z16748, e16745, b16749⟩ := p16743
    subst e16744
    subst e16745
    have f16750 := f0.tr f16747 rfl
    show wp _ _ 59 22 [(0, .ref r0), (1, vI a1), (2, vI a2), (3, vI a3)] [vI z16748] _ H16742 _
    exact wp_ireturn e59 c59_22 rfl ⟨rfl, w16746, f16750, z16748, rfl, ⟨by omega, by omega⟩⟩
  · refine wp_of e59 c59_9 (rw_aload_n (pc' := 10) (v := .ref r0) rfl rfl rfl ?_)
    refine wp_of e59 c59_10 (rw_iload_n (pc' := 11) (z := a3) rfl rfl ?_)
    refine wp_of e59 c59_11 (xc_V (pc' := 14) (r := r0) (as := [vI a3]) (st := []) (lm_0_132) rfl rfl (Nat.le_of_ble_eq_true rfl) hW g0 sh_1 (by decide) rfl (by decide) (s_60 hW g0 ⟨by omega, by omega⟩) (fun R16751 T16752 H16753 p16754 => ?_))
    obtain ⟨e16755, e16757, z16759, e16756, b16760, p16758⟩ := p16754
    subst e16755
    subst e16756
    subst e16757
    show wp _ _ 59 14 [(0, .ref r0), (1, vI a1), (2, vI a2), (3, vI a3)] [vI z16759] _ H _
    refine wp_of e59 c59_14 (rw_if_ne (p1 := 23) (p2 := 17) (by decide) rfl ⟨by omega, by omega⟩ (fun c16761 => ?_) (fun c16761 => ?_))
    · refine wp_of e59 c59_23 (rw_aload_n (pc' := 24) (v := .ref r0) rfl rfl rfl ?_)
      refine wp_of e59 c59_24 (rw_aload_n (pc' := 25) (v := .ref r0) rfl rfl rfl ?_)
      refine wp_of e59 c59_25 (xg_R (pc' := 28) lf_0_51 hW g0 sh_1 (by decide) (by decide) ty_1_6 rfl rfl (fun r16762 q16763 g16764 => ?_))
      refine wp_of e59 c59_28 (xg_R (pc' := 31) lf_0_109 hW g16764 sh_27 (by decide) (by decide) ty_27_0 rfl rfl (fun r16765 q16766 g16767 => ?_))
      refine wp_of e59 c59_31 (rw_iload_n (pc' := 32) (z := a1) rfl rfl ?_)
      refine wp_of e59 c59_32 (xa_R (pc' := 33) (by decide) hW g16767 sh_28 (by decide) (ty_28 _) (by omega) (by omega) rfl (fun r16768 q16769 g16770 => ?_))
      refine wp_of e59 c59_33 (xg_R (pc' := 36) lf_0_135 hW g16770 sh_35 (by decide) (by decide) ty_35_3 rfl rfl (fun r16771 q16772 g16773 => ?_))
      refine wp_of e59 c59_36 (rw_iload_n (pc' := 37) (z := a2) rfl rfl ?_)
      refine wp_of e59 c59_37 (xa_I (so := 0) (pc' := 38) hW g16773 sh_39 (by decide) (ty_39 _) (by omega) (by omega) rfl (fun b16774 b16775 => ?_))
      refine wp_of e59 c59_38 (rw_iload_n (pc' := 39) (z := a3) rfl rfl ?_)
      refine wp_of e59 c59_39 (xc_S (pc' := 42) (as := [vI (H r16771 (a2.toNat)), vI a3]) (st := [.ref r0]) (lm_0_138) rfl rfl (Nat.le_of_ble_eq_true rfl) rfl (by decide) (s_36 hW ⟨by omega, by omega⟩ ⟨by omega, by omega⟩) (fun R16776 T16777 H16778 p16779 => ?_))
      obtain ⟨e16780, e16782, z16783, e16781, b16784⟩ := p16779
      subst e16780
      subst e16781
      subst e16782
      show wp _ _ 59 42 [(0, .ref r0), (1, vI a1), (2, vI a2), (3, vI a3)] [vI z16783, .ref r0] _ H _
      refine wp_of e59 c59_42 (rw_if_eq (p1 := 49) (p2 := 45) (by decide) rfl ⟨by omega, by omega⟩ (fun c16785 => ?_) (fun c16785 => ?_))
      · refine wp_of e59 c59_49 (rw_iconst (pc' := 50) rfl ?_)
        refine wp_of e59 c59_50 (xc_V (pc' := 53) (r := r0) (as := [vI 0]) (st := []) (lm_0_99) rfl rfl (Nat.le_of_ble_eq_true rfl) hW g0 sh_1 (by decide) rfl (by decide) (s_51 hW g0 ⟨by omega, by omega⟩) (fun R16786 T16787 H16788 p16789 => ?_))
        obtain ⟨e16790, w16792, f16793, z16794, e16791, b16795⟩ := p16789
        subst e16790
        subst e16791
        have f16796 := f0.tr f16793 rfl
        show wp _ _ 59 53 [(0, .ref r0), (1, vI a1), (2, vI a2), (3, vI a3)] [vI z16794] _ H16788 _
        exact wp_ireturn e59 c59_53 rfl ⟨rfl, w16792, f16796, z16794, rfl, ⟨by omega, by omega⟩⟩
      · refine wp_of e59 c59_45 (rw_iconst (pc' := 46) rfl ?_)
        refine wp_of e59 c59_46 (rw_goto (p1 := 50) (by decide) ?_)
        refine wp_of e59 c59_50 (xc_V (pc' := 53) (r := r0) (as := [vI 1]) (st := []) (lm_0_99) rfl rfl (Nat.le_of_ble_eq_true rfl) hW g0 sh_1 (by decide) rfl (by decide) (s_51 hW g0 ⟨by omega, by omega⟩) (fun R16797 T16798 H16799 p16800 => ?_))
        obtain ⟨e16801, w16803, f16804, z16805, e16802, b16806⟩ := p16800
        subst e16801
        subst e16802
        have f16807 := f0.tr f16804 rfl
        show wp _ _ 59 53 [(0, .ref r0), (1, vI a1), (2, vI a2), (3, vI a3)] [vI z16805] _ H16799 _
        exact wp_ireturn e59 c59_53 rfl ⟨rfl, w16803, f16807, z16805, rfl, ⟨by omega, by omega⟩⟩
    · refine wp_of e59 c59_17 (rw_aload_n (pc' := 18) (v := .ref r0) rfl rfl rfl ?_)
      refine wp_of e59 c59_18 (rw_iconst (pc' := 19) rfl ?_)
      refine wp_of e59 c59_19 (xc_V (pc' := 22) (r := r0) (as := [vI 1]) (st := []) (lm_0_70) rfl rfl (Nat.le_of_ble_eq_true rfl) hW g0 sh_1 (by decide) rfl (by decide) (s_12 hW g0 ⟨by omega, by omega⟩) (fun R16808 T16809 H16810 p16811 => ?_))
      obtain ⟨e16812, w16814, f16815, z16816, e16813, b16817⟩ := p16811
      subst e16812
      subst e16813
      have f16818 := f0.tr f16815 rfl
      show wp _ _ 59 22 [(0, .ref r0), (1, vI a1), (2, vI a2), (3, vI a3)] [vI z16816] _ H16810 _
      exact wp_ireturn e59 c59_22 rfl ⟨rfl, w16814, f16818, z16816, rfl, ⟨by omega, by omega⟩⟩
/-! StrikeAwake.lots()J -/
theorem e61 : wq_en 61 = some (0, 1, false, some FieldType.long) := rfl
theorem cg61_0 : mc_cd 61 0 = some (.aload_n 0, 1) ∧ mc_cd 61 1 = some (.getfield 58, 3) ∧ mc_cd 61 4 = some (.ifCond .ne 10, 3) ∧ mc_cd 61 7 = some (.aload_n 0, 1) ∧ mc_cd 61 8 = some (.iconst 1, 1) ∧ mc_cd 61 9 = some (.invokevirtual 70, 3) ∧ mc_cd 61 12 = some (.i2l, 1) ∧ mc_cd 61 13 = some (.lreturn, 1) := by decide +kernel
theorem c61_0 : mc_cd 61 0 = some (.aload_n 0, 1) := cg61_0.1
theorem c61_1 : mc_cd 61 1 = some (.getfield 58, 3) := cg61_0.2.1
theorem c61_4 : mc_cd 61 4 = some (.ifCond .ne 10, 3) := cg61_0.2.2.1
theorem c61_7 : mc_cd 61 7 = some (.aload_n 0, 1) := cg61_0.2.2.2.1
theorem c61_8 : mc_cd 61 8 = some (.iconst 1, 1) := cg61_0.2.2.2.2.1
theorem c61_9 : mc_cd 61 9 = some (.invokevirtual 70, 3) := cg61_0.2.2.2.2.2.1
theorem c61_12 : mc_cd 61 12 = some (.i2l, 1) := cg61_0.2.2.2.2.2.2.1
theorem c61_13 : mc_cd 61 13 = some (.lreturn, 1) := cg61_0.2.2.2.2.2.2.2
theorem cg61_14 : mc_cd 61 14 = some (.aload_n 0, 1) ∧ mc_cd 61 15 = some (.iconst 0, 1) ∧ mc_cd 61 16 = some (.putfield 102, 3) ∧ mc_cd 61 19 = some (.aload_n 0, 1) ∧ mc_cd 61 20 = some (.getfield 51, 3) ∧ mc_cd 61 23 = some (.getfield 141, 3) ∧ mc_cd 61 26 = some (.lreturn, 1) := by decide +kernel
theorem c61_14 : mc_cd 61 14 = some (.aload_n 0, 1) := cg61_14.1
theorem c61_15 : mc_cd 61 15 = some (.iconst 0, 1) := cg61_14.2.1
theorem c61_16 : mc_cd 61 16 = some (.putfield 102, 3) := cg61_14.2.2.1
theorem c61_19 : mc_cd 61 19 = some (.aload_n 0, 1) := cg61_14.2.2.2.1
theorem c61_20 : mc_cd 61 20 = some (.getfield 51, 3) := cg61_14.2.2.2.2.1
theorem c61_23 : mc_cd 61 23 = some (.getfield 141, 3) := cg61_14.2.2.2.2.2.1
theorem c61_26 : mc_cd 61 26 = some (.lreturn, 1) := cg61_14.2.2.2.2.2.2
abbrev q_61 (r0 : Nat) (T : wq_T) (H : wq_H) : Option Value → wq_T → wq_H → Prop := fun r T' H' => T = T' ∧ WT T H' ∧ wfr [(1, 10)] T H H' ∧ ∃ z : Int, some (vL z) = r ∧ ((-9223372036854775808) ≤ z ∧ z ≤ 9223372036854775807)
set_option maxHeartbeats 4000000 in
theorem s_61 {kt : Nat → Option mc_E} {T : wq_T} {H : wq_H} {r0 : Nat} (hW : WT T H) (g0 : T.2.2.2 r0 = some 1) : wpc kt 2 61 [.ref r0] T H (q_61 r0 T H) := by
  refine wp_enter e61 (Nat.le_of_ble_eq_true rfl) rfl ?_
  have f0 : wfr [(1, 10)] T H H := wfr.rf
  show wp _ _ 61 0 [(0, .ref r0)] [] _ H _
  refine wp_of e61 c61_0 (rw_aload_n (pc' := 1) (v := .ref r0) rfl rfl rfl ?_)
  refine wp_of e61 c61_1 (xg_I (pc' := 4) lf_0_58 hW g0 sh_1 (by decide) (by decide) ty_1_8 rfl rfl (fun b16843 b16844 => ?_))
  refine wp_of e61 c61_4 (rw_if_ne (p1 := 14) (p2 := 7) (by decide) rfl ⟨by omega, by omega⟩ (fun c16845 => ?_) (fun c16845 => ?_))
  · refine wp_of e61 c61_14 (rw_aload_n (pc' := 15) (v := .ref r0) rfl rfl rfl ?_)
    refine wp_of e61 c61_15 (rw_iconst (pc' := 16) rfl ?_)
    refine wp_of e61 c61_16 (xp_I (pc' := 19) lf_0_102 hW g0 sh_1 (by decide) (by decide) ty_1_10 rfl rfl (by omega) (by omega) ⟨by omega, by omega⟩ rfl (fun H16846 e16847 w16848 => ?_))
    have f16849 := f0.put' e16847 g0 rfl
    have k16850 : H16846 r0 10 = 0 := wq_u_s e16847
    refine wp_of e61 c61_19 (rw_aload_n (pc' := 20) (v := .ref r0) rfl rfl rfl ?_)
    refine wp_of e61 c61_20 (xg_R (pc' := 23) lf_0_51 w16848 g0 sh_1 (by decide) (by decide) ty_1_6 rfl rfl (fun r16851 q16852 g16853 => ?_))
    refine wp_of e61 c61_23 (xg_L (pc' := 26) lf_0_141 w16848 g16853 sh_27 (by decide) (by decide) ty_27_18 rfl rfl (fun b16854 b16855 => ?_))
    exact wp_lreturn e61 c61_26 rfl ⟨rfl, w16848, f16849, H16846 r16851 18, rfl, ⟨by omega, by omega⟩⟩
  · refine wp_of e61 c61_7 (rw_aload_n (pc' := 8) (v := .ref r0) rfl rfl rfl ?_)
    refine wp_of e61 c61_8 (rw_iconst (pc' := 9) rfl ?_)
    refine wp_of e61 c61_9 (xc_V (pc' := 12) (r := r0) (as := [vI 1]) (st := []) (lm_0_70) rfl rfl (Nat.le_of_ble_eq_true rfl) hW g0 sh_1 (by decide) rfl (by decide) (s_12 hW g0 ⟨by omega, by omega⟩) (fun R16856 T16857 H16858 p16859 => ?_))
    obtain ⟨e16860, w16862, f16863, z16864, e16861, b16865⟩ := p16859
    subst e16860
    subst e16861
    have f16866 := f0.tr f16863 rfl
    show wp _ _ 61 12 [(0, .ref r0)] [vI z16864] _ H16858 _
    refine wp_of e61 c61_12 (rw_i2l (pc' := 13) rfl ⟨by omega, by omega⟩ ?_)
    exact wp_lreturn e61 c61_13 rfl ⟨rfl, w16862, f16866, z16864, rfl, ⟨by omega, by omega⟩⟩
/-! StrikeAwake.deny(I)Z -/
theorem e63 : wq_en 63 = some (0, 2, false, some FieldType.boolean) := rfl
theorem cg63_0 : mc_cd 63 0 = some (.aload_n 0, 1) ∧ mc_cd 63 1 = some (.iload_n 1, 1) ∧ mc_cd 63 2 = some (.putfield 102, 3) ∧ mc_cd 63 5 = some (.iconst 0, 1) ∧ mc_cd 63 6 = some (.ireturn, 1) := by decide +kernel
theorem c63_0 : mc_cd 63 0 = some (.aload_n 0, 1) := cg63_0.1
theorem c63_1 : mc_cd 63 1 = some (.iload_n 1, 1) := cg63_0.2.1
theorem c63_2 : mc_cd 63 2 = some (.putfield 102, 3) := cg63_0.2.2.1
theorem c63_5 : mc_cd 63 5 = some (.iconst 0, 1) := cg63_0.2.2.2.1
theorem c63_6 : mc_cd 63 6 = some (.ireturn, 1) := cg63_0.2.2.2.2
abbrev q_63 (r0 : Nat) (a1 : Int) (T : wq_T) (H : wq_H) : Option Value → wq_T → wq_H → Prop := fun r T' H' => T = T' ∧ WT T H' ∧ wfr [(1, 10)] T H H' ∧ ∃ z : Int, some (vI z) = r ∧ (0 ≤ z ∧ z ≤ 1)
set_option maxHeartbeats 4000000 in
theorem s_63 {kt : Nat → Option mc_E} {T : wq_T} {H : wq_H} {r0 : Nat} {a1 : Int} (hW : WT T H) (g0 : T.2.2.2 r0 = some 1) (i1 : (-2147483648) ≤ a1 ∧ a1 ≤ 2147483647) : wpc kt 1 63 [.ref r0, vI a1] T H (q_63 r0 a1 T H) := by
  refine wp_enter e63 (Nat.le_of_ble_eq_true rfl) rfl ?_
  have f0 : wfr [(1, 10)] T H H := wfr.rf
  show wp _ _ 63 0 [(0, .ref r0), (1, vI a1)] [] _ H _
  refine wp_of e63 c63_0 (rw_aload_n (pc' := 1) (v := .ref r0) rfl rfl rfl ?_)
  refine wp_of e63 c63_1 (rw_iload_n (pc' := 2) (z := a1) rfl rfl ?_)
  refine wp_of e63 c63_2 (xp_I (pc' := 5) lf_0_102 hW g0 sh_1 (by decide) (by decide) ty_1_10 rfl rfl (by omega) (by omega) ⟨by omega, by omega⟩ rfl (fun H16872 e16873 w16874 => ?_))
  have f16875 := f0.put' e16873 g0 rfl
  have k16876 : H16872 r0 10 = a1 := wq_u_s e16873
  refine wp_of e63 c63_5 (rw_iconst (pc' := 6) rfl ?_)
  exact wp_zreturn e63 c63_6 rfl (by omega) ⟨rfl, w16874, f16875, 0, rfl, ⟨by omega, by omega⟩⟩
/-! StrikeAwake.grant()Z -/
theorem e64 : wq_en 64 = some (0, 1, false, some FieldType.boolean) := rfl
theorem cg64_0 : mc_cd 64 0 = some (.aload_n 0, 1) ∧ mc_cd 64 1 = some (.iconst 0, 1) ∧ mc_cd 64 2 = some (.putfield 102, 3) ∧ mc_cd 64 5 = some (.iconst 1, 1) ∧ mc_cd 64 6 = some (.ireturn, 1) := by decide +kernel
theorem c64_0 : mc_cd 64 0 = some (.aload_n 0, 1) := cg64_0.1
theorem c64_1 : mc_cd 64 1 = some (.iconst 0, 1) := cg64_0.2.1
theorem c64_2 : mc_cd 64 2 = some (.putfield 102, 3) := cg64_0.2.2.1
theorem c64_5 : mc_cd 64 5 = some (.iconst 1, 1) := cg64_0.2.2.2.1
theorem c64_6 : mc_cd 64 6 = some (.ireturn, 1) := cg64_0.2.2.2.2
abbrev q_64 (r0 : Nat) (T : wq_T) (H : wq_H) : Option Value → wq_T → wq_H → Prop := fun r T' H' => T = T' ∧ WT T H' ∧ wfr [(1, 10)] T H H' ∧ ∃ z : Int, some (vI z) = r ∧ (0 ≤ z ∧ z ≤ 1)
set_option maxHeartbeats 4000000 in
theorem s_64 {kt : Nat → Option mc_E} {T : wq_T} {H : wq_H} {r0 : Nat} (hW : WT T H) (g0 : T.2.2.2 r0 = some 1) : wpc kt 1 64 [.ref r0] T H (q_64 r0 T H) := by
  refine wp_enter e64 (Nat.le_of_ble_eq_true rfl) rfl ?_
  have f0 : wfr [(1, 10)] T H H := wfr.rf
  show wp _ _ 64 0 [(0, .ref r0)] [] _ H _
  refine wp_of e64 c64_0 (rw_aload_n (pc' := 1) (v := .ref r0) rfl rfl rfl ?_)
  refine wp_of e64 c64_1 (rw_iconst (pc' := 2) rfl ?_)
  refine wp_of e64 c64_2 (xp_I (pc' := 5) lf_0_102 hW g0 sh_1 (by decide) (by decide) ty_1_10 rfl rfl (by omega) (by omega) ⟨by omega, by omega⟩ rfl (fun H16882 e16883 w16884 => ?_))
  have f16885 := f0.put' e16883 g0 rfl
  have k16886 : H16882 r0 10 = 0 := wq_u_s e16883
  refine wp_of e64 c64_5 (rw_iconst (pc' := 6) rfl ?_)
  exact wp_zreturn e64 c64_6 rfl (by omega) ⟨rfl, w16884, f16885, 1, rfl, ⟨by omega, by omega⟩⟩
/-! StrikeAwake.say(II)Z -/
theorem e62 : wq_en 62 = some (0, 3, false, some FieldType.boolean) := rfl
theorem cg62_0 : mc_cd 62 0 = some (.aload_n 0, 1) ∧ mc_cd 62 1 = some (.iload_n 1, 1) ∧ mc_cd 62 2 = some (.iload_n 2, 1) ∧ mc_cd 62 3 = some (.invokevirtual 118, 3) ∧ mc_cd 62 6 = some (.ifCond .ne 9, 3) ∧ mc_cd 62 9 = some (.aload_n 0, 1) ∧ mc_cd 62 10 = some (.iconst 1, 1) ∧ mc_cd 62 11 = some (.invokevirtual 145, 3) := by decide +kernel
theorem c62_0 : mc_cd 62 0 = some (.aload_n 0, 1) := cg62_0.1
theorem c62_1 : mc_cd 62 1 = some (.iload_n 1, 1) := cg62_0.2.1
theorem c62_2 : mc_cd 62 2 = some (.iload_n 2, 1) := cg62_0.2.2.1
theorem c62_3 : mc_cd 62 3 = some (.invokevirtual 118, 3) := cg62_0.2.2.2.1
theorem c62_6 : mc_cd 62 6 = some (.ifCond .ne 9, 3) := cg62_0.2.2.2.2.1
theorem c62_9 : mc_cd 62 9 = some (.aload_n 0, 1) := cg62_0.2.2.2.2.2.1
theorem c62_10 : mc_cd 62 10 = some (.iconst 1, 1) := cg62_0.2.2.2.2.2.2.1
theorem c62_11 : mc_cd 62 11 = some (.invokevirtual 145, 3) := cg62_0.2.2.2.2.2.2.2
theorem cg62_14 : mc_cd 62 14 = some (.ireturn, 1) ∧ mc_cd 62 15 = some (.aload_n 0, 1) ∧ mc_cd 62 16 = some (.getfield 51, 3) ∧ mc_cd 62 19 = some (.getfield 109, 3) ∧ mc_cd 62 22 = some (.iload_n 1, 1) ∧ mc_cd 62 23 = some (.aaload, 1) ∧ mc_cd 62 24 = some (.iload_n 2, 1) ∧ mc_cd 62 25 = some (.putfield 148, 3) := by decide +kernel
theorem c62_14 : mc_cd 62 14 = some (.ireturn, 1) := cg62_14.1
theorem c62_15 : mc_cd 62 15 = some (.aload_n 0, 1) := cg62_14.2.1
theorem c62_16 : mc_cd 62 16 = some (.getfield 51, 3) := cg62_14.2.2.1
theorem c62_19 : mc_cd 62 19 = some (.getfield 109, 3) := cg62_14.2.2.2.1
theorem c62_22 : mc_cd 62 22 = some (.iload_n 1, 1) := cg62_14.2.2.2.2.1
theorem c62_23 : mc_cd 62 23 = some (.aaload, 1) := cg62_14.2.2.2.2.2.1
theorem c62_24 : mc_cd 62 24 = some (.iload_n 2, 1) := cg62_14.2.2.2.2.2.2.1
theorem c62_25 : mc_cd 62 25 = some (.putfield 148, 3) := cg62_14.2.2.2.2.2.2.2
theorem cg62_28 : mc_cd 62 28 = some (.aload_n 0, 1) ∧ mc_cd 62 29 = some (.invokevirtual 151, 3) ∧ mc_cd 62 32 = some (.ireturn, 1) := by decide +kernel
theorem c62_28 : mc_cd 62 28 = some (.aload_n 0, 1) := cg62_28.1
theorem c62_29 : mc_cd 62 29 = some (.invokevirtual 151, 3) := cg62_28.2.1
theorem c62_32 : mc_cd 62 32 = some (.ireturn, 1) := cg62_28.2.2
/-! StrikeAwake.said(I)I -/
theorem e65 : wq_en 65 = some (0, 2, false, some FieldType.int) := rfl
theorem cg65_0 : mc_cd 65 0 = some (.aload_n 0, 1) ∧ mc_cd 65 1 = some (.iload_n 1, 1) ∧ mc_cd 65 2 = some (.invokevirtual 105, 3) ∧ mc_cd 65 5 = some (.ifCond .eq 18, 3) ∧ mc_cd 65 8 = some (.aload_n 0, 1) ∧ mc_cd 65 9 = some (.getfield 51, 3) ∧ mc_cd 65 12 = some (.getfield 109, 3) ∧ mc_cd 65 15 = some (.iload_n 1, 1) := by decide +kernel
theorem c65_0 : mc_cd 65 0 = some (.aload_n 0, 1) := cg65_0.1
theorem c65_1 : mc_cd 65 1 = some (.iload_n 1, 1) := cg65_0.2.1
theorem c65_2 : mc_cd 65 2 = some (.invokevirtual 105, 3) := cg65_0.2.2.1
theorem c65_5 : mc_cd 65 5 = some (.ifCond .eq 18, 3) := cg65_0.2.2.2.1
theorem c65_8 : mc_cd 65 8 = some (.aload_n 0, 1) := cg65_0.2.2.2.2.1
theorem c65_9 : mc_cd 65 9 = some (.getfield 51, 3) := cg65_0.2.2.2.2.2.1
theorem c65_12 : mc_cd 65 12 = some (.getfield 109, 3) := cg65_0.2.2.2.2.2.2.1
theorem c65_15 : mc_cd 65 15 = some (.iload_n 1, 1) := cg65_0.2.2.2.2.2.2.2
theorem cg65_16 : mc_cd 65 16 = some (.aaload, 1) ∧ mc_cd 65 17 = some (.getfield 113, 3) ∧ mc_cd 65 20 = some (.ifCond .ne 9, 3) ∧ mc_cd 65 23 = some (.aload_n 0, 1) ∧ mc_cd 65 24 = some (.iconst 1, 1) ∧ mc_cd 65 25 = some (.invokevirtual 70, 3) ∧ mc_cd 65 28 = some (.ireturn, 1) ∧ mc_cd 65 29 = some (.aload_n 0, 1) := by decide +kernel
theorem c65_16 : mc_cd 65 16 = some (.aaload, 1) := cg65_16.1
theorem c65_17 : mc_cd 65 17 = some (.getfield 113, 3) := cg65_16.2.1
theorem c65_20 : mc_cd 65 20 = some (.ifCond .ne 9, 3) := cg65_16.2.2.1
theorem c65_23 : mc_cd 65 23 = some (.aload_n 0, 1) := cg65_16.2.2.2.1
theorem c65_24 : mc_cd 65 24 = some (.iconst 1, 1) := cg65_16.2.2.2.2.1
theorem c65_25 : mc_cd 65 25 = some (.invokevirtual 70, 3) := cg65_16.2.2.2.2.2.1
theorem c65_28 : mc_cd 65 28 = some (.ireturn, 1) := cg65_16.2.2.2.2.2.2.1
theorem c65_29 : mc_cd 65 29 = some (.aload_n 0, 1) := cg65_16.2.2.2.2.2.2.2
theorem cg65_30 : mc_cd 65 30 = some (.aload_n 0, 1) ∧ mc_cd 65 31 = some (.getfield 51, 3) ∧ mc_cd 65 34 = some (.getfield 109, 3) ∧ mc_cd 65 37 = some (.iload_n 1, 1) ∧ mc_cd 65 38 = some (.aaload, 1) ∧ mc_cd 65 39 = some (.getfield 148, 3) ∧ mc_cd 65 42 = some (.invokevirtual 99, 3) ∧ mc_cd 65 45 = some (.ireturn, 1) := by decide +kernel
theorem c65_30 : mc_cd 65 30 = some (.aload_n 0, 1) := cg65_30.1
theorem c65_31 : mc_cd 65 31 = some (.getfield 51, 3) := cg65_30.2.1
theorem c65_34 : mc_cd 65 34 = some (.getfield 109, 3) := cg65_30.2.2.1
theorem c65_37 : mc_cd 65 37 = some (.iload_n 1, 1) := cg65_30.2.2.2.1
theorem c65_38 : mc_cd 65 38 = some (.aaload, 1) := cg65_30.2.2.2.2.1
theorem c65_39 : mc_cd 65 39 = some (.getfield 148, 3) := cg65_30.2.2.2.2.2.1
theorem c65_42 : mc_cd 65 42 = some (.invokevirtual 99, 3) := cg65_30.2.2.2.2.2.2.1
theorem c65_45 : mc_cd 65 45 = some (.ireturn, 1) := cg65_30.2.2.2.2.2.2.2
abbrev q_65 (r0 : Nat) (a1 : Int) (T : wq_T) (H : wq_H) : Option Value → wq_T → wq_H → Prop := fun r T' H' => T = T' ∧ WT T H' ∧ wfr [(1, 10)] T H H' ∧ ∃ z : Int, some (vI z) = r ∧ ((-2147483648) ≤ z ∧ z ≤ 2147483647)
set_option maxHeartbeats 4000000 in
theorem s_65 {kt : Nat → Option mc_E} {T : wq_T} {H : wq_H} {r0 : Nat} {a1 : Int} (hW : WT T H) (g0 : T.2.2.2 r0 = some 1) (i1 : (-2147483648) ≤ a1 ∧ a1 ≤ 2147483647) : wpc kt 2 65 [.ref r0, vI a1] T H (q_65 r0 a1 T H) := by
  refine wp_enter e65 (Nat.le_of_ble_eq_true rfl) rfl ?_
  have f0 : wfr [(1, 10)] T H H := wfr.rf
  show wp _ _ 65 0 [(0, .ref r0), (1, vI a1)] [] _ H _
  refine wp_of e65 c65_0 (rw_aload_n (pc' := 1) (v := .ref r0) rfl rfl rfl ?_)
  refine wp_of e65 c65_1 (rw_iload_n (pc' := 2) (z := a1) rfl rfl ?_)
  refine wp_of e65 c65_2 (xc_V (pc' := 5) (r := r0) (as := [vI a1]) (st := []) (lm_0_105) rfl rfl (Nat.le_of_ble_eq_true rfl) hW g0 sh_1 (by decide) rfl (by decide) (s_55 hW g0 ⟨by omega, by omega⟩) (fun R17039 T17040 H17041 p17042 => ?_))
  obtain ⟨e17043, e17045, z17047, e17044, b17048, p17046⟩ := p17042
  subst e17043
  subst e17044
  subst e17045
  show wp _ _ 65 5 [(0, .ref r0), (1, vI a1)] [vI z17047] _ H _
  refine wp_of e65 c65_5 (rw_if_eq (p1 := 23) (p2 := 8) (by decide) rfl ⟨by omega, by omega⟩ (fun c17049 => ?_) (fun c17049 => ?_))
  · refine wp_of e65 c65_23 (rw_aload_n (pc' := 24) (v := .ref r0) rfl rfl rfl ?_)
    refine wp_of e65 c65_24 (rw_iconst (pc' := 25) rfl ?_)
    refine wp_of e65 c65_25 (xc_V (pc' := 28) (r := r0) (as := [vI 1]) (st := []) (lm_0_70) rfl rfl (Nat.le_of_ble_eq_true rfl) hW g0 sh_1 (by decide) rfl (by decide) (s_12 hW g0 ⟨by omega, by omega⟩) (fun R17050 T17051 H17052 p17053 => ?_))
    obtain ⟨e17054, w17056, f17057, z17058, e17055, b17059⟩ := p17053
    subst e17054
    subst e17055
    have f17060 := f0.tr f17057 rfl
    show wp _ _ 65 28 [(0, .ref r0), (1, vI a1)] [vI z17058] _ H17052 _
    exact wp_ireturn e65 c65_28 rfl ⟨rfl, w17056, f17060, z17058, rfl, ⟨by omega, by omega⟩⟩
  · refine wp_of e65 c65_8 (rw_aload_n (pc' := 9) (v := .ref r0) rfl rfl rfl ?_)
    refine wp_of e65 c65_9 (xg_R (pc' := 12) lf_0_51 hW g0 sh_1 (by decide) (by decide) ty_1_6 rfl rfl (fun r17061 q17062 g17063 => ?_))
    refine wp_of e65 c65_12 (xg_R (pc' := 15) lf_0_109 hW g17063 sh_27 (by decide) (by decide) ty_27_0 rfl rfl (fun r17064 q17065 g17066 => ?_))
    refine wp_of e65 c65_15 (rw_iload_n (pc' := 16) (z := a1) rfl rfl ?_)
    refine wp_of e65 c65_16 (xa_R (pc' := 17) (by decide) hW g17066 sh_28 (by decide) (ty_28 _) (by omega) (by omega) rfl (fun r17067 q17068 g17069 => ?_))
    refine wp_of e65 c65_17 (xg_I (pc' := 20) lf_0_113 hW g17069 sh_35 (by decide) (by decide) ty_35_15 rfl rfl (fun b17070 b17071 => ?_))
    refine wp_of e65 c65_20 (rw_if_ne (p1 := 29) (p2 := 23) (by decide) rfl ⟨by omega, by omega⟩ (fun c17072 => ?_) (fun c17072 => ?_))
    · refine wp_of e65 c65_29 (rw_aload_n (pc' := 30) (v := .ref r0) rfl rfl rfl ?_)
      refine wp_of e65 c65_30 (rw_aload_n (pc' := 31) (v := .ref r0) rfl rfl rfl ?_)
      refine wp_of e65 c65_31 (xg_K (pc' := 34) lf_0_51 hW g0 sh_1 (by decide) (by decide) rfl q17062 rfl ?_)
      refine wp_of e65 c65_34 (xg_K (pc' := 37) lf_0_109 hW g17063 sh_27 (by decide) (by decide) rfl q17065 rfl ?_)
      refine wp_of e65 c65_37 (rw_iload_n (pc' := 38) (z := a1) rfl rfl ?_)
      refine wp_of e65 c65_38 (xa_K (pc' := 39) (by decide) hW g17066 sh_28 (by decide) (by omega) (by omega) q17068 rfl ?_)
      refine wp_of e65 c65_39 (xg_I (pc' := 42) lf_0_148 hW g17069 sh_35 (by decide) (by decide) ty_35_16 rfl rfl (fun b17073 b17074 => ?_))
      refine wp_of e65 c65_42 (xc_V (pc' := 45) (r := r0) (as := [vI (H r17067 16)]) (st := []) (lm_0_99) rfl rfl (Nat.le_of_ble_eq_true rfl) hW g0 sh_1 (by decide) rfl (by decide) (s_51 hW g0 ⟨by omega, by omega⟩) (fun R17075 T17076 H17077 p17078 => ?_))
      obtain ⟨e17079, w17081, f17082, z17083, e17080, b17084⟩ := p17078
      subst e17079
      subst e17080
      have f17085 := f0.tr f17082 rfl
      show wp _ _ 65 45 [(0, .ref r0), (1, vI a1)] [vI z17083] _ H17077 _
      exact wp_ireturn e65 c65_45 rfl ⟨rfl, w17081, f17085, z17083, rfl, ⟨by omega, by omega⟩⟩
    · refine wp_of e65 c65_23 (rw_aload_n (pc' := 24) (v := .ref r0) rfl rfl rfl ?_)
      refine wp_of e65 c65_24 (rw_iconst (pc' := 25) rfl ?_)
      refine wp_of e65 c65_25 (xc_V (pc' := 28) (r := r0) (as := [vI 1]) (st := []) (lm_0_70) rfl rfl (Nat.le_of_ble_eq_true rfl) hW g0 sh_1 (by decide) rfl (by decide) (s_12 hW g0 ⟨by omega, by omega⟩) (fun R17086 T17087 H17088 p17089 => ?_))
      obtain ⟨e17090, w17092, f17093, z17094, e17091, b17095⟩ := p17089
      subst e17090
      subst e17091
      have f17096 := f0.tr f17093 rfl
      show wp _ _ 65 28 [(0, .ref r0), (1, vI a1)] [vI z17094] _ H17088 _
      exact wp_ireturn e65 c65_28 rfl ⟨rfl, w17092, f17096, z17094, rfl, ⟨by omega, by omega⟩⟩
/-! StrikeAwake$Walk.countBirths(LStrikeAwake$Parish;)V -/
theorem e69 : wq_en 69 = some (3, 4, false, none) := rfl
theorem cg69_0 : mc_cd 69 0 = some (.aload_n 0, 1) ∧ mc_cd 69 1 = some (.aload_n 1, 1) ∧ mc_cd 69 2 = some (.getfield 36, 3) ∧ mc_cd 69 5 = some (.putfield 51, 3) ∧ mc_cd 69 8 = some (.aload_n 0, 1) ∧ mc_cd 69 9 = some (.getfield 15, 3) ∧ mc_cd 69 12 = some (.iconst 0, 1) ∧ mc_cd 69 13 = some (.lconst 0, 1) := by decide +kernel
theorem c69_0 : mc_cd 69 0 = some (.aload_n 0, 1) := cg69_0.1
theorem c69_1 : mc_cd 69 1 = some (.aload_n 1, 1) := cg69_0.2.1
theorem c69_2 : mc_cd 69 2 = some (.getfield 36, 3) := cg69_0.2.2.1
theorem c69_5 : mc_cd 69 5 = some (.putfield 51, 3) := cg69_0.2.2.2.1
theorem c69_8 : mc_cd 69 8 = some (.aload_n 0, 1) := cg69_0.2.2.2.2.1
theorem c69_9 : mc_cd 69 9 = some (.getfield 15, 3) := cg69_0.2.2.2.2.2.1
theorem c69_12 : mc_cd 69 12 = some (.iconst 0, 1) := cg69_0.2.2.2.2.2.2.1
theorem c69_13 : mc_cd 69 13 = some (.lconst 0, 1) := cg69_0.2.2.2.2.2.2.2
theorem cg69_14 : mc_cd 69 14 = some (.lastore, 1) ∧ mc_cd 69 15 = some (.aload_n 0, 1) ∧ mc_cd 69 16 = some (.getfield 19, 3) ∧ mc_cd 69 19 = some (.iconst 0, 1) ∧ mc_cd 69 20 = some (.lconst 0, 1) ∧ mc_cd 69 21 = some (.lastore, 1) ∧ mc_cd 69 22 = some (.aload_n 0, 1) ∧ mc_cd 69 23 = some (.getfield 22, 3) := by decide +kernel
theorem c69_14 : mc_cd 69 14 = some (.lastore, 1) := cg69_14.1
theorem c69_15 : mc_cd 69 15 = some (.aload_n 0, 1) := cg69_14.2.1
theorem c69_16 : mc_cd 69 16 = some (.getfield 19, 3) := cg69_14.2.2.1
theorem c69_19 : mc_cd 69 19 = some (.iconst 0, 1) := cg69_14.2.2.2.1
theorem c69_20 : mc_cd 69 20 = some (.lconst 0, 1) := cg69_14.2.2.2.2.1
theorem c69_21 : mc_cd 69 21 = some (.lastore, 1) := cg69_14.2.2.2.2.2.1
theorem c69_22 : mc_cd 69 22 = some (.aload_n 0, 1) := cg69_14.2.2.2.2.2.2.1
theorem c69_23 : mc_cd 69 23 = some (.getfield 22, 3) := cg69_14.2.2.2.2.2.2.2
theorem cg69_26 : mc_cd 69 26 = some (.iconst 0, 1) ∧ mc_cd 69 27 = some (.iconst 0, 1) ∧ mc_cd 69 28 = some (.iastore, 1) ∧ mc_cd 69 29 = some (.iconst 0, 1) ∧ mc_cd 69 30 = some (.istore_n 2, 1) ∧ mc_cd 69 31 = some (.iload_n 2, 1) ∧ mc_cd 69 32 = some (.aload_n 1, 1) ∧ mc_cd 69 33 = some (.getfield 55, 3) := by decide +kernel
theorem c69_26 : mc_cd 69 26 = some (.iconst 0, 1) := cg69_26.1
theorem c69_27 : mc_cd 69 27 = some (.iconst 0, 1) := cg69_26.2.1
theorem c69_28 : mc_cd 69 28 = some (.iastore, 1) := cg69_26.2.2.1
theorem c69_29 : mc_cd 69 29 = some (.iconst 0, 1) := cg69_26.2.2.2.1
theorem c69_30 : mc_cd 69 30 = some (.istore_n 2, 1) := cg69_26.2.2.2.2.1
theorem c69_31 : mc_cd 69 31 = some (.iload_n 2, 1) := cg69_26.2.2.2.2.2.1
theorem c69_32 : mc_cd 69 32 = some (.aload_n 1, 1) := cg69_26.2.2.2.2.2.2.1
theorem c69_33 : mc_cd 69 33 = some (.getfield 55, 3) := cg69_26.2.2.2.2.2.2.2
theorem cg69_36 : mc_cd 69 36 = some (.if_icmp .ge 60, 3) ∧ mc_cd 69 39 = some (.aload_n 1, 1) ∧ mc_cd 69 40 = some (.getfield 58, 3) ∧ mc_cd 69 43 = some (.iload_n 2, 1) ∧ mc_cd 69 44 = some (.iaload, 1) ∧ mc_cd 69 45 = some (.bipush 24, 2) ∧ mc_cd 69 47 = some (.invokestatic 61, 3) ∧ mc_cd 69 50 = some (.istore_n 3, 1) := by decide +kernel
theorem c69_36 : mc_cd 69 36 = some (.if_icmp .ge 60, 3) := cg69_36.1
theorem c69_39 : mc_cd 69 39 = some (.aload_n 1, 1) := cg69_36.2.1
theorem c69_40 : mc_cd 69 40 = some (.getfield 58, 3) := cg69_36.2.2.1
theorem c69_43 : mc_cd 69 43 = some (.iload_n 2, 1) := cg69_36.2.2.2.1
theorem c69_44 : mc_cd 69 44 = some (.iaload, 1) := cg69_36.2.2.2.2.1
theorem c69_45 : mc_cd 69 45 = some (.bipush 24, 2) := cg69_36.2.2.2.2.2.1
theorem c69_47 : mc_cd 69 47 = some (.invokestatic 61, 3) := cg69_36.2.2.2.2.2.2.1
theorem c69_50 : mc_cd 69 50 = some (.istore_n 3, 1) := cg69_36.2.2.2.2.2.2.2
theorem cg69_51 : mc_cd 69 51 = some (.aload_n 0, 1) ∧ mc_cd 69 52 = some (.getfield 15, 3) ∧ mc_cd 69 55 = some (.iconst 0, 1) ∧ mc_cd 69 56 = some (.dup2, 1) ∧ mc_cd 69 57 = some (.laload, 1) ∧ mc_cd 69 58 = some (.iload_n 3, 1) ∧ mc_cd 69 59 = some (.invokestatic 65, 3) ∧ mc_cd 69 62 = some (.ladd, 1) := by decide +kernel
theorem c69_51 : mc_cd 69 51 = some (.aload_n 0, 1) := cg69_51.1
theorem c69_52 : mc_cd 69 52 = some (.getfield 15, 3) := cg69_51.2.1
theorem c69_55 : mc_cd 69 55 = some (.iconst 0, 1) := cg69_51.2.2.1
theorem c69_56 : mc_cd 69 56 = some (.dup2, 1) := cg69_51.2.2.2.1
theorem c69_57 : mc_cd 69 57 = some (.laload, 1) := cg69_51.2.2.2.2.1
theorem c69_58 : mc_cd 69 58 = some (.iload_n 3, 1) := cg69_51.2.2.2.2.2.1
theorem c69_59 : mc_cd 69 59 = some (.invokestatic 65, 3) := cg69_51.2.2.2.2.2.2.1
theorem c69_62 : mc_cd 69 62 = some (.ladd, 1) := cg69_51.2.2.2.2.2.2.2
theorem cg69_63 : mc_cd 69 63 = some (.lastore, 1) ∧ mc_cd 69 64 = some (.aload_n 0, 1) ∧ mc_cd 69 65 = some (.getfield 19, 3) ∧ mc_cd 69 68 = some (.iconst 0, 1) ∧ mc_cd 69 69 = some (.dup2, 1) ∧ mc_cd 69 70 = some (.laload, 1) ∧ mc_cd 69 71 = some (.iload_n 3, 1) ∧ mc_cd 69 72 = some (.bipush 12, 2) := by decide +kernel
theorem c69_63 : mc_cd 69 63 = some (.lastore, 1) := cg69_63.1
theorem c69_64 : mc_cd 69 64 = some (.aload_n 0, 1) := cg69_63.2.1
theorem c69_65 : mc_cd 69 65 = some (.getfield 19, 3) := cg69_63.2.2.1
theorem c69_68 : mc_cd 69 68 = some (.iconst 0, 1) := cg69_63.2.2.2.1
theorem c69_69 : mc_cd 69 69 = some (.dup2, 1) := cg69_63.2.2.2.2.1
theorem c69_70 : mc_cd 69 70 = some (.laload, 1) := cg69_63.2.2.2.2.2.1
theorem c69_71 : mc_cd 69 71 = some (.iload_n 3, 1) := cg69_63.2.2.2.2.2.2.1
theorem c69_72 : mc_cd 69 72 = some (.bipush 12, 2) := cg69_63.2.2.2.2.2.2.2
theorem cg69_74 : mc_cd 69 74 = some (.ishr, 1) ∧ mc_cd 69 75 = some (.invokestatic 65, 3) ∧ mc_cd 69 78 = some (.ladd, 1) ∧ mc_cd 69 79 = some (.lastore, 1) ∧ mc_cd 69 80 = some (.aload_n 0, 1) ∧ mc_cd 69 81 = some (.getfield 22, 3) ∧ mc_cd 69 84 = some (.iconst 0, 1) ∧ mc_cd 69 85 = some (.dup2, 1) := by decide +kernel
theorem c69_74 : mc_cd 69 74 = some (.ishr, 1) := cg69_74.1
theorem c69_75 : mc_cd 69 75 = some (.invokestatic 65, 3) := cg69_74.2.1
theorem c69_78 : mc_cd 69 78 = some (.ladd, 1) := cg69_74.2.2.1
theorem c69_79 : mc_cd 69 79 = some (.lastore, 1) := cg69_74.2.2.2.1
theorem c69_80 : mc_cd 69 80 = some (.aload_n 0, 1) := cg69_74.2.2.2.2.1
theorem c69_81 : mc_cd 69 81 = some (.getfield 22, 3) := cg69_74.2.2.2.2.2.1
theorem c69_84 : mc_cd 69 84 = some (.iconst 0, 1) := cg69_74.2.2.2.2.2.2.1
theorem c69_85 : mc_cd 69 85 = some (.dup2, 1) := cg69_74.2.2.2.2.2.2.2
theorem cg69_86 : mc_cd 69 86 = some (.iaload, 1) ∧ mc_cd 69 87 = some (.iload_n 3, 1) ∧ mc_cd 69 88 = some (.ior, 1) ∧ mc_cd 69 89 = some (.iastore, 1) ∧ mc_cd 69 90 = some (.iinc 2 1, 3) ∧ mc_cd 69 93 = some (.goto (-62), 3) ∧ mc_cd 69 96 = some (.return_, 1) := by decide +kernel
theorem c69_86 : mc_cd 69 86 = some (.iaload, 1) := cg69_86.1
theorem c69_87 : mc_cd 69 87 = some (.iload_n 3, 1) := cg69_86.2.1
theorem c69_88 : mc_cd 69 88 = some (.ior, 1) := cg69_86.2.2.1
theorem c69_89 : mc_cd 69 89 = some (.iastore, 1) := cg69_86.2.2.2.1
theorem c69_90 : mc_cd 69 90 = some (.iinc 2 1, 3) := cg69_86.2.2.2.2.1
theorem c69_93 : mc_cd 69 93 = some (.goto (-62), 3) := cg69_86.2.2.2.2.2.1
theorem c69_96 : mc_cd 69 96 = some (.return_, 1) := cg69_86.2.2.2.2.2.2
abbrev q_69 (r0 : Nat) (r1 : Nat) (T : wq_T) (H : wq_H) : Option Value → wq_T → wq_H → Prop := fun r T' H' => T = T' ∧ WT T H' ∧ wfr [(6, 5), (8, 999), (10, 999), (9, 999)] T H H' ∧ none = r
set_option maxHeartbeats 4000000 in
theorem s_69 {kt : Nat → Option mc_E} {T : wq_T} {H : wq_H} {r0 : Nat} {r1 : Nat} (hW : WT T H) (g0 : T.2.2.2 r0 = some 6) (g1 : T.2.2.2 r1 = some 27) : wpc kt 2 69 [.ref r0, .ref r1] T H (q_69 r0 r1 T H) := by
  refine wp_enter e69 (Nat.le_of_ble_eq_true rfl) rfl ?_
  have f0 : wfr [(6, 5), (8, 999), (10, 999), (9, 999)] T H H := wfr.rf
  show wp _ _ 69 0 [(0, .ref r0), (1, .ref r1)] [] _ H _
  refine wp_of e69 c69_0 (rw_aload_n (pc' := 1) (v := .ref r0) rfl rfl rfl ?_)
  refine wp_of e69 c69_1 (rw_aload_n (pc' := 2) (v := .ref r1) rfl rfl rfl ?_)
  refine wp_of e69 c69_2 (xg_I (pc' := 5) lf_3_36 hW g1 sh_27 (by decide) (by decide) ty_27_10 rfl rfl (fun b17461 b17462 => ?_))
  refine wp_of e69 c69_5 (xp_I (pc' := 8) lf_3_51 hW g0 sh_6 (by decide) (by decide) ty_6_5 rfl rfl (by omega) (by omega) ⟨by omega, by omega⟩ rfl (fun H17463 e17464 w17465 => ?_))
  have f17466 := f0.put' e17464 g0 rfl
  have k17467 : H17463 r0 5 = H r1 10 := wq_u_s e17464
  refine wp_of e69 c69_8 (rw_aload_n (pc' := 9) (v := .ref r0) rfl rfl rfl ?_)
  refine wp_of e69 c69_9 (xg_R (pc' := 12) lf_3_15 w17465 g0 sh_6 (by decide) (by decide) ty_6_1 rfl rfl (fun r17468 q17469 g17470 => ?_))
  refine wp_of e69 c69_12 (rw_iconst (pc' := 13) rfl ?_)
  refine wp_of e69 c69_13 (rw_lconst (pc' := 14) (z := 0) rfl rfl ?_)
  refine wp_of e69 c69_14 (xs_L (pc' := 15) w17465 g17470 (by decide) sh_8 (by decide) (ty_8 _) (by omega) (by omega) ⟨by omega, by omega⟩ (by omega) (by omega) rfl (fun H17471 e17472 w17473 => ?_))
  have f17474 := f17466.put' e17472 g17470 rfl
  refine wp_of e69 c69_15 (rw_aload_n (pc' := 16) (v := .ref r0) rfl rfl rfl ?_)
  refine wp_of e69 c69_16 (xg_R (pc' := 19) lf_3_19 w17473 g0 sh_6 (by decide) (by decide) ty_6_2 rfl rfl (fun r17475 q17476 g17477 => ?_))
  refine wp_of e69 c69_19 (rw_iconst (pc' := 20) rfl ?_)
  refine wp_of e69 c69_20 (rw_lconst (pc' := 21) (z := 0) rfl rfl ?_)
  refine wp_of e69 c69_21 (xs_L (pc' := 22) w17473 g17477 (by decide) sh_9 (by decide) (ty_9 _) (by omega) (by omega) ⟨by omega, by omega⟩ (by omega) (by omega) rfl (fun H17478 e17479 w17480 => ?_))
  have f17481 := f17474.put' e17479 g17477 rfl
  refine wp_of e69 c69_22 (rw_aload_n (pc' := 23) (v := .ref r0) rfl rfl rfl ?_)
  refine wp_of e69 c69_23 (xg_R (pc' := 26) lf_3_22 w17480 g0 sh_6 (by decide) (by decide) ty_6_3 rfl rfl (fun r17482 q17483 g17484 => ?_))
  refine wp_of e69 c69_26 (rw_iconst (pc' := 27) rfl ?_)
  refine wp_of e69 c69_27 (rw_iconst (pc' := 28) rfl ?_)
  refine wp_of e69 c69_28 (xs_I (pc' := 29) w17480 g17484 (by decide) sh_10 (by decide) (ty_10 _) (by omega) (by omega) ⟨by omega, by omega⟩ (by omega) (by omega) rfl (fun H17485 e17486 w17487 => ?_))
  have f17488 := f17481.put' e17486 g17484 rfl
  refine wp_of e69 c69_29 (rw_iconst (pc' := 30) rfl ?_)
  refine wp_of e69 c69_30 (rw_istore_n (pc' := 31) (z := 0) (L' := [(2, vI 0), (0, .ref r0), (1, .ref r1)]) rfl rfl rfl ?_)
  have lp17757 : ∀ (n17758 : Nat) (v17760 : Int) (H17761 : wq_H), WT T H17761 → wfr [(8, 999), (10, 999), (9, 999)] T H17485 H17761 → (0 ≤ v17760 ∧ v17760 ≤ 3) → (3 - v17760).toNat = n17758 → wp kt 1 69 31 [(2, vI v17760), (0, .ref r0), (1, .ref r1)] [] T H17761 (q_69 r0 r1 T H) := by
    intro n17758
    induction n17758 using Nat.strongRecOn with
    | _ n17758 ih17759 =>
      intro v17760 H17761 w17762 f17763 b17764 m17765
      have f17766 := f17488.tr f17763 rfl
      refine wp_of e69 c69_31 (rw_iload_n (pc' := 32) (z := v17760) rfl rfl ?_)
      refine wp_of e69 c69_32 (rw_aload_n (pc' := 33) (v := .ref r1) rfl rfl rfl ?_)
      refine wp_of e69 c69_33 (xg_I (pc' := 36) lf_3_55 w17762 g1 sh_27 (by decide) (by decide) ty_27_12 rfl rfl (fun b17767 b17768 => ?_))
      refine wp_of e69 c69_36 (rw_icmp_ge (p1 := 96) (p2 := 39) (by decide) rfl ⟨by omega, by omega⟩ ⟨by omega, by omega⟩ (fun c17769 => ?_) (fun c17769 => ?_))
      · exact wp_return e69 c69_96 rfl ⟨rfl, w17762, f17766, rfl⟩
      · refine wp_of e69 c69_39 (rw_aload_n (pc' := 40) (v := .ref r1) rfl rfl rfl ?_)
        refine wp_of e69 c69_40 (xg_R (pc' := 43) lf_3_58 w17762 g1 sh_27 (by decide) (by decide) ty_27_3 rfl rfl (fun r17770 q17771 g17772 => ?_))
        refine wp_of e69 c69_43 (rw_iload_n (pc' := 44) (z := v17760) rfl rfl ?_)
        refine wp_of e69 c69_44 (xa_I (so := 0) (pc' := 45) w17762 g17772 sh_31 (by decide) (ty_31 _) (by omega) (by omega) rfl (fun b17773 b17774 => ?_))
        refine wp_of e69 c69_45 (rw_bipush (pc' := 47) (z := 24) rfl (by decide) ?_)
        refine wp_of e69 c69_47 (xc_S (pc' := 50) (as := [vI (H17761 r17770 (v17760.toNat)), vI 24]) (st := []) (lm_3_61) rfl rfl (Nat.le_of_ble_eq_true rfl) rfl (by decide) (s_31 w17762 ⟨by omega, by omega⟩ ⟨by omega, by omega⟩) (fun R17775 T17776 H17777 p17778 => ?_))
        obtain ⟨e17779, e17781, z17782, e17780, b17783⟩ := p17778
        subst e17779
        subst e17780
        subst e17781
        show wp _ _ 69 50 [(2, vI v17760), (0, .ref r0), (1, .ref r1)] [vI z17782] _ H17761 _
        refine wp_of e69 c69_50 (rw_istore_n (pc' := 51) (z := z17782) (L' := [(3, vI z17782), (2, vI v17760), (0, .ref r0), (1, .ref r1)]) rfl rfl rfl ?_)
        refine wp_of e69 c69_51 (rw_aload_n (pc' := 52) (v := .ref r0) rfl rfl rfl ?_)
        have k17784 : H17761 r0 1 = H17463 r0 1 := ((f17763 r0 1 _ g0 rfl).trans ((wq_u_t e17486 g17484 g0 rfl 1).trans ((wq_u_t e17479 g17477 g0 rfl 1).trans (wq_u_t e17472 g17470 g0 rfl 1))))
        have q17785 : H17761 r0 1 = (r17468 : Int) := k17784.trans q17469
        refine wp_of e69 c69_52 (xg_K (pc' := 55) lf_3_15 w17762 g0 sh_6 (by decide) (by decide) rfl q17785 rfl ?_)
        refine wp_of e69 c69_55 (rw_iconst (pc' := 56) rfl ?_)
        refine wp_of e69 c69_56 (rw_dup2 (pc' := 57) rfl rfl rfl ?_)
        refine wp_of e69 c69_57 (xa_L (pc' := 58) w17762 g17470 sh_8 (by decide) (ty_8 _) (by omega) (by omega) rfl (fun b17786 b17787 => ?_))
        refine wp_of e69 c69_58 (rw_iload_n (pc' := 59) (z := z17782) rfl rfl ?_)
        refine wp_of e69 c69_59 (xc_S (pc' := 62) (as := [vI z17782]) (st := [vL (H17761 r17468 ((0 : Int).toNat)), vI 0, .ref r17468]) (lm_3_65) rfl rfl (Nat.le_of_ble_eq_true rfl) rfl (by decide) (s_49 w17762 ⟨by omega, by omega⟩) (fun R17788 T17789 H17790 p17791 => ?_))
        obtain ⟨e17792, e17794, z17795, e17793, b17796⟩ := p17791
        subst e17792
        subst e17793
        subst e17794
        show wp _ _ 69 62 [(3, vI z17782), (2, vI v17760), (0, .ref r0), (1, .ref r1)] [vL z17795, vL (H17761 r17468 ((0 : Int).toNat)), vI 0, .ref r17468] _ H17761 _
        refine wp_of e69 c69_62 (rw_laddw (pc' := 63) rfl ?_)
        obtain ⟨v17797, e17798⟩ : ∃ x : Int, x = wl_w ((H17761 r17468 ((0 : Int).toNat)) + z17795) := ⟨_, rfl⟩
        rw [← e17798]
        have b17799 : -9223372036854775808 ≤ v17797 ∧ v17797 ≤ 9223372036854775807 := by
          rw [e17798]
          exact wL_w _
        refine wp_of e69 c69_63 (xs_L (pc' := 64) w17762 g17470 (by decide) sh_8 (by decide) (ty_8 _) (by omega) (by omega) ⟨by omega, by omega⟩ (by omega) (by omega) rfl (fun H17800 e17801 w17802 => ?_))
        have f17803 := f17766.put' e17801 g17470 rfl
        have f17804 := f17763.put' e17801 g17470 rfl
        refine wp_of e69 c69_64 (rw_aload_n (pc' := 65) (v := .ref r0) rfl rfl rfl ?_)
        have k17805 : H17800 r0 2 = H17471 r0 2 := ((wq_u_t e17801 g17470 g0 rfl 2).trans ((f17763 r0 2 _ g0 rfl).trans ((wq_u_t e17486 g17484 g0 rfl 2).trans (wq_u_t e17479 g17477 g0 rfl 2))))
        have q17806 : H17800 r0 2 = (r17475 : Int) := k17805.trans q17476
        refine wp_of e69 c69_65 (xg_K (pc' := 68) lf_3_19 w17802 g0 sh_6 (by decide) (by decide) rfl q17806 rfl ?_)
        refine wp_of e69 c69_68 (rw_iconst (pc' := 69) rfl ?_)
        refine wp_of e69 c69_69 (rw_dup2 (pc' := 70) rfl rfl rfl ?_)
        refine wp_of e69 c69_70 (xa_L (pc' := 71) w17802 g17477 sh_9 (by decide) (ty_9 _) (by omega) (by omega) rfl (fun b17807 b17808 => ?_))
        refine wp_of e69 c69_71 (rw_iload_n (pc' := 72) (z := z17782) rfl rfl ?_)
        refine wp_of e69 c69_72 (rw_bipush (pc' := 74) (z := 12) rfl (by decide) ?_)
        refine wp_of e69 c69_74 (rw_ishr (pc' := 75) rfl ?_)
        obtain ⟨v17809, e17810⟩ : ∃ x : Int, x = wq_shr z17782 12 := ⟨_, rfl⟩
        rw [← e17810]
        have b17811 : -2147483648 ≤ v17809 ∧ v17809 ≤ 2147483647 := by
          rw [e17810]
          exact wI_shr _ _
        refine wp_of e69 c69_75 (xc_S (pc' := 78) (as := [vI v17809]) (st := [vL (H17800 r17475 ((0 : Int).toNat)), vI 0, .ref r17475]) (lm_3_65) rfl rfl (Nat.le_of_ble_eq_true rfl) rfl (by decide) (s_49 w17802 ⟨by omega, by omega⟩) (fun R17812 T17813 H17814 p17815 => ?_))
        obtain ⟨e17816, e17818, z17819, e17817, b17820⟩ := p17815
        subst e17816
        subst e17817
        subst e17818
        show wp _ _ 69 78 [(3, vI z17782), (2, vI v17760), (0, .ref r0), (1, .ref r1)] [vL z17819, vL (H17800 r17475 ((0 : Int).toNat)), vI 0, .ref r17475] _ H17800 _
        refine wp_of e69 c69_78 (rw_laddw (pc' := 79) rfl ?_)
        obtain ⟨v17821, e17822⟩ : ∃ x : Int, x = wl_w ((H17800 r17475 ((0 : Int).toNat)) + z17819) := ⟨_, rfl⟩
        rw [← e17822]
        have b17823 : -9223372036854775808 ≤ v17821 ∧ v17821 ≤ 9223372036854775807 := by
          rw [e17822]
          exact wL_w _
        refine wp_of e69 c69_79 (xs_L (pc' := 80) w17802 g17477 (by decide) sh_9 (by decide) (ty_9 _) (by omega) (by omega) ⟨by omega, by omega⟩ (by omega) (by omega) rfl (fun H17824 e17825 w17826 => ?_))
        have f17827 := f17803.put' e17825 g17477 rfl
        have f17828 := f17804.put' e17825 g17477 rfl
        refine wp_of e69 c69_80 (rw_aload_n (pc' := 81) (v := .ref r0) rfl rfl rfl ?_)
        have k17829 : H17824 r0 3 = H17478 r0 3 := ((wq_u_t e17825 g17477 g0 rfl 3).trans ((wq_u_t e17801 g17470 g0 rfl 3).trans ((f17763 r0 3 _ g0 rfl).trans (wq_u_t e17486 g17484 g0 rfl 3))))
        have q17830 : H17824 r0 3 = (r17482 : Int) := k17829.trans q17483
        refine wp_of e69 c69_81 (xg_K (pc' := 84) lf_3_22 w17826 g0 sh_6 (by decide) (by decide) rfl q17830 rfl ?_)
        refine wp_of e69 c69_84 (rw_iconst (pc' := 85) rfl ?_)
        refine wp_of e69 c69_85 (rw_dup2 (pc' := 86) rfl rfl rfl ?_)
        refine wp_of e69 c69_86 (xa_I (so := 0) (pc' := 87) w17826 g17484 sh_10 (by decide) (ty_10 _) (by omega) (by omega) rfl (fun b17831 b17832 => ?_))
        refine wp_of e69 c69_87 (rw_iload_n (pc' := 88) (z := z17782) rfl rfl ?_)
        refine wp_of e69 c69_88 (rw_ior (pc' := 89) rfl ?_)
        obtain ⟨v17833, e17834⟩ : ∃ x : Int, x = wq_or (H17824 r17482 ((0 : Int).toNat)) z17782 := ⟨_, rfl⟩
        rw [← e17834]
        have b17835 : -2147483648 ≤ v17833 ∧ v17833 ≤ 2147483647 := by
          rw [e17834]
          exact wI_or _ _
        refine wp_of e69 c69_89 (xs_I (pc' := 90) w17826 g17484 (by decide) sh_10 (by decide) (ty_10 _) (by omega) (by omega) ⟨by omega, by omega⟩ (by omega) (by omega) rfl (fun H17836 e17837 w17838 => ?_))
        have f17839 := f17827.put' e17837 g17484 rfl
        have f17840 := f17828.put' e17837 g17484 rfl
        refine wp_of e69 c69_90 (rw_iinc (pc' := 93) (z := v17760) (L' := [(2, vI (v17760 + 1)), (3, vI z17782), (0, .ref r0), (1, .ref r1)]) rfl rfl rfl rfl ?_)
        refine wp_of e69 c69_93 (rw_goto (p1 := 31) (by decide) ?_)
        exact wp_lc (ks := [2, 3, 0, 1]) (wl_c rfl (wl_c rfl (wl_c rfl wl_n))) rfl (by decide) (ih17759 _ (by omega) (v17760 + 1) H17836 w17838 f17840 ⟨by omega, by omega⟩ rfl)
  exact wp_lc (ks := [2, 0, 1]) (wl_c rfl (wl_c rfl (wl_c rfl wl_n))) rfl (by decide) (lp17757 _ 0 H17485 w17487 wfr.rf ⟨by omega, by omega⟩ rfl)
/-! StrikeAwake$Walk.quarrelsOf(LStrikeAwake$Parish;I)I -/
theorem e71 : wq_en 71 = some (3, 7, false, some FieldType.int) := rfl
theorem cg71_0 : mc_cd 71 0 = some (.aload_n 1, 1) ∧ mc_cd 71 1 = some (.getfield 42, 3) ∧ mc_cd 71 4 = some (.iload_n 2, 1) ∧ mc_cd 71 5 = some (.aaload, 1) ∧ mc_cd 71 6 = some (.getfield 82, 3) ∧ mc_cd 71 9 = some (.istore_n 3, 1) ∧ mc_cd 71 10 = some (.aload_n 1, 1) ∧ mc_cd 71 11 = some (.getfield 42, 3) := by decide +kernel
theorem c71_0 : mc_cd 71 0 = some (.aload_n 1, 1) := cg71_0.1
theorem c71_1 : mc_cd 71 1 = some (.getfield 42, 3) := cg71_0.2.1
theorem c71_4 : mc_cd 71 4 = some (.iload_n 2, 1) := cg71_0.2.2.1
theorem c71_5 : mc_cd 71 5 = some (.aaload, 1) := cg71_0.2.2.2.1
theorem c71_6 : mc_cd 71 6 = some (.getfield 82, 3) := cg71_0.2.2.2.2.1
theorem c71_9 : mc_cd 71 9 = some (.istore_n 3, 1) := cg71_0.2.2.2.2.2.1
theorem c71_10 : mc_cd 71 10 = some (.aload_n 1, 1) := cg71_0.2.2.2.2.2.2.1
theorem c71_11 : mc_cd 71 11 = some (.getfield 42, 3) := cg71_0.2.2.2.2.2.2.2
theorem cg71_14 : mc_cd 71 14 = some (.iload_n 2, 1) ∧ mc_cd 71 15 = some (.aaload, 1) ∧ mc_cd 71 16 = some (.getfield 85, 3) ∧ mc_cd 71 19 = some (.aload_n 0, 1) ∧ mc_cd 71 20 = some (.getfield 9, 3) ∧ mc_cd 71 23 = some (.iload_n 2, 1) ∧ mc_cd 71 24 = some (.iaload, 1) ∧ mc_cd 71 25 = some (.iaload, 1) := by decide +kernel
theorem c71_14 : mc_cd 71 14 = some (.iload_n 2, 1) := cg71_14.1
theorem c71_15 : mc_cd 71 15 = some (.aaload, 1) := cg71_14.2.1
theorem c71_16 : mc_cd 71 16 = some (.getfield 85, 3) := cg71_14.2.2.1
theorem c71_19 : mc_cd 71 19 = some (.aload_n 0, 1) := cg71_14.2.2.2.1
theorem c71_20 : mc_cd 71 20 = some (.getfield 9, 3) := cg71_14.2.2.2.2.1
theorem c71_23 : mc_cd 71 23 = some (.iload_n 2, 1) := cg71_14.2.2.2.2.2.1
theorem c71_24 : mc_cd 71 24 = some (.iaload, 1) := cg71_14.2.2.2.2.2.2.1
theorem c71_25 : mc_cd 71 25 = some (.iaload, 1) := cg71_14.2.2.2.2.2.2.2
theorem cg71_26 : mc_cd 71 26 = some (.istore 4, 2) ∧ mc_cd 71 28 = some (.iconst 0, 1) ∧ mc_cd 71 29 = some (.istore 5, 2) ∧ mc_cd 71 31 = some (.iconst 0, 1) ∧ mc_cd 71 32 = some (.istore 6, 2) ∧ mc_cd 71 34 = some (.iload 6, 2) ∧ mc_cd 71 36 = some (.iload_n 2, 1) ∧ mc_cd 71 37 = some (.if_icmp .ge 48, 3) := by decide +kernel
theorem c71_26 : mc_cd 71 26 = some (.istore 4, 2) := cg71_26.1
theorem c71_28 : mc_cd 71 28 = some (.iconst 0, 1) := cg71_26.2.1
theorem c71_29 : mc_cd 71 29 = some (.istore 5, 2) := cg71_26.2.2.1
theorem c71_31 : mc_cd 71 31 = some (.iconst 0, 1) := cg71_26.2.2.2.1
theorem c71_32 : mc_cd 71 32 = some (.istore 6, 2) := cg71_26.2.2.2.2.1
theorem c71_34 : mc_cd 71 34 = some (.iload 6, 2) := cg71_26.2.2.2.2.2.1
theorem c71_36 : mc_cd 71 36 = some (.iload_n 2, 1) := cg71_26.2.2.2.2.2.2.1
theorem c71_37 : mc_cd 71 37 = some (.if_icmp .ge 48, 3) := cg71_26.2.2.2.2.2.2.2
theorem cg71_40 : mc_cd 71 40 = some (.iload_n 3, 1) ∧ mc_cd 71 41 = some (.ifCond .eq 44, 3) ∧ mc_cd 71 44 = some (.iload_n 3, 1) ∧ mc_cd 71 45 = some (.iload 6, 2) ∧ mc_cd 71 47 = some (.ishr, 1) ∧ mc_cd 71 48 = some (.iconst 1, 1) ∧ mc_cd 71 49 = some (.iand, 1) ∧ mc_cd 71 50 = some (.ifCond .eq 29, 3) := by decide +kernel
theorem c71_40 : mc_cd 71 40 = some (.iload_n 3, 1) := cg71_40.1
theorem c71_41 : mc_cd 71 41 = some (.ifCond .eq 44, 3) := cg71_40.2.1
theorem c71_44 : mc_cd 71 44 = some (.iload_n 3, 1) := cg71_40.2.2.1
theorem c71_45 : mc_cd 71 45 = some (.iload 6, 2) := cg71_40.2.2.2.1
theorem c71_47 : mc_cd 71 47 = some (.ishr, 1) := cg71_40.2.2.2.2.1
theorem c71_48 : mc_cd 71 48 = some (.iconst 1, 1) := cg71_40.2.2.2.2.2.1
theorem c71_49 : mc_cd 71 49 = some (.iand, 1) := cg71_40.2.2.2.2.2.2.1
theorem c71_50 : mc_cd 71 50 = some (.ifCond .eq 29, 3) := cg71_40.2.2.2.2.2.2.2
theorem cg71_53 : mc_cd 71 53 = some (.iload 5, 2) ∧ mc_cd 71 55 = some (.iload 4, 2) ∧ mc_cd 71 57 = some (.aload_n 1, 1) ∧ mc_cd 71 58 = some (.getfield 42, 3) ∧ mc_cd 71 61 = some (.iload 6, 2) ∧ mc_cd 71 63 = some (.aaload, 1) ∧ mc_cd 71 64 = some (.getfield 85, 3) ∧ mc_cd 71 67 = some (.aload_n 0, 1) := by decide +kernel
theorem c71_53 : mc_cd 71 53 = some (.iload 5, 2) := cg71_53.1
theorem c71_55 : mc_cd 71 55 = some (.iload 4, 2) := cg71_53.2.1
theorem c71_57 : mc_cd 71 57 = some (.aload_n 1, 1) := cg71_53.2.2.1
theorem c71_58 : mc_cd 71 58 = some (.getfield 42, 3) := cg71_53.2.2.2.1
theorem c71_61 : mc_cd 71 61 = some (.iload 6, 2) := cg71_53.2.2.2.2.1
theorem c71_63 : mc_cd 71 63 = some (.aaload, 1) := cg71_53.2.2.2.2.2.1
theorem c71_64 : mc_cd 71 64 = some (.getfield 85, 3) := cg71_53.2.2.2.2.2.2.1
theorem c71_67 : mc_cd 71 67 = some (.aload_n 0, 1) := cg71_53.2.2.2.2.2.2.2
theorem cg71_68 : mc_cd 71 68 = some (.getfield 9, 3) ∧ mc_cd 71 71 = some (.iload 6, 2) ∧ mc_cd 71 73 = some (.iaload, 1) ∧ mc_cd 71 74 = some (.iaload, 1) ∧ mc_cd 71 75 = some (.iand, 1) ∧ mc_cd 71 76 = some (.ior, 1) ∧ mc_cd 71 77 = some (.istore 5, 2) ∧ mc_cd 71 79 = some (.iinc 6 1, 3) := by decide +kernel
theorem c71_68 : mc_cd 71 68 = some (.getfield 9, 3) := cg71_68.1
theorem c71_71 : mc_cd 71 71 = some (.iload 6, 2) := cg71_68.2.1
theorem c71_73 : mc_cd 71 73 = some (.iaload, 1) := cg71_68.2.2.1
theorem c71_74 : mc_cd 71 74 = some (.iaload, 1) := cg71_68.2.2.2.1
theorem c71_75 : mc_cd 71 75 = some (.iand, 1) := cg71_68.2.2.2.2.1
theorem c71_76 : mc_cd 71 76 = some (.ior, 1) := cg71_68.2.2.2.2.2.1
theorem c71_77 : mc_cd 71 77 = some (.istore 5, 2) := cg71_68.2.2.2.2.2.2.1
theorem c71_79 : mc_cd 71 79 = some (.iinc 6 1, 3) := cg71_68.2.2.2.2.2.2.2
theorem cg71_82 : mc_cd 71 82 = some (.goto (-48), 3) ∧ mc_cd 71 85 = some (.iload 5, 2) ∧ mc_cd 71 87 = some (.ireturn, 1) := by decide +kernel
theorem c71_82 : mc_cd 71 82 = some (.goto (-48), 3) := cg71_82.1
theorem c71_85 : mc_cd 71 85 = some (.iload 5, 2) := cg71_82.2.1
theorem c71_87 : mc_cd 71 87 = some (.ireturn, 1) := cg71_82.2.2
abbrev q_71 (r0 : Nat) (r1 : Nat) (a2 : Int) (T : wq_T) (H : wq_H) : Option Value → wq_T → wq_H → Prop := fun r T' H' => T = T' ∧ H = H' ∧ ∃ z : Int, some (vI z) = r ∧ ((-2147483648) ≤ z ∧ z ≤ 2147483647)
set_option maxHeartbeats 4000000 in
theorem s_71 {kt : Nat → Option mc_E} {T : wq_T} {H : wq_H} {r0 : Nat} {r1 : Nat} {a2 : Int} (hW : WT T H) (g0 : T.2.2.2 r0 = some 6) (g1 : T.2.2.2 r1 = some 27) (i2 : 0 ≤ a2 ∧ a2 ≤ 5) : wpc kt 1 71 [.ref r0, .ref r1, vI a2] T H (q_71 r0 r1 a2 T H) := by
  refine wp_enter e71 (Nat.le_of_ble_eq_true rfl) rfl ?_
  show wp _ _ 71 0 [(0, .ref r0), (1, .ref r1), (2, vI a2)] [] _ H _
  refine wp_of e71 c71_0 (rw_aload_n (pc' := 1) (v := .ref r1) rfl rfl rfl ?_)
  refine wp_of e71 c71_1 (xg_R (pc' := 4) lf_3_42 hW g1 sh_27 (by decide) (by decide) ty_27_0 rfl rfl (fun r18031 q18032 g18033 => ?_))
  refine wp_of e71 c71_4 (rw_iload_n (pc' := 5) (z := a2) rfl rfl ?_)
  refine wp_of e71 c71_5 (xa_R (pc' := 6) (by decide) hW g18033 sh_28 (by decide) (ty_28 _) (by omega) (by omega) rfl (fun r18034 q18035 g18036 => ?_))
  refine wp_of e71 c71_6 (xg_I (pc' := 9) lf_3_82 hW g18036 sh_35 (by decide) (by decide) ty_35_14 rfl rfl (fun b18037 b18038 => ?_))
  refine wp_of e71 c71_9 (rw_istore_n (pc' := 10) (z := H r18034 14) (L' := [(3, vI (H r18034 14)), (0, .ref r0), (1, .ref r1), (2, vI a2)]) rfl rfl rfl ?_)
  refine wp_of e71 c71_10 (rw_aload_n (pc' := 11) (v := .ref r1) rfl rfl rfl ?_)
  refine wp_of e71 c71_11 (xg_K (pc' := 14) lf_3_42 hW g1 sh_27 (by decide) (by decide) rfl q18032 rfl ?_)
  refine wp_of e71 c71_14 (rw_iload_n (pc' := 15) (z := a2) rfl rfl ?_)
  refine wp_of e71 c71_15 (xa_K (pc' := 16) (by decide) hW g18033 sh_28 (by decide) (by omega) (by omega) q18035 rfl ?_)
  refine wp_of e71 c71_16 (xg_R (pc' := 19) lf_3_85 hW g18036 sh_35 (by decide) (by decide) ty_35_2 rfl rfl (fun r18039 q18040 g18041 => ?_))
  refine wp_of e71 c71_19 (rw_aload_n (pc' := 20) (v := .ref r0) rfl rfl rfl ?_)
  refine wp_of e71 c71_20 (xg_R (pc' := 23) lf_3_9 hW g0 sh_6 (by decide) (by decide) ty_6_0 rfl rfl (fun r18042 q18043 g18044 => ?_))
  refine wp_of e71 c71_23 (rw_iload_n (pc' := 24) (z := a2) rfl rfl ?_)
  refine wp_of e71 c71_24 (xa_I (so := 0) (pc' := 25) hW g18044 sh_7 (by decide) (ty_7 _) (by omega) (by omega) rfl (fun b18045 b18046 => ?_))
  refine wp_of e71 c71_25 (xa_I (so := 0) (pc' := 26) hW g18041 sh_38 (by decide) (ty_38 _) (by omega) (by omega) rfl (fun b18047 b18048 => ?_))
  refine wp_of e71 c71_26 (rw_istore (pc' := 28) (z := H r18039 ((H r18042 (a2.toNat)).toNat)) (L' := [(4, vI (H r18039 ((H r18042 (a2.toNat)).toNat))), (3, vI (H r18034 14)), (0, .ref r0), (1, .ref r1), (2, vI a2)]) rfl rfl rfl ?_)
  refine wp_of e71 c71_28 (rw_iconst (pc' := 29) rfl ?_)
  refine wp_of e71 c71_29 (rw_istore (pc' := 31) (z := 0) (L' := [(5, vI 0), (4, vI (H r18039 ((H r18042 (a2.toNat)).toNat))), (3, vI (H r18034 14)), (0, .ref r0), (1, .ref r1), (2, vI a2)]) rfl rfl rfl ?_)
  refine wp_of e71 c71_31 (rw_iconst (pc' := 32) rfl ?_)
  refine wp_of e71 c71_32 (rw_istore (pc' := 34) (z := 0) (L' := [(6, vI 0), (5, vI 0), (4, vI (H r18039 ((H r18042 (a2.toNat)).toNat))), (3, vI (H r18034 14)), (0, .ref r0), (1, .ref r1), (2, vI a2)]) rfl rfl rfl ?_)
  have lp18199 : ∀ (n18200 : Nat) (v18202 : Int) (v18203 : Int), (0 ≤ v18202 ∧ v18202 ≤ 5) → ((-2147483648) ≤ v18203 ∧ v18203 ≤ 2147483647) → (5 - v18202).toNat = n18200 → wp kt 0 71 34 [(6, vI v18202), (5, vI v18203), (4, vI (H r18039 ((H r18042 (a2.toNat)).toNat))), (3, vI (H r18034 14)), (0, .ref r0), (1, .ref r1), (2, vI a2)] [] T H (q_71 r0 r1 a2 T H) := by
    intro n18200
    induction n18200 using Nat.strongRecOn with
    | _ n18200 ih18201 =>
      intro v18202 v18203 b18206 b18207 m18208
      refine wp_of e71 c71_34 (rw_iload (pc' := 36) (z := v18202) rfl rfl ?_)
      refine wp_of e71 c71_36 (rw_iload_n (pc' := 37) (z := a2) rfl rfl ?_)
      refine wp_of e71 c71_37 (rw_icmp_ge (p1 := 85) (p2 := 40) (by decide) rfl ⟨by omega, by omega⟩ ⟨by omega, by omega⟩ (fun c18209 => ?_) (fun c18209 => ?_))
      · refine wp_of e71 c71_85 (rw_iload (pc' := 87) (z := v18203) rfl rfl ?_)
        exact wp_ireturn e71 c71_87 rfl ⟨rfl, rfl, v18203, rfl, ⟨by omega, by omega⟩⟩
      · refine wp_of e71 c71_40 (rw_iload_n (pc' := 41) (z := H r18034 14) rfl rfl ?_)
        refine wp_of e71 c71_41 (rw_if_eq (p1 := 85) (p2 := 44) (by decide) rfl ⟨by omega, by omega⟩ (fun c18210 => ?_) (fun c18210 => ?_))
        · refine wp_of e71 c71_85 (rw_iload (pc' := 87) (z := v18203) rfl rfl ?_)
          exact wp_ireturn e71 c71_87 rfl ⟨rfl, rfl, v18203, rfl, ⟨by omega, by omega⟩⟩
        · refine wp_of e71 c71_44 (rw_iload_n (pc' := 45) (z := H r18034 14) rfl rfl ?_)
          refine wp_of e71 c71_45 (rw_iload (pc' := 47) (z := v18202) rfl rfl ?_)
          refine wp_of e71 c71_47 (rw_ishr (pc' := 48) rfl ?_)
          obtain ⟨v18211, e18212⟩ : ∃ x : Int, x = wq_shr (H r18034 14) v18202 := ⟨_, rfl⟩
          rw [← e18212]
          have b18213 : -2147483648 ≤ v18211 ∧ v18211 ≤ 2147483647 := by
            rw [e18212]
            exact wI_shr _ _
          refine wp_of e71 c71_48 (rw_iconst (pc' := 49) rfl ?_)
          refine wp_of e71 c71_49 (rw_iand (pc' := 50) rfl ?_)
          obtain ⟨v18214, e18215⟩ : ∃ x : Int, x = wq_and v18211 1 := ⟨_, rfl⟩
          rw [← e18215]
          have b18216 : 0 ≤ v18214 ∧ v18214 ≤ 1 := by
            rw [e18215]
            exact wq_and_b _ (by omega) (by omega)
          refine wp_of e71 c71_50 (rw_if_eq (p1 := 79) (p2 := 53) (by decide) rfl ⟨by omega, by omega⟩ (fun c18217 => ?_) (fun c18217 => ?_))
          · refine wp_of e71 c71_79 (rw_iinc (pc' := 82) (z := v18202) (L' := [(6, vI (v18202 + 1)), (5, vI v18203), (4, vI (H r18039 ((H r18042 (a2.toNat)).toNat))), (3, vI (H r18034 14)), (0, .ref r0), (1, .ref r1), (2, vI a2)]) rfl rfl rfl rfl ?_)
            refine wp_of e71 c71_82 (rw_goto (p1 := 34) (by decide) ?_)
            exact wp_lc (ks := [6, 5, 4, 3, 0, 1, 2]) (wl_c rfl (wl_c rfl (wl_c rfl (wl_c rfl (wl_c rfl (wl_c rfl (wl_c rfl wl_n))))))) rfl (by decide) (ih18201 _ (by omega) (v18202 + 1) v18203 ⟨by omega, by omega⟩ ⟨by omega, by omega⟩ rfl)
          · refine wp_of e71 c71_53 (rw_iload (pc' := 55) (z := v18203) rfl rfl ?_)
            refine wp_of e71 c71_55 (rw_iload (pc' := 57) (z := H r18039 ((H r18042 (a2.toNat)).toNat)) rfl rfl ?_)
            refine wp_of e71 c71_57 (rw_aload_n (pc' := 58) (v := .ref r1) rfl rfl rfl ?_)
            refine wp_of e71 c71_58 (xg_K (pc' := 61) lf_3_42 hW g1 sh_27 (by decide) (by decide) rfl q18032 rfl ?_)
            refine wp_of e71 c71_61 (rw_iload (pc' := 63) (z := v18202) rfl rfl ?_)
            refine wp_of e71 c71_63 (xa_R (pc' := 64) (by decide) hW g18033 sh_28 (by decide) (ty_28 _) (by omega) (by omega) rfl (fun r18218 q18219 g18220 => ?_))
            refine wp_of e71 c71_64 (xg_R (pc' := 67) lf_3_85 hW g18220 sh_35 (by decide) (by decide) ty_35_2 rfl rfl (fun r18221 q18222 g18223 => ?_))
            refine wp_of e71 c71_67 (rw_aload_n (pc' := 68) (v := .ref r0) rfl rfl rfl ?_)
            refine wp_of e71 c71_68 (xg_K (pc' := 71) lf_3_9 hW g0 sh_6 (by decide) (by decide) rfl q18043 rfl ?_)
            refine wp_of e71 c71_71 (rw_iload (pc' := 73) (z := v18202) rfl rfl ?_)
            refine wp_of e71 c71_73 (xa_I (so := 0) (pc' := 74) hW g18044 sh_7 (by decide) (ty_7 _) (by omega) (by omega) rfl (fun b18224 b18225 => ?_))
            refine wp_of e71 c71_74 (xa_I (so := 0) (pc' := 75) hW g18223 sh_38 (by decide) (ty_38 _) (by omega) (by omega) rfl (fun b18226 b18227 => ?_))
            refine wp_of e71 c71_75 (rw_iand (pc' := 76) rfl ?_)
            obtain ⟨v18228, e18229⟩ : ∃ x : Int, x = wq_and (H r18039 ((H r18042 (a2.toNat)).toNat)) (H r18221 ((H r18042 (v18202.toNat)).toNat)) := ⟨_, rfl⟩
            rw [← e18229]
            have b18230 : -2147483648 ≤ v18228 ∧ v18228 ≤ 2147483647 := by
              rw [e18229]
              exact wI_and _ _
            refine wp_of e71 c71_76 (rw_ior (pc' := 77) rfl ?_)
            obtain ⟨v18231, e18232⟩ : ∃ x : Int, x = wq_or v18203 v18228 := ⟨_, rfl⟩
            rw [← e18232]
            have b18233 : -2147483648 ≤ v18231 ∧ v18231 ≤ 2147483647 := by
              rw [e18232]
              exact wI_or _ _
            refine wp_of e71 c71_77 (rw_istore (pc' := 79) (z := v18231) (L' := [(5, vI v18231), (6, vI v18202), (4, vI (H r18039 ((H r18042 (a2.toNat)).toNat))), (3, vI (H r18034 14)), (0, .ref r0), (1, .ref r1), (2, vI a2)]) rfl rfl rfl ?_)
            refine wp_of e71 c71_79 (rw_iinc (pc' := 82) (z := v18202) (L' := [(6, vI (v18202 + 1)), (5, vI v18231), (4, vI (H r18039 ((H r18042 (a2.toNat)).toNat))), (3, vI (H r18034 14)), (0, .ref r0), (1, .ref r1), (2, vI a2)]) rfl rfl rfl rfl ?_)
            refine wp_of e71 c71_82 (rw_goto (p1 := 34) (by decide) ?_)
            exact wp_lc (ks := [6, 5, 4, 3, 0, 1, 2]) (wl_c rfl (wl_c rfl (wl_c rfl (wl_c rfl (wl_c rfl (wl_c rfl (wl_c rfl wl_n))))))) rfl (by decide) (ih18201 _ (by omega) (v18202 + 1) v18231 ⟨by omega, by omega⟩ ⟨by omega, by omega⟩ rfl)
  exact wp_lc (ks := [6, 5, 4, 3, 0, 1, 2]) (wl_c rfl (wl_c rfl (wl_c rfl (wl_c rfl (wl_c rfl (wl_c rfl (wl_c rfl wl_n))))))) rfl (by decide) (lp18199 _ 0 0 ⟨by omega, by omega⟩ ⟨by omega, by omega⟩ rfl)
/-! StrikeAwake$Walk.countFrom(LStrikeAwake$Parish;I)V -/
theorem e70 : wq_en 70 = some (3, 6, false, none) := rfl
theorem cg70_0 : mc_cd 70 0 = some (.iload_n 2, 1) ∧ mc_cd 70 1 = some (.istore_n 3, 1) ∧ mc_cd 70 2 = some (.iload_n 3, 1) ∧ mc_cd 70 3 = some (.aload_n 0, 1) ∧ mc_cd 70 4 = some (.getfield 51, 3) ∧ mc_cd 70 7 = some (.if_icmp .ge 115, 3) ∧ mc_cd 70 10 = some (.aload_n 1, 1) ∧ mc_cd 70 11 = some (.getfield 42, 3) := by decide +kernel
theorem c70_0 : mc_cd 70 0 = some (.iload_n 2, 1) := cg70_0.1
theorem c70_1 : mc_cd 70 1 = some (.istore_n 3, 1) := cg70_0.2.1
theorem c70_2 : mc_cd 70 2 = some (.iload_n 3, 1) := cg70_0.2.2.1
theorem c70_3 : mc_cd 70 3 = some (.aload_n 0, 1) := cg70_0.2.2.2.1
theorem c70_4 : mc_cd 70 4 = some (.getfield 51, 3) := cg70_0.2.2.2.2.1
theorem c70_7 : mc_cd 70 7 = some (.if_icmp .ge 115, 3) := cg70_0.2.2.2.2.2.1
theorem c70_10 : mc_cd 70 10 = some (.aload_n 1, 1) := cg70_0.2.2.2.2.2.2.1
theorem c70_11 : mc_cd 70 11 = some (.getfield 42, 3) := cg70_0.2.2.2.2.2.2.2
theorem cg70_14 : mc_cd 70 14 = some (.iload_n 3, 1) ∧ mc_cd 70 15 = some (.aaload, 1) ∧ mc_cd 70 16 = some (.astore 4, 2) ∧ mc_cd 70 18 = some (.aload_n 0, 1) ∧ mc_cd 70 19 = some (.getfield 9, 3) ∧ mc_cd 70 22 = some (.iload_n 3, 1) ∧ mc_cd 70 23 = some (.iaload, 1) ∧ mc_cd 70 24 = some (.istore 5, 2) := by decide +kernel
theorem c70_14 : mc_cd 70 14 = some (.iload_n 3, 1) := cg70_14.1
theorem c70_15 : mc_cd 70 15 = some (.aaload, 1) := cg70_14.2.1
theorem c70_16 : mc_cd 70 16 = some (.astore 4, 2) := cg70_14.2.2.1
theorem c70_18 : mc_cd 70 18 = some (.aload_n 0, 1) := cg70_14.2.2.2.1
theorem c70_19 : mc_cd 70 19 = some (.getfield 9, 3) := cg70_14.2.2.2.2.1
theorem c70_22 : mc_cd 70 22 = some (.iload_n 3, 1) := cg70_14.2.2.2.2.2.1
theorem c70_23 : mc_cd 70 23 = some (.iaload, 1) := cg70_14.2.2.2.2.2.2.1
theorem c70_24 : mc_cd 70 24 = some (.istore 5, 2) := cg70_14.2.2.2.2.2.2.2
theorem cg70_26 : mc_cd 70 26 = some (.aload_n 0, 1) ∧ mc_cd 70 27 = some (.getfield 15, 3) ∧ mc_cd 70 30 = some (.iload_n 3, 1) ∧ mc_cd 70 31 = some (.iconst 1, 1) ∧ mc_cd 70 32 = some (.iadd, 1) ∧ mc_cd 70 33 = some (.aload_n 0, 1) ∧ mc_cd 70 34 = some (.getfield 15, 3) ∧ mc_cd 70 37 = some (.iload_n 3, 1) := by decide +kernel
theorem c70_26 : mc_cd 70 26 = some (.aload_n 0, 1) := cg70_26.1
theorem c70_27 : mc_cd 70 27 = some (.getfield 15, 3) := cg70_26.2.1
theorem c70_30 : mc_cd 70 30 = some (.iload_n 3, 1) := cg70_26.2.2.1
theorem c70_31 : mc_cd 70 31 = some (.iconst 1, 1) := cg70_26.2.2.2.1
theorem c70_32 : mc_cd 70 32 = some (.iadd, 1) := cg70_26.2.2.2.2.1
theorem c70_33 : mc_cd 70 33 = some (.aload_n 0, 1) := cg70_26.2.2.2.2.2.1
theorem c70_34 : mc_cd 70 34 = some (.getfield 15, 3) := cg70_26.2.2.2.2.2.2.1
theorem c70_37 : mc_cd 70 37 = some (.iload_n 3, 1) := cg70_26.2.2.2.2.2.2.2
theorem cg70_38 : mc_cd 70 38 = some (.laload, 1) ∧ mc_cd 70 39 = some (.aload 4, 2) ∧ mc_cd 70 41 = some (.getfield 69, 3) ∧ mc_cd 70 44 = some (.iload 5, 2) ∧ mc_cd 70 46 = some (.laload, 1) ∧ mc_cd 70 47 = some (.ladd, 1) ∧ mc_cd 70 48 = some (.lastore, 1) ∧ mc_cd 70 49 = some (.aload_n 0, 1) := by decide +kernel
theorem c70_38 : mc_cd 70 38 = some (.laload, 1) := cg70_38.1
theorem c70_39 : mc_cd 70 39 = some (.aload 4, 2) := cg70_38.2.1
theorem c70_41 : mc_cd 70 41 = some (.getfield 69, 3) := cg70_38.2.2.1
theorem c70_44 : mc_cd 70 44 = some (.iload 5, 2) := cg70_38.2.2.2.1
theorem c70_46 : mc_cd 70 46 = some (.laload, 1) := cg70_38.2.2.2.2.1
theorem c70_47 : mc_cd 70 47 = some (.ladd, 1) := cg70_38.2.2.2.2.2.1
theorem c70_48 : mc_cd 70 48 = some (.lastore, 1) := cg70_38.2.2.2.2.2.2.1
theorem c70_49 : mc_cd 70 49 = some (.aload_n 0, 1) := cg70_38.2.2.2.2.2.2.2
theorem cg70_50 : mc_cd 70 50 = some (.getfield 19, 3) ∧ mc_cd 70 53 = some (.iload_n 3, 1) ∧ mc_cd 70 54 = some (.iconst 1, 1) ∧ mc_cd 70 55 = some (.iadd, 1) ∧ mc_cd 70 56 = some (.aload_n 0, 1) ∧ mc_cd 70 57 = some (.getfield 19, 3) ∧ mc_cd 70 60 = some (.iload_n 3, 1) ∧ mc_cd 70 61 = some (.laload, 1) := by decide +kernel
theorem c70_50 : mc_cd 70 50 = some (.getfield 19, 3) := cg70_50.1
theorem c70_53 : mc_cd 70 53 = some (.iload_n 3, 1) := cg70_50.2.1
theorem c70_54 : mc_cd 70 54 = some (.iconst 1, 1) := cg70_50.2.2.1
theorem c70_55 : mc_cd 70 55 = some (.iadd, 1) := cg70_50.2.2.2.1
theorem c70_56 : mc_cd 70 56 = some (.aload_n 0, 1) := cg70_50.2.2.2.2.1
theorem c70_57 : mc_cd 70 57 = some (.getfield 19, 3) := cg70_50.2.2.2.2.2.1
theorem c70_60 : mc_cd 70 60 = some (.iload_n 3, 1) := cg70_50.2.2.2.2.2.2.1
theorem c70_61 : mc_cd 70 61 = some (.laload, 1) := cg70_50.2.2.2.2.2.2.2
theorem cg70_62 : mc_cd 70 62 = some (.aload 4, 2) ∧ mc_cd 70 64 = some (.getfield 72, 3) ∧ mc_cd 70 67 = some (.iload 5, 2) ∧ mc_cd 70 69 = some (.laload, 1) ∧ mc_cd 70 70 = some (.ladd, 1) ∧ mc_cd 70 71 = some (.lastore, 1) ∧ mc_cd 70 72 = some (.aload_n 0, 1) ∧ mc_cd 70 73 = some (.getfield 22, 3) := by decide +kernel
theorem c70_62 : mc_cd 70 62 = some (.aload 4, 2) := cg70_62.1
theorem c70_64 : mc_cd 70 64 = some (.getfield 72, 3) := cg70_62.2.1
theorem c70_67 : mc_cd 70 67 = some (.iload 5, 2) := cg70_62.2.2.1
theorem c70_69 : mc_cd 70 69 = some (.laload, 1) := cg70_62.2.2.2.1
theorem c70_70 : mc_cd 70 70 = some (.ladd, 1) := cg70_62.2.2.2.2.1
theorem c70_71 : mc_cd 70 71 = some (.lastore, 1) := cg70_62.2.2.2.2.2.1
theorem c70_72 : mc_cd 70 72 = some (.aload_n 0, 1) := cg70_62.2.2.2.2.2.2.1
theorem c70_73 : mc_cd 70 73 = some (.getfield 22, 3) := cg70_62.2.2.2.2.2.2.2
theorem cg70_76 : mc_cd 70 76 = some (.iload_n 3, 1) ∧ mc_cd 70 77 = some (.iconst 1, 1) ∧ mc_cd 70 78 = some (.iadd, 1) ∧ mc_cd 70 79 = some (.aload_n 0, 1) ∧ mc_cd 70 80 = some (.getfield 22, 3) ∧ mc_cd 70 83 = some (.iload_n 3, 1) ∧ mc_cd 70 84 = some (.iaload, 1) ∧ mc_cd 70 85 = some (.aload 4, 2) := by decide +kernel
theorem c70_76 : mc_cd 70 76 = some (.iload_n 3, 1) := cg70_76.1
theorem c70_77 : mc_cd 70 77 = some (.iconst 1, 1) := cg70_76.2.1
theorem c70_78 : mc_cd 70 78 = some (.iadd, 1) := cg70_76.2.2.1
theorem c70_79 : mc_cd 70 79 = some (.aload_n 0, 1) := cg70_76.2.2.2.1
theorem c70_80 : mc_cd 70 80 = some (.getfield 22, 3) := cg70_76.2.2.2.2.1
theorem c70_83 : mc_cd 70 83 = some (.iload_n 3, 1) := cg70_76.2.2.2.2.2.1
theorem c70_84 : mc_cd 70 84 = some (.iaload, 1) := cg70_76.2.2.2.2.2.2.1
theorem c70_85 : mc_cd 70 85 = some (.aload 4, 2) := cg70_76.2.2.2.2.2.2.2
theorem cg70_87 : mc_cd 70 87 = some (.getfield 75, 3) ∧ mc_cd 70 90 = some (.iload 5, 2) ∧ mc_cd 70 92 = some (.iaload, 1) ∧ mc_cd 70 93 = some (.ior, 1) ∧ mc_cd 70 94 = some (.iastore, 1) ∧ mc_cd 70 95 = some (.aload_n 0, 1) ∧ mc_cd 70 96 = some (.getfield 25, 3) ∧ mc_cd 70 99 = some (.iload_n 3, 1) := by decide +kernel
theorem c70_87 : mc_cd 70 87 = some (.getfield 75, 3) := cg70_87.1
theorem c70_90 : mc_cd 70 90 = some (.iload 5, 2) := cg70_87.2.1
theorem c70_92 : mc_cd 70 92 = some (.iaload, 1) := cg70_87.2.2.1
theorem c70_93 : mc_cd 70 93 = some (.ior, 1) := cg70_87.2.2.2.1
theorem c70_94 : mc_cd 70 94 = some (.iastore, 1) := cg70_87.2.2.2.2.1
theorem c70_95 : mc_cd 70 95 = some (.aload_n 0, 1) := cg70_87.2.2.2.2.2.1
theorem c70_96 : mc_cd 70 96 = some (.getfield 25, 3) := cg70_87.2.2.2.2.2.2.1
theorem c70_99 : mc_cd 70 99 = some (.iload_n 3, 1) := cg70_87.2.2.2.2.2.2.2
theorem cg70_100 : mc_cd 70 100 = some (.iconst 1, 1) ∧ mc_cd 70 101 = some (.iadd, 1) ∧ mc_cd 70 102 = some (.aload_n 0, 1) ∧ mc_cd 70 103 = some (.getfield 25, 3) ∧ mc_cd 70 106 = some (.iload_n 3, 1) ∧ mc_cd 70 107 = some (.iaload, 1) ∧ mc_cd 70 108 = some (.aload_n 0, 1) ∧ mc_cd 70 109 = some (.aload_n 1, 1) := by decide +kernel
theorem c70_100 : mc_cd 70 100 = some (.iconst 1, 1) := cg70_100.1
theorem c70_101 : mc_cd 70 101 = some (.iadd, 1) := cg70_100.2.1
theorem c70_102 : mc_cd 70 102 = some (.aload_n 0, 1) := cg70_100.2.2.1
theorem c70_103 : mc_cd 70 103 = some (.getfield 25, 3) := cg70_100.2.2.2.1
theorem c70_106 : mc_cd 70 106 = some (.iload_n 3, 1) := cg70_100.2.2.2.2.1
theorem c70_107 : mc_cd 70 107 = some (.iaload, 1) := cg70_100.2.2.2.2.2.1
theorem c70_108 : mc_cd 70 108 = some (.aload_n 0, 1) := cg70_100.2.2.2.2.2.2.1
theorem c70_109 : mc_cd 70 109 = some (.aload_n 1, 1) := cg70_100.2.2.2.2.2.2.2
theorem cg70_110 : mc_cd 70 110 = some (.iload_n 3, 1) ∧ mc_cd 70 111 = some (.invokevirtual 78, 3) ∧ mc_cd 70 114 = some (.ior, 1) ∧ mc_cd 70 115 = some (.iastore, 1) ∧ mc_cd 70 116 = some (.iinc 3 1, 3) ∧ mc_cd 70 119 = some (.goto (-117), 3) ∧ mc_cd 70 122 = some (.return_, 1) := by decide +kernel
theorem c70_110 : mc_cd 70 110 = some (.iload_n 3, 1) := cg70_110.1
theorem c70_111 : mc_cd 70 111 = some (.invokevirtual 78, 3) := cg70_110.2.1
theorem c70_114 : mc_cd 70 114 = some (.ior, 1) := cg70_110.2.2.1
theorem c70_115 : mc_cd 70 115 = some (.iastore, 1) := cg70_110.2.2.2.1
theorem c70_116 : mc_cd 70 116 = some (.iinc 3 1, 3) := cg70_110.2.2.2.2.1
theorem c70_119 : mc_cd 70 119 = some (.goto (-117), 3) := cg70_110.2.2.2.2.2.1
theorem c70_122 : mc_cd 70 122 = some (.return_, 1) := cg70_110.2.2.2.2.2.2
abbrev q_70 (r0 : Nat) (r1 : Nat) (a2 : Int) (T : wq_T) (H : wq_H) : Option Value → wq_T → wq_H → Prop := fun r T' H' => T = T' ∧ WT T H' ∧ wfr [(8, 999), (10, 999), (9, 999), (11, 999)] T H H' ∧ none = r
set_option maxHeartbeats 4000000 in
theorem s_70 {kt : Nat → Option mc_E} {T : wq_T} {H : wq_H} {r0 : Nat} {r1 : Nat} {a2 : Int} (hW : WT T H) (g0 : T.2.2.2 r0 = some 6) (g1 : T.2.2.2 r1 = some 27) (i2 : 0 ≤ a2 ∧ a2 ≤ 6) : wpc kt 2 70 [.ref r0, .ref r1, vI a2] T H (q_70 r0 r1 a2 T H) := by
  refine wp_enter e70 (Nat.le_of_ble_eq_true rfl) rfl ?_
  have f0 : wfr [(8, 999), (10, 999), (9, 999), (11, 999)] T H H := wfr.rf
  show wp _ _ 70 0 [(0, .ref r0), (1, .ref r1), (2, vI a2)] [] _ H _
  refine wp_of e70 c70_0 (rw_iload_n (pc' := 1) (z := a2) rfl rfl ?_)
  refine wp_of e70 c70_1 (rw_istore_n (pc' := 2) (z := a2) (L' := [(3, vI a2), (0, .ref r0), (1, .ref r1), (2, vI a2)]) rfl rfl rfl ?_)
  have lp18645 : ∀ (n18646 : Nat) (v18648 : Int) (H18649 : wq_H), WT T H18649 → wfr [(8, 999), (10, 999), (9, 999), (11, 999)] T H H18649 → (0 ≤ v18648 ∧ v18648 ≤ 6) → (6 - v18648).toNat = n18646 → wp kt 1 70 2 [(3, vI v18648), (0, .ref r0), (1, .ref r1)] [] T H18649 (q_70 r0 r1 a2 T H) := by
    intro n18646
    induction n18646 using Nat.strongRecOn with
    | _ n18646 ih18647 =>
      intro v18648 H18649 w18650 f18651 b18652 m18653
      have f18654 := f0.tr f18651 rfl
      refine wp_of e70 c70_2 (rw_iload_n (pc' := 3) (z := v18648) rfl rfl ?_)
      refine wp_of e70 c70_3 (rw_aload_n (pc' := 4) (v := .ref r0) rfl rfl rfl ?_)
      refine wp_of e70 c70_4 (xg_I (pc' := 7) lf_3_51 w18650 g0 sh_6 (by decide) (by decide) ty_6_5 rfl rfl (fun b18655 b18656 => ?_))
      refine wp_of e70 c70_7 (rw_icmp_ge (p1 := 122) (p2 := 10) (by decide) rfl ⟨by omega, by omega⟩ ⟨by omega, by omega⟩ (fun c18657 => ?_) (fun c18657 => ?_))
      · exact wp_return e70 c70_122 rfl ⟨rfl, w18650, f18654, rfl⟩
      · refine wp_of e70 c70_10 (rw_aload_n (pc' := 11) (v := .ref r1) rfl rfl rfl ?_)
        refine wp_of e70 c70_11 (xg_R (pc' := 14) lf_3_42 w18650 g1 sh_27 (by decide) (by decide) ty_27_0 rfl rfl (fun r18658 q18659 g18660 => ?_))
        refine wp_of e70 c70_14 (rw_iload_n (pc' := 15) (z := v18648) rfl rfl ?_)
        refine wp_of e70 c70_15 (xa_R (pc' := 16) (by decide) w18650 g18660 sh_28 (by decide) (ty_28 _) (by omega) (by omega) rfl (fun r18661 q18662 g18663 => ?_))
        refine wp_of e70 c70_16 (rw_astore (pc' := 18) (v := .ref r18661) (L' := [(4, .ref r18661), (3, vI v18648), (0, .ref r0), (1, .ref r1)]) rfl rfl rfl rfl ?_)
        refine wp_of e70 c70_18 (rw_aload_n (pc' := 19) (v := .ref r0) rfl rfl rfl ?_)
        refine wp_of e70 c70_19 (xg_R (pc' := 22) lf_3_9 w18650 g0 sh_6 (by decide) (by decide) ty_6_0 rfl rfl (fun r18664 q18665 g18666 => ?_))
        refine wp_of e70 c70_22 (rw_iload_n (pc' := 23) (z := v18648) rfl rfl ?_)
        refine wp_of e70 c70_23 (xa_I (so := 0) (pc' := 24) w18650 g18666 sh_7 (by decide) (ty_7 _) (by omega) (by omega) rfl (fun b18667 b18668 => ?_))
        refine wp_of e70 c70_24 (rw_istore (pc' := 26) (z := H18649 r18664 (v18648.toNat)) (L' := [(5, vI (H18649 r18664 (v18648.toNat))), (4, .ref r18661), (3, vI v18648), (0, .ref r0), (1, .ref r1)]) rfl rfl rfl ?_)
        refine wp_of e70 c70_26 (rw_aload_n (pc' := 27) (v := .ref r0) rfl rfl rfl ?_)
        refine wp_of e70 c70_27 (xg_R (pc' := 30) lf_3_15 w18650 g0 sh_6 (by decide) (by decide) ty_6_1 rfl rfl (fun r18669 q18670 g18671 => ?_))
        refine wp_of e70 c70_30 (rw_iload_n (pc' := 31) (z := v18648) rfl rfl ?_)
        refine wp_of e70 c70_31 (rw_iconst (pc' := 32) rfl ?_)
        refine wp_of e70 c70_32 (rw_iadd (pc' := 33) rfl ?_)
        refine wp_of e70 c70_33 (rw_aload_n (pc' := 34) (v := .ref r0) rfl rfl rfl ?_)
        refine wp_of e70 c70_34 (xg_K (pc' := 37) lf_3_15 w18650 g0 sh_6 (by decide) (by decide) rfl q18670 rfl ?_)
        refine wp_of e70 c70_37 (rw_iload_n (pc' := 38) (z := v18648) rfl rfl ?_)
        refine wp_of e70 c70_38 (xa_L (pc' := 39) w18650 g18671 sh_8 (by decide) (ty_8 _) (by omega) (by omega) rfl (fun b18672 b18673 => ?_))
        refine wp_of e70 c70_39 (rw_aload (pc' := 41) (v := .ref r18661) rfl rfl rfl ?_)
        refine wp_of e70 c70_41 (xg_R (pc' := 44) lf_3_69 w18650 g18663 sh_35 (by decide) (by decide) ty_35_4 rfl rfl (fun r18674 q18675 g18676 => ?_))
        refine wp_of e70 c70_44 (rw_iload (pc' := 46) (z := H18649 r18664 (v18648.toNat)) rfl rfl ?_)
        refine wp_of e70 c70_46 (xa_L (pc' := 47) w18650 g18676 sh_40 (by decide) (ty_40 _) (by omega) (by omega) rfl (fun b18677 b18678 => ?_))
        refine wp_of e70 c70_47 (rw_laddw (pc' := 48) rfl ?_)
        obtain ⟨v18679, e18680⟩ : ∃ x : Int, x = wl_w ((H18649 r18669 (v18648.toNat)) + (H18649 r18674 ((H18649 r18664 (v18648.toNat)).toNat))) := ⟨_, rfl⟩
        rw [← e18680]
        have b18681 : -9223372036854775808 ≤ v18679 ∧ v18679 ≤ 9223372036854775807 := by
          rw [e18680]
          exact wL_w _
        refine wp_of e70 c70_48 (xs_L (pc' := 49) w18650 g18671 (by decide) sh_8 (by decide) (ty_8 _) (by omega) (by omega) ⟨by omega, by omega⟩ (by omega) (by omega) rfl (fun H18682 e18683 w18684 => ?_))
        have f18685 := f18654.put' e18683 g18671 rfl
        have f18686 := f18651.put' e18683 g18671 rfl
        refine wp_of e70 c70_49 (rw_aload_n (pc' := 50) (v := .ref r0) rfl rfl rfl ?_)
        refine wp_of e70 c70_50 (xg_R (pc' := 53) lf_3_19 w18684 g0 sh_6 (by decide) (by decide) ty_6_2 rfl rfl (fun r18687 q18688 g18689 => ?_))
        refine wp_of e70 c70_53 (rw_iload_n (pc' := 54) (z := v18648) rfl rfl ?_)
        refine wp_of e70 c70_54 (rw_iconst (pc' := 55) rfl ?_)
        refine wp_of e70 c70_55 (rw_iadd (pc' := 56) rfl ?_)
        refine wp_of e70 c70_56 (rw_aload_n (pc' := 57) (v := .ref r0) rfl rfl rfl ?_)
        refine wp_of e70 c70_57 (xg_K (pc' := 60) lf_3_19 w18684 g0 sh_6 (by decide) (by decide) rfl q18688 rfl ?_)
        refine wp_of e70 c70_60 (rw_iload_n (pc' := 61) (z := v18648) rfl rfl ?_)
        refine wp_of e70 c70_61 (xa_L (pc' := 62) w18684 g18689 sh_9 (by decide) (ty_9 _) (by omega) (by omega) rfl (fun b18690 b18691 => ?_))
        refine wp_of e70 c70_62 (rw_aload (pc' := 64) (v := .ref r18661) rfl rfl rfl ?_)
        refine wp_of e70 c70_64 (xg_R (pc' := 67) lf_3_72 w18684 g18663 sh_35 (by decide) (by decide) ty_35_5 rfl rfl (fun r18692 q18693 g18694 => ?_))
        refine wp_of e70 c70_67 (rw_iload (pc' := 69) (z := H18649 r18664 (v18648.toNat)) rfl rfl ?_)
        refine wp_of e70 c70_69 (xa_L (pc' := 70) w18684 g18694 sh_41 (by decide) (ty_41 _) (by omega) (by omega) rfl (fun b18695 b18696 => ?_))
        refine wp_of e70 c70_70 (rw_laddw (pc' := 71) rfl ?_)
        obtain ⟨v18697, e18698⟩ : ∃ x : Int, x = wl_w ((H18682 r18687 (v18648.toNat)) + (H18682 r18692 ((H18649 r18664 (v18648.toNat)).toNat))) := ⟨_, rfl⟩
        rw [← e18698]
        have b18699 : -9223372036854775808 ≤ v18697 ∧ v18697 ≤ 9223372036854775807 := by
          rw [e18698]
          exact wL_w _
        refine wp_of e70 c70_71 (xs_L (pc' := 72) w18684 g18689 (by decide) sh_9 (by decide) (ty_9 _) (by omega) (by omega) ⟨by omega, by omega⟩ (by omega) (by omega) rfl (fun H18700 e18701 w18702 => ?_))
        have f18703 := f18685.put' e18701 g18689 rfl
        have f18704 := f18686.put' e18701 g18689 rfl
        refine wp_of e70 c70_72 (rw_aload_n (pc' := 73) (v := .ref r0) rfl rfl rfl ?_)
        refine wp_of e70 c70_73 (xg_R (pc' := 76) lf_3_22 w18702 g0 sh_6 (by decide) (by decide) ty_6_3 rfl rfl (fun r18705 q18706 g18707 => ?_))
        refine wp_of e70 c70_76 (rw_iload_n (pc' := 77) (z := v18648) rfl rfl ?_)
        refine wp_of e70 c70_77 (rw_iconst (pc' := 78) rfl ?_)
        refine wp_of e70 c70_78 (rw_iadd (pc' := 79) rfl ?_)
        refine wp_of e70 c70_79 (rw_aload_n (pc' := 80) (v := .ref r0) rfl rfl rfl ?_)
        refine wp_of e70 c70_80 (xg_K (pc' := 83) lf_3_22 w18702 g0 sh_6 (by decide) (by decide) rfl q18706 rfl ?_)
        refine wp_of e70 c70_83 (rw_iload_n (pc' := 84) (z := v18648) rfl rfl ?_)
        refine wp_of e70 c70_84 (xa_I (so := 0) (pc' := 85) w18702 g18707 sh_10 (by decide) (ty_10 _) (by omega) (by omega) rfl (fun b18708 b18709 => ?_))
        refine wp_of e70 c70_85 (rw_aload (pc' := 87) (v := .ref r18661) rfl rfl rfl ?_)
        refine wp_of e70 c70_87 (xg_R (pc' := 90) lf_3_75 w18702 g18663 sh_35 (by decide) (by decide) ty_35_3 rfl rfl (fun r18710 q18711 g18712 => ?_))
        refine wp_of e70 c70_90 (rw_iload (pc' := 92) (z := H18649 r18664 (v18648.toNat)) rfl rfl ?_)
        refine wp_of e70 c70_92 (xa_I (so := 0) (pc' := 93) w18702 g18712 sh_39 (by decide) (ty_39 _) (by omega) (by omega) rfl (fun b18713 b18714 => ?_))
        refine wp_of e70 c70_93 (rw_ior (pc' := 94) rfl ?_)
        obtain ⟨v18715, e18716⟩ : ∃ x : Int, x = wq_or (H18700 r18705 (v18648.toNat)) (H18700 r18710 ((H18649 r18664 (v18648.toNat)).toNat)) := ⟨_, rfl⟩
        rw [← e18716]
        have b18717 : -2147483648 ≤ v18715 ∧ v18715 ≤ 2147483647 := by
          rw [e18716]
          exact wI_or _ _
        refine wp_of e70 c70_94 (xs_I (pc' := 95) w18702 g18707 (by decide) sh_10 (by decide) (ty_10 _) (by omega) (by omega) ⟨by omega, by omega⟩ (by omega) (by omega) rfl (fun H18718 e18719 w18720 => ?_))
        have f18721 := f18703.put' e18719 g18707 rfl
        have f18722 := f18704.put' e18719 g18707 rfl
        refine wp_of e70 c70_95 (rw_aload_n (pc' := 96) (v := .ref r0) rfl rfl rfl ?_)
        refine wp_of e70 c70_96 (xg_R (pc' := 99) lf_3_25 w18720 g0 sh_6 (by decide) (by decide) ty_6_4 rfl rfl (fun r18723 q18724 g18725 => ?_))
        refine wp_of e70 c70_99 (rw_iload_n (pc' := 100) (z := v18648) rfl rfl ?_)
        refine wp_of e70 c70_100 (rw_iconst (pc' := 101) rfl ?_)
        refine wp_of e70 c70_101 (rw_iadd (pc' := 102) rfl ?_)
        refine wp_of e70 c70_102 (rw_aload_n (pc' := 103) (v := .ref r0) rfl rfl rfl ?_)
        refine wp_of e70 c70_103 (xg_K (pc' := 106) lf_3_25 w18720 g0 sh_6 (by decide) (by decide) rfl q18724 rfl ?_)
        refine wp_of e70 c70_106 (rw_iload_n (pc' := 107) (z := v18648) rfl rfl ?_)
        refine wp_of e70 c70_107 (xa_I (so := 0) (pc' := 108) w18720 g18725 sh_11 (by decide) (ty_11 _) (by omega) (by omega) rfl (fun b18726 b18727 => ?_))
        have b18726 := Int.le_trans (wq0_b _) b18726
        have b18727 := Int.le_trans b18727 (wq1_b _)
        refine wp_of e70 c70_108 (rw_aload_n (pc' := 109) (v := .ref r0) rfl rfl rfl ?_)
        refine wp_of e70 c70_109 (rw_aload_n (pc' := 110) (v := .ref r1) rfl rfl rfl ?_)
        refine wp_of e70 c70_110 (rw_iload_n (pc' := 111) (z := v18648) rfl rfl ?_)
        refine wp_of e70 c70_111 (xc_V (pc' := 114) (r := r0) (as := [.ref r1, vI v18648]) (st := [vI (H18718 r18723 (v18648.toNat)), vI (v18648 + 1), .ref r18723]) (lm_3_78) rfl rfl (Nat.le_of_ble_eq_true rfl) w18720 g0 sh_6 (by decide) rfl (by decide) (s_71 w18720 g0 g1 ⟨by omega, by omega⟩) (fun R18728 T18729 H18730 p18731 => ?_))
        obtain ⟨e18732, e18734, z18735, e18733, b18736⟩ := p18731
        subst e18732
        subst e18733
        subst e18734
        show wp _ _ 70 114 [(5, vI (H18649 r18664 (v18648.toNat))), (4, .ref r18661), (3, vI v18648), (0, .ref r0), (1, .ref r1)] [vI z18735, vI (H18718 r18723 (v18648.toNat)), vI (v18648 + 1), .ref r18723] _ H18718 _
        refine wp_of e70 c70_114 (rw_ior (pc' := 115) rfl ?_)
        obtain ⟨v18737, e18738⟩ : ∃ x : Int, x = wq_or (H18718 r18723 (v18648.toNat)) z18735 := ⟨_, rfl⟩
        rw [← e18738]
        have b18739 : -2147483648 ≤ v18737 ∧ v18737 ≤ 2147483647 := by
          rw [e18738]
          exact wI_or _ _
        refine wp_of e70 c70_115 (xs_I (pc' := 116) w18720 g18725 (by decide) sh_11 (by decide) (ty_11s (by omega)) (by omega) (by omega) ⟨by omega, by omega⟩ (by omega) (by omega) rfl (fun H18740 e18741 w18742 => ?_))
        have f18743 := f18721.put' e18741 g18725 rfl
        have f18744 := f18722.put' e18741 g18725 rfl
        refine wp_of e70 c70_116 (rw_iinc (pc' := 119) (z := v18648) (L' := [(3, vI (v18648 + 1)), (5, vI (H18649 r18664 (v18648.toNat))), (4, .ref r18661), (0, .ref r0), (1, .ref r1)]) rfl rfl rfl rfl ?_)
        refine wp_of e70 c70_119 (rw_goto (p1 := 2) (by decide) ?_)
        exact wp_lc (ks := [3, 5, 4, 0, 1]) (wl_c rfl (wl_c rfl (wl_c rfl wl_n))) rfl (by decide) (ih18647 _ (by omega) (v18648 + 1) H18740 w18742 f18744 ⟨by omega, by omega⟩ rfl)
  exact wp_lc (ks := [3, 0, 1, 2]) (wl_c rfl (wl_c rfl (wl_c rfl wl_n))) rfl (by decide) (lp18645 _ a2 H hW wfr.rf ⟨by omega, by omega⟩ rfl)
/-! StrikeAwake$Walk.toSaid(LStrikeAwake$Parish;)V -/
theorem e68 : wq_en 68 = some (3, 3, false, none) := rfl
theorem cg68_0 : mc_cd 68 0 = some (.iconst 0, 1) ∧ mc_cd 68 1 = some (.istore_n 2, 1) ∧ mc_cd 68 2 = some (.iload_n 2, 1) ∧ mc_cd 68 3 = some (.aload_n 1, 1) ∧ mc_cd 68 4 = some (.getfield 36, 3) ∧ mc_cd 68 7 = some (.if_icmp .ge 24, 3) ∧ mc_cd 68 10 = some (.aload_n 0, 1) ∧ mc_cd 68 11 = some (.getfield 9, 3) := by decide +kernel
theorem c68_0 : mc_cd 68 0 = some (.iconst 0, 1) := cg68_0.1
theorem c68_1 : mc_cd 68 1 = some (.istore_n 2, 1) := cg68_0.2.1
theorem c68_2 : mc_cd 68 2 = some (.iload_n 2, 1) := cg68_0.2.2.1
theorem c68_3 : mc_cd 68 3 = some (.aload_n 1, 1) := cg68_0.2.2.2.1
theorem c68_4 : mc_cd 68 4 = some (.getfield 36, 3) := cg68_0.2.2.2.2.1
theorem c68_7 : mc_cd 68 7 = some (.if_icmp .ge 24, 3) := cg68_0.2.2.2.2.2.1
theorem c68_10 : mc_cd 68 10 = some (.aload_n 0, 1) := cg68_0.2.2.2.2.2.2.1
theorem c68_11 : mc_cd 68 11 = some (.getfield 9, 3) := cg68_0.2.2.2.2.2.2.2
theorem cg68_14 : mc_cd 68 14 = some (.iload_n 2, 1) ∧ mc_cd 68 15 = some (.aload_n 1, 1) ∧ mc_cd 68 16 = some (.getfield 42, 3) ∧ mc_cd 68 19 = some (.iload_n 2, 1) ∧ mc_cd 68 20 = some (.aaload, 1) ∧ mc_cd 68 21 = some (.getfield 46, 3) ∧ mc_cd 68 24 = some (.iastore, 1) ∧ mc_cd 68 25 = some (.iinc 2 1, 3) := by decide +kernel
theorem c68_14 : mc_cd 68 14 = some (.iload_n 2, 1) := cg68_14.1
theorem c68_15 : mc_cd 68 15 = some (.aload_n 1, 1) := cg68_14.2.1
theorem c68_16 : mc_cd 68 16 = some (.getfield 42, 3) := cg68_14.2.2.1
theorem c68_19 : mc_cd 68 19 = some (.iload_n 2, 1) := cg68_14.2.2.2.1
theorem c68_20 : mc_cd 68 20 = some (.aaload, 1) := cg68_14.2.2.2.2.1
theorem c68_21 : mc_cd 68 21 = some (.getfield 46, 3) := cg68_14.2.2.2.2.2.1
theorem c68_24 : mc_cd 68 24 = some (.iastore, 1) := cg68_14.2.2.2.2.2.2.1
theorem c68_25 : mc_cd 68 25 = some (.iinc 2 1, 3) := cg68_14.2.2.2.2.2.2.2
theorem cg68_28 : mc_cd 68 28 = some (.goto (-26), 3) ∧ mc_cd 68 31 = some (.aload_n 0, 1) ∧ mc_cd 68 32 = some (.aload_n 1, 1) ∧ mc_cd 68 33 = some (.invokevirtual 28, 3) ∧ mc_cd 68 36 = some (.aload_n 0, 1) ∧ mc_cd 68 37 = some (.aload_n 1, 1) ∧ mc_cd 68 38 = some (.iconst 0, 1) ∧ mc_cd 68 39 = some (.invokevirtual 32, 3) := by decide +kernel
theorem c68_28 : mc_cd 68 28 = some (.goto (-26), 3) := cg68_28.1
theorem c68_31 : mc_cd 68 31 = some (.aload_n 0, 1) := cg68_28.2.1
theorem c68_32 : mc_cd 68 32 = some (.aload_n 1, 1) := cg68_28.2.2.1
theorem c68_33 : mc_cd 68 33 = some (.invokevirtual 28, 3) := cg68_28.2.2.2.1
theorem c68_36 : mc_cd 68 36 = some (.aload_n 0, 1) := cg68_28.2.2.2.2.1
theorem c68_37 : mc_cd 68 37 = some (.aload_n 1, 1) := cg68_28.2.2.2.2.2.1
theorem c68_38 : mc_cd 68 38 = some (.iconst 0, 1) := cg68_28.2.2.2.2.2.2.1
theorem c68_39 : mc_cd 68 39 = some (.invokevirtual 32, 3) := cg68_28.2.2.2.2.2.2.2
theorem c68_42 : mc_cd 68 42 = some (.return_, 1) := by decide +kernel
abbrev q_68 (r0 : Nat) (r1 : Nat) (T : wq_T) (H : wq_H) : Option Value → wq_T → wq_H → Prop := fun r T' H' => T = T' ∧ WT T H' ∧ wfr [(6, 5), (8, 999), (10, 999), (9, 999), (7, 999), (11, 999)] T H H' ∧ none = r
set_option maxHeartbeats 4000000 in
theorem s_68 {kt : Nat → Option mc_E} {T : wq_T} {H : wq_H} {r0 : Nat} {r1 : Nat} (hW : WT T H) (g0 : T.2.2.2 r0 = some 6) (g1 : T.2.2.2 r1 = some 27) : wpc kt 3 68 [.ref r0, .ref r1] T H (q_68 r0 r1 T H) := by
  refine wp_enter e68 (Nat.le_of_ble_eq_true rfl) rfl ?_
  have f0 : wfr [(6, 5), (8, 999), (10, 999), (9, 999), (7, 999), (11, 999)] T H H := wfr.rf
  show wp _ _ 68 0 [(0, .ref r0), (1, .ref r1)] [] _ H _
  refine wp_of e68 c68_0 (rw_iconst (pc' := 1) rfl ?_)
  refine wp_of e68 c68_1 (rw_istore_n (pc' := 2) (z := 0) (L' := [(2, vI 0), (0, .ref r0), (1, .ref r1)]) rfl rfl rfl ?_)
  have lp19034 : ∀ (n19035 : Nat) (v19037 : Int) (H19038 : wq_H), WT T H19038 → wfr [(7, 999)] T H H19038 → (0 ≤ v19037 ∧ v19037 ≤ 6) → (6 - v19037).toNat = n19035 → wp kt 2 68 2 [(2, vI v19037), (0, .ref r0), (1, .ref r1)] [] T H19038 (q_68 r0 r1 T H) := by
    intro n19035
    induction n19035 using Nat.strongRecOn with
    | _ n19035 ih19036 =>
      intro v19037 H19038 w19039 f19040 b19041 m19042
      have f19043 := f0.tr f19040 rfl
      refine wp_of e68 c68_2 (rw_iload_n (pc' := 3) (z := v19037) rfl rfl ?_)
      refine wp_of e68 c68_3 (rw_aload_n (pc' := 4) (v := .ref r1) rfl rfl rfl ?_)
      refine wp_of e68 c68_4 (xg_I (pc' := 7) lf_3_36 w19039 g1 sh_27 (by decide) (by decide) ty_27_10 rfl rfl (fun b19044 b19045 => ?_))
      refine wp_of e68 c68_7 (rw_icmp_ge (p1 := 31) (p2 := 10) (by decide) rfl ⟨by omega, by omega⟩ ⟨by omega, by omega⟩ (fun c19046 => ?_) (fun c19046 => ?_))
      · refine wp_of e68 c68_31 (rw_aload_n (pc' := 32) (v := .ref r0) rfl rfl rfl ?_)
        refine wp_of e68 c68_32 (rw_aload_n (pc' := 33) (v := .ref r1) rfl rfl rfl ?_)
        refine wp_of e68 c68_33 (xc_V (pc' := 36) (r := r0) (as := [.ref r1]) (st := []) (lm_3_28) rfl rfl (Nat.le_of_ble_eq_true rfl) w19039 g0 sh_6 (by decide) rfl (by decide) (s_69 w19039 g0 g1) (fun R19047 T19048 H19049 p19050 => ?_))
        obtain ⟨e19051, w19053, f19054, e19052⟩ := p19050
        subst e19051
        subst e19052
        have f19055 := f19043.tr f19054 rfl
        show wp _ _ 68 36 [(2, vI v19037), (0, .ref r0), (1, .ref r1)] [] _ H19049 _
        refine wp_of e68 c68_36 (rw_aload_n (pc' := 37) (v := .ref r0) rfl rfl rfl ?_)
        refine wp_of e68 c68_37 (rw_aload_n (pc' := 38) (v := .ref r1) rfl rfl rfl ?_)
        refine wp_of e68 c68_38 (rw_iconst (pc' := 39) rfl ?_)
        refine wp_of e68 c68_39 (xc_V (pc' := 42) (r := r0) (as := [.ref r1, vI 0]) (st := []) (lm_3_32) rfl rfl (Nat.le_of_ble_eq_true rfl) w19053 g0 sh_6 (by decide) rfl (by decide) (s_70 w19053 g0 g1 ⟨by omega, by omega⟩) (fun R19056 T19057 H19058 p19059 => ?_))
        obtain ⟨e19060, w19062, f19063, e19061⟩ := p19059
        subst e19060
        subst e19061
        have f19064 := f19055.tr f19063 rfl
        show wp _ _ 68 42 [(2, vI v19037), (0, .ref r0), (1, .ref r1)] [] _ H19058 _
        exact wp_return e68 c68_42 rfl ⟨rfl, w19062, f19064, rfl⟩
      · refine wp_of e68 c68_10 (rw_aload_n (pc' := 11) (v := .ref r0) rfl rfl rfl ?_)
        refine wp_of e68 c68_11 (xg_R (pc' := 14) lf_3_9 w19039 g0 sh_6 (by decide) (by decide) ty_6_0 rfl rfl (fun r19065 q19066 g19067 => ?_))
        refine wp_of e68 c68_14 (rw_iload_n (pc' := 15) (z := v19037) rfl rfl ?_)
        refine wp_of e68 c68_15 (rw_aload_n (pc' := 16) (v := .ref r1) rfl rfl rfl ?_)
        refine wp_of e68 c68_16 (xg_R (pc' := 19) lf_3_42 w19039 g1 sh_27 (by decide) (by decide) ty_27_0 rfl rfl (fun r19068 q19069 g19070 => ?_))
        refine wp_of e68 c68_19 (rw_iload_n (pc' := 20) (z := v19037) rfl rfl ?_)
        refine wp_of e68 c68_20 (xa_R (pc' := 21) (by decide) w19039 g19070 sh_28 (by decide) (ty_28 _) (by omega) (by omega) rfl (fun r19071 q19072 g19073 => ?_))
        refine wp_of e68 c68_21 (xg_I (pc' := 24) lf_3_46 w19039 g19073 sh_35 (by decide) (by decide) ty_35_16 rfl rfl (fun b19074 b19075 => ?_))
        refine wp_of e68 c68_24 (xs_I (pc' := 25) w19039 g19067 (by decide) sh_7 (by decide) (ty_7 _) (by omega) (by omega) ⟨by omega, by omega⟩ (by omega) (by omega) rfl (fun H19076 e19077 w19078 => ?_))
        have f19079 := f19043.put' e19077 g19067 rfl
        have f19080 := f19040.put' e19077 g19067 rfl
        refine wp_of e68 c68_25 (rw_iinc (pc' := 28) (z := v19037) (L' := [(2, vI (v19037 + 1)), (0, .ref r0), (1, .ref r1)]) rfl rfl rfl rfl ?_)
        refine wp_of e68 c68_28 (rw_goto (p1 := 2) (by decide) ?_)
        exact wp_lc (ks := [2, 0, 1]) (wl_c rfl (wl_c rfl (wl_c rfl wl_n))) rfl (by decide) (ih19036 _ (by omega) (v19037 + 1) H19076 w19078 f19080 ⟨by omega, by omega⟩ rfl)
  exact wp_lc (ks := [2, 0, 1]) (wl_c rfl (wl_c rfl (wl_c rfl wl_n))) rfl (by decide) (lp19034 _ 0 H hW wfr.rf ⟨by omega, by omega⟩ rfl)
/-! StrikeAwake.barOfSaid(Z)I -/
theorem e67 : wq_en 67 = some (0, 2, false, some FieldType.int) := rfl
theorem cg67_0 : mc_cd 67 0 = some (.iload_n 1, 1) ∧ mc_cd 67 1 = some (.ifCond .ne 5, 3) ∧ mc_cd 67 4 = some (.iconst 1, 1) ∧ mc_cd 67 5 = some (.ireturn, 1) ∧ mc_cd 67 6 = some (.aload_n 0, 1) ∧ mc_cd 67 7 = some (.getfield 51, 3) ∧ mc_cd 67 10 = some (.getfield 141, 3) ∧ mc_cd 67 13 = some (.lconst 0, 1) := by decide +kernel
theorem c67_0 : mc_cd 67 0 = some (.iload_n 1, 1) := cg67_0.1
theorem c67_1 : mc_cd 67 1 = some (.ifCond .ne 5, 3) := cg67_0.2.1
theorem c67_4 : mc_cd 67 4 = some (.iconst 1, 1) := cg67_0.2.2.1
theorem c67_5 : mc_cd 67 5 = some (.ireturn, 1) := cg67_0.2.2.2.1
theorem c67_6 : mc_cd 67 6 = some (.aload_n 0, 1) := cg67_0.2.2.2.2.1
theorem c67_7 : mc_cd 67 7 = some (.getfield 51, 3) := cg67_0.2.2.2.2.2.1
theorem c67_10 : mc_cd 67 10 = some (.getfield 141, 3) := cg67_0.2.2.2.2.2.2.1
theorem c67_13 : mc_cd 67 13 = some (.lconst 0, 1) := cg67_0.2.2.2.2.2.2.2
theorem cg67_14 : mc_cd 67 14 = some (.lcmp, 1) ∧ mc_cd 67 15 = some (.ifCond .ne 5, 3) ∧ mc_cd 67 18 = some (.iconst 5, 1) ∧ mc_cd 67 19 = some (.ireturn, 1) ∧ mc_cd 67 20 = some (.aload_n 0, 1) ∧ mc_cd 67 21 = some (.getfield 23, 3) ∧ mc_cd 67 24 = some (.aload_n 0, 1) ∧ mc_cd 67 25 = some (.getfield 51, 3) := by decide +kernel
theorem c67_14 : mc_cd 67 14 = some (.lcmp, 1) := cg67_14.1
theorem c67_15 : mc_cd 67 15 = some (.ifCond .ne 5, 3) := cg67_14.2.1
theorem c67_18 : mc_cd 67 18 = some (.iconst 5, 1) := cg67_14.2.2.1
theorem c67_19 : mc_cd 67 19 = some (.ireturn, 1) := cg67_14.2.2.2.1
theorem c67_20 : mc_cd 67 20 = some (.aload_n 0, 1) := cg67_14.2.2.2.2.1
theorem c67_21 : mc_cd 67 21 = some (.getfield 23, 3) := cg67_14.2.2.2.2.2.1
theorem c67_24 : mc_cd 67 24 = some (.aload_n 0, 1) := cg67_14.2.2.2.2.2.2.1
theorem c67_25 : mc_cd 67 25 = some (.getfield 51, 3) := cg67_14.2.2.2.2.2.2.2
theorem cg67_28 : mc_cd 67 28 = some (.invokevirtual 345, 3) ∧ mc_cd 67 31 = some (.iconst 0, 1) ∧ mc_cd 67 32 = some (.ireturn, 1) := by decide +kernel
theorem c67_28 : mc_cd 67 28 = some (.invokevirtual 345, 3) := cg67_28.1
theorem c67_31 : mc_cd 67 31 = some (.iconst 0, 1) := cg67_28.2.1
theorem c67_32 : mc_cd 67 32 = some (.ireturn, 1) := cg67_28.2.2
abbrev q_67 (r0 : Nat) (a1 : Int) (T : wq_T) (H : wq_H) : Option Value → wq_T → wq_H → Prop := fun r T' H' => T = T' ∧ WT T H' ∧ wfr [(6, 5), (8, 999), (10, 999), (9, 999), (7, 999), (11, 999)] T H H' ∧ ∃ z : Int, some (vI z) = r ∧ (0 ≤ z ∧ z ≤ 6) ∧ (z ≠ 0 ∨ a1 = 1)
set_option maxHeartbeats 4000000 in
theorem s_67 {kt : Nat → Option mc_E} {T : wq_T} {H : wq_H} {r0 : Nat} {a1 : Int} (hW : WT T H) (g0 : T.2.2.2 r0 = some 1) (i1 : 0 ≤ a1 ∧ a1 ≤ 1) : wpc kt 4 67 [.ref r0, vI a1] T H (q_67 r0 a1 T H) := by
  refine wp_enter e67 (Nat.le_of_ble_eq_true rfl) rfl ?_
  have f0 : wfr [(6, 5), (8, 999), (10, 999), (9, 999), (7, 999), (11, 999)] T H H := wfr.rf
  show wp _ _ 67 0 [(0, .ref r0), (1, vI a1)] [] _ H _
  refine wp_of e67 c67_0 (rw_iload_n (pc' := 1) (z := a1) rfl rfl ?_)
  refine wp_of e67 c67_1 (rw_if_ne (p1 := 6) (p2 := 4) (by decide) rfl ⟨by omega, by omega⟩ (fun c19101 => ?_) (fun c19101 => ?_))
  · refine wp_of e67 c67_6 (rw_aload_n (pc' := 7) (v := .ref r0) rfl rfl rfl ?_)
    refine wp_of e67 c67_7 (xg_R (pc' := 10) lf_0_51 hW g0 sh_1 (by decide) (by decide) ty_1_6 rfl rfl (fun r19102 q19103 g19104 => ?_))
    refine wp_of e67 c67_10 (xg_L (pc' := 13) lf_0_141 hW g19104 sh_27 (by decide) (by decide) ty_27_18 rfl rfl (fun b19105 b19106 => ?_))
    refine wp_of e67 c67_13 (rw_lconst (pc' := 14) (z := 0) rfl rfl ?_)
    refine wp_of e67 c67_14 (rw_lcmp (pc' := 15) rfl ⟨by omega, by omega⟩ ⟨by omega, by omega⟩ ?_)
    have b19107 := wq_cmp_b (H r19102 18) 0
    refine wp_of e67 c67_15 (rw_if_ne (p1 := 20) (p2 := 18) (by decide) rfl ⟨by omega, by omega⟩ (fun c19108 => ?_) (fun c19108 => ?_))
    · refine wp_of e67 c67_20 (rw_aload_n (pc' := 21) (v := .ref r0) rfl rfl rfl ?_)
      refine wp_of e67 c67_21 (xg_R (pc' := 24) lf_0_23 hW g0 sh_1 (by decide) (by decide) ty_1_2 rfl rfl (fun r19109 q19110 g19111 => ?_))
      refine wp_of e67 c67_24 (rw_aload_n (pc' := 25) (v := .ref r0) rfl rfl rfl ?_)
      refine wp_of e67 c67_25 (xg_K (pc' := 28) lf_0_51 hW g0 sh_1 (by decide) (by decide) rfl q19103 rfl ?_)
      refine wp_of e67 c67_28 (xc_V (pc' := 31) (r := r19109) (as := [.ref r19102]) (st := []) (lm_0_345) rfl rfl (Nat.le_of_ble_eq_true rfl) hW g19111 sh_6 (by decide) rfl (by decide) (s_68 hW g19111 g19104) (fun R19112 T19113 H19114 p19115 => ?_))
      obtain ⟨e19116, w19118, f19119, e19117⟩ := p19115
      subst e19116
      subst e19117
      have f19120 := f0.tr f19119 rfl
      show wp _ _ 67 31 [(0, .ref r0), (1, vI a1)] [] _ H19114 _
      refine wp_of e67 c67_31 (rw_iconst (pc' := 32) rfl ?_)
      exact wp_ireturn e67 c67_32 rfl ⟨rfl, w19118, f19120, 0, rfl, ⟨by omega, by omega⟩, by omega⟩
    · refine wp_of e67 c67_18 (rw_iconst (pc' := 19) rfl ?_)
      exact wp_ireturn e67 c67_19 rfl ⟨rfl, hW, f0, 5, rfl, ⟨by omega, by omega⟩, by omega⟩
  · refine wp_of e67 c67_4 (rw_iconst (pc' := 5) rfl ?_)
    exact wp_ireturn e67 c67_5 rfl ⟨rfl, hW, f0, 1, rfl, ⟨by omega, by omega⟩, by omega⟩
/-! StrikeAwake$Walk.strokesDue(I)I -/
theorem e72 : wq_en 72 = some (3, 6, false, some FieldType.int) := rfl
theorem cg72_0 : mc_cd 72 0 = some (.iload_n 1, 1) ∧ mc_cd 72 1 = some (.bipush 12, 2) ∧ mc_cd 72 3 = some (.if_icmp .ge 7, 3) ∧ mc_cd 72 6 = some (.iconst 1, 1) ∧ mc_cd 72 7 = some (.goto 4, 3) ∧ mc_cd 72 10 = some (.iconst 0, 1) ∧ mc_cd 72 11 = some (.istore_n 2, 1) ∧ mc_cd 72 12 = some (.iload_n 2, 1) := by decide +kernel
theorem c72_0 : mc_cd 72 0 = some (.iload_n 1, 1) := cg72_0.1
theorem c72_1 : mc_cd 72 1 = some (.bipush 12, 2) := cg72_0.2.1
theorem c72_3 : mc_cd 72 3 = some (.if_icmp .ge 7, 3) := cg72_0.2.2.1
theorem c72_6 : mc_cd 72 6 = some (.iconst 1, 1) := cg72_0.2.2.2.1
theorem c72_7 : mc_cd 72 7 = some (.goto 4, 3) := cg72_0.2.2.2.2.1
theorem c72_10 : mc_cd 72 10 = some (.iconst 0, 1) := cg72_0.2.2.2.2.2.1
theorem c72_11 : mc_cd 72 11 = some (.istore_n 2, 1) := cg72_0.2.2.2.2.2.2.1
theorem c72_12 : mc_cd 72 12 = some (.iload_n 2, 1) := cg72_0.2.2.2.2.2.2.2
theorem cg72_13 : mc_cd 72 13 = some (.ifCond .eq 15, 3) ∧ mc_cd 72 16 = some (.aload_n 0, 1) ∧ mc_cd 72 17 = some (.getfield 15, 3) ∧ mc_cd 72 20 = some (.aload_n 0, 1) ∧ mc_cd 72 21 = some (.getfield 51, 3) ∧ mc_cd 72 24 = some (.laload, 1) ∧ mc_cd 72 25 = some (.goto 12, 3) ∧ mc_cd 72 28 = some (.aload_n 0, 1) := by decide +kernel
theorem c72_13 : mc_cd 72 13 = some (.ifCond .eq 15, 3) := cg72_13.1
theorem c72_16 : mc_cd 72 16 = some (.aload_n 0, 1) := cg72_13.2.1
theorem c72_17 : mc_cd 72 17 = some (.getfield 15, 3) := cg72_13.2.2.1
theorem c72_20 : mc_cd 72 20 = some (.aload_n 0, 1) := cg72_13.2.2.2.1
theorem c72_21 : mc_cd 72 21 = some (.getfield 51, 3) := cg72_13.2.2.2.2.1
theorem c72_24 : mc_cd 72 24 = some (.laload, 1) := cg72_13.2.2.2.2.2.1
theorem c72_25 : mc_cd 72 25 = some (.goto 12, 3) := cg72_13.2.2.2.2.2.2.1
theorem c72_28 : mc_cd 72 28 = some (.aload_n 0, 1) := cg72_13.2.2.2.2.2.2.2
theorem cg72_29 : mc_cd 72 29 = some (.getfield 19, 3) ∧ mc_cd 72 32 = some (.aload_n 0, 1) ∧ mc_cd 72 33 = some (.getfield 51, 3) ∧ mc_cd 72 36 = some (.laload, 1) ∧ mc_cd 72 37 = some (.lstore_n 3, 1) ∧ mc_cd 72 38 = some (.iload_n 2, 1) ∧ mc_cd 72 39 = some (.ifCond .eq 7, 3) ∧ mc_cd 72 42 = some (.iload_n 1, 1) := by decide +kernel
theorem c72_29 : mc_cd 72 29 = some (.getfield 19, 3) := cg72_29.1
theorem c72_32 : mc_cd 72 32 = some (.aload_n 0, 1) := cg72_29.2.1
theorem c72_33 : mc_cd 72 33 = some (.getfield 51, 3) := cg72_29.2.2.1
theorem c72_36 : mc_cd 72 36 = some (.laload, 1) := cg72_29.2.2.2.1
theorem c72_37 : mc_cd 72 37 = some (.lstore_n 3, 1) := cg72_29.2.2.2.2.1
theorem c72_38 : mc_cd 72 38 = some (.iload_n 2, 1) := cg72_29.2.2.2.2.2.1
theorem c72_39 : mc_cd 72 39 = some (.ifCond .eq 7, 3) := cg72_29.2.2.2.2.2.2.1
theorem c72_42 : mc_cd 72 42 = some (.iload_n 1, 1) := cg72_29.2.2.2.2.2.2.2
theorem cg72_43 : mc_cd 72 43 = some (.goto 7, 3) ∧ mc_cd 72 46 = some (.iload_n 1, 1) ∧ mc_cd 72 47 = some (.bipush 12, 2) ∧ mc_cd 72 49 = some (.isub, 1) ∧ mc_cd 72 50 = some (.istore 5, 2) ∧ mc_cd 72 52 = some (.lload_n 3, 1) ∧ mc_cd 72 53 = some (.iload 5, 2) ∧ mc_cd 72 55 = some (.iconst 4, 1) := by decide +kernel
theorem c72_43 : mc_cd 72 43 = some (.goto 7, 3) := cg72_43.1
theorem c72_46 : mc_cd 72 46 = some (.iload_n 1, 1) := cg72_43.2.1
theorem c72_47 : mc_cd 72 47 = some (.bipush 12, 2) := cg72_43.2.2.1
theorem c72_49 : mc_cd 72 49 = some (.isub, 1) := cg72_43.2.2.2.1
theorem c72_50 : mc_cd 72 50 = some (.istore 5, 2) := cg72_43.2.2.2.2.1
theorem c72_52 : mc_cd 72 52 = some (.lload_n 3, 1) := cg72_43.2.2.2.2.2.1
theorem c72_53 : mc_cd 72 53 = some (.iload 5, 2) := cg72_43.2.2.2.2.2.2.1
theorem c72_55 : mc_cd 72 55 = some (.iconst 4, 1) := cg72_43.2.2.2.2.2.2.2
theorem cg72_56 : mc_cd 72 56 = some (.imul, 1) ∧ mc_cd 72 57 = some (.lshr, 1) ∧ mc_cd 72 58 = some (.l2i, 1) ∧ mc_cd 72 59 = some (.bipush 15, 2) ∧ mc_cd 72 61 = some (.iand, 1) ∧ mc_cd 72 62 = some (.ireturn, 1) := by decide +kernel
theorem c72_56 : mc_cd 72 56 = some (.imul, 1) := cg72_56.1
theorem c72_57 : mc_cd 72 57 = some (.lshr, 1) := cg72_56.2.1
theorem c72_58 : mc_cd 72 58 = some (.l2i, 1) := cg72_56.2.2.1
theorem c72_59 : mc_cd 72 59 = some (.bipush 15, 2) := cg72_56.2.2.2.1
theorem c72_61 : mc_cd 72 61 = some (.iand, 1) := cg72_56.2.2.2.2.1
theorem c72_62 : mc_cd 72 62 = some (.ireturn, 1) := cg72_56.2.2.2.2.2
abbrev q_72 (r0 : Nat) (a1 : Int) (T : wq_T) (H : wq_H) : Option Value → wq_T → wq_H → Prop := fun r T' H' => T = T' ∧ H = H' ∧ ∃ z : Int, some (vI z) = r ∧ ((-2147483648) ≤ z ∧ z ≤ 2147483647)
set_option maxHeartbeats 4000000 in
theorem s_72 {kt : Nat → Option mc_E} {T : wq_T} {H : wq_H} {r0 : Nat} {a1 : Int} (hW : WT T H) (g0 : T.2.2.2 r0 = some 6) (i1 : 0 ≤ a1 ∧ a1 ≤ 23) : wpc kt 1 72 [.ref r0, vI a1] T H (q_72 r0 a1 T H) := by
  refine wp_enter e72 (Nat.le_of_ble_eq_true rfl) rfl ?_
  show wp _ _ 72 0 [(0, .ref r0), (1, vI a1)] [] _ H _
  refine wp_of e72 c72_0 (rw_iload_n (pc' := 1) (z := a1) rfl rfl ?_)
  refine wp_of e72 c72_1 (rw_bipush (pc' := 3) (z := 12) rfl (by decide) ?_)
  refine wp_of e72 c72_3 (rw_icmp_ge (p1 := 10) (p2 := 6) (by decide) rfl ⟨by omega, by omega⟩ ⟨by omega, by omega⟩ (fun c19152 => ?_) (fun c19152 => ?_))
  · refine wp_of e72 c72_10 (rw_iconst (pc' := 11) rfl ?_)
    refine wp_of e72 c72_11 (rw_istore_n (pc' := 12) (z := 0) (L' := [(2, vI 0), (0, .ref r0), (1, vI a1)]) rfl rfl rfl ?_)
    refine wp_of e72 c72_12 (rw_iload_n (pc' := 13) (z := 0) rfl rfl ?_)
    refine wp_of e72 c72_13 (rw_if_eq (p1 := 28) (p2 := 16) (by decide) rfl ⟨by omega, by omega⟩ (fun c19153 => ?_) (fun c19153 => ?_))
    · refine wp_of e72 c72_28 (rw_aload_n (pc' := 29) (v := .ref r0) rfl rfl rfl ?_)
      refine wp_of e72 c72_29 (xg_R (pc' := 32) lf_3_19 hW g0 sh_6 (by decide) (by decide) ty_6_2 rfl rfl (fun r19154 q19155 g19156 => ?_))
      refine wp_of e72 c72_32 (rw_aload_n (pc' := 33) (v := .ref r0) rfl rfl rfl ?_)
      refine wp_of e72 c72_33 (xg_I (pc' := 36) lf_3_51 hW g0 sh_6 (by decide) (by decide) ty_6_5 rfl rfl (fun b19157 b19158 => ?_))
      refine wp_of e72 c72_36 (xa_L (pc' := 37) hW g19156 sh_9 (by decide) (ty_9 _) (by omega) (by omega) rfl (fun b19159 b19160 => ?_))
      refine wp_of e72 c72_37 (rw_lstore_n (pc' := 38) (z := H r19154 ((H r0 5).toNat)) (L' := [(3, vL (H r19154 ((H r0 5).toNat))), (2, vI 0), (0, .ref r0), (1, vI a1)]) rfl rfl rfl ?_)
      refine wp_of e72 c72_38 (rw_iload_n (pc' := 39) (z := 0) rfl rfl ?_)
      refine wp_of e72 c72_39 (rw_if_eq (p1 := 46) (p2 := 42) (by decide) rfl ⟨by omega, by omega⟩ (fun c19161 => ?_) (fun c19161 => ?_))
      · refine wp_of e72 c72_46 (rw_iload_n (pc' := 47) (z := a1) rfl rfl ?_)
        refine wp_of e72 c72_47 (rw_bipush (pc' := 49) (z := 12) rfl (by decide) ?_)
        refine wp_of e72 c72_49 (rw_isub (pc' := 50) rfl ?_)
        refine wp_of e72 c72_50 (rw_istore (pc' := 52) (z := a1 - 12) (L' := [(5, vI (a1 - 12)), (3, vL (H r19154 ((H r0 5).toNat))), (2, vI 0), (0, .ref r0), (1, vI a1)]) rfl rfl rfl ?_)
        refine wp_of e72 c72_52 (rw_lload_n (pc' := 53) (z := H r19154 ((H r0 5).toNat)) rfl rfl ?_)
        refine wp_of e72 c72_53 (rw_iload (pc' := 55) (z := a1 - 12) rfl rfl ?_)
        refine wp_of e72 c72_55 (rw_iconst (pc' := 56) rfl ?_)
        refine wp_of e72 c72_56 (rw_imul (pc' := 57) rfl ?_)
        refine wp_of e72 c72_57 (rw_lshr (pc' := 58) rfl ?_)
        obtain ⟨v19162, e19163⟩ : ∃ x : Int, x = wl_shr (H r19154 ((H r0 5).toNat)) ((a1 - 12) * 4) := ⟨_, rfl⟩
        rw [← e19163]
        have b19164 : -9223372036854775808 ≤ v19162 ∧ v19162 ≤ 9223372036854775807 := by
          rw [e19163]
          exact wL_shr _ _
        refine wp_of e72 c72_58 (rw_l2i (pc' := 59) rfl ?_)
        obtain ⟨v19165, e19166⟩ : ∃ x : Int, x = wq_w v19162 := ⟨_, rfl⟩
        rw [← e19166]
        have b19167 : -2147483648 ≤ v19165 ∧ v19165 ≤ 2147483647 := by
          rw [e19166]
          exact wI_w _
        have b19168 : (-2147483648 ≤ v19162 ∧ v19162 ≤ 2147483647) → v19165 = v19162 := by
          rw [e19166]
          exact fun h => wq_w_id h
        refine wp_of e72 c72_59 (rw_bipush (pc' := 61) (z := 15) rfl (by decide) ?_)
        refine wp_of e72 c72_61 (rw_iand (pc' := 62) rfl ?_)
        obtain ⟨v19169, e19170⟩ : ∃ x : Int, x = wq_and v19165 15 := ⟨_, rfl⟩
        rw [← e19170]
        have b19171 : 0 ≤ v19169 ∧ v19169 ≤ 15 := by
          rw [e19170]
          exact wq_and_b _ (by omega) (by omega)
        exact wp_ireturn e72 c72_62 rfl ⟨rfl, rfl, v19169, rfl, ⟨by omega, by omega⟩⟩
      · exfalso
        omega
    · exfalso
      omega
  · refine wp_of e72 c72_6 (rw_iconst (pc' := 7) rfl ?_)
    refine wp_of e72 c72_7 (rw_goto (p1 := 11) (by decide) ?_)
    refine wp_of e72 c72_11 (rw_istore_n (pc' := 12) (z := 1) (L' := [(2, vI 1), (0, .ref r0), (1, vI a1)]) rfl rfl rfl ?_)
    refine wp_of e72 c72_12 (rw_iload_n (pc' := 13) (z := 1) rfl rfl ?_)
    refine wp_of e72 c72_13 (rw_if_eq (p1 := 28) (p2 := 16) (by decide) rfl ⟨by omega, by omega⟩ (fun c19172 => ?_) (fun c19172 => ?_))
    · exfalso
      omega
    · refine wp_of e72 c72_16 (rw_aload_n (pc' := 17) (v := .ref r0) rfl rfl rfl ?_)
      refine wp_of e72 c72_17 (xg_R (pc' := 20) lf_3_15 hW g0 sh_6 (by decide) (by decide) ty_6_1 rfl rfl (fun r19173 q19174 g19175 => ?_))
      refine wp_of e72 c72_20 (rw_aload_n (pc' := 21) (v := .ref r0) rfl rfl rfl ?_)
      refine wp_of e72 c72_21 (xg_I (pc' := 24) lf_3_51 hW g0 sh_6 (by decide) (by decide) ty_6_5 rfl rfl (fun b19176 b19177 => ?_))
      refine wp_of e72 c72_24 (xa_L (pc' := 25) hW g19175 sh_8 (by decide) (ty_8 _) (by omega) (by omega) rfl (fun b19178 b19179 => ?_))
      refine wp_of e72 c72_25 (rw_goto (p1 := 37) (by decide) ?_)
      refine wp_of e72 c72_37 (rw_lstore_n (pc' := 38) (z := H r19173 ((H r0 5).toNat)) (L' := [(3, vL (H r19173 ((H r0 5).toNat))), (2, vI 1), (0, .ref r0), (1, vI a1)]) rfl rfl rfl ?_)
      refine wp_of e72 c72_38 (rw_iload_n (pc' := 39) (z := 1) rfl rfl ?_)
      refine wp_of e72 c72_39 (rw_if_eq (p1 := 46) (p2 := 42) (by decide) rfl ⟨by omega, by omega⟩ (fun c19180 => ?_) (fun c19180 => ?_))
      · exfalso
        omega
      · refine wp_of e72 c72_42 (rw_iload_n (pc' := 43) (z := a1) rfl rfl ?_)
        refine wp_of e72 c72_43 (rw_goto (p1 := 50) (by decide) ?_)
        refine wp_of e72 c72_50 (rw_istore (pc' := 52) (z := a1) (L' := [(5, vI a1), (3, vL (H r19173 ((H r0 5).toNat))), (2, vI 1), (0, .ref r0), (1, vI a1)]) rfl rfl rfl ?_)
        refine wp_of e72 c72_52 (rw_lload_n (pc' := 53) (z := H r19173 ((H r0 5).toNat)) rfl rfl ?_)
        refine wp_of e72 c72_53 (rw_iload (pc' := 55) (z := a1) rfl rfl ?_)
        refine wp_of e72 c72_55 (rw_iconst (pc' := 56) rfl ?_)
        refine wp_of e72 c72_56 (rw_imul (pc' := 57) rfl ?_)
        refine wp_of e72 c72_57 (rw_lshr (pc' := 58) rfl ?_)
        obtain ⟨v19181, e19182⟩ : ∃ x : Int, x = wl_shr (H r19173 ((H r0 5).toNat)) (a1 * 4) := ⟨_, rfl⟩
        rw [← e19182]
        have b19183 : -9223372036854775808 ≤ v19181 ∧ v19181 ≤ 9223372036854775807 := by
          rw [e19182]
          exact wL_shr _ _
        refine wp_of e72 c72_58 (rw_l2i (pc' := 59) rfl ?_)
        obtain ⟨v19184, e19185⟩ : ∃ x : Int, x = wq_w v19181 := ⟨_, rfl⟩
        rw [← e19185]
        have b19186 : -2147483648 ≤ v19184 ∧ v19184 ≤ 2147483647 := by
          rw [e19185]
          exact wI_w _
        have b19187 : (-2147483648 ≤ v19181 ∧ v19181 ≤ 2147483647) → v19184 = v19181 := by
          rw [e19185]
          exact fun h => wq_w_id h
        refine wp_of e72 c72_59 (rw_bipush (pc' := 61) (z := 15) rfl (by decide) ?_)
        refine wp_of e72 c72_61 (rw_iand (pc' := 62) rfl ?_)
        obtain ⟨v19188, e19189⟩ : ∃ x : Int, x = wq_and v19184 15 := ⟨_, rfl⟩
        rw [← e19189]
        have b19190 : 0 ≤ v19188 ∧ v19188 ≤ 15 := by
          rw [e19189]
          exact wq_and_b _ (by omega) (by omega)
        exact wp_ireturn e72 c72_62 rfl ⟨rfl, rfl, v19188, rfl, ⟨by omega, by omega⟩⟩
/-! StrikeAwake.strikes(I)I -/
theorem e66 : wq_en 66 = some (0, 3, false, some FieldType.int) := rfl
theorem cg66_0 : mc_cd 66 0 = some (.aload_n 0, 1) ∧ mc_cd 66 1 = some (.aload_n 0, 1) ∧ mc_cd 66 2 = some (.iload_n 1, 1) ∧ mc_cd 66 3 = some (.invokevirtual 132, 3) ∧ mc_cd 66 6 = some (.invokevirtual 155, 3) ∧ mc_cd 66 9 = some (.istore_n 2, 1) ∧ mc_cd 66 10 = some (.iload_n 2, 1) ∧ mc_cd 66 11 = some (.ifCond .eq 9, 3) := by decide +kernel
theorem c66_0 : mc_cd 66 0 = some (.aload_n 0, 1) := cg66_0.1
theorem c66_1 : mc_cd 66 1 = some (.aload_n 0, 1) := cg66_0.2.1
theorem c66_2 : mc_cd 66 2 = some (.iload_n 1, 1) := cg66_0.2.2.1
theorem c66_3 : mc_cd 66 3 = some (.invokevirtual 132, 3) := cg66_0.2.2.2.1
theorem c66_6 : mc_cd 66 6 = some (.invokevirtual 155, 3) := cg66_0.2.2.2.2.1
theorem c66_9 : mc_cd 66 9 = some (.istore_n 2, 1) := cg66_0.2.2.2.2.2.1
theorem c66_10 : mc_cd 66 10 = some (.iload_n 2, 1) := cg66_0.2.2.2.2.2.2.1
theorem c66_11 : mc_cd 66 11 = some (.ifCond .eq 9, 3) := cg66_0.2.2.2.2.2.2.2
theorem cg66_14 : mc_cd 66 14 = some (.aload_n 0, 1) ∧ mc_cd 66 15 = some (.iload_n 2, 1) ∧ mc_cd 66 16 = some (.invokevirtual 70, 3) ∧ mc_cd 66 19 = some (.ireturn, 1) ∧ mc_cd 66 20 = some (.aload_n 0, 1) ∧ mc_cd 66 21 = some (.aload_n 0, 1) ∧ mc_cd 66 22 = some (.getfield 23, 3) ∧ mc_cd 66 25 = some (.iload_n 1, 1) := by decide +kernel
theorem c66_14 : mc_cd 66 14 = some (.aload_n 0, 1) := cg66_14.1
theorem c66_15 : mc_cd 66 15 = some (.iload_n 2, 1) := cg66_14.2.1
theorem c66_16 : mc_cd 66 16 = some (.invokevirtual 70, 3) := cg66_14.2.2.1
theorem c66_19 : mc_cd 66 19 = some (.ireturn, 1) := cg66_14.2.2.2.1
theorem c66_20 : mc_cd 66 20 = some (.aload_n 0, 1) := cg66_14.2.2.2.2.1
theorem c66_21 : mc_cd 66 21 = some (.aload_n 0, 1) := cg66_14.2.2.2.2.2.1
theorem c66_22 : mc_cd 66 22 = some (.getfield 23, 3) := cg66_14.2.2.2.2.2.2.1
theorem c66_25 : mc_cd 66 25 = some (.iload_n 1, 1) := cg66_14.2.2.2.2.2.2.2
theorem cg66_26 : mc_cd 66 26 = some (.invokevirtual 159, 3) ∧ mc_cd 66 29 = some (.invokevirtual 99, 3) ∧ mc_cd 66 32 = some (.ireturn, 1) := by decide +kernel
theorem c66_26 : mc_cd 66 26 = some (.invokevirtual 159, 3) := cg66_26.1
theorem c66_29 : mc_cd 66 29 = some (.invokevirtual 99, 3) := cg66_26.2.1
theorem c66_32 : mc_cd 66 32 = some (.ireturn, 1) := cg66_26.2.2
abbrev q_66 (r0 : Nat) (a1 : Int) (T : wq_T) (H : wq_H) : Option Value → wq_T → wq_H → Prop := fun r T' H' => T = T' ∧ WT T H' ∧ wfr [(1, 10), (6, 5), (8, 999), (10, 999), (9, 999), (7, 999), (11, 999)] T H H' ∧ ∃ z : Int, some (vI z) = r ∧ ((-2147483648) ≤ z ∧ z ≤ 2147483647)
set_option maxHeartbeats 4000000 in
theorem s_66 {kt : Nat → Option mc_E} {T : wq_T} {H : wq_H} {r0 : Nat} {a1 : Int} (hW : WT T H) (g0 : T.2.2.2 r0 = some 1) (i1 : (-2147483648) ≤ a1 ∧ a1 ≤ 2147483647) : wpc kt 5 66 [.ref r0, vI a1] T H (q_66 r0 a1 T H) := by
  refine wp_enter e66 (Nat.le_of_ble_eq_true rfl) rfl ?_
  have f0 : wfr [(1, 10), (6, 5), (8, 999), (10, 999), (9, 999), (7, 999), (11, 999)] T H H := wfr.rf
  show wp _ _ 66 0 [(0, .ref r0), (1, vI a1)] [] _ H _
  refine wp_of e66 c66_0 (rw_aload_n (pc' := 1) (v := .ref r0) rfl rfl rfl ?_)
  refine wp_of e66 c66_1 (rw_aload_n (pc' := 2) (v := .ref r0) rfl rfl rfl ?_)
  refine wp_of e66 c66_2 (rw_iload_n (pc' := 3) (z := a1) rfl rfl ?_)
  refine wp_of e66 c66_3 (xc_V (pc' := 6) (r := r0) (as := [vI a1]) (st := [.ref r0]) (lm_0_132) rfl rfl (Nat.le_of_ble_eq_true rfl) hW g0 sh_1 (by decide) rfl (by decide) (s_60 hW g0 ⟨by omega, by omega⟩) (fun R19248 T19249 H19250 p19251 => ?_))
  obtain ⟨e19252, e19254, z19256, e19253, b19257, p19255⟩ := p19251
  subst e19252
  subst e19253
  subst e19254
  show wp _ _ 66 6 [(0, .ref r0), (1, vI a1)] [vI z19256, .ref r0] _ H _
  refine wp_of e66 c66_6 (xc_V (pc' := 9) (r := r0) (as := [vI z19256]) (st := []) (lm_0_155) rfl rfl (Nat.le_of_ble_eq_true rfl) hW g0 sh_1 (by decide) rfl (by decide) (s_67 hW g0 ⟨by omega, by omega⟩) (fun R19258 T19259 H19260 p19261 => ?_))
  obtain ⟨e19262, w19264, f19265, z19267, e19263, b19268, p19266⟩ := p19261
  subst e19262
  subst e19263
  have f19269 := f0.tr f19265 rfl
  show wp _ _ 66 9 [(0, .ref r0), (1, vI a1)] [vI z19267] _ H19260 _
  refine wp_of e66 c66_9 (rw_istore_n (pc' := 10) (z := z19267) (L' := [(2, vI z19267), (0, .ref r0), (1, vI a1)]) rfl rfl rfl ?_)
  refine wp_of e66 c66_10 (rw_iload_n (pc' := 11) (z := z19267) rfl rfl ?_)
  refine wp_of e66 c66_11 (rw_if_eq (p1 := 20) (p2 := 14) (by decide) rfl ⟨by omega, by omega⟩ (fun c19270 => ?_) (fun c19270 => ?_))
  · refine wp_of e66 c66_20 (rw_aload_n (pc' := 21) (v := .ref r0) rfl rfl rfl ?_)
    refine wp_of e66 c66_21 (rw_aload_n (pc' := 22) (v := .ref r0) rfl rfl rfl ?_)
    refine wp_of e66 c66_22 (xg_R (pc' := 25) lf_0_23 w19264 g0 sh_1 (by decide) (by decide) ty_1_2 rfl rfl (fun r19271 q19272 g19273 => ?_))
    refine wp_of e66 c66_25 (rw_iload_n (pc' := 26) (z := a1) rfl rfl ?_)
    refine wp_of e66 c66_26 (xc_V (pc' := 29) (r := r19271) (as := [vI a1]) (st := [.ref r0]) (lm_0_159) rfl rfl (Nat.le_of_ble_eq_true rfl) w19264 g19273 sh_6 (by decide) rfl (by decide) (s_72 w19264 g19273 ⟨by omega, by omega⟩) (fun R19274 T19275 H19276 p19277 => ?_))
    obtain ⟨e19278, e19280, z19281, e19279, b19282⟩ := p19277
    subst e19278
    subst e19279
    subst e19280
    show wp _ _ 66 29 [(2, vI z19267), (0, .ref r0), (1, vI a1)] [vI z19281, .ref r0] _ H19260 _
    refine wp_of e66 c66_29 (xc_V (pc' := 32) (r := r0) (as := [vI z19281]) (st := []) (lm_0_99) rfl rfl (Nat.le_of_ble_eq_true rfl) w19264 g0 sh_1 (by decide) rfl (by decide) (s_51 w19264 g0 ⟨by omega, by omega⟩) (fun R19283 T19284 H19285 p19286 => ?_))
    obtain ⟨e19287, w19289, f19290, z19291, e19288, b19292⟩ := p19286
    subst e19287
    subst e19288
    have f19293 := f19269.tr f19290 rfl
    show wp _ _ 66 32 [(2, vI z19267), (0, .ref r0), (1, vI a1)] [vI z19291] _ H19285 _
    exact wp_ireturn e66 c66_32 rfl ⟨rfl, w19289, f19293, z19291, rfl, ⟨by omega, by omega⟩⟩
  · refine wp_of e66 c66_14 (rw_aload_n (pc' := 15) (v := .ref r0) rfl rfl rfl ?_)
    refine wp_of e66 c66_15 (rw_iload_n (pc' := 16) (z := z19267) rfl rfl ?_)
    refine wp_of e66 c66_16 (xc_V (pc' := 19) (r := r0) (as := [vI z19267]) (st := []) (lm_0_70) rfl rfl (Nat.le_of_ble_eq_true rfl) w19264 g0 sh_1 (by decide) rfl (by decide) (s_12 w19264 g0 ⟨by omega, by omega⟩) (fun R19294 T19295 H19296 p19297 => ?_))
    obtain ⟨e19298, w19300, f19301, z19302, e19299, b19303⟩ := p19297
    subst e19298
    subst e19299
    have f19304 := f19269.tr f19301 rfl
    show wp _ _ 66 19 [(2, vI z19267), (0, .ref r0), (1, vI a1)] [vI z19302] _ H19296 _
    exact wp_ireturn e66 c66_19 rfl ⟨rfl, w19300, f19304, z19302, rfl, ⟨by omega, by omega⟩⟩
/-! StrikeAwake$Parish.verdict(II)I -/
theorem e76 : wq_en 76 = some (7, 4, false, some FieldType.int) := rfl
theorem cg76_0 : mc_cd 76 0 = some (.aload_n 0, 1) ∧ mc_cd 76 1 = some (.getfield 17, 3) ∧ mc_cd 76 4 = some (.iload_n 1, 1) ∧ mc_cd 76 5 = some (.iaload, 1) ∧ mc_cd 76 6 = some (.istore_n 3, 1) ∧ mc_cd 76 7 = some (.iload_n 3, 1) ∧ mc_cd 76 8 = some (.ifCond .lt 18, 3) ∧ mc_cd 76 11 = some (.iload_n 3, 1) := by decide +kernel
theorem c76_0 : mc_cd 76 0 = some (.aload_n 0, 1) := cg76_0.1
theorem c76_1 : mc_cd 76 1 = some (.getfield 17, 3) := cg76_0.2.1
theorem c76_4 : mc_cd 76 4 = some (.iload_n 1, 1) := cg76_0.2.2.1
theorem c76_5 : mc_cd 76 5 = some (.iaload, 1) := cg76_0.2.2.2.1
theorem c76_6 : mc_cd 76 6 = some (.istore_n 3, 1) := cg76_0.2.2.2.2.1
theorem c76_7 : mc_cd 76 7 = some (.iload_n 3, 1) := cg76_0.2.2.2.2.2.1
theorem c76_8 : mc_cd 76 8 = some (.ifCond .lt 18, 3) := cg76_0.2.2.2.2.2.2.1
theorem c76_11 : mc_cd 76 11 = some (.iload_n 3, 1) := cg76_0.2.2.2.2.2.2.2
theorem cg76_12 : mc_cd 76 12 = some (.iload_n 2, 1) ∧ mc_cd 76 13 = some (.if_icmp .lt 15, 3) ∧ mc_cd 76 16 = some (.iload_n 3, 1) ∧ mc_cd 76 17 = some (.iload_n 2, 1) ∧ mc_cd 76 18 = some (.aload_n 0, 1) ∧ mc_cd 76 19 = some (.getfield 44, 3) ∧ mc_cd 76 22 = some (.iadd, 1) ∧ mc_cd 76 23 = some (.if_icmp .gt 5, 3) := by decide +kernel
theorem c76_12 : mc_cd 76 12 = some (.iload_n 2, 1) := cg76_12.1
theorem c76_13 : mc_cd 76 13 = some (.if_icmp .lt 15, 3) := cg76_12.2.1
theorem c76_16 : mc_cd 76 16 = some (.iload_n 3, 1) := cg76_12.2.2.1
theorem c76_17 : mc_cd 76 17 = some (.iload_n 2, 1) := cg76_12.2.2.2.1
theorem c76_18 : mc_cd 76 18 = some (.aload_n 0, 1) := cg76_12.2.2.2.2.1
theorem c76_19 : mc_cd 76 19 = some (.getfield 44, 3) := cg76_12.2.2.2.2.2.1
theorem c76_22 : mc_cd 76 22 = some (.iadd, 1) := cg76_12.2.2.2.2.2.2.1
theorem c76_23 : mc_cd 76 23 = some (.if_icmp .gt 5, 3) := cg76_12.2.2.2.2.2.2.2
theorem cg76_26 : mc_cd 76 26 = some (.iconst 0, 1) ∧ mc_cd 76 27 = some (.ireturn, 1) ∧ mc_cd 76 28 = some (.iload_n 3, 1) ∧ mc_cd 76 29 = some (.iload_n 2, 1) ∧ mc_cd 76 30 = some (.iconst 1, 1) ∧ mc_cd 76 31 = some (.isub, 1) ∧ mc_cd 76 32 = some (.if_icmp .eq 15, 3) ∧ mc_cd 76 35 = some (.iload_n 3, 1) := by decide +kernel
theorem c76_26 : mc_cd 76 26 = some (.iconst 0, 1) := cg76_26.1
theorem c76_27 : mc_cd 76 27 = some (.ireturn, 1) := cg76_26.2.1
theorem c76_28 : mc_cd 76 28 = some (.iload_n 3, 1) := cg76_26.2.2.1
theorem c76_29 : mc_cd 76 29 = some (.iload_n 2, 1) := cg76_26.2.2.2.1
theorem c76_30 : mc_cd 76 30 = some (.iconst 1, 1) := cg76_26.2.2.2.2.1
theorem c76_31 : mc_cd 76 31 = some (.isub, 1) := cg76_26.2.2.2.2.2.1
theorem c76_32 : mc_cd 76 32 = some (.if_icmp .eq 15, 3) := cg76_26.2.2.2.2.2.2.1
theorem c76_35 : mc_cd 76 35 = some (.iload_n 3, 1) := cg76_26.2.2.2.2.2.2.2
theorem cg76_36 : mc_cd 76 36 = some (.iload_n 2, 1) ∧ mc_cd 76 37 = some (.aload_n 0, 1) ∧ mc_cd 76 38 = some (.getfield 44, 3) ∧ mc_cd 76 41 = some (.iadd, 1) ∧ mc_cd 76 42 = some (.iconst 1, 1) ∧ mc_cd 76 43 = some (.iadd, 1) ∧ mc_cd 76 44 = some (.if_icmp .ne 7, 3) ∧ mc_cd 76 47 = some (.iconst 1, 1) := by decide +kernel
theorem c76_36 : mc_cd 76 36 = some (.iload_n 2, 1) := cg76_36.1
theorem c76_37 : mc_cd 76 37 = some (.aload_n 0, 1) := cg76_36.2.1
theorem c76_38 : mc_cd 76 38 = some (.getfield 44, 3) := cg76_36.2.2.1
theorem c76_41 : mc_cd 76 41 = some (.iadd, 1) := cg76_36.2.2.2.1
theorem c76_42 : mc_cd 76 42 = some (.iconst 1, 1) := cg76_36.2.2.2.2.1
theorem c76_43 : mc_cd 76 43 = some (.iadd, 1) := cg76_36.2.2.2.2.2.1
theorem c76_44 : mc_cd 76 44 = some (.if_icmp .ne 7, 3) := cg76_36.2.2.2.2.2.2.1
theorem c76_47 : mc_cd 76 47 = some (.iconst 1, 1) := cg76_36.2.2.2.2.2.2.2
theorem cg76_48 : mc_cd 76 48 = some (.goto 4, 3) ∧ mc_cd 76 51 = some (.iconst 2, 1) ∧ mc_cd 76 52 = some (.ireturn, 1) := by decide +kernel
theorem c76_48 : mc_cd 76 48 = some (.goto 4, 3) := cg76_48.1
theorem c76_51 : mc_cd 76 51 = some (.iconst 2, 1) := cg76_48.2.1
theorem c76_52 : mc_cd 76 52 = some (.ireturn, 1) := cg76_48.2.2
abbrev q_76 (r0 : Nat) (a1 : Int) (a2 : Int) (T : wq_T) (H : wq_H) : Option Value → wq_T → wq_H → Prop := fun r T' H' => T = T' ∧ H = H' ∧ ∃ z : Int, some (vI z) = r ∧ (0 ≤ z ∧ z ≤ 2)
set_option maxHeartbeats 4000000 in
theorem s_76 {kt : Nat → Option mc_E} {T : wq_T} {H : wq_H} {r0 : Nat} {a1 : Int} {a2 : Int} (hW : WT T H) (g0 : T.2.2.2 r0 = some 27) (i1 : 0 ≤ a1 ∧ a1 ≤ 23) (i2 : (-2147483648) ≤ a2 ∧ a2 ≤ 2147483647) : wpc kt 1 76 [.ref r0, vI a1, vI a2] T H (q_76 r0 a1 a2 T H) := by
  refine wp_enter e76 (Nat.le_of_ble_eq_true rfl) rfl ?_
  show wp _ _ 76 0 [(0, .ref r0), (1, vI a1), (2, vI a2)] [] _ H _
  refine wp_of e76 c76_0 (rw_aload_n (pc' := 1) (v := .ref r0) rfl rfl rfl ?_)
  refine wp_of e76 c76_1 (xg_R (pc' := 4) lf_7_17 hW g0 sh_27 (by decide) (by decide) ty_27_1 rfl rfl (fun r19335 q19336 g19337 => ?_))
  refine wp_of e76 c76_4 (rw_iload_n (pc' := 5) (z := a1) rfl rfl ?_)
  refine wp_of e76 c76_5 (xa_I (so := 0) (pc' := 6) hW g19337 sh_29 (by decide) (ty_29 _) (by omega) (by omega) rfl (fun b19338 b19339 => ?_))
  refine wp_of e76 c76_6 (rw_istore_n (pc' := 7) (z := H r19335 (a1.toNat)) (L' := [(3, vI (H r19335 (a1.toNat))), (0, .ref r0), (1, vI a1), (2, vI a2)]) rfl rfl rfl ?_)
  refine wp_of e76 c76_7 (rw_iload_n (pc' := 8) (z := H r19335 (a1.toNat)) rfl rfl ?_)
  refine wp_of e76 c76_8 (rw_if_lt (p1 := 26) (p2 := 11) (by decide) rfl ⟨by omega, by omega⟩ (fun c19340 => ?_) (fun c19340 => ?_))
  · refine wp_of e76 c76_26 (rw_iconst (pc' := 27) rfl ?_)
    exact wp_ireturn e76 c76_27 rfl ⟨rfl, rfl, 0, rfl, ⟨by omega, by omega⟩⟩
  · refine wp_of e76 c76_11 (rw_iload_n (pc' := 12) (z := H r19335 (a1.toNat)) rfl rfl ?_)
    refine wp_of e76 c76_12 (rw_iload_n (pc' := 13) (z := a2) rfl rfl ?_)
    refine wp_of e76 c76_13 (rw_icmp_lt (p1 := 28) (p2 := 16) (by decide) rfl ⟨by omega, by omega⟩ ⟨by omega, by omega⟩ (fun c19341 => ?_) (fun c19341 => ?_))
    · refine wp_of e76 c76_28 (rw_iload_n (pc' := 29) (z := H r19335 (a1.toNat)) rfl rfl ?_)
      refine wp_of e76 c76_29 (rw_iload_n (pc' := 30) (z := a2) rfl rfl ?_)
      refine wp_of e76 c76_30 (rw_iconst (pc' := 31) rfl ?_)
      refine wp_of e76 c76_31 (rw_isub (pc' := 32) rfl ?_)
      refine wp_of e76 c76_32 (rw_icmp_eq (p1 := 47) (p2 := 35) (by decide) rfl ⟨by omega, by omega⟩ ⟨by omega, by omega⟩ (fun c19342 => ?_) (fun c19342 => ?_))
      · refine wp_of e76 c76_47 (rw_iconst (pc' := 48) rfl ?_)
        refine wp_of e76 c76_48 (rw_goto (p1 := 52) (by decide) ?_)
        exact wp_ireturn e76 c76_52 rfl ⟨rfl, rfl, 1, rfl, ⟨by omega, by omega⟩⟩
      · refine wp_of e76 c76_35 (rw_iload_n (pc' := 36) (z := H r19335 (a1.toNat)) rfl rfl ?_)
        refine wp_of e76 c76_36 (rw_iload_n (pc' := 37) (z := a2) rfl rfl ?_)
        refine wp_of e76 c76_37 (rw_aload_n (pc' := 38) (v := .ref r0) rfl rfl rfl ?_)
        refine wp_of e76 c76_38 (xg_I (pc' := 41) lf_7_44 hW g0 sh_27 (by decide) (by decide) ty_27_8 rfl rfl (fun b19343 b19344 => ?_))
        refine wp_of e76 c76_41 (rw_iaddw (pc' := 42) rfl ?_)
        obtain ⟨v19345, e19346⟩ : ∃ x : Int, x = wq_w (a2 + (H r0 8)) := ⟨_, rfl⟩
        rw [← e19346]
        have b19347 : -2147483648 ≤ v19345 ∧ v19345 ≤ 2147483647 := by
          rw [e19346]
          exact wI_w _
        refine wp_of e76 c76_42 (rw_iconst (pc' := 43) rfl ?_)
        refine wp_of e76 c76_43 (rw_iaddw (pc' := 44) rfl ?_)
        obtain ⟨v19348, e19349⟩ : ∃ x : Int, x = wq_w (v19345 + 1) := ⟨_, rfl⟩
        rw [← e19349]
        have b19350 : -2147483648 ≤ v19348 ∧ v19348 ≤ 2147483647 := by
          rw [e19349]
          exact wI_w _
        refine wp_of e76 c76_44 (rw_icmp_ne (p1 := 51) (p2 := 47) (by decide) rfl ⟨by omega, by omega⟩ ⟨by omega, by omega⟩ (fun c19351 => ?_) (fun c19351 => ?_))
        · refine wp_of e76 c76_51 (rw_iconst (pc' := 52) rfl ?_)
          exact wp_ireturn e76 c76_52 rfl ⟨rfl, rfl, 2, rfl, ⟨by omega, by omega⟩⟩
        · refine wp_of e76 c76_47 (rw_iconst (pc' := 48) rfl ?_)
          refine wp_of e76 c76_48 (rw_goto (p1 := 52) (by decide) ?_)
          exact wp_ireturn e76 c76_52 rfl ⟨rfl, rfl, 1, rfl, ⟨by omega, by omega⟩⟩
    · refine wp_of e76 c76_16 (rw_iload_n (pc' := 17) (z := H r19335 (a1.toNat)) rfl rfl ?_)
      refine wp_of e76 c76_17 (rw_iload_n (pc' := 18) (z := a2) rfl rfl ?_)
      refine wp_of e76 c76_18 (rw_aload_n (pc' := 19) (v := .ref r0) rfl rfl rfl ?_)
      refine wp_of e76 c76_19 (xg_I (pc' := 22) lf_7_44 hW g0 sh_27 (by decide) (by decide) ty_27_8 rfl rfl (fun b19352 b19353 => ?_))
      refine wp_of e76 c76_22 (rw_iaddw (pc' := 23) rfl ?_)
      obtain ⟨v19354, e19355⟩ : ∃ x : Int, x = wq_w (a2 + (H r0 8)) := ⟨_, rfl⟩
      rw [← e19355]
      have b19356 : -2147483648 ≤ v19354 ∧ v19354 ≤ 2147483647 := by
        rw [e19355]
        exact wI_w _
      refine wp_of e76 c76_23 (rw_icmp_gt (p1 := 28) (p2 := 26) (by decide) rfl ⟨by omega, by omega⟩ ⟨by omega, by omega⟩ (fun c19357 => ?_) (fun c19357 => ?_))
      · refine wp_of e76 c76_28 (rw_iload_n (pc' := 29) (z := H r19335 (a1.toNat)) rfl rfl ?_)
        refine wp_of e76 c76_29 (rw_iload_n (pc' := 30) (z := a2) rfl rfl ?_)
        refine wp_of e76 c76_30 (rw_iconst (pc' := 31) rfl ?_)
        refine wp_of e76 c76_31 (rw_isubw (pc' := 32) rfl ?_)
        obtain ⟨v19358, e19359⟩ : ∃ x : Int, x = wq_w (a2 - 1) := ⟨_, rfl⟩
        rw [← e19359]
        have b19360 : -2147483648 ≤ v19358 ∧ v19358 ≤ 2147483647 := by
          rw [e19359]
          exact wI_w _
        refine wp_of e76 c76_32 (rw_icmp_eq (p1 := 47) (p2 := 35) (by decide) rfl ⟨by omega, by omega⟩ ⟨by omega, by omega⟩ (fun c19361 => ?_) (fun c19361 => ?_))
        · refine wp_of e76 c76_47 (rw_iconst (pc' := 48) rfl ?_)
          refine wp_of e76 c76_48 (rw_goto (p1 := 52) (by decide) ?_)
          exact wp_ireturn e76 c76_52 rfl ⟨rfl, rfl, 1, rfl, ⟨by omega, by omega⟩⟩
        · refine wp_of e76 c76_35 (rw_iload_n (pc' := 36) (z := H r19335 (a1.toNat)) rfl rfl ?_)
          refine wp_of e76 c76_36 (rw_iload_n (pc' := 37) (z := a2) rfl rfl ?_)
          refine wp_of e76 c76_37 (rw_aload_n (pc' := 38) (v := .ref r0) rfl rfl rfl ?_)
          refine wp_of e76 c76_38 (xg_I (pc' := 41) lf_7_44 hW g0 sh_27 (by decide) (by decide) ty_27_8 rfl rfl (fun b19362 b19363 => ?_))
          refine wp_of e76 c76_41 (rw_iaddw (pc' := 42) rfl ?_)
          obtain ⟨v19364, e19365⟩ : ∃ x : Int, x = wq_w (a2 + (H r0 8)) := ⟨_, rfl⟩
          rw [← e19365]
          have b19366 : -2147483648 ≤ v19364 ∧ v19364 ≤ 2147483647 := by
            rw [e19365]
            exact wI_w _
          refine wp_of e76 c76_42 (rw_iconst (pc' := 43) rfl ?_)
          refine wp_of e76 c76_43 (rw_iaddw (pc' := 44) rfl ?_)
          obtain ⟨v19367, e19368⟩ : ∃ x : Int, x = wq_w (v19364 + 1) := ⟨_, rfl⟩
          rw [← e19368]
          have b19369 : -2147483648 ≤ v19367 ∧ v19367 ≤ 2147483647 := by
            rw [e19368]
            exact wI_w _
          refine wp_of e76 c76_44 (rw_icmp_ne (p1 := 51) (p2 := 47) (by decide) rfl ⟨by omega, by omega⟩ ⟨by omega, by omega⟩ (fun c19370 => ?_) (fun c19370 => ?_))
          · refine wp_of e76 c76_51 (rw_iconst (pc' := 52) rfl ?_)
            exact wp_ireturn e76 c76_52 rfl ⟨rfl, rfl, 2, rfl, ⟨by omega, by omega⟩⟩
          · refine wp_of e76 c76_47 (rw_iconst (pc' := 48) rfl ?_)
            refine wp_of e76 c76_48 (rw_goto (p1 := 52) (by decide) ?_)
            exact wp_ireturn e76 c76_52 rfl ⟨rfl, rfl, 1, rfl, ⟨by omega, by omega⟩⟩
      · refine wp_of e76 c76_26 (rw_iconst (pc' := 27) rfl ?_)
        exact wp_ireturn e76 c76_27 rfl ⟨rfl, rfl, 0, rfl, ⟨by omega, by omega⟩⟩
/-! StrikeAwake$Walk.wrongIn(LStrikeAwake$Parish;I)I -/
theorem e75 : wq_en 75 = some (3, 3, false, some FieldType.int) := rfl
theorem cg75_0 : mc_cd 75 0 = some (.aload_n 1, 1) ∧ mc_cd 75 1 = some (.iload_n 2, 1) ∧ mc_cd 75 2 = some (.aload_n 0, 1) ∧ mc_cd 75 3 = some (.iload_n 2, 1) ∧ mc_cd 75 4 = some (.invokevirtual 92, 3) ∧ mc_cd 75 7 = some (.invokevirtual 96, 3) ∧ mc_cd 75 10 = some (.ifCond .eq 5, 3) ∧ mc_cd 75 13 = some (.iconst 1, 1) := by decide +kernel
theorem c75_0 : mc_cd 75 0 = some (.aload_n 1, 1) := cg75_0.1
theorem c75_1 : mc_cd 75 1 = some (.iload_n 2, 1) := cg75_0.2.1
theorem c75_2 : mc_cd 75 2 = some (.aload_n 0, 1) := cg75_0.2.2.1
theorem c75_3 : mc_cd 75 3 = some (.iload_n 2, 1) := cg75_0.2.2.2.1
theorem c75_4 : mc_cd 75 4 = some (.invokevirtual 92, 3) := cg75_0.2.2.2.2.1
theorem c75_7 : mc_cd 75 7 = some (.invokevirtual 96, 3) := cg75_0.2.2.2.2.2.1
theorem c75_10 : mc_cd 75 10 = some (.ifCond .eq 5, 3) := cg75_0.2.2.2.2.2.2.1
theorem c75_13 : mc_cd 75 13 = some (.iconst 1, 1) := cg75_0.2.2.2.2.2.2.2
theorem cg75_14 : mc_cd 75 14 = some (.ireturn, 1) ∧ mc_cd 75 15 = some (.aload_n 0, 1) ∧ mc_cd 75 16 = some (.getfield 25, 3) ∧ mc_cd 75 19 = some (.aload_n 0, 1) ∧ mc_cd 75 20 = some (.getfield 51, 3) ∧ mc_cd 75 23 = some (.iaload, 1) ∧ mc_cd 75 24 = some (.iload_n 2, 1) ∧ mc_cd 75 25 = some (.invokestatic 99, 3) := by decide +kernel
theorem c75_14 : mc_cd 75 14 = some (.ireturn, 1) := cg75_14.1
theorem c75_15 : mc_cd 75 15 = some (.aload_n 0, 1) := cg75_14.2.1
theorem c75_16 : mc_cd 75 16 = some (.getfield 25, 3) := cg75_14.2.2.1
theorem c75_19 : mc_cd 75 19 = some (.aload_n 0, 1) := cg75_14.2.2.2.1
theorem c75_20 : mc_cd 75 20 = some (.getfield 51, 3) := cg75_14.2.2.2.2.1
theorem c75_23 : mc_cd 75 23 = some (.iaload, 1) := cg75_14.2.2.2.2.2.1
theorem c75_24 : mc_cd 75 24 = some (.iload_n 2, 1) := cg75_14.2.2.2.2.2.2.1
theorem c75_25 : mc_cd 75 25 = some (.invokestatic 99, 3) := cg75_14.2.2.2.2.2.2.2
theorem cg75_28 : mc_cd 75 28 = some (.ifCond .eq 7, 3) ∧ mc_cd 75 31 = some (.iconst 2, 1) ∧ mc_cd 75 32 = some (.goto 4, 3) ∧ mc_cd 75 35 = some (.iconst 0, 1) ∧ mc_cd 75 36 = some (.ireturn, 1) := by decide +kernel
theorem c75_28 : mc_cd 75 28 = some (.ifCond .eq 7, 3) := cg75_28.1
theorem c75_31 : mc_cd 75 31 = some (.iconst 2, 1) := cg75_28.2.1
theorem c75_32 : mc_cd 75 32 = some (.goto 4, 3) := cg75_28.2.2.1
theorem c75_35 : mc_cd 75 35 = some (.iconst 0, 1) := cg75_28.2.2.2.1
theorem c75_36 : mc_cd 75 36 = some (.ireturn, 1) := cg75_28.2.2.2.2
abbrev q_75 (r0 : Nat) (r1 : Nat) (a2 : Int) (T : wq_T) (H : wq_H) : Option Value → wq_T → wq_H → Prop := fun r T' H' => T = T' ∧ H = H' ∧ ∃ z : Int, some (vI z) = r ∧ (0 ≤ z ∧ z ≤ 2)
set_option maxHeartbeats 4000000 in
theorem s_75 {kt : Nat → Option mc_E} {T : wq_T} {H : wq_H} {r0 : Nat} {r1 : Nat} {a2 : Int} (hW : WT T H) (g0 : T.2.2.2 r0 = some 6) (g1 : T.2.2.2 r1 = some 27) (i2 : 0 ≤ a2 ∧ a2 ≤ 23) : wpc kt 2 75 [.ref r0, .ref r1, vI a2] T H (q_75 r0 r1 a2 T H) := by
  refine wp_enter e75 (Nat.le_of_ble_eq_true rfl) rfl ?_
  show wp _ _ 75 0 [(0, .ref r0), (1, .ref r1), (2, vI a2)] [] _ H _
  refine wp_of e75 c75_0 (rw_aload_n (pc' := 1) (v := .ref r1) rfl rfl rfl ?_)
  refine wp_of e75 c75_1 (rw_iload_n (pc' := 2) (z := a2) rfl rfl ?_)
  refine wp_of e75 c75_2 (rw_aload_n (pc' := 3) (v := .ref r0) rfl rfl rfl ?_)
  refine wp_of e75 c75_3 (rw_iload_n (pc' := 4) (z := a2) rfl rfl ?_)
  refine wp_of e75 c75_4 (xc_V (pc' := 7) (r := r0) (as := [vI a2]) (st := [vI a2, .ref r1]) (lm_3_92) rfl rfl (Nat.le_of_ble_eq_true rfl) hW g0 sh_6 (by decide) rfl (by decide) (s_72 hW g0 ⟨by omega, by omega⟩) (fun R19407 T19408 H19409 p19410 => ?_))
  obtain ⟨e19411, e19413, z19414, e19412, b19415⟩ := p19410
  subst e19411
  subst e19412
  subst e19413
  show wp _ _ 75 7 [(0, .ref r0), (1, .ref r1), (2, vI a2)] [vI z19414, vI a2, .ref r1] _ H _
  refine wp_of e75 c75_7 (xc_V (pc' := 10) (r := r1) (as := [vI a2, vI z19414]) (st := []) (lm_3_96) rfl rfl (Nat.le_of_ble_eq_true rfl) hW g1 sh_27 (by decide) rfl (by decide) (s_76 hW g1 ⟨by omega, by omega⟩ ⟨by omega, by omega⟩) (fun R19416 T19417 H19418 p19419 => ?_))
  obtain ⟨e19420, e19422, z19423, e19421, b19424⟩ := p19419
  subst e19420
  subst e19421
  subst e19422
  show wp _ _ 75 10 [(0, .ref r0), (1, .ref r1), (2, vI a2)] [vI z19423] _ H _
  refine wp_of e75 c75_10 (rw_if_eq (p1 := 15) (p2 := 13) (by decide) rfl ⟨by omega, by omega⟩ (fun c19425 => ?_) (fun c19425 => ?_))
  · refine wp_of e75 c75_15 (rw_aload_n (pc' := 16) (v := .ref r0) rfl rfl rfl ?_)
    refine wp_of e75 c75_16 (xg_R (pc' := 19) lf_3_25 hW g0 sh_6 (by decide) (by decide) ty_6_4 rfl rfl (fun r19426 q19427 g19428 => ?_))
    refine wp_of e75 c75_19 (rw_aload_n (pc' := 20) (v := .ref r0) rfl rfl rfl ?_)
    refine wp_of e75 c75_20 (xg_I (pc' := 23) lf_3_51 hW g0 sh_6 (by decide) (by decide) ty_6_5 rfl rfl (fun b19429 b19430 => ?_))
    refine wp_of e75 c75_23 (xa_I (so := 0) (pc' := 24) hW g19428 sh_11 (by decide) (ty_11 _) (by omega) (by omega) rfl (fun b19431 b19432 => ?_))
    have b19431 := Int.le_trans (wq0_b _) b19431
    have b19432 := Int.le_trans b19432 (wq1_b _)
    refine wp_of e75 c75_24 (rw_iload_n (pc' := 25) (z := a2) rfl rfl ?_)
    refine wp_of e75 c75_25 (xc_S (pc' := 28) (as := [vI (H r19426 ((H r0 5).toNat)), vI a2]) (st := []) (lm_3_99) rfl rfl (Nat.le_of_ble_eq_true rfl) rfl (by decide) (s_36 hW ⟨by omega, by omega⟩ ⟨by omega, by omega⟩) (fun R19433 T19434 H19435 p19436 => ?_))
    obtain ⟨e19437, e19439, z19440, e19438, b19441⟩ := p19436
    subst e19437
    subst e19438
    subst e19439
    show wp _ _ 75 28 [(0, .ref r0), (1, .ref r1), (2, vI a2)] [vI z19440] _ H _
    refine wp_of e75 c75_28 (rw_if_eq (p1 := 35) (p2 := 31) (by decide) rfl ⟨by omega, by omega⟩ (fun c19442 => ?_) (fun c19442 => ?_))
    · refine wp_of e75 c75_35 (rw_iconst (pc' := 36) rfl ?_)
      exact wp_ireturn e75 c75_36 rfl ⟨rfl, rfl, 0, rfl, ⟨by omega, by omega⟩⟩
    · refine wp_of e75 c75_31 (rw_iconst (pc' := 32) rfl ?_)
      refine wp_of e75 c75_32 (rw_goto (p1 := 36) (by decide) ?_)
      exact wp_ireturn e75 c75_36 rfl ⟨rfl, rfl, 2, rfl, ⟨by omega, by omega⟩⟩
  · refine wp_of e75 c75_13 (rw_iconst (pc' := 14) rfl ?_)
    exact wp_ireturn e75 c75_14 rfl ⟨rfl, rfl, 1, rfl, ⟨by omega, by omega⟩⟩
/-! StrikeAwake$Walk.firstWrong(LStrikeAwake$Parish;)I -/
theorem e74 : wq_en 74 = some (3, 3, false, some FieldType.int) := rfl
theorem cg74_0 : mc_cd 74 0 = some (.iconst 0, 1) ∧ mc_cd 74 1 = some (.istore_n 2, 1) ∧ mc_cd 74 2 = some (.iload_n 2, 1) ∧ mc_cd 74 3 = some (.aload_n 1, 1) ∧ mc_cd 74 4 = some (.getfield 103, 3) ∧ mc_cd 74 7 = some (.if_icmp .ge 20, 3) ∧ mc_cd 74 10 = some (.aload_n 0, 1) ∧ mc_cd 74 11 = some (.aload_n 1, 1) := by decide +kernel
theorem c74_0 : mc_cd 74 0 = some (.iconst 0, 1) := cg74_0.1
theorem c74_1 : mc_cd 74 1 = some (.istore_n 2, 1) := cg74_0.2.1
theorem c74_2 : mc_cd 74 2 = some (.iload_n 2, 1) := cg74_0.2.2.1
theorem c74_3 : mc_cd 74 3 = some (.aload_n 1, 1) := cg74_0.2.2.2.1
theorem c74_4 : mc_cd 74 4 = some (.getfield 103, 3) := cg74_0.2.2.2.2.1
theorem c74_7 : mc_cd 74 7 = some (.if_icmp .ge 20, 3) := cg74_0.2.2.2.2.2.1
theorem c74_10 : mc_cd 74 10 = some (.aload_n 0, 1) := cg74_0.2.2.2.2.2.2.1
theorem c74_11 : mc_cd 74 11 = some (.aload_n 1, 1) := cg74_0.2.2.2.2.2.2.2
theorem cg74_12 : mc_cd 74 12 = some (.iload_n 2, 1) ∧ mc_cd 74 13 = some (.invokevirtual 106, 3) ∧ mc_cd 74 16 = some (.ifCond .eq 5, 3) ∧ mc_cd 74 19 = some (.iload_n 2, 1) ∧ mc_cd 74 20 = some (.ireturn, 1) ∧ mc_cd 74 21 = some (.iinc 2 1, 3) ∧ mc_cd 74 24 = some (.goto (-22), 3) ∧ mc_cd 74 27 = some (.bipush (-2), 2) := by decide +kernel
theorem c74_12 : mc_cd 74 12 = some (.iload_n 2, 1) := cg74_12.1
theorem c74_13 : mc_cd 74 13 = some (.invokevirtual 106, 3) := cg74_12.2.1
theorem c74_16 : mc_cd 74 16 = some (.ifCond .eq 5, 3) := cg74_12.2.2.1
theorem c74_19 : mc_cd 74 19 = some (.iload_n 2, 1) := cg74_12.2.2.2.1
theorem c74_20 : mc_cd 74 20 = some (.ireturn, 1) := cg74_12.2.2.2.2.1
theorem c74_21 : mc_cd 74 21 = some (.iinc 2 1, 3) := cg74_12.2.2.2.2.2.1
theorem c74_24 : mc_cd 74 24 = some (.goto (-22), 3) := cg74_12.2.2.2.2.2.2.1
theorem c74_27 : mc_cd 74 27 = some (.bipush (-2), 2) := cg74_12.2.2.2.2.2.2.2
theorem c74_29 : mc_cd 74 29 = some (.ireturn, 1) := by decide +kernel
abbrev q_74 (r0 : Nat) (r1 : Nat) (T : wq_T) (H : wq_H) : Option Value → wq_T → wq_H → Prop := fun r T' H' => T = T' ∧ H = H' ∧ ∃ z : Int, some (vI z) = r ∧ ((-2) ≤ z ∧ z ≤ 23)
set_option maxHeartbeats 4000000 in
theorem s_74 {kt : Nat → Option mc_E} {T : wq_T} {H : wq_H} {r0 : Nat} {r1 : Nat} (hW : WT T H) (g0 : T.2.2.2 r0 = some 6) (g1 : T.2.2.2 r1 = some 27) : wpc kt 3 74 [.ref r0, .ref r1] T H (q_74 r0 r1 T H) := by
  refine wp_enter e74 (Nat.le_of_ble_eq_true rfl) rfl ?_
  show wp _ _ 74 0 [(0, .ref r0), (1, .ref r1)] [] _ H _
  refine wp_of e74 c74_0 (rw_iconst (pc' := 1) rfl ?_)
  refine wp_of e74 c74_1 (rw_istore_n (pc' := 2) (z := 0) (L' := [(2, vI 0), (0, .ref r0), (1, .ref r1)]) rfl rfl rfl ?_)
  have lp19665 : ∀ (n19666 : Nat) (v19668 : Int), (0 ≤ v19668 ∧ v19668 ≤ 24) → (24 - v19668).toNat = n19666 → wp kt 2 74 2 [(2, vI v19668), (0, .ref r0), (1, .ref r1)] [] T H (q_74 r0 r1 T H) := by
    intro n19666
    induction n19666 using Nat.strongRecOn with
    | _ n19666 ih19667 =>
      intro v19668 b19671 m19672
      refine wp_of e74 c74_2 (rw_iload_n (pc' := 3) (z := v19668) rfl rfl ?_)
      refine wp_of e74 c74_3 (rw_aload_n (pc' := 4) (v := .ref r1) rfl rfl rfl ?_)
      refine wp_of e74 c74_4 (xg_I (pc' := 7) lf_3_103 hW g1 sh_27 (by decide) (by decide) ty_27_7 rfl rfl (fun b19673 b19674 => ?_))
      refine wp_of e74 c74_7 (rw_icmp_ge (p1 := 27) (p2 := 10) (by decide) rfl ⟨by omega, by omega⟩ ⟨by omega, by omega⟩ (fun c19675 => ?_) (fun c19675 => ?_))
      · refine wp_of e74 c74_27 (rw_bipush (pc' := 29) (z := -2) rfl (by decide) ?_)
        exact wp_ireturn e74 c74_29 rfl ⟨rfl, rfl, -2, rfl, ⟨by omega, by omega⟩⟩
      · refine wp_of e74 c74_10 (rw_aload_n (pc' := 11) (v := .ref r0) rfl rfl rfl ?_)
        refine wp_of e74 c74_11 (rw_aload_n (pc' := 12) (v := .ref r1) rfl rfl rfl ?_)
        refine wp_of e74 c74_12 (rw_iload_n (pc' := 13) (z := v19668) rfl rfl ?_)
        refine wp_of e74 c74_13 (xc_V (pc' := 16) (r := r0) (as := [.ref r1, vI v19668]) (st := []) (lm_3_106) rfl rfl (Nat.le_of_ble_eq_true rfl) hW g0 sh_6 (by decide) rfl (by decide) (s_75 hW g0 g1 ⟨by omega, by omega⟩) (fun R19676 T19677 H19678 p19679 => ?_))
        obtain ⟨e19680, e19682, z19683, e19681, b19684⟩ := p19679
        subst e19680
        subst e19681
        subst e19682
        show wp _ _ 74 16 [(2, vI v19668), (0, .ref r0), (1, .ref r1)] [vI z19683] _ H _
        refine wp_of e74 c74_16 (rw_if_eq (p1 := 21) (p2 := 19) (by decide) rfl ⟨by omega, by omega⟩ (fun c19685 => ?_) (fun c19685 => ?_))
        · refine wp_of e74 c74_21 (rw_iinc (pc' := 24) (z := v19668) (L' := [(2, vI (v19668 + 1)), (0, .ref r0), (1, .ref r1)]) rfl rfl rfl rfl ?_)
          refine wp_of e74 c74_24 (rw_goto (p1 := 2) (by decide) ?_)
          exact wp_lc (ks := [2, 0, 1]) (wl_c rfl (wl_c rfl (wl_c rfl wl_n))) rfl (by decide) (ih19667 _ (by omega) (v19668 + 1) ⟨by omega, by omega⟩ rfl)
        · refine wp_of e74 c74_19 (rw_iload_n (pc' := 20) (z := v19668) rfl rfl ?_)
          exact wp_ireturn e74 c74_20 rfl ⟨rfl, rfl, v19668, rfl, ⟨by omega, by omega⟩⟩
  exact wp_lc (ks := [2, 0, 1]) (wl_c rfl (wl_c rfl (wl_c rfl wl_n))) rfl (by decide) (lp19665 _ 0 ⟨by omega, by omega⟩ rfl)
/-! StrikeAwake.judge()I -/
theorem e73 : wq_en 73 = some (0, 2, false, some FieldType.int) := rfl
theorem cg73_0 : mc_cd 73 0 = some (.aload_n 0, 1) ∧ mc_cd 73 1 = some (.aload_n 0, 1) ∧ mc_cd 73 2 = some (.getfield 58, 3) ∧ mc_cd 73 5 = some (.invokevirtual 155, 3) ∧ mc_cd 73 8 = some (.istore_n 1, 1) ∧ mc_cd 73 9 = some (.iload_n 1, 1) ∧ mc_cd 73 10 = some (.ifCond .eq 9, 3) ∧ mc_cd 73 13 = some (.aload_n 0, 1) := by decide +kernel
theorem c73_0 : mc_cd 73 0 = some (.aload_n 0, 1) := cg73_0.1
theorem c73_1 : mc_cd 73 1 = some (.aload_n 0, 1) := cg73_0.2.1
theorem c73_2 : mc_cd 73 2 = some (.getfield 58, 3) := cg73_0.2.2.1
theorem c73_5 : mc_cd 73 5 = some (.invokevirtual 155, 3) := cg73_0.2.2.2.1
theorem c73_8 : mc_cd 73 8 = some (.istore_n 1, 1) := cg73_0.2.2.2.2.1
theorem c73_9 : mc_cd 73 9 = some (.iload_n 1, 1) := cg73_0.2.2.2.2.2.1
theorem c73_10 : mc_cd 73 10 = some (.ifCond .eq 9, 3) := cg73_0.2.2.2.2.2.2.1
theorem c73_13 : mc_cd 73 13 = some (.aload_n 0, 1) := cg73_0.2.2.2.2.2.2.2
theorem cg73_14 : mc_cd 73 14 = some (.iload_n 1, 1) ∧ mc_cd 73 15 = some (.invokevirtual 70, 3) ∧ mc_cd 73 18 = some (.ireturn, 1) ∧ mc_cd 73 19 = some (.aload_n 0, 1) ∧ mc_cd 73 20 = some (.aload_n 0, 1) ∧ mc_cd 73 21 = some (.getfield 23, 3) ∧ mc_cd 73 24 = some (.aload_n 0, 1) ∧ mc_cd 73 25 = some (.getfield 51, 3) := by decide +kernel
theorem c73_14 : mc_cd 73 14 = some (.iload_n 1, 1) := cg73_14.1
theorem c73_15 : mc_cd 73 15 = some (.invokevirtual 70, 3) := cg73_14.2.1
theorem c73_18 : mc_cd 73 18 = some (.ireturn, 1) := cg73_14.2.2.1
theorem c73_19 : mc_cd 73 19 = some (.aload_n 0, 1) := cg73_14.2.2.2.1
theorem c73_20 : mc_cd 73 20 = some (.aload_n 0, 1) := cg73_14.2.2.2.2.1
theorem c73_21 : mc_cd 73 21 = some (.getfield 23, 3) := cg73_14.2.2.2.2.2.1
theorem c73_24 : mc_cd 73 24 = some (.aload_n 0, 1) := cg73_14.2.2.2.2.2.2.1
theorem c73_25 : mc_cd 73 25 = some (.getfield 51, 3) := cg73_14.2.2.2.2.2.2.2
theorem cg73_28 : mc_cd 73 28 = some (.invokevirtual 162, 3) ∧ mc_cd 73 31 = some (.invokevirtual 99, 3) ∧ mc_cd 73 34 = some (.ireturn, 1) := by decide +kernel
theorem c73_28 : mc_cd 73 28 = some (.invokevirtual 162, 3) := cg73_28.1
theorem c73_31 : mc_cd 73 31 = some (.invokevirtual 99, 3) := cg73_28.2.1
theorem c73_34 : mc_cd 73 34 = some (.ireturn, 1) := cg73_28.2.2
abbrev q_73 (r0 : Nat) (T : wq_T) (H : wq_H) : Option Value → wq_T → wq_H → Prop := fun r T' H' => T = T' ∧ WT T H' ∧ wfr [(1, 10), (6, 5), (8, 999), (10, 999), (9, 999), (7, 999), (11, 999)] T H H' ∧ ∃ z : Int, some (vI z) = r ∧ ((-2147483648) ≤ z ∧ z ≤ 2147483647)
set_option maxHeartbeats 4000000 in
theorem s_73 {kt : Nat → Option mc_E} {T : wq_T} {H : wq_H} {r0 : Nat} (hW : WT T H) (g0 : T.2.2.2 r0 = some 1) : wpc kt 5 73 [.ref r0] T H (q_73 r0 T H) := by
  refine wp_enter e73 (Nat.le_of_ble_eq_true rfl) rfl ?_
  have f0 : wfr [(1, 10), (6, 5), (8, 999), (10, 999), (9, 999), (7, 999), (11, 999)] T H H := wfr.rf
  show wp _ _ 73 0 [(0, .ref r0)] [] _ H _
  refine wp_of e73 c73_0 (rw_aload_n (pc' := 1) (v := .ref r0) rfl rfl rfl ?_)
  refine wp_of e73 c73_1 (rw_aload_n (pc' := 2) (v := .ref r0) rfl rfl rfl ?_)
  refine wp_of e73 c73_2 (xg_I (pc' := 5) lf_0_58 hW g0 sh_1 (by decide) (by decide) ty_1_8 rfl rfl (fun b19738 b19739 => ?_))
  refine wp_of e73 c73_5 (xc_V (pc' := 8) (r := r0) (as := [vI (H r0 8)]) (st := []) (lm_0_155) rfl rfl (Nat.le_of_ble_eq_true rfl) hW g0 sh_1 (by decide) rfl (by decide) (s_67 hW g0 ⟨by omega, by omega⟩) (fun R19740 T19741 H19742 p19743 => ?_))
  obtain ⟨e19744, w19746, f19747, z19749, e19745, b19750, p19748⟩ := p19743
  subst e19744
  subst e19745
  have f19751 := f0.tr f19747 rfl
  show wp _ _ 73 8 [(0, .ref r0)] [vI z19749] _ H19742 _
  refine wp_of e73 c73_8 (rw_istore_n (pc' := 9) (z := z19749) (L' := [(1, vI z19749), (0, .ref r0)]) rfl rfl rfl ?_)
  refine wp_of e73 c73_9 (rw_iload_n (pc' := 10) (z := z19749) rfl rfl ?_)
  refine wp_of e73 c73_10 (rw_if_eq (p1 := 19) (p2 := 13) (by decide) rfl ⟨by omega, by omega⟩ (fun c19752 => ?_) (fun c19752 => ?_))
  · refine wp_of e73 c73_19 (rw_aload_n (pc' := 20) (v := .ref r0) rfl rfl rfl ?_)
    refine wp_of e73 c73_20 (rw_aload_n (pc' := 21) (v := .ref r0) rfl rfl rfl ?_)
    refine wp_of e73 c73_21 (xg_R (pc' := 24) lf_0_23 w19746 g0 sh_1 (by decide) (by decide) ty_1_2 rfl rfl (fun r19753 q19754 g19755 => ?_))
    refine wp_of e73 c73_24 (rw_aload_n (pc' := 25) (v := .ref r0) rfl rfl rfl ?_)
    refine wp_of e73 c73_25 (xg_R (pc' := 28) lf_0_51 w19746 g0 sh_1 (by decide) (by decide) ty_1_6 rfl rfl (fun r19756 q19757 g19758 => ?_))
    refine wp_of e73 c73_28 (xc_V (pc' := 31) (r := r19753) (as := [.ref r19756]) (st := [.ref r0]) (lm_0_162) rfl rfl (Nat.le_of_ble_eq_true rfl) w19746 g19755 sh_6 (by decide) rfl (by decide) (s_74 w19746 g19755 g19758) (fun R19759 T19760 H19761 p19762 => ?_))
    obtain ⟨e19763, e19765, z19766, e19764, b19767⟩ := p19762
    subst e19763
    subst e19764
    subst e19765
    show wp _ _ 73 31 [(1, vI z19749), (0, .ref r0)] [vI z19766, .ref r0] _ H19742 _
    refine wp_of e73 c73_31 (xc_V (pc' := 34) (r := r0) (as := [vI z19766]) (st := []) (lm_0_99) rfl rfl (Nat.le_of_ble_eq_true rfl) w19746 g0 sh_1 (by decide) rfl (by decide) (s_51 w19746 g0 ⟨by omega, by omega⟩) (fun R19768 T19769 H19770 p19771 => ?_))
    obtain ⟨e19772, w19774, f19775, z19776, e19773, b19777⟩ := p19771
    subst e19772
    subst e19773
    have f19778 := f19751.tr f19775 rfl
    show wp _ _ 73 34 [(1, vI z19749), (0, .ref r0)] [vI z19776] _ H19770 _
    exact wp_ireturn e73 c73_34 rfl ⟨rfl, w19774, f19778, z19776, rfl, ⟨by omega, by omega⟩⟩
  · refine wp_of e73 c73_13 (rw_aload_n (pc' := 14) (v := .ref r0) rfl rfl rfl ?_)
    refine wp_of e73 c73_14 (rw_iload_n (pc' := 15) (z := z19749) rfl rfl ?_)
    refine wp_of e73 c73_15 (xc_V (pc' := 18) (r := r0) (as := [vI z19749]) (st := []) (lm_0_70) rfl rfl (Nat.le_of_ble_eq_true rfl) w19746 g0 sh_1 (by decide) rfl (by decide) (s_12 w19746 g0 ⟨by omega, by omega⟩) (fun R19779 T19780 H19781 p19782 => ?_))
    obtain ⟨e19783, w19785, f19786, z19787, e19784, b19788⟩ := p19782
    subst e19783
    subst e19784
    have f19789 := f19751.tr f19786 rfl
    show wp _ _ 73 18 [(1, vI z19749), (0, .ref r0)] [vI z19787] _ H19781 _
    exact wp_ireturn e73 c73_18 rfl ⟨rfl, w19785, f19789, z19787, rfl, ⟨by omega, by omega⟩⟩
/-! StrikeAwake.why()I -/
theorem e77 : wq_en 77 = some (0, 3, false, some FieldType.int) := rfl
theorem cg77_0 : mc_cd 77 0 = some (.aload_n 0, 1) ∧ mc_cd 77 1 = some (.aload_n 0, 1) ∧ mc_cd 77 2 = some (.getfield 58, 3) ∧ mc_cd 77 5 = some (.invokevirtual 155, 3) ∧ mc_cd 77 8 = some (.istore_n 1, 1) ∧ mc_cd 77 9 = some (.iload_n 1, 1) ∧ mc_cd 77 10 = some (.ifCond .eq 9, 3) ∧ mc_cd 77 13 = some (.aload_n 0, 1) := by decide +kernel
theorem c77_0 : mc_cd 77 0 = some (.aload_n 0, 1) := cg77_0.1
theorem c77_1 : mc_cd 77 1 = some (.aload_n 0, 1) := cg77_0.2.1
theorem c77_2 : mc_cd 77 2 = some (.getfield 58, 3) := cg77_0.2.2.1
theorem c77_5 : mc_cd 77 5 = some (.invokevirtual 155, 3) := cg77_0.2.2.2.1
theorem c77_8 : mc_cd 77 8 = some (.istore_n 1, 1) := cg77_0.2.2.2.2.1
theorem c77_9 : mc_cd 77 9 = some (.iload_n 1, 1) := cg77_0.2.2.2.2.2.1
theorem c77_10 : mc_cd 77 10 = some (.ifCond .eq 9, 3) := cg77_0.2.2.2.2.2.2.1
theorem c77_13 : mc_cd 77 13 = some (.aload_n 0, 1) := cg77_0.2.2.2.2.2.2.2
theorem cg77_14 : mc_cd 77 14 = some (.iload_n 1, 1) ∧ mc_cd 77 15 = some (.invokevirtual 70, 3) ∧ mc_cd 77 18 = some (.ireturn, 1) ∧ mc_cd 77 19 = some (.aload_n 0, 1) ∧ mc_cd 77 20 = some (.getfield 23, 3) ∧ mc_cd 77 23 = some (.aload_n 0, 1) ∧ mc_cd 77 24 = some (.getfield 51, 3) ∧ mc_cd 77 27 = some (.invokevirtual 162, 3) := by decide +kernel
theorem c77_14 : mc_cd 77 14 = some (.iload_n 1, 1) := cg77_14.1
theorem c77_15 : mc_cd 77 15 = some (.invokevirtual 70, 3) := cg77_14.2.1
theorem c77_18 : mc_cd 77 18 = some (.ireturn, 1) := cg77_14.2.2.1
theorem c77_19 : mc_cd 77 19 = some (.aload_n 0, 1) := cg77_14.2.2.2.1
theorem c77_20 : mc_cd 77 20 = some (.getfield 23, 3) := cg77_14.2.2.2.2.1
theorem c77_23 : mc_cd 77 23 = some (.aload_n 0, 1) := cg77_14.2.2.2.2.2.1
theorem c77_24 : mc_cd 77 24 = some (.getfield 51, 3) := cg77_14.2.2.2.2.2.2.1
theorem c77_27 : mc_cd 77 27 = some (.invokevirtual 162, 3) := cg77_14.2.2.2.2.2.2.2
theorem cg77_30 : mc_cd 77 30 = some (.istore_n 2, 1) ∧ mc_cd 77 31 = some (.aload_n 0, 1) ∧ mc_cd 77 32 = some (.iload_n 2, 1) ∧ mc_cd 77 33 = some (.ifCond .ge 7, 3) ∧ mc_cd 77 36 = some (.iconst 0, 1) ∧ mc_cd 77 37 = some (.goto 15, 3) ∧ mc_cd 77 40 = some (.aload_n 0, 1) ∧ mc_cd 77 41 = some (.getfield 23, 3) := by decide +kernel
theorem c77_30 : mc_cd 77 30 = some (.istore_n 2, 1) := cg77_30.1
theorem c77_31 : mc_cd 77 31 = some (.aload_n 0, 1) := cg77_30.2.1
theorem c77_32 : mc_cd 77 32 = some (.iload_n 2, 1) := cg77_30.2.2.1
theorem c77_33 : mc_cd 77 33 = some (.ifCond .ge 7, 3) := cg77_30.2.2.2.1
theorem c77_36 : mc_cd 77 36 = some (.iconst 0, 1) := cg77_30.2.2.2.2.1
theorem c77_37 : mc_cd 77 37 = some (.goto 15, 3) := cg77_30.2.2.2.2.2.1
theorem c77_40 : mc_cd 77 40 = some (.aload_n 0, 1) := cg77_30.2.2.2.2.2.2.1
theorem c77_41 : mc_cd 77 41 = some (.getfield 23, 3) := cg77_30.2.2.2.2.2.2.2
theorem cg77_44 : mc_cd 77 44 = some (.aload_n 0, 1) ∧ mc_cd 77 45 = some (.getfield 51, 3) ∧ mc_cd 77 48 = some (.iload_n 2, 1) ∧ mc_cd 77 49 = some (.invokevirtual 166, 3) ∧ mc_cd 77 52 = some (.invokevirtual 99, 3) ∧ mc_cd 77 55 = some (.ireturn, 1) := by decide +kernel
theorem c77_44 : mc_cd 77 44 = some (.aload_n 0, 1) := cg77_44.1
theorem c77_45 : mc_cd 77 45 = some (.getfield 51, 3) := cg77_44.2.1
theorem c77_48 : mc_cd 77 48 = some (.iload_n 2, 1) := cg77_44.2.2.1
theorem c77_49 : mc_cd 77 49 = some (.invokevirtual 166, 3) := cg77_44.2.2.2.1
theorem c77_52 : mc_cd 77 52 = some (.invokevirtual 99, 3) := cg77_44.2.2.2.2.1
theorem c77_55 : mc_cd 77 55 = some (.ireturn, 1) := cg77_44.2.2.2.2.2
abbrev q_77 (r0 : Nat) (T : wq_T) (H : wq_H) : Option Value → wq_T → wq_H → Prop := fun r T' H' => T = T' ∧ WT T H' ∧ wfr [(1, 10), (6, 5), (8, 999), (10, 999), (9, 999), (7, 999), (11, 999)] T H H' ∧ ∃ z : Int, some (vI z) = r ∧ ((-2147483648) ≤ z ∧ z ≤ 2147483647)
set_option maxHeartbeats 4000000 in
theorem s_77 {kt : Nat → Option mc_E} {T : wq_T} {H : wq_H} {r0 : Nat} (hW : WT T H) (g0 : T.2.2.2 r0 = some 1) : wpc kt 5 77 [.ref r0] T H (q_77 r0 T H) := by
  refine wp_enter e77 (Nat.le_of_ble_eq_true rfl) rfl ?_
  have f0 : wfr [(1, 10), (6, 5), (8, 999), (10, 999), (9, 999), (7, 999), (11, 999)] T H H := wfr.rf
  show wp _ _ 77 0 [(0, .ref r0)] [] _ H _
  refine wp_of e77 c77_0 (rw_aload_n (pc' := 1) (v := .ref r0) rfl rfl rfl ?_)
  refine wp_of e77 c77_1 (rw_aload_n (pc' := 2) (v := .ref r0) rfl rfl rfl ?_)
  refine wp_of e77 c77_2 (xg_I (pc' := 5) lf_0_58 hW g0 sh_1 (by decide) (by decide) ty_1_8 rfl rfl (fun b19863 b19864 => ?_))
  refine wp_of e77 c77_5 (xc_V (pc' := 8) (r := r0) (as := [vI (H r0 8)]) (st := []) (lm_0_155) rfl rfl (Nat.le_of_ble_eq_true rfl) hW g0 sh_1 (by decide) rfl (by decide) (s_67 hW g0 ⟨by omega, by omega⟩) (fun R19865 T19866 H19867 p19868 => ?_))
  obtain ⟨e19869, w19871, f19872, z19874, e19870, b19875, p19873⟩ := p19868
  subst e19869
  subst e19870
  have f19876 := f0.tr f19872 rfl
  show wp _ _ 77 8 [(0, .ref r0)] [vI z19874] _ H19867 _
  refine wp_of e77 c77_8 (rw_istore_n (pc' := 9) (z := z19874) (L' := [(1, vI z19874), (0, .ref r0)]) rfl rfl rfl ?_)
  refine wp_of e77 c77_9 (rw_iload_n (pc' := 10) (z := z19874) rfl rfl ?_)
  refine wp_of e77 c77_10 (rw_if_eq (p1 := 19) (p2 := 13) (by decide) rfl ⟨by omega, by omega⟩ (fun c19877 => ?_) (fun c19877 => ?_))
  · refine wp_of e77 c77_19 (rw_aload_n (pc' := 20) (v := .ref r0) rfl rfl rfl ?_)
    refine wp_of e77 c77_20 (xg_R (pc' := 23) lf_0_23 w19871 g0 sh_1 (by decide) (by decide) ty_1_2 rfl rfl (fun r19878 q19879 g19880 => ?_))
    refine wp_of e77 c77_23 (rw_aload_n (pc' := 24) (v := .ref r0) rfl rfl rfl ?_)
    refine wp_of e77 c77_24 (xg_R (pc' := 27) lf_0_51 w19871 g0 sh_1 (by decide) (by decide) ty_1_6 rfl rfl (fun r19881 q19882 g19883 => ?_))
    refine wp_of e77 c77_27 (xc_V (pc' := 30) (r := r19878) (as := [.ref r19881]) (st := []) (lm_0_162) rfl rfl (Nat.le_of_ble_eq_true rfl) w19871 g19880 sh_6 (by decide) rfl (by decide) (s_74 w19871 g19880 g19883) (fun R19884 T19885 H19886 p19887 => ?_))
    obtain ⟨e19888, e19890, z19891, e19889, b19892⟩ := p19887
    subst e19888
    subst e19889
    subst e19890
    show wp _ _ 77 30 [(1, vI z19874), (0, .ref r0)] [vI z19891] _ H19867 _
    refine wp_of e77 c77_30 (rw_istore_n (pc' := 31) (z := z19891) (L' := [(2, vI z19891), (1, vI z19874), (0, .ref r0)]) rfl rfl rfl ?_)
    refine wp_of e77 c77_31 (rw_aload_n (pc' := 32) (v := .ref r0) rfl rfl rfl ?_)
    refine wp_of e77 c77_32 (rw_iload_n (pc' := 33) (z := z19891) rfl rfl ?_)
    refine wp_of e77 c77_33 (rw_if_ge (p1 := 40) (p2 := 36) (by decide) rfl ⟨by omega, by omega⟩ (fun c19893 => ?_) (fun c19893 => ?_))
    · refine wp_of e77 c77_40 (rw_aload_n (pc' := 41) (v := .ref r0) rfl rfl rfl ?_)
      refine wp_of e77 c77_41 (xg_K (pc' := 44) lf_0_23 w19871 g0 sh_1 (by decide) (by decide) rfl q19879 rfl ?_)
      refine wp_of e77 c77_44 (rw_aload_n (pc' := 45) (v := .ref r0) rfl rfl rfl ?_)
      refine wp_of e77 c77_45 (xg_K (pc' := 48) lf_0_51 w19871 g0 sh_1 (by decide) (by decide) rfl q19882 rfl ?_)
      refine wp_of e77 c77_48 (rw_iload_n (pc' := 49) (z := z19891) rfl rfl ?_)
      refine wp_of e77 c77_49 (xc_V (pc' := 52) (r := r19878) (as := [.ref r19881, vI z19891]) (st := [.ref r0]) (lm_0_166) rfl rfl (Nat.le_of_ble_eq_true rfl) w19871 g19880 sh_6 (by decide) rfl (by decide) (s_75 w19871 g19880 g19883 ⟨by omega, by omega⟩) (fun R19894 T19895 H19896 p19897 => ?_))
      obtain ⟨e19898, e19900, z19901, e19899, b19902⟩ := p19897
      subst e19898
      subst e19899
      subst e19900
      show wp _ _ 77 52 [(2, vI z19891), (1, vI z19874), (0, .ref r0)] [vI z19901, .ref r0] _ H19867 _
      refine wp_of e77 c77_52 (xc_V (pc' := 55) (r := r0) (as := [vI z19901]) (st := []) (lm_0_99) rfl rfl (Nat.le_of_ble_eq_true rfl) w19871 g0 sh_1 (by decide) rfl (by decide) (s_51 w19871 g0 ⟨by omega, by omega⟩) (fun R19903 T19904 H19905 p19906 => ?_))
      obtain ⟨e19907, w19909, f19910, z19911, e19908, b19912⟩ := p19906
      subst e19907
      subst e19908
      have f19913 := f19876.tr f19910 rfl
      show wp _ _ 77 55 [(2, vI z19891), (1, vI z19874), (0, .ref r0)] [vI z19911] _ H19905 _
      exact wp_ireturn e77 c77_55 rfl ⟨rfl, w19909, f19913, z19911, rfl, ⟨by omega, by omega⟩⟩
    · refine wp_of e77 c77_36 (rw_iconst (pc' := 37) rfl ?_)
      refine wp_of e77 c77_37 (rw_goto (p1 := 52) (by decide) ?_)
      refine wp_of e77 c77_52 (xc_V (pc' := 55) (r := r0) (as := [vI 0]) (st := []) (lm_0_99) rfl rfl (Nat.le_of_ble_eq_true rfl) w19871 g0 sh_1 (by decide) rfl (by decide) (s_51 w19871 g0 ⟨by omega, by omega⟩) (fun R19914 T19915 H19916 p19917 => ?_))
      obtain ⟨e19918, w19920, f19921, z19922, e19919, b19923⟩ := p19917
      subst e19918
      subst e19919
      have f19924 := f19876.tr f19921 rfl
      show wp _ _ 77 55 [(2, vI z19891), (1, vI z19874), (0, .ref r0)] [vI z19922] _ H19916 _
      exact wp_ireturn e77 c77_55 rfl ⟨rfl, w19920, f19924, z19922, rfl, ⟨by omega, by omega⟩⟩
  · refine wp_of e77 c77_13 (rw_aload_n (pc' := 14) (v := .ref r0) rfl rfl rfl ?_)
    refine wp_of e77 c77_14 (rw_iload_n (pc' := 15) (z := z19874) rfl rfl ?_)
    refine wp_of e77 c77_15 (xc_V (pc' := 18) (r := r0) (as := [vI z19874]) (st := []) (lm_0_70) rfl rfl (Nat.le_of_ble_eq_true rfl) w19871 g0 sh_1 (by decide) rfl (by decide) (s_12 w19871 g0 ⟨by omega, by omega⟩) (fun R19925 T19926 H19927 p19928 => ?_))
    obtain ⟨e19929, w19931, f19932, z19933, e19930, b19934⟩ := p19928
    subst e19929
    subst e19930
    have f19935 := f19876.tr f19932 rfl
    show wp _ _ 77 18 [(1, vI z19874), (0, .ref r0)] [vI z19933] _ H19927 _
    exact wp_ireturn e77 c77_18 rfl ⟨rfl, w19931, f19935, z19933, rfl, ⟨by omega, by omega⟩⟩
/-! StrikeAwake$Walk.isQuarrel()Z -/
theorem e80 : wq_en 80 = some (3, 1, false, some FieldType.boolean) := rfl
theorem cg80_0 : mc_cd 80 0 = some (.aload_n 0, 1) ∧ mc_cd 80 1 = some (.getfield 25, 3) ∧ mc_cd 80 4 = some (.aload_n 0, 1) ∧ mc_cd 80 5 = some (.getfield 51, 3) ∧ mc_cd 80 8 = some (.iaload, 1) ∧ mc_cd 80 9 = some (.ifCond .eq 7, 3) ∧ mc_cd 80 12 = some (.iconst 1, 1) ∧ mc_cd 80 13 = some (.goto 4, 3) := by decide +kernel
theorem c80_0 : mc_cd 80 0 = some (.aload_n 0, 1) := cg80_0.1
theorem c80_1 : mc_cd 80 1 = some (.getfield 25, 3) := cg80_0.2.1
theorem c80_4 : mc_cd 80 4 = some (.aload_n 0, 1) := cg80_0.2.2.1
theorem c80_5 : mc_cd 80 5 = some (.getfield 51, 3) := cg80_0.2.2.2.1
theorem c80_8 : mc_cd 80 8 = some (.iaload, 1) := cg80_0.2.2.2.2.1
theorem c80_9 : mc_cd 80 9 = some (.ifCond .eq 7, 3) := cg80_0.2.2.2.2.2.1
theorem c80_12 : mc_cd 80 12 = some (.iconst 1, 1) := cg80_0.2.2.2.2.2.2.1
theorem c80_13 : mc_cd 80 13 = some (.goto 4, 3) := cg80_0.2.2.2.2.2.2.2
theorem cg80_16 : mc_cd 80 16 = some (.iconst 0, 1) ∧ mc_cd 80 17 = some (.ireturn, 1) := by decide +kernel
theorem c80_16 : mc_cd 80 16 = some (.iconst 0, 1) := cg80_16.1
theorem c80_17 : mc_cd 80 17 = some (.ireturn, 1) := cg80_16.2
abbrev q_80 (r0 : Nat) (T : wq_T) (H : wq_H) : Option Value → wq_T → wq_H → Prop := fun r T' H' => T = T' ∧ H = H' ∧ ∃ z : Int, some (vI z) = r ∧ (0 ≤ z ∧ z ≤ 1)
set_option maxHeartbeats 4000000 in
theorem s_80 {kt : Nat → Option mc_E} {T : wq_T} {H : wq_H} {r0 : Nat} (hW : WT T H) (g0 : T.2.2.2 r0 = some 6) : wpc kt 1 80 [.ref r0] T H (q_80 r0 T H) := by
  refine wp_enter e80 (Nat.le_of_ble_eq_true rfl) rfl ?_
  show wp _ _ 80 0 [(0, .ref r0)] [] _ H _
  refine wp_of e80 c80_0 (rw_aload_n (pc' := 1) (v := .ref r0) rfl rfl rfl ?_)
  refine wp_of e80 c80_1 (xg_R (pc' := 4) lf_3_25 hW g0 sh_6 (by decide) (by decide) ty_6_4 rfl rfl (fun r19944 q19945 g19946 => ?_))
  refine wp_of e80 c80_4 (rw_aload_n (pc' := 5) (v := .ref r0) rfl rfl rfl ?_)
  refine wp_of e80 c80_5 (xg_I (pc' := 8) lf_3_51 hW g0 sh_6 (by decide) (by decide) ty_6_5 rfl rfl (fun b19947 b19948 => ?_))
  refine wp_of e80 c80_8 (xa_I (so := 0) (pc' := 9) hW g19946 sh_11 (by decide) (ty_11 _) (by omega) (by omega) rfl (fun b19949 b19950 => ?_))
  have b19949 := Int.le_trans (wq0_b _) b19949
  have b19950 := Int.le_trans b19950 (wq1_b _)
  refine wp_of e80 c80_9 (rw_if_eq (p1 := 16) (p2 := 12) (by decide) rfl ⟨by omega, by omega⟩ (fun c19951 => ?_) (fun c19951 => ?_))
  · refine wp_of e80 c80_16 (rw_iconst (pc' := 17) rfl ?_)
    exact wp_zreturn e80 c80_17 rfl (by omega) ⟨rfl, rfl, 0, rfl, ⟨by omega, by omega⟩⟩
  · refine wp_of e80 c80_12 (rw_iconst (pc' := 13) rfl ?_)
    refine wp_of e80 c80_13 (rw_goto (p1 := 17) (by decide) ?_)
    exact wp_zreturn e80 c80_17 rfl (by omega) ⟨rfl, rfl, 1, rfl, ⟨by omega, by omega⟩⟩
/-! StrikeAwake$Walk.failsIn(LStrikeAwake$Parish;)I -/
theorem e81 : wq_en 81 = some (3, 6, false, some FieldType.int) := rfl
theorem cg81_0 : mc_cd 81 0 = some (.iconst 0, 1) ∧ mc_cd 81 1 = some (.istore_n 2, 1) ∧ mc_cd 81 2 = some (.iconst 0, 1) ∧ mc_cd 81 3 = some (.istore_n 3, 1) ∧ mc_cd 81 4 = some (.iload_n 3, 1) ∧ mc_cd 81 5 = some (.aload_n 1, 1) ∧ mc_cd 81 6 = some (.getfield 109, 3) ∧ mc_cd 81 9 = some (.if_icmp .ge 57, 3) := by decide +kernel
theorem c81_0 : mc_cd 81 0 = some (.iconst 0, 1) := cg81_0.1
theorem c81_1 : mc_cd 81 1 = some (.istore_n 2, 1) := cg81_0.2.1
theorem c81_2 : mc_cd 81 2 = some (.iconst 0, 1) := cg81_0.2.2.1
theorem c81_3 : mc_cd 81 3 = some (.istore_n 3, 1) := cg81_0.2.2.2.1
theorem c81_4 : mc_cd 81 4 = some (.iload_n 3, 1) := cg81_0.2.2.2.2.1
theorem c81_5 : mc_cd 81 5 = some (.aload_n 1, 1) := cg81_0.2.2.2.2.2.1
theorem c81_6 : mc_cd 81 6 = some (.getfield 109, 3) := cg81_0.2.2.2.2.2.2.1
theorem c81_9 : mc_cd 81 9 = some (.if_icmp .ge 57, 3) := cg81_0.2.2.2.2.2.2.2
theorem cg81_12 : mc_cd 81 12 = some (.aload_n 1, 1) ∧ mc_cd 81 13 = some (.getfield 112, 3) ∧ mc_cd 81 16 = some (.iload_n 3, 1) ∧ mc_cd 81 17 = some (.iaload, 1) ∧ mc_cd 81 18 = some (.istore 4, 2) ∧ mc_cd 81 20 = some (.aload_n 1, 1) ∧ mc_cd 81 21 = some (.iload 4, 2) ∧ mc_cd 81 23 = some (.aload_n 0, 1) := by decide +kernel
theorem c81_12 : mc_cd 81 12 = some (.aload_n 1, 1) := cg81_12.1
theorem c81_13 : mc_cd 81 13 = some (.getfield 112, 3) := cg81_12.2.1
theorem c81_16 : mc_cd 81 16 = some (.iload_n 3, 1) := cg81_12.2.2.1
theorem c81_17 : mc_cd 81 17 = some (.iaload, 1) := cg81_12.2.2.2.1
theorem c81_18 : mc_cd 81 18 = some (.istore 4, 2) := cg81_12.2.2.2.2.1
theorem c81_20 : mc_cd 81 20 = some (.aload_n 1, 1) := cg81_12.2.2.2.2.2.1
theorem c81_21 : mc_cd 81 21 = some (.iload 4, 2) := cg81_12.2.2.2.2.2.2.1
theorem c81_23 : mc_cd 81 23 = some (.aload_n 0, 1) := cg81_12.2.2.2.2.2.2.2
theorem cg81_24 : mc_cd 81 24 = some (.iload 4, 2) ∧ mc_cd 81 26 = some (.invokevirtual 92, 3) ∧ mc_cd 81 29 = some (.invokevirtual 96, 3) ∧ mc_cd 81 32 = some (.istore 5, 2) ∧ mc_cd 81 34 = some (.iload 5, 2) ∧ mc_cd 81 36 = some (.iconst 1, 1) ∧ mc_cd 81 37 = some (.if_icmp .ne 6, 3) ∧ mc_cd 81 40 = some (.iinc 2 1, 3) := by decide +kernel
theorem c81_24 : mc_cd 81 24 = some (.iload 4, 2) := cg81_24.1
theorem c81_26 : mc_cd 81 26 = some (.invokevirtual 92, 3) := cg81_24.2.1
theorem c81_29 : mc_cd 81 29 = some (.invokevirtual 96, 3) := cg81_24.2.2.1
theorem c81_32 : mc_cd 81 32 = some (.istore 5, 2) := cg81_24.2.2.2.1
theorem c81_34 : mc_cd 81 34 = some (.iload 5, 2) := cg81_24.2.2.2.2.1
theorem c81_36 : mc_cd 81 36 = some (.iconst 1, 1) := cg81_24.2.2.2.2.2.1
theorem c81_37 : mc_cd 81 37 = some (.if_icmp .ne 6, 3) := cg81_24.2.2.2.2.2.2.1
theorem c81_40 : mc_cd 81 40 = some (.iinc 2 1, 3) := cg81_24.2.2.2.2.2.2.2
theorem cg81_43 : mc_cd 81 43 = some (.iload 5, 2) ∧ mc_cd 81 45 = some (.iconst 2, 1) ∧ mc_cd 81 46 = some (.if_icmp .eq 11, 3) ∧ mc_cd 81 49 = some (.iload_n 2, 1) ∧ mc_cd 81 50 = some (.aload_n 1, 1) ∧ mc_cd 81 51 = some (.getfield 115, 3) ∧ mc_cd 81 54 = some (.if_icmp .le 6, 3) ∧ mc_cd 81 57 = some (.iload 4, 2) := by decide +kernel
theorem c81_43 : mc_cd 81 43 = some (.iload 5, 2) := cg81_43.1
theorem c81_45 : mc_cd 81 45 = some (.iconst 2, 1) := cg81_43.2.1
theorem c81_46 : mc_cd 81 46 = some (.if_icmp .eq 11, 3) := cg81_43.2.2.1
theorem c81_49 : mc_cd 81 49 = some (.iload_n 2, 1) := cg81_43.2.2.2.1
theorem c81_50 : mc_cd 81 50 = some (.aload_n 1, 1) := cg81_43.2.2.2.2.1
theorem c81_51 : mc_cd 81 51 = some (.getfield 115, 3) := cg81_43.2.2.2.2.2.1
theorem c81_54 : mc_cd 81 54 = some (.if_icmp .le 6, 3) := cg81_43.2.2.2.2.2.2.1
theorem c81_57 : mc_cd 81 57 = some (.iload 4, 2) := cg81_43.2.2.2.2.2.2.2
theorem cg81_59 : mc_cd 81 59 = some (.ireturn, 1) ∧ mc_cd 81 60 = some (.iinc 3 1, 3) ∧ mc_cd 81 63 = some (.goto (-59), 3) ∧ mc_cd 81 66 = some (.bipush 24, 2) ∧ mc_cd 81 68 = some (.ireturn, 1) := by decide +kernel
theorem c81_59 : mc_cd 81 59 = some (.ireturn, 1) := cg81_59.1
theorem c81_60 : mc_cd 81 60 = some (.iinc 3 1, 3) := cg81_59.2.1
theorem c81_63 : mc_cd 81 63 = some (.goto (-59), 3) := cg81_59.2.2.1
theorem c81_66 : mc_cd 81 66 = some (.bipush 24, 2) := cg81_59.2.2.2.1
theorem c81_68 : mc_cd 81 68 = some (.ireturn, 1) := cg81_59.2.2.2.2
abbrev q_81 (r0 : Nat) (r1 : Nat) (T : wq_T) (H : wq_H) : Option Value → wq_T → wq_H → Prop := fun r T' H' => T = T' ∧ H = H' ∧ ∃ z : Int, some (vI z) = r ∧ (0 ≤ z ∧ z ≤ 24)
set_option maxHeartbeats 4000000 in
theorem s_81 {kt : Nat → Option mc_E} {T : wq_T} {H : wq_H} {r0 : Nat} {r1 : Nat} (hW : WT T H) (g0 : T.2.2.2 r0 = some 6) (g1 : T.2.2.2 r1 = some 27) : wpc kt 2 81 [.ref r0, .ref r1] T H (q_81 r0 r1 T H) := by
  refine wp_enter e81 (Nat.le_of_ble_eq_true rfl) rfl ?_
  show wp _ _ 81 0 [(0, .ref r0), (1, .ref r1)] [] _ H _
  refine wp_of e81 c81_0 (rw_iconst (pc' := 1) rfl ?_)
  refine wp_of e81 c81_1 (rw_istore_n (pc' := 2) (z := 0) (L' := [(2, vI 0), (0, .ref r0), (1, .ref r1)]) rfl rfl rfl ?_)
  refine wp_of e81 c81_2 (rw_iconst (pc' := 3) rfl ?_)
  refine wp_of e81 c81_3 (rw_istore_n (pc' := 4) (z := 0) (L' := [(3, vI 0), (2, vI 0), (0, .ref r0), (1, .ref r1)]) rfl rfl rfl ?_)
  have lp20548 : ∀ (n20549 : Nat) (v20551 : Int) (v20552 : Int), (0 ≤ v20551 ∧ v20551 ≤ 24) → (0 ≤ v20552 ∧ v20552 ≤ 24) → (v20552 ≤ v20551) → (24 - v20551).toNat = n20549 → wp kt 1 81 4 [(3, vI v20551), (2, vI v20552), (0, .ref r0), (1, .ref r1)] [] T H (q_81 r0 r1 T H) := by
    intro n20549
    induction n20549 using Nat.strongRecOn with
    | _ n20549 ih20550 =>
      intro v20551 v20552 b20555 b20556 x20557 m20558
      refine wp_of e81 c81_4 (rw_iload_n (pc' := 5) (z := v20551) rfl rfl ?_)
      refine wp_of e81 c81_5 (rw_aload_n (pc' := 6) (v := .ref r1) rfl rfl rfl ?_)
      refine wp_of e81 c81_6 (xg_I (pc' := 9) lf_3_109 hW g1 sh_27 (by decide) (by decide) ty_27_16 rfl rfl (fun b20559 b20560 => ?_))
      refine wp_of e81 c81_9 (rw_icmp_ge (p1 := 66) (p2 := 12) (by decide) rfl ⟨by omega, by omega⟩ ⟨by omega, by omega⟩ (fun c20561 => ?_) (fun c20561 => ?_))
      · refine wp_of e81 c81_66 (rw_bipush (pc' := 68) (z := 24) rfl (by decide) ?_)
        exact wp_ireturn e81 c81_68 rfl ⟨rfl, rfl, 24, rfl, ⟨by omega, by omega⟩⟩
      · refine wp_of e81 c81_12 (rw_aload_n (pc' := 13) (v := .ref r1) rfl rfl rfl ?_)
        refine wp_of e81 c81_13 (xg_R (pc' := 16) lf_3_112 hW g1 sh_27 (by decide) (by decide) ty_27_2 rfl rfl (fun r20562 q20563 g20564 => ?_))
        refine wp_of e81 c81_16 (rw_iload_n (pc' := 17) (z := v20551) rfl rfl ?_)
        refine wp_of e81 c81_17 (xa_I (so := 0) (pc' := 18) hW g20564 sh_30 (by decide) (ty_30 _) (by omega) (by omega) rfl (fun b20565 b20566 => ?_))
        refine wp_of e81 c81_18 (rw_istore (pc' := 20) (z := H r20562 (v20551.toNat)) (L' := [(4, vI (H r20562 (v20551.toNat))), (3, vI v20551), (2, vI v20552), (0, .ref r0), (1, .ref r1)]) rfl rfl rfl ?_)
        refine wp_of e81 c81_20 (rw_aload_n (pc' := 21) (v := .ref r1) rfl rfl rfl ?_)
        refine wp_of e81 c81_21 (rw_iload (pc' := 23) (z := H r20562 (v20551.toNat)) rfl rfl ?_)
        refine wp_of e81 c81_23 (rw_aload_n (pc' := 24) (v := .ref r0) rfl rfl rfl ?_)
        refine wp_of e81 c81_24 (rw_iload (pc' := 26) (z := H r20562 (v20551.toNat)) rfl rfl ?_)
        refine wp_of e81 c81_26 (xc_V (pc' := 29) (r := r0) (as := [vI (H r20562 (v20551.toNat))]) (st := [vI (H r20562 (v20551.toNat)), .ref r1]) (lm_3_92) rfl rfl (Nat.le_of_ble_eq_true rfl) hW g0 sh_6 (by decide) rfl (by decide) (s_72 hW g0 ⟨by omega, by omega⟩) (fun R20567 T20568 H20569 p20570 => ?_))
        obtain ⟨e20571, e20573, z20574, e20572, b20575⟩ := p20570
        subst e20571
        subst e20572
        subst e20573
        show wp _ _ 81 29 [(4, vI (H r20562 (v20551.toNat))), (3, vI v20551), (2, vI v20552), (0, .ref r0), (1, .ref r1)] [vI z20574, vI (H r20562 (v20551.toNat)), .ref r1] _ H _
        refine wp_of e81 c81_29 (xc_V (pc' := 32) (r := r1) (as := [vI (H r20562 (v20551.toNat)), vI z20574]) (st := []) (lm_3_96) rfl rfl (Nat.le_of_ble_eq_true rfl) hW g1 sh_27 (by decide) rfl (by decide) (s_76 hW g1 ⟨by omega, by omega⟩ ⟨by omega, by omega⟩) (fun R20576 T20577 H20578 p20579 => ?_))
        obtain ⟨e20580, e20582, z20583, e20581, b20584⟩ := p20579
        subst e20580
        subst e20581
        subst e20582
        show wp _ _ 81 32 [(4, vI (H r20562 (v20551.toNat))), (3, vI v20551), (2, vI v20552), (0, .ref r0), (1, .ref r1)] [vI z20583] _ H _
        refine wp_of e81 c81_32 (rw_istore (pc' := 34) (z := z20583) (L' := [(5, vI z20583), (4, vI (H r20562 (v20551.toNat))), (3, vI v20551), (2, vI v20552), (0, .ref r0), (1, .ref r1)]) rfl rfl rfl ?_)
        refine wp_of e81 c81_34 (rw_iload (pc' := 36) (z := z20583) rfl rfl ?_)
        refine wp_of e81 c81_36 (rw_iconst (pc' := 37) rfl ?_)
        refine wp_of e81 c81_37 (rw_icmp_ne (p1 := 43) (p2 := 40) (by decide) rfl ⟨by omega, by omega⟩ ⟨by omega, by omega⟩ (fun c20585 => ?_) (fun c20585 => ?_))
        · refine wp_of e81 c81_43 (rw_iload (pc' := 45) (z := z20583) rfl rfl ?_)
          refine wp_of e81 c81_45 (rw_iconst (pc' := 46) rfl ?_)
          refine wp_of e81 c81_46 (rw_icmp_eq (p1 := 57) (p2 := 49) (by decide) rfl ⟨by omega, by omega⟩ ⟨by omega, by omega⟩ (fun c20586 => ?_) (fun c20586 => ?_))
          · refine wp_of e81 c81_57 (rw_iload (pc' := 59) (z := H r20562 (v20551.toNat)) rfl rfl ?_)
            exact wp_ireturn e81 c81_59 rfl ⟨rfl, rfl, H r20562 (v20551.toNat), rfl, ⟨by omega, by omega⟩⟩
          · refine wp_of e81 c81_49 (rw_iload_n (pc' := 50) (z := v20552) rfl rfl ?_)
            refine wp_of e81 c81_50 (rw_aload_n (pc' := 51) (v := .ref r1) rfl rfl rfl ?_)
            refine wp_of e81 c81_51 (xg_I (pc' := 54) lf_3_115 hW g1 sh_27 (by decide) (by decide) ty_27_9 rfl rfl (fun b20587 b20588 => ?_))
            refine wp_of e81 c81_54 (rw_icmp_le (p1 := 60) (p2 := 57) (by decide) rfl ⟨by omega, by omega⟩ ⟨by omega, by omega⟩ (fun c20589 => ?_) (fun c20589 => ?_))
            · refine wp_of e81 c81_60 (rw_iinc (pc' := 63) (z := v20551) (L' := [(3, vI (v20551 + 1)), (5, vI z20583), (4, vI (H r20562 (v20551.toNat))), (2, vI v20552), (0, .ref r0), (1, .ref r1)]) rfl rfl rfl rfl ?_)
              refine wp_of e81 c81_63 (rw_goto (p1 := 4) (by decide) ?_)
              exact wp_lc (ks := [3, 5, 4, 2, 0, 1]) (wl_c rfl (wl_c rfl (wl_c rfl (wl_c rfl wl_n)))) rfl (by decide) (ih20550 _ (by omega) (v20551 + 1) v20552 ⟨by omega, by omega⟩ ⟨by omega, by omega⟩ (by omega) rfl)
            · refine wp_of e81 c81_57 (rw_iload (pc' := 59) (z := H r20562 (v20551.toNat)) rfl rfl ?_)
              exact wp_ireturn e81 c81_59 rfl ⟨rfl, rfl, H r20562 (v20551.toNat), rfl, ⟨by omega, by omega⟩⟩
        · refine wp_of e81 c81_40 (rw_iinc (pc' := 43) (z := v20552) (L' := [(2, vI (v20552 + 1)), (5, vI z20583), (4, vI (H r20562 (v20551.toNat))), (3, vI v20551), (0, .ref r0), (1, .ref r1)]) rfl rfl rfl rfl ?_)
          refine wp_of e81 c81_43 (rw_iload (pc' := 45) (z := z20583) rfl rfl ?_)
          refine wp_of e81 c81_45 (rw_iconst (pc' := 46) rfl ?_)
          refine wp_of e81 c81_46 (rw_icmp_eq (p1 := 57) (p2 := 49) (by decide) rfl ⟨by omega, by omega⟩ ⟨by omega, by omega⟩ (fun c20590 => ?_) (fun c20590 => ?_))
          · exfalso
            omega
          · refine wp_of e81 c81_49 (rw_iload_n (pc' := 50) (z := v20552 + 1) rfl rfl ?_)
            refine wp_of e81 c81_50 (rw_aload_n (pc' := 51) (v := .ref r1) rfl rfl rfl ?_)
            refine wp_of e81 c81_51 (xg_I (pc' := 54) lf_3_115 hW g1 sh_27 (by decide) (by decide) ty_27_9 rfl rfl (fun b20591 b20592 => ?_))
            refine wp_of e81 c81_54 (rw_icmp_le (p1 := 60) (p2 := 57) (by decide) rfl ⟨by omega, by omega⟩ ⟨by omega, by omega⟩ (fun c20593 => ?_) (fun c20593 => ?_))
            · refine wp_of e81 c81_60 (rw_iinc (pc' := 63) (z := v20551) (L' := [(3, vI (v20551 + 1)), (2, vI (v20552 + 1)), (5, vI z20583), (4, vI (H r20562 (v20551.toNat))), (0, .ref r0), (1, .ref r1)]) rfl rfl rfl rfl ?_)
              refine wp_of e81 c81_63 (rw_goto (p1 := 4) (by decide) ?_)
              exact wp_lc (ks := [3, 2, 5, 4, 0, 1]) (wl_c rfl (wl_c rfl (wl_c rfl (wl_c rfl wl_n)))) rfl (by decide) (ih20550 _ (by omega) (v20551 + 1) (v20552 + 1) ⟨by omega, by omega⟩ ⟨by omega, by omega⟩ (by omega) rfl)
            · refine wp_of e81 c81_57 (rw_iload (pc' := 59) (z := H r20562 (v20551.toNat)) rfl rfl ?_)
              exact wp_ireturn e81 c81_59 rfl ⟨rfl, rfl, H r20562 (v20551.toNat), rfl, ⟨by omega, by omega⟩⟩
  exact wp_lc (ks := [3, 2, 0, 1]) (wl_c rfl (wl_c rfl (wl_c rfl (wl_c rfl wl_n)))) rfl (by decide) (lp20548 _ 0 0 ⟨by omega, by omega⟩ ⟨by omega, by omega⟩ (by omega) rfl)
