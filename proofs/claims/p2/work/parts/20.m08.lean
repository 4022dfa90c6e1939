/-! methods (own work, written by wip/gen2/sx.py) -/
/-! StrikeAwake$Asking.fewestForHour(LStrikeAwake$Parish;LStrikeAwake$Census;I)I -/
theorem e131 : wq_en 131 = some (5, 5, false, some FieldType.int) := rfl
theorem c131_0 : mc_cd 131 0 = some (.aload_n 0, 1) := by decide +kernel
theorem c131_1 : mc_cd 131 1 = some (.aload_n 1, 1) := by decide +kernel
theorem c131_2 : mc_cd 131 2 = some (.aload_n 2, 1) := by decide +kernel
theorem c131_3 : mc_cd 131 3 = some (.invokevirtual 24, 3) := by decide +kernel
theorem c131_6 : mc_cd 131 6 = some (.iconst 0, 1) := by decide +kernel
theorem c131_7 : mc_cd 131 7 = some (.istore 4, 2) := by decide +kernel
theorem c131_9 : mc_cd 131 9 = some (.iload 4, 2) := by decide +kernel
theorem c131_11 : mc_cd 131 11 = some (.aload_n 0, 1) := by decide +kernel
theorem c131_12 : mc_cd 131 12 = some (.getfield 28, 3) := by decide +kernel
theorem c131_15 : mc_cd 131 15 = some (.if_icmp .ge 28, 3) := by decide +kernel
theorem c131_18 : mc_cd 131 18 = some (.aload_n 0, 1) := by decide +kernel
theorem c131_19 : mc_cd 131 19 = some (.getfield 15, 3) := by decide +kernel
theorem c131_22 : mc_cd 131 22 = some (.iload 4, 2) := by decide +kernel
theorem c131_24 : mc_cd 131 24 = some (.aload_n 1, 1) := by decide +kernel
theorem c131_25 : mc_cd 131 25 = some (.aload_n 0, 1) := by decide +kernel
theorem c131_26 : mc_cd 131 26 = some (.getfield 9, 3) := by decide +kernel
theorem c131_29 : mc_cd 131 29 = some (.iload 4, 2) := by decide +kernel
theorem c131_31 : mc_cd 131 31 = some (.iaload, 1) := by decide +kernel
theorem c131_32 : mc_cd 131 32 = some (.iload_n 3, 1) := by decide +kernel
theorem c131_33 : mc_cd 131 33 = some (.invokestatic 36, 3) := by decide +kernel
theorem c131_36 : mc_cd 131 36 = some (.iastore, 1) := by decide +kernel
theorem c131_37 : mc_cd 131 37 = some (.iinc 4 1, 3) := by decide +kernel
theorem c131_40 : mc_cd 131 40 = some (.goto (-31), 3) := by decide +kernel
theorem c131_43 : mc_cd 131 43 = some (.aload_n 0, 1) := by decide +kernel
theorem c131_44 : mc_cd 131 44 = some (.aload_n 1, 1) := by decide +kernel
theorem c131_45 : mc_cd 131 45 = some (.invokevirtual 32, 3) := by decide +kernel
theorem c131_48 : mc_cd 131 48 = some (.ireturn, 1) := by decide +kernel
abbrev q_131 (r0 : Nat) (r1 : Nat) (r2 : Nat) (a3 : Int) (T : wq_T) (H : wq_H) : Option Value → wq_T → wq_H → Prop := fun r T' H' => T = T' ∧ WT T H' ∧ wfr [(20, 4), (22, 999), (23, 999), (21, 999), (24, 999)] T H H' ∧ ∃ z : Int, some (vI z) = r ∧ ((-2147483648) ≤ z ∧ z ≤ 2147483647)
set_option maxHeartbeats 4000000 in
theorem s_131 {kt : Nat → Option mc_E} {T : wq_T} {H : wq_H} {r0 : Nat} {r1 : Nat} {r2 : Nat} {a3 : Int} (hW : WT T H) (g0 : T.2.2.2 r0 = some 20) (g1 : T.2.2.2 r1 = some 27) (g2 : T.2.2.2 r2 = some 12) (i3 : (-2147483648) ≤ a3 ∧ a3 ≤ 2147483647) : wpc kt 5 131 [.ref r0, .ref r1, .ref r2, vI a3] T H (q_131 r0 r1 r2 a3 T H) := by
  refine wp_enter e131 (Nat.le_of_ble_eq_true rfl) rfl ?_
  have f0 : wfr [(20, 4), (22, 999), (23, 999), (21, 999), (24, 999)] T H H := wfr.rf
  show wp _ _ 131 0 [(0, .ref r0), (1, .ref r1), (2, .ref r2), (3, vI a3)] [] _ H _
  refine wp_of e131 c131_0 (rw_aload_n (pc' := 1) (v := .ref r0) rfl rfl rfl ?_)
  refine wp_of e131 c131_1 (rw_aload_n (pc' := 2) (v := .ref r1) rfl rfl rfl ?_)
  refine wp_of e131 c131_2 (rw_aload_n (pc' := 3) (v := .ref r2) rfl rfl rfl ?_)
  refine wp_of e131 c131_3 (xc_V (pc' := 6) (r := r0) (as := [.ref r1, .ref r2]) (st := []) (lm_5_24) rfl rfl (Nat.le_of_ble_eq_true rfl) hW g0 sh_20 (by decide) rfl (by decide) (s_123 hW g0 g1 g2) (fun R43411 T43412 H43413 p43414 => ?_))
  obtain ⟨e43415, w43417, f43418, e43416⟩ := p43414
  subst e43415
  subst e43416
  have f43419 := f0.tr f43418 rfl
  show wp _ _ 131 6 [(0, .ref r0), (1, .ref r1), (2, .ref r2), (3, vI a3)] [] _ H43413 _
  refine wp_of e131 c131_6 (rw_iconst (pc' := 7) rfl ?_)
  refine wp_of e131 c131_7 (rw_istore (pc' := 9) (z := 0) (L' := [(4, vI 0), (0, .ref r0), (1, .ref r1), (2, .ref r2), (3, vI a3)]) rfl rfl rfl ?_)
  have lp43612 : ∀ (n43613 : Nat) (v43615 : Int) (H43616 : wq_H), WT T H43616 → wfr [(22, 999)] T H43413 H43616 → (0 ≤ v43615 ∧ v43615 ≤ 400) → (400 - v43615).toNat = n43613 → wp kt 4 131 9 [(4, vI v43615), (0, .ref r0), (1, .ref r1), (3, vI a3)] [] T H43616 (q_131 r0 r1 r2 a3 T H) := by
    intro n43613
    induction n43613 using Nat.strongRecOn with
    | _ n43613 ih43614 =>
      intro v43615 H43616 w43617 f43618 b43619 m43620
      have f43621 := f43419.tr f43618 rfl
      refine wp_of e131 c131_9 (rw_iload (pc' := 11) (z := v43615) rfl rfl ?_)
      refine wp_of e131 c131_11 (rw_aload_n (pc' := 12) (v := .ref r0) rfl rfl rfl ?_)
      refine wp_of e131 c131_12 (xg_I (pc' := 15) lf_5_28 w43617 g0 sh_20 (by decide) (by decide) ty_20_4 rfl rfl (fun b43622 b43623 => ?_))
      refine wp_of e131 c131_15 (rw_icmp_ge (p1 := 43) (p2 := 18) (by decide) rfl ⟨by omega, by omega⟩ ⟨by omega, by omega⟩ (fun c43624 => ?_) (fun c43624 => ?_))
      · refine wp_of e131 c131_43 (rw_aload_n (pc' := 44) (v := .ref r0) rfl rfl rfl ?_)
        refine wp_of e131 c131_44 (rw_aload_n (pc' := 45) (v := .ref r1) rfl rfl rfl ?_)
        refine wp_of e131 c131_45 (xc_V (pc' := 48) (r := r0) (as := [.ref r1]) (st := []) (lm_5_32) rfl rfl (Nat.le_of_ble_eq_true rfl) w43617 g0 sh_20 (by decide) rfl (by decide) (s_125 w43617 g0 g1) (fun R43625 T43626 H43627 p43628 => ?_))
        obtain ⟨e43629, w43631, f43632, z43633, e43630, b43634⟩ := p43628
        subst e43629
        subst e43630
        have f43635 := f43621.tr f43632 rfl
        have f43636 := f43618.tr f43632 rfl
        show wp _ _ 131 48 [(4, vI v43615), (0, .ref r0), (1, .ref r1), (3, vI a3)] [vI z43633] _ H43627 _
        exact wp_ireturn e131 c131_48 rfl ⟨rfl, w43631, f43635, z43633, rfl, ⟨by omega, by omega⟩⟩
      · refine wp_of e131 c131_18 (rw_aload_n (pc' := 19) (v := .ref r0) rfl rfl rfl ?_)
        refine wp_of e131 c131_19 (xg_R (pc' := 22) lf_5_15 w43617 g0 sh_20 (by decide) (by decide) ty_20_1 rfl rfl (fun r43637 q43638 g43639 => ?_))
        refine wp_of e131 c131_22 (rw_iload (pc' := 24) (z := v43615) rfl rfl ?_)
        refine wp_of e131 c131_24 (rw_aload_n (pc' := 25) (v := .ref r1) rfl rfl rfl ?_)
        refine wp_of e131 c131_25 (rw_aload_n (pc' := 26) (v := .ref r0) rfl rfl rfl ?_)
        refine wp_of e131 c131_26 (xg_R (pc' := 29) lf_5_9 w43617 g0 sh_20 (by decide) (by decide) ty_20_0 rfl rfl (fun r43640 q43641 g43642 => ?_))
        refine wp_of e131 c131_29 (rw_iload (pc' := 31) (z := v43615) rfl rfl ?_)
        refine wp_of e131 c131_31 (xa_I (so := 0) (pc' := 32) w43617 g43642 sh_21 (by decide) (ty_21 _) (by omega) (by omega) rfl (fun b43643 b43644 => ?_))
        refine wp_of e131 c131_32 (rw_iload_n (pc' := 33) (z := a3) rfl rfl ?_)
        refine wp_of e131 c131_33 (xc_S (pc' := 36) (as := [.ref r1, vI (H43616 r43640 v43615.toNat), vI a3]) (st := [vI v43615, .ref r43637]) (lm_5_36) rfl rfl (Nat.le_of_ble_eq_true rfl) rfl (by decide) (s_116 w43617 g1 ⟨by omega, by omega⟩ ⟨by omega, by omega⟩) (fun R43645 T43646 H43647 p43648 => ?_))
        obtain ⟨e43649, e43651, z43652, e43650, b43653⟩ := p43648
        subst e43649
        subst e43650
        subst e43651
        show wp _ _ 131 36 [(4, vI v43615), (0, .ref r0), (1, .ref r1), (3, vI a3)] [vI z43652, vI v43615, .ref r43637] _ H43616 _
        refine wp_of e131 c131_36 (xs_I (pc' := 37) w43617 g43639 (by decide) sh_22 (by decide) (ty_22 _) (by omega) (by omega) ⟨by omega, by omega⟩ (by omega) (by omega) rfl (fun H43654 e43655 w43656 => ?_))
        have f43657 := f43621.put' e43655 g43639 rfl
        have f43658 := f43618.put' e43655 g43639 rfl
        refine wp_of e131 c131_37 (rw_iinc (pc' := 40) (z := v43615) (L' := [(4, vI (v43615 + 1)), (0, .ref r0), (1, .ref r1), (3, vI a3)]) rfl rfl rfl rfl ?_)
        refine wp_of e131 c131_40 (rw_goto (p1 := 9) (by decide) ?_)
        exact wp_lc (ks := [4, 0, 1, 3]) (wl_c rfl (wl_c rfl (wl_c rfl (wl_c rfl wl_n)))) rfl (by decide) (ih43614 _ (by omega) (v43615 + 1) H43654 w43656 f43658 ⟨by omega, by omega⟩ rfl)
  exact wp_lc (ks := [4, 0, 1, 2, 3]) (wl_c rfl (wl_c rfl (wl_c rfl (wl_c rfl wl_n)))) rfl (by decide) (lp43612 _ 0 H43413 w43417 wfr.rf ⟨by omega, by omega⟩ rfl)
/-! StrikeAwake.askFor(I)I -/
theorem e130 : wq_en 130 = some (0, 3, false, some FieldType.int) := rfl
theorem c130_0 : mc_cd 130 0 = some (.aload_n 0, 1) := by decide +kernel
theorem c130_1 : mc_cd 130 1 = some (.aload_n 0, 1) := by decide +kernel
theorem c130_2 : mc_cd 130 2 = some (.iload_n 1, 1) := by decide +kernel
theorem c130_3 : mc_cd 130 3 = some (.invokevirtual 132, 3) := by decide +kernel
theorem c130_6 : mc_cd 130 6 = some (.invokevirtual 227, 3) := by decide +kernel
theorem c130_9 : mc_cd 130 9 = some (.istore_n 2, 1) := by decide +kernel
theorem c130_10 : mc_cd 130 10 = some (.iload_n 2, 1) := by decide +kernel
theorem c130_11 : mc_cd 130 11 = some (.ifCond .eq 9, 3) := by decide +kernel
theorem c130_14 : mc_cd 130 14 = some (.aload_n 0, 1) := by decide +kernel
theorem c130_15 : mc_cd 130 15 = some (.iload_n 2, 1) := by decide +kernel
theorem c130_16 : mc_cd 130 16 = some (.invokevirtual 70, 3) := by decide +kernel
theorem c130_19 : mc_cd 130 19 = some (.ireturn, 1) := by decide +kernel
theorem c130_20 : mc_cd 130 20 = some (.aload_n 0, 1) := by decide +kernel
theorem c130_21 : mc_cd 130 21 = some (.aload_n 0, 1) := by decide +kernel
theorem c130_22 : mc_cd 130 22 = some (.getfield 37, 3) := by decide +kernel
theorem c130_25 : mc_cd 130 25 = some (.aload_n 0, 1) := by decide +kernel
theorem c130_26 : mc_cd 130 26 = some (.getfield 51, 3) := by decide +kernel
theorem c130_29 : mc_cd 130 29 = some (.aload_n 0, 1) := by decide +kernel
theorem c130_30 : mc_cd 130 30 = some (.getfield 30, 3) := by decide +kernel
theorem c130_33 : mc_cd 130 33 = some (.iload_n 1, 1) := by decide +kernel
theorem c130_34 : mc_cd 130 34 = some (.invokevirtual 234, 3) := by decide +kernel
theorem c130_37 : mc_cd 130 37 = some (.invokevirtual 99, 3) := by decide +kernel
theorem c130_40 : mc_cd 130 40 = some (.ireturn, 1) := by decide +kernel
abbrev q_130 (r0 : Nat) (a1 : Int) (T : wq_T) (H : wq_H) : Option Value → wq_T → wq_H → Prop := fun r T' H' => T = T' ∧ WT T H' ∧ wfr [(20, 4), (12, 5), (12, 6), (12, 7), (12, 8), (12, 9), (1, 10), (6, 5), (8, 999), (10, 999), (15, 999), (22, 999), (9, 999), (18, 999), (23, 999), (19, 999), (21, 999), (7, 999), (11, 999), (24, 999), (17, 999), (13, 999)] T H H' ∧ ∃ z : Int, some (vI z) = r ∧ ((-2147483648) ≤ z ∧ z ≤ 2147483647)
set_option maxHeartbeats 4000000 in
theorem s_130 {kt : Nat → Option mc_E} {T : wq_T} {H : wq_H} {r0 : Nat} {a1 : Int} (hW : WT T H) (g0 : T.2.2.2 r0 = some 1) (i1 : (-2147483648) ≤ a1 ∧ a1 ≤ 2147483647) : wpc kt 7 130 [.ref r0, vI a1] T H (q_130 r0 a1 T H) := by
  refine wp_enter e130 (Nat.le_of_ble_eq_true rfl) rfl ?_
  have f0 : wfr [(20, 4), (12, 5), (12, 6), (12, 7), (12, 8), (12, 9), (1, 10), (6, 5), (8, 999), (10, 999), (15, 999), (22, 999), (9, 999), (18, 999), (23, 999), (19, 999), (21, 999), (7, 999), (11, 999), (24, 999), (17, 999), (13, 999)] T H H := wfr.rf
  show wp _ _ 130 0 [(0, .ref r0), (1, vI a1)] [] _ H _
  refine wp_of e130 c130_0 (rw_aload_n (pc' := 1) (v := .ref r0) rfl rfl rfl ?_)
  refine wp_of e130 c130_1 (rw_aload_n (pc' := 2) (v := .ref r0) rfl rfl rfl ?_)
  refine wp_of e130 c130_2 (rw_iload_n (pc' := 3) (z := a1) rfl rfl ?_)
  refine wp_of e130 c130_3 (xc_V (pc' := 6) (r := r0) (as := [vI a1]) (st := [.ref r0]) (lm_0_132) rfl rfl (Nat.le_of_ble_eq_true rfl) hW g0 sh_1 (by decide) rfl (by decide) (s_60 hW g0 ⟨by omega, by omega⟩) (fun R43724 T43725 H43726 p43727 => ?_))
  obtain ⟨e43728, e43730, z43732, e43729, b43733, p43731⟩ := p43727
  subst e43728
  subst e43729
  subst e43730
  show wp _ _ 130 6 [(0, .ref r0), (1, vI a1)] [vI z43732, .ref r0] _ H _
  refine wp_of e130 c130_6 (xc_V (pc' := 9) (r := r0) (as := [vI z43732]) (st := []) (lm_0_227) rfl rfl (Nat.le_of_ble_eq_true rfl) hW g0 sh_1 (by decide) rfl (by decide) (s_121 hW g0 ⟨by omega, by omega⟩) (fun R43734 T43735 H43736 p43737 => ?_))
  obtain ⟨e43738, w43740, f43741, z43743, e43739, b43744, p43742⟩ := p43737
  subst e43738
  subst e43739
  have f43745 := f0.tr f43741 rfl
  show wp _ _ 130 9 [(0, .ref r0), (1, vI a1)] [vI z43743] _ H43736 _
  refine wp_of e130 c130_9 (rw_istore_n (pc' := 10) (z := z43743) (L' := [(2, vI z43743), (0, .ref r0), (1, vI a1)]) rfl rfl rfl ?_)
  refine wp_of e130 c130_10 (rw_iload_n (pc' := 11) (z := z43743) rfl rfl ?_)
  refine wp_of e130 c130_11 (rw_if_eq (p1 := 20) (p2 := 14) (by decide) rfl ⟨by omega, by omega⟩ (fun c43746 => ?_) (fun c43746 => ?_))
  · refine wp_of e130 c130_20 (rw_aload_n (pc' := 21) (v := .ref r0) rfl rfl rfl ?_)
    refine wp_of e130 c130_21 (rw_aload_n (pc' := 22) (v := .ref r0) rfl rfl rfl ?_)
    refine wp_of e130 c130_22 (xg_R (pc' := 25) lf_0_37 w43740 g0 sh_1 (by decide) (by decide) ty_1_4 rfl rfl (fun r43747 q43748 g43749 => ?_))
    refine wp_of e130 c130_25 (rw_aload_n (pc' := 26) (v := .ref r0) rfl rfl rfl ?_)
    refine wp_of e130 c130_26 (xg_R (pc' := 29) lf_0_51 w43740 g0 sh_1 (by decide) (by decide) ty_1_6 rfl rfl (fun r43750 q43751 g43752 => ?_))
    refine wp_of e130 c130_29 (rw_aload_n (pc' := 30) (v := .ref r0) rfl rfl rfl ?_)
    refine wp_of e130 c130_30 (xg_R (pc' := 33) lf_0_30 w43740 g0 sh_1 (by decide) (by decide) ty_1_3 rfl rfl (fun r43753 q43754 g43755 => ?_))
    refine wp_of e130 c130_33 (rw_iload_n (pc' := 34) (z := a1) rfl rfl ?_)
    refine wp_of e130 c130_34 (xc_V (pc' := 37) (r := r43747) (as := [.ref r43750, .ref r43753, vI a1]) (st := [.ref r0]) (lm_0_234) rfl rfl (Nat.le_of_ble_eq_true rfl) w43740 g43749 sh_20 (by decide) rfl (by decide) (s_131 w43740 g43749 g43752 g43755 ⟨by omega, by omega⟩) (fun R43756 T43757 H43758 p43759 => ?_))
    obtain ⟨e43760, w43762, f43763, z43764, e43761, b43765⟩ := p43759
    subst e43760
    subst e43761
    have f43766 := f43745.tr f43763 rfl
    show wp _ _ 130 37 [(2, vI z43743), (0, .ref r0), (1, vI a1)] [vI z43764, .ref r0] _ H43758 _
    refine wp_of e130 c130_37 (xc_V (pc' := 40) (r := r0) (as := [vI z43764]) (st := []) (lm_0_99) rfl rfl (Nat.le_of_ble_eq_true rfl) w43762 g0 sh_1 (by decide) rfl (by decide) (s_51 w43762 g0 ⟨by omega, by omega⟩) (fun R43767 T43768 H43769 p43770 => ?_))
    obtain ⟨e43771, w43773, f43774, z43775, e43772, b43776⟩ := p43770
    subst e43771
    subst e43772
    have f43777 := f43766.tr f43774 rfl
    show wp _ _ 130 40 [(2, vI z43743), (0, .ref r0), (1, vI a1)] [vI z43775] _ H43769 _
    exact wp_ireturn e130 c130_40 rfl ⟨rfl, w43773, f43777, z43775, rfl, ⟨by omega, by omega⟩⟩
  · refine wp_of e130 c130_14 (rw_aload_n (pc' := 15) (v := .ref r0) rfl rfl rfl ?_)
    refine wp_of e130 c130_15 (rw_iload_n (pc' := 16) (z := z43743) rfl rfl ?_)
    refine wp_of e130 c130_16 (xc_V (pc' := 19) (r := r0) (as := [vI z43743]) (st := []) (lm_0_70) rfl rfl (Nat.le_of_ble_eq_true rfl) w43740 g0 sh_1 (by decide) rfl (by decide) (s_12 w43740 g0 ⟨by omega, by omega⟩) (fun R43778 T43779 H43780 p43781 => ?_))
    obtain ⟨e43782, w43784, f43785, z43786, e43783, b43787⟩ := p43781
    subst e43782
    subst e43783
    have f43788 := f43745.tr f43785 rfl
    show wp _ _ 130 19 [(2, vI z43743), (0, .ref r0), (1, vI a1)] [vI z43786] _ H43780 _
    exact wp_ireturn e130 c130_19 rfl ⟨rfl, w43784, f43788, z43786, rfl, ⟨by omega, by omega⟩⟩
/-! StrikeAwake.isTold(I)Z -/
theorem e133 : wq_en 133 = some (0, 2, false, some FieldType.boolean) := rfl
theorem c133_0 : mc_cd 133 0 = some (.iload_n 1, 1) := by decide +kernel
theorem c133_1 : mc_cd 133 1 = some (.ifCond .lt 18, 3) := by decide +kernel
theorem c133_4 : mc_cd 133 4 = some (.iload_n 1, 1) := by decide +kernel
theorem c133_5 : mc_cd 133 5 = some (.aload_n 0, 1) := by decide +kernel
theorem c133_6 : mc_cd 133 6 = some (.getfield 51, 3) := by decide +kernel
theorem c133_9 : mc_cd 133 9 = some (.getfield 333, 3) := by decide +kernel
theorem c133_12 : mc_cd 133 12 = some (.if_icmp .ge 7, 3) := by decide +kernel
theorem c133_15 : mc_cd 133 15 = some (.iconst 1, 1) := by decide +kernel
theorem c133_16 : mc_cd 133 16 = some (.goto 4, 3) := by decide +kernel
theorem c133_19 : mc_cd 133 19 = some (.iconst 0, 1) := by decide +kernel
theorem c133_20 : mc_cd 133 20 = some (.ireturn, 1) := by decide +kernel
abbrev q_133 (r0 : Nat) (a1 : Int) (T : wq_T) (H : wq_H) : Option Value → wq_T → wq_H → Prop := fun r T' H' => T = T' ∧ H = H' ∧ ∃ z : Int, some (vI z) = r ∧ (0 ≤ z ∧ z ≤ 1) ∧ (z = 0 ∨ (0 ≤ a1 ∧ a1 ≤ 3))
set_option maxHeartbeats 4000000 in
theorem s_133 {kt : Nat → Option mc_E} {T : wq_T} {H : wq_H} {r0 : Nat} {a1 : Int} (hW : WT T H) (g0 : T.2.2.2 r0 = some 1) (i1 : (-2147483648) ≤ a1 ∧ a1 ≤ 2147483647) : wpc kt 1 133 [.ref r0, vI a1] T H (q_133 r0 a1 T H) := by
  refine wp_enter e133 (Nat.le_of_ble_eq_true rfl) rfl ?_
  show wp _ _ 133 0 [(0, .ref r0), (1, vI a1)] [] _ H _
  refine wp_of e133 c133_0 (rw_iload_n (pc' := 1) (z := a1) rfl rfl ?_)
  refine wp_of e133 c133_1 (rw_if_lt (p1 := 19) (p2 := 4) (by decide) rfl ⟨by omega, by omega⟩ (fun c43796 => ?_) (fun c43796 => ?_))
  · refine wp_of e133 c133_19 (rw_iconst (pc' := 20) rfl ?_)
    exact wp_zreturn e133 c133_20 rfl (by omega) ⟨rfl, rfl, 0, rfl, ⟨by omega, by omega⟩, by omega⟩
  · refine wp_of e133 c133_4 (rw_iload_n (pc' := 5) (z := a1) rfl rfl ?_)
    refine wp_of e133 c133_5 (rw_aload_n (pc' := 6) (v := .ref r0) rfl rfl rfl ?_)
    refine wp_of e133 c133_6 (xg_R (pc' := 9) lf_0_51 hW g0 sh_1 (by decide) (by decide) ty_1_6 rfl rfl (fun r43797 q43798 g43799 => ?_))
    refine wp_of e133 c133_9 (xg_I (pc' := 12) lf_0_333 hW g43799 sh_27 (by decide) (by decide) ty_27_13 rfl rfl (fun b43800 b43801 => ?_))
    refine wp_of e133 c133_12 (rw_icmp_ge (p1 := 19) (p2 := 15) (by decide) rfl ⟨by omega, by omega⟩ ⟨by omega, by omega⟩ (fun c43802 => ?_) (fun c43802 => ?_))
    · refine wp_of e133 c133_19 (rw_iconst (pc' := 20) rfl ?_)
      exact wp_zreturn e133 c133_20 rfl (by omega) ⟨rfl, rfl, 0, rfl, ⟨by omega, by omega⟩, by omega⟩
    · refine wp_of e133 c133_15 (rw_iconst (pc' := 16) rfl ?_)
      refine wp_of e133 c133_16 (rw_goto (p1 := 20) (by decide) ?_)
      exact wp_zreturn e133 c133_20 rfl (by omega) ⟨rfl, rfl, 1, rfl, ⟨by omega, by omega⟩, by omega⟩
/-! StrikeAwake$Census.hasTold(LStrikeAwake$Parish;I)Z -/
theorem e134 : wq_en 134 = some (4, 7, false, some FieldType.boolean) := rfl
theorem c134_0 : mc_cd 134 0 = some (.aload_n 1, 1) := by decide +kernel
theorem c134_1 : mc_cd 134 1 = some (.getfield 144, 3) := by decide +kernel
theorem c134_4 : mc_cd 134 4 = some (.iload_n 2, 1) := by decide +kernel
theorem c134_5 : mc_cd 134 5 = some (.iaload, 1) := by decide +kernel
theorem c134_6 : mc_cd 134 6 = some (.istore_n 3, 1) := by decide +kernel
theorem c134_7 : mc_cd 134 7 = some (.aload_n 1, 1) := by decide +kernel
theorem c134_8 : mc_cd 134 8 = some (.getfield 147, 3) := by decide +kernel
theorem c134_11 : mc_cd 134 11 = some (.iload_n 2, 1) := by decide +kernel
theorem c134_12 : mc_cd 134 12 = some (.iaload, 1) := by decide +kernel
theorem c134_13 : mc_cd 134 13 = some (.istore 4, 2) := by decide +kernel
theorem c134_15 : mc_cd 134 15 = some (.aload_n 1, 1) := by decide +kernel
theorem c134_16 : mc_cd 134 16 = some (.getfield 78, 3) := by decide +kernel
theorem c134_19 : mc_cd 134 19 = some (.iload_n 3, 1) := by decide +kernel
theorem c134_20 : mc_cd 134 20 = some (.aaload, 1) := by decide +kernel
theorem c134_21 : mc_cd 134 21 = some (.astore 5, 2) := by decide +kernel
theorem c134_23 : mc_cd 134 23 = some (.iconst 0, 1) := by decide +kernel
theorem c134_24 : mc_cd 134 24 = some (.istore 6, 2) := by decide +kernel
theorem c134_26 : mc_cd 134 26 = some (.iload 6, 2) := by decide +kernel
theorem c134_28 : mc_cd 134 28 = some (.aload 5, 2) := by decide +kernel
theorem c134_30 : mc_cd 134 30 = some (.getfield 116, 3) := by decide +kernel
theorem c134_33 : mc_cd 134 33 = some (.if_icmp .ge 39, 3) := by decide +kernel
theorem c134_36 : mc_cd 134 36 = some (.aload_n 0, 1) := by decide +kernel
theorem c134_37 : mc_cd 134 37 = some (.getfield 17, 3) := by decide +kernel
theorem c134_40 : mc_cd 134 40 = some (.iload_n 3, 1) := by decide +kernel
theorem c134_41 : mc_cd 134 41 = some (.aaload, 1) := by decide +kernel
theorem c134_42 : mc_cd 134 42 = some (.iload 6, 2) := by decide +kernel
theorem c134_44 : mc_cd 134 44 = some (.iaload, 1) := by decide +kernel
theorem c134_45 : mc_cd 134 45 = some (.ifCond .le 21, 3) := by decide +kernel
theorem c134_48 : mc_cd 134 48 = some (.aload 5, 2) := by decide +kernel
theorem c134_50 : mc_cd 134 50 = some (.getfield 138, 3) := by decide +kernel
theorem c134_53 : mc_cd 134 53 = some (.iload 6, 2) := by decide +kernel
theorem c134_55 : mc_cd 134 55 = some (.iaload, 1) := by decide +kernel
theorem c134_56 : mc_cd 134 56 = some (.iload 4, 2) := by decide +kernel
theorem c134_58 : mc_cd 134 58 = some (.iand, 1) := by decide +kernel
theorem c134_59 : mc_cd 134 59 = some (.iload 4, 2) := by decide +kernel
theorem c134_61 : mc_cd 134 61 = some (.if_icmp .ne 5, 3) := by decide +kernel
theorem c134_64 : mc_cd 134 64 = some (.iconst 1, 1) := by decide +kernel
theorem c134_65 : mc_cd 134 65 = some (.ireturn, 1) := by decide +kernel
theorem c134_66 : mc_cd 134 66 = some (.iinc 6 1, 3) := by decide +kernel
theorem c134_69 : mc_cd 134 69 = some (.goto (-43), 3) := by decide +kernel
theorem c134_72 : mc_cd 134 72 = some (.iconst 0, 1) := by decide +kernel
theorem c134_73 : mc_cd 134 73 = some (.ireturn, 1) := by decide +kernel
abbrev q_134 (r0 : Nat) (r1 : Nat) (a2 : Int) (T : wq_T) (H : wq_H) : Option Value → wq_T → wq_H → Prop := fun r T' H' => T = T' ∧ H = H' ∧ ∃ z : Int, some (vI z) = r ∧ (0 ≤ z ∧ z ≤ 1)
set_option maxHeartbeats 4000000 in
theorem s_134 {kt : Nat → Option mc_E} {T : wq_T} {H : wq_H} {r0 : Nat} {r1 : Nat} {a2 : Int} (hW : WT T H) (g0 : T.2.2.2 r0 = some 12) (g1 : T.2.2.2 r1 = some 27) (i2 : 0 ≤ a2 ∧ a2 ≤ 3) : wpc kt 1 134 [.ref r0, .ref r1, vI a2] T H (q_134 r0 r1 a2 T H) := by
  refine wp_enter e134 (Nat.le_of_ble_eq_true rfl) rfl ?_
  show wp _ _ 134 0 [(0, .ref r0), (1, .ref r1), (2, vI a2)] [] _ H _
  refine wp_of e134 c134_0 (rw_aload_n (pc' := 1) (v := .ref r1) rfl rfl rfl ?_)
  refine wp_of e134 c134_1 (xg_R (pc' := 4) lf_4_144 hW g1 sh_27 (by decide) (by decide) ty_27_4 rfl rfl (fun r44000 q44001 g44002 => ?_))
  refine wp_of e134 c134_4 (rw_iload_n (pc' := 5) (z := a2) rfl rfl ?_)
  refine wp_of e134 c134_5 (xa_I (so := 0) (pc' := 6) hW g44002 sh_32 (by decide) (ty_32 _) (by omega) (by omega) rfl (fun b44003 b44004 => ?_))
  refine wp_of e134 c134_6 (rw_istore_n (pc' := 7) (z := H r44000 a2.toNat) (L' := [(3, vI (H r44000 a2.toNat)), (0, .ref r0), (1, .ref r1), (2, vI a2)]) rfl rfl rfl ?_)
  refine wp_of e134 c134_7 (rw_aload_n (pc' := 8) (v := .ref r1) rfl rfl rfl ?_)
  refine wp_of e134 c134_8 (xg_R (pc' := 11) lf_4_147 hW g1 sh_27 (by decide) (by decide) ty_27_5 rfl rfl (fun r44005 q44006 g44007 => ?_))
  refine wp_of e134 c134_11 (rw_iload_n (pc' := 12) (z := a2) rfl rfl ?_)
  refine wp_of e134 c134_12 (xa_I (so := 0) (pc' := 13) hW g44007 sh_33 (by decide) (ty_33 _) (by omega) (by omega) rfl (fun b44008 b44009 => ?_))
  refine wp_of e134 c134_13 (rw_istore (pc' := 15) (z := H r44005 a2.toNat) (L' := [(4, vI (H r44005 a2.toNat)), (3, vI (H r44000 a2.toNat)), (0, .ref r0), (1, .ref r1), (2, vI a2)]) rfl rfl rfl ?_)
  refine wp_of e134 c134_15 (rw_aload_n (pc' := 16) (v := .ref r1) rfl rfl rfl ?_)
  refine wp_of e134 c134_16 (xg_R (pc' := 19) lf_4_78 hW g1 sh_27 (by decide) (by decide) ty_27_0 rfl rfl (fun r44010 q44011 g44012 => ?_))
  refine wp_of e134 c134_19 (rw_iload_n (pc' := 20) (z := H r44000 a2.toNat) rfl rfl ?_)
  refine wp_of e134 c134_20 (xa_R (pc' := 21) (by decide) hW g44012 sh_28 (by decide) (ty_28 _) (by omega) (by omega) rfl (fun r44013 q44014 g44015 => ?_))
  refine wp_of e134 c134_21 (rw_astore (pc' := 23) (v := .ref r44013) (L' := [(5, .ref r44013), (4, vI (H r44005 a2.toNat)), (3, vI (H r44000 a2.toNat)), (0, .ref r0), (1, .ref r1), (2, vI a2)]) rfl rfl rfl rfl ?_)
  refine wp_of e134 c134_23 (rw_iconst (pc' := 24) rfl ?_)
  refine wp_of e134 c134_24 (rw_istore (pc' := 26) (z := 0) (L' := [(6, vI 0), (5, .ref r44013), (4, vI (H r44005 a2.toNat)), (3, vI (H r44000 a2.toNat)), (0, .ref r0), (1, .ref r1), (2, vI a2)]) rfl rfl rfl ?_)
  have lp44176 : ∀ (n44177 : Nat) (v44179 : Int), (0 ≤ v44179 ∧ v44179 ≤ 40) → (40 - v44179).toNat = n44177 → wp kt 0 134 26 [(6, vI v44179), (5, .ref r44013), (4, vI (H r44005 a2.toNat)), (3, vI (H r44000 a2.toNat)), (0, .ref r0)] [] T H (q_134 r0 r1 a2 T H) := by
    intro n44177
    induction n44177 using Nat.strongRecOn with
    | _ n44177 ih44178 =>
      intro v44179 b44182 m44183
      refine wp_of e134 c134_26 (rw_iload (pc' := 28) (z := v44179) rfl rfl ?_)
      refine wp_of e134 c134_28 (rw_aload (pc' := 30) (v := .ref r44013) rfl rfl rfl ?_)
      refine wp_of e134 c134_30 (xg_I (pc' := 33) lf_4_116 hW g44015 sh_35 (by decide) (by decide) ty_35_15 rfl rfl (fun b44184 b44185 => ?_))
      refine wp_of e134 c134_33 (rw_icmp_ge (p1 := 72) (p2 := 36) (by decide) rfl ⟨by omega, by omega⟩ ⟨by omega, by omega⟩ (fun c44186 => ?_) (fun c44186 => ?_))
      · refine wp_of e134 c134_72 (rw_iconst (pc' := 73) rfl ?_)
        exact wp_zreturn e134 c134_73 rfl (by omega) ⟨rfl, rfl, 0, rfl, ⟨by omega, by omega⟩⟩
      · refine wp_of e134 c134_36 (rw_aload_n (pc' := 37) (v := .ref r0) rfl rfl rfl ?_)
        refine wp_of e134 c134_37 (xg_R (pc' := 40) lf_4_17 hW g0 sh_12 (by decide) (by decide) ty_12_1 rfl rfl (fun r44187 q44188 g44189 => ?_))
        refine wp_of e134 c134_40 (rw_iload_n (pc' := 41) (z := H r44000 a2.toNat) rfl rfl ?_)
        refine wp_of e134 c134_41 (xa_R (pc' := 42) (by decide) hW g44189 sh_14 (by decide) (ty_14 _) (by omega) (by omega) rfl (fun r44190 q44191 g44192 => ?_))
        refine wp_of e134 c134_42 (rw_iload (pc' := 44) (z := v44179) rfl rfl ?_)
        refine wp_of e134 c134_44 (xa_I (so := 0) (pc' := 45) hW g44192 sh_15 (by decide) (ty_15 _) (by omega) (by omega) rfl (fun b44193 b44194 => ?_))
        refine wp_of e134 c134_45 (rw_if_le (p1 := 66) (p2 := 48) (by decide) rfl ⟨by omega, by omega⟩ (fun c44195 => ?_) (fun c44195 => ?_))
        · refine wp_of e134 c134_66 (rw_iinc (pc' := 69) (z := v44179) (L' := [(6, vI (v44179 + 1)), (5, .ref r44013), (4, vI (H r44005 a2.toNat)), (3, vI (H r44000 a2.toNat)), (0, .ref r0)]) rfl rfl rfl rfl ?_)
          refine wp_of e134 c134_69 (rw_goto (p1 := 26) (by decide) ?_)
          exact wp_lc (ks := [6, 5, 4, 3, 0]) (wl_c rfl (wl_c rfl (wl_c rfl (wl_c rfl (wl_c rfl wl_n))))) rfl (by decide) (ih44178 _ (by omega) (v44179 + 1) ⟨by omega, by omega⟩ rfl)
        · refine wp_of e134 c134_48 (rw_aload (pc' := 50) (v := .ref r44013) rfl rfl rfl ?_)
          refine wp_of e134 c134_50 (xg_R (pc' := 53) lf_4_138 hW g44015 sh_35 (by decide) (by decide) ty_35_2 rfl rfl (fun r44196 q44197 g44198 => ?_))
          refine wp_of e134 c134_53 (rw_iload (pc' := 55) (z := v44179) rfl rfl ?_)
          refine wp_of e134 c134_55 (xa_I (so := 0) (pc' := 56) hW g44198 sh_38 (by decide) (ty_38 _) (by omega) (by omega) rfl (fun b44199 b44200 => ?_))
          refine wp_of e134 c134_56 (rw_iload (pc' := 58) (z := H r44005 a2.toNat) rfl rfl ?_)
          refine wp_of e134 c134_58 (rw_iand (pc' := 59) rfl ?_)
          obtain ⟨v44201, e44202⟩ : ∃ x : Int, x = wq_and (H r44196 v44179.toNat) (H r44005 a2.toNat) := ⟨_, rfl⟩
          rw [← e44202]
          have b44203 : -2147483648 ≤ v44201 ∧ v44201 ≤ 2147483647 := by
            rw [e44202]
            exact wI_and _ _
          refine wp_of e134 c134_59 (rw_iload (pc' := 61) (z := H r44005 a2.toNat) rfl rfl ?_)
          refine wp_of e134 c134_61 (rw_icmp_ne (p1 := 66) (p2 := 64) (by decide) rfl ⟨by omega, by omega⟩ ⟨by omega, by omega⟩ (fun c44204 => ?_) (fun c44204 => ?_))
          · refine wp_of e134 c134_66 (rw_iinc (pc' := 69) (z := v44179) (L' := [(6, vI (v44179 + 1)), (5, .ref r44013), (4, vI (H r44005 a2.toNat)), (3, vI (H r44000 a2.toNat)), (0, .ref r0)]) rfl rfl rfl rfl ?_)
            refine wp_of e134 c134_69 (rw_goto (p1 := 26) (by decide) ?_)
            exact wp_lc (ks := [6, 5, 4, 3, 0]) (wl_c rfl (wl_c rfl (wl_c rfl (wl_c rfl (wl_c rfl wl_n))))) rfl (by decide) (ih44178 _ (by omega) (v44179 + 1) ⟨by omega, by omega⟩ rfl)
          · refine wp_of e134 c134_64 (rw_iconst (pc' := 65) rfl ?_)
            exact wp_zreturn e134 c134_65 rfl (by omega) ⟨rfl, rfl, 1, rfl, ⟨by omega, by omega⟩⟩
  exact wp_lc (ks := [6, 5, 4, 3, 0, 1, 2]) (wl_c rfl (wl_c rfl (wl_c rfl (wl_c rfl (wl_c rfl wl_n))))) rfl (by decide) (lp44176 _ 0 ⟨by omega, by omega⟩ rfl)
/-! StrikeAwake.lie(I)I -/
theorem e132 : wq_en 132 = some (0, 3, false, some FieldType.int) := rfl
theorem c132_0 : mc_cd 132 0 = some (.aload_n 0, 1) := by decide +kernel
theorem c132_1 : mc_cd 132 1 = some (.aload_n 0, 1) := by decide +kernel
theorem c132_2 : mc_cd 132 2 = some (.iload_n 1, 1) := by decide +kernel
theorem c132_3 : mc_cd 132 3 = some (.invokevirtual 238, 3) := by decide +kernel
theorem c132_6 : mc_cd 132 6 = some (.invokevirtual 174, 3) := by decide +kernel
theorem c132_9 : mc_cd 132 9 = some (.istore_n 2, 1) := by decide +kernel
theorem c132_10 : mc_cd 132 10 = some (.iload_n 2, 1) := by decide +kernel
theorem c132_11 : mc_cd 132 11 = some (.ifCond .eq 9, 3) := by decide +kernel
theorem c132_14 : mc_cd 132 14 = some (.aload_n 0, 1) := by decide +kernel
theorem c132_15 : mc_cd 132 15 = some (.iload_n 2, 1) := by decide +kernel
theorem c132_16 : mc_cd 132 16 = some (.invokevirtual 70, 3) := by decide +kernel
theorem c132_19 : mc_cd 132 19 = some (.ireturn, 1) := by decide +kernel
theorem c132_20 : mc_cd 132 20 = some (.aload_n 0, 1) := by decide +kernel
theorem c132_21 : mc_cd 132 21 = some (.aload_n 0, 1) := by decide +kernel
theorem c132_22 : mc_cd 132 22 = some (.getfield 30, 3) := by decide +kernel
theorem c132_25 : mc_cd 132 25 = some (.aload_n 0, 1) := by decide +kernel
theorem c132_26 : mc_cd 132 26 = some (.getfield 51, 3) := by decide +kernel
theorem c132_29 : mc_cd 132 29 = some (.iload_n 1, 1) := by decide +kernel
theorem c132_30 : mc_cd 132 30 = some (.invokevirtual 241, 3) := by decide +kernel
theorem c132_33 : mc_cd 132 33 = some (.ifCond .eq 7, 3) := by decide +kernel
theorem c132_36 : mc_cd 132 36 = some (.iconst 0, 1) := by decide +kernel
theorem c132_37 : mc_cd 132 37 = some (.goto 4, 3) := by decide +kernel
theorem c132_40 : mc_cd 132 40 = some (.iconst 1, 1) := by decide +kernel
theorem c132_41 : mc_cd 132 41 = some (.invokevirtual 99, 3) := by decide +kernel
theorem c132_44 : mc_cd 132 44 = some (.ireturn, 1) := by decide +kernel
abbrev q_132 (r0 : Nat) (a1 : Int) (T : wq_T) (H : wq_H) : Option Value → wq_T → wq_H → Prop := fun r T' H' => T = T' ∧ WT T H' ∧ wfr [(12, 5), (12, 6), (12, 7), (12, 8), (12, 9), (1, 10), (6, 5), (8, 999), (10, 999), (15, 999), (9, 999), (18, 999), (19, 999), (7, 999), (11, 999), (17, 999), (13, 999)] T H H' ∧ ∃ z : Int, some (vI z) = r ∧ ((-2147483648) ≤ z ∧ z ≤ 2147483647)
set_option maxHeartbeats 4000000 in
theorem s_132 {kt : Nat → Option mc_E} {T : wq_T} {H : wq_H} {r0 : Nat} {a1 : Int} (hW : WT T H) (g0 : T.2.2.2 r0 = some 1) (i1 : (-2147483648) ≤ a1 ∧ a1 ≤ 2147483647) : wpc kt 6 132 [.ref r0, vI a1] T H (q_132 r0 a1 T H) := by
  refine wp_enter e132 (Nat.le_of_ble_eq_true rfl) rfl ?_
  have f0 : wfr [(12, 5), (12, 6), (12, 7), (12, 8), (12, 9), (1, 10), (6, 5), (8, 999), (10, 999), (15, 999), (9, 999), (18, 999), (19, 999), (7, 999), (11, 999), (17, 999), (13, 999)] T H H := wfr.rf
  show wp _ _ 132 0 [(0, .ref r0), (1, vI a1)] [] _ H _
  refine wp_of e132 c132_0 (rw_aload_n (pc' := 1) (v := .ref r0) rfl rfl rfl ?_)
  refine wp_of e132 c132_1 (rw_aload_n (pc' := 2) (v := .ref r0) rfl rfl rfl ?_)
  refine wp_of e132 c132_2 (rw_iload_n (pc' := 3) (z := a1) rfl rfl ?_)
  refine wp_of e132 c132_3 (xc_V (pc' := 6) (r := r0) (as := [vI a1]) (st := [.ref r0]) (lm_0_238) rfl rfl (Nat.le_of_ble_eq_true rfl) hW g0 sh_1 (by decide) rfl (by decide) (s_133 hW g0 ⟨by omega, by omega⟩) (fun R44277 T44278 H44279 p44280 => ?_))
  obtain ⟨e44281, e44283, z44285, e44282, b44286, p44284⟩ := p44280
  subst e44281
  subst e44282
  subst e44283
  show wp _ _ 132 6 [(0, .ref r0), (1, vI a1)] [vI z44285, .ref r0] _ H _
  refine wp_of e132 c132_6 (xc_V (pc' := 9) (r := r0) (as := [vI z44285]) (st := []) (lm_0_174) rfl rfl (Nat.le_of_ble_eq_true rfl) hW g0 sh_1 (by decide) rfl (by decide) (s_83 hW g0 ⟨by omega, by omega⟩) (fun R44287 T44288 H44289 p44290 => ?_))
  obtain ⟨e44291, w44293, f44294, z44296, e44292, b44297, p44295⟩ := p44290
  subst e44291
  subst e44292
  have f44298 := f0.tr f44294 rfl
  show wp _ _ 132 9 [(0, .ref r0), (1, vI a1)] [vI z44296] _ H44289 _
  refine wp_of e132 c132_9 (rw_istore_n (pc' := 10) (z := z44296) (L' := [(2, vI z44296), (0, .ref r0), (1, vI a1)]) rfl rfl rfl ?_)
  refine wp_of e132 c132_10 (rw_iload_n (pc' := 11) (z := z44296) rfl rfl ?_)
  refine wp_of e132 c132_11 (rw_if_eq (p1 := 20) (p2 := 14) (by decide) rfl ⟨by omega, by omega⟩ (fun c44299 => ?_) (fun c44299 => ?_))
  · refine wp_of e132 c132_20 (rw_aload_n (pc' := 21) (v := .ref r0) rfl rfl rfl ?_)
    refine wp_of e132 c132_21 (rw_aload_n (pc' := 22) (v := .ref r0) rfl rfl rfl ?_)
    refine wp_of e132 c132_22 (xg_R (pc' := 25) lf_0_30 w44293 g0 sh_1 (by decide) (by decide) ty_1_3 rfl rfl (fun r44300 q44301 g44302 => ?_))
    refine wp_of e132 c132_25 (rw_aload_n (pc' := 26) (v := .ref r0) rfl rfl rfl ?_)
    refine wp_of e132 c132_26 (xg_R (pc' := 29) lf_0_51 w44293 g0 sh_1 (by decide) (by decide) ty_1_6 rfl rfl (fun r44303 q44304 g44305 => ?_))
    refine wp_of e132 c132_29 (rw_iload_n (pc' := 30) (z := a1) rfl rfl ?_)
    refine wp_of e132 c132_30 (xc_V (pc' := 33) (r := r44300) (as := [.ref r44303, vI a1]) (st := [.ref r0]) (lm_0_241) rfl rfl (Nat.le_of_ble_eq_true rfl) w44293 g44302 sh_12 (by decide) rfl (by decide) (s_134 w44293 g44302 g44305 ⟨by omega, by omega⟩) (fun R44306 T44307 H44308 p44309 => ?_))
    obtain ⟨e44310, e44312, z44313, e44311, b44314⟩ := p44309
    subst e44310
    subst e44311
    subst e44312
    show wp _ _ 132 33 [(2, vI z44296), (0, .ref r0), (1, vI a1)] [vI z44313, .ref r0] _ H44289 _
    refine wp_of e132 c132_33 (rw_if_eq (p1 := 40) (p2 := 36) (by decide) rfl ⟨by omega, by omega⟩ (fun c44315 => ?_) (fun c44315 => ?_))
    · refine wp_of e132 c132_40 (rw_iconst (pc' := 41) rfl ?_)
      refine wp_of e132 c132_41 (xc_V (pc' := 44) (r := r0) (as := [vI 1]) (st := []) (lm_0_99) rfl rfl (Nat.le_of_ble_eq_true rfl) w44293 g0 sh_1 (by decide) rfl (by decide) (s_51 w44293 g0 ⟨by omega, by omega⟩) (fun R44316 T44317 H44318 p44319 => ?_))
      obtain ⟨e44320, w44322, f44323, z44324, e44321, b44325⟩ := p44319
      subst e44320
      subst e44321
      have f44326 := f44298.tr f44323 rfl
      show wp _ _ 132 44 [(2, vI z44296), (0, .ref r0), (1, vI a1)] [vI z44324] _ H44318 _
      exact wp_ireturn e132 c132_44 rfl ⟨rfl, w44322, f44326, z44324, rfl, ⟨by omega, by omega⟩⟩
    · refine wp_of e132 c132_36 (rw_iconst (pc' := 37) rfl ?_)
      refine wp_of e132 c132_37 (rw_goto (p1 := 41) (by decide) ?_)
      refine wp_of e132 c132_41 (xc_V (pc' := 44) (r := r0) (as := [vI 0]) (st := []) (lm_0_99) rfl rfl (Nat.le_of_ble_eq_true rfl) w44293 g0 sh_1 (by decide) rfl (by decide) (s_51 w44293 g0 ⟨by omega, by omega⟩) (fun R44327 T44328 H44329 p44330 => ?_))
      obtain ⟨e44331, w44333, f44334, z44335, e44332, b44336⟩ := p44330
      subst e44331
      subst e44332
      have f44337 := f44298.tr f44334 rfl
      show wp _ _ 132 44 [(2, vI z44296), (0, .ref r0), (1, vI a1)] [vI z44335] _ H44329 _
      exact wp_ireturn e132 c132_44 rfl ⟨rfl, w44333, f44337, z44335, rfl, ⟨by omega, by omega⟩⟩
  · refine wp_of e132 c132_14 (rw_aload_n (pc' := 15) (v := .ref r0) rfl rfl rfl ?_)
    refine wp_of e132 c132_15 (rw_iload_n (pc' := 16) (z := z44296) rfl rfl ?_)
    refine wp_of e132 c132_16 (xc_V (pc' := 19) (r := r0) (as := [vI z44296]) (st := []) (lm_0_70) rfl rfl (Nat.le_of_ble_eq_true rfl) w44293 g0 sh_1 (by decide) rfl (by decide) (s_12 w44293 g0 ⟨by omega, by omega⟩) (fun R44338 T44339 H44340 p44341 => ?_))
    obtain ⟨e44342, w44344, f44345, z44346, e44343, b44347⟩ := p44341
    subst e44342
    subst e44343
    have f44348 := f44298.tr f44345 rfl
    show wp _ _ 132 19 [(2, vI z44296), (0, .ref r0), (1, vI a1)] [vI z44346] _ H44340 _
    exact wp_ireturn e132 c132_19 rfl ⟨rfl, w44344, f44348, z44346, rfl, ⟨by omega, by omega⟩⟩
/-! StrikeAwake$Grounds.barringHour(LStrikeAwake$Parish;LStrikeAwake$Walk;I)I -/
theorem e136 : wq_en 136 = some (6, 10, false, some FieldType.int) := rfl
theorem c136_0 : mc_cd 136 0 = some (.aload_n 1, 1) := by decide +kernel
theorem c136_1 : mc_cd 136 1 = some (.getfield 15, 3) := by decide +kernel
theorem c136_4 : mc_cd 136 4 = some (.aload_n 1, 1) := by decide +kernel
theorem c136_5 : mc_cd 136 5 = some (.getfield 21, 3) := by decide +kernel
theorem c136_8 : mc_cd 136 8 = some (.iload_n 3, 1) := by decide +kernel
theorem c136_9 : mc_cd 136 9 = some (.iaload, 1) := by decide +kernel
theorem c136_10 : mc_cd 136 10 = some (.aaload, 1) := by decide +kernel
theorem c136_11 : mc_cd 136 11 = some (.astore 4, 2) := by decide +kernel
theorem c136_13 : mc_cd 136 13 = some (.aload_n 1, 1) := by decide +kernel
theorem c136_14 : mc_cd 136 14 = some (.getfield 25, 3) := by decide +kernel
theorem c136_17 : mc_cd 136 17 = some (.iload_n 3, 1) := by decide +kernel
theorem c136_18 : mc_cd 136 18 = some (.iaload, 1) := by decide +kernel
theorem c136_19 : mc_cd 136 19 = some (.istore 5, 2) := by decide +kernel
theorem c136_21 : mc_cd 136 21 = some (.sipush (-1000), 3) := by decide +kernel
theorem c136_24 : mc_cd 136 24 = some (.istore 6, 2) := by decide +kernel
theorem c136_26 : mc_cd 136 26 = some (.aload_n 2, 1) := by decide +kernel
theorem c136_27 : mc_cd 136 27 = some (.aload_n 1, 1) := by decide +kernel
theorem c136_28 : mc_cd 136 28 = some (.invokevirtual 28, 3) := by decide +kernel
theorem c136_31 : mc_cd 136 31 = some (.iconst 0, 1) := by decide +kernel
theorem c136_32 : mc_cd 136 32 = some (.istore 7, 2) := by decide +kernel
theorem c136_34 : mc_cd 136 34 = some (.iload 7, 2) := by decide +kernel
theorem c136_36 : mc_cd 136 36 = some (.i2l, 1) := by decide +kernel
theorem c136_37 : mc_cd 136 37 = some (.aload_n 1, 1) := by decide +kernel
theorem c136_38 : mc_cd 136 38 = some (.getfield 34, 3) := by decide +kernel
theorem c136_41 : mc_cd 136 41 = some (.lcmp, 1) := by decide +kernel
theorem c136_42 : mc_cd 136 42 = some (.ifCond .ge 83, 3) := by decide +kernel
theorem c136_45 : mc_cd 136 45 = some (.iload 7, 2) := by decide +kernel
theorem c136_47 : mc_cd 136 47 = some (.sipush 20000, 3) := by decide +kernel
theorem c136_50 : mc_cd 136 50 = some (.if_icmp .ge 75, 3) := by decide +kernel
theorem c136_53 : mc_cd 136 53 = some (.aload 4, 2) := by decide +kernel
theorem c136_55 : mc_cd 136 55 = some (.getfield 38, 3) := by decide +kernel
theorem c136_58 : mc_cd 136 58 = some (.aload_n 2, 1) := by decide +kernel
theorem c136_59 : mc_cd 136 59 = some (.aload_n 1, 1) := by decide +kernel
theorem c136_60 : mc_cd 136 60 = some (.getfield 21, 3) := by decide +kernel
theorem c136_63 : mc_cd 136 63 = some (.iload_n 3, 1) := by decide +kernel
theorem c136_64 : mc_cd 136 64 = some (.iaload, 1) := by decide +kernel
theorem c136_65 : mc_cd 136 65 = some (.invokevirtual 43, 3) := by decide +kernel
theorem c136_68 : mc_cd 136 68 = some (.iaload, 1) := by decide +kernel
theorem c136_69 : mc_cd 136 69 = some (.istore 8, 2) := by decide +kernel
theorem c136_71 : mc_cd 136 71 = some (.aload_n 2, 1) := by decide +kernel
theorem c136_72 : mc_cd 136 72 = some (.invokevirtual 47, 3) := by decide +kernel
theorem c136_75 : mc_cd 136 75 = some (.ifCond .ne 39, 3) := by decide +kernel
theorem c136_78 : mc_cd 136 78 = some (.iload 8, 2) := by decide +kernel
theorem c136_80 : mc_cd 136 80 = some (.iload 5, 2) := by decide +kernel
theorem c136_82 : mc_cd 136 82 = some (.iand, 1) := by decide +kernel
theorem c136_83 : mc_cd 136 83 = some (.iload 5, 2) := by decide +kernel
theorem c136_85 : mc_cd 136 85 = some (.if_icmp .ne 29, 3) := by decide +kernel
theorem c136_88 : mc_cd 136 88 = some (.aload_n 2, 1) := by decide +kernel
theorem c136_89 : mc_cd 136 89 = some (.aload_n 1, 1) := by decide +kernel
theorem c136_90 : mc_cd 136 90 = some (.invokevirtual 51, 3) := by decide +kernel
theorem c136_93 : mc_cd 136 93 = some (.istore 9, 2) := by decide +kernel
theorem c136_95 : mc_cd 136 95 = some (.iload 9, 2) := by decide +kernel
theorem c136_97 : mc_cd 136 97 = some (.bipush 24, 2) := by decide +kernel
theorem c136_99 : mc_cd 136 99 = some (.if_icmp .ne 6, 3) := by decide +kernel
theorem c136_102 : mc_cd 136 102 = some (.bipush (-2), 2) := by decide +kernel
theorem c136_104 : mc_cd 136 104 = some (.ireturn, 1) := by decide +kernel
theorem c136_105 : mc_cd 136 105 = some (.iload 6, 2) := by decide +kernel
theorem c136_107 : mc_cd 136 107 = some (.iload 9, 2) := by decide +kernel
theorem c136_109 : mc_cd 136 109 = some (.invokestatic 55, 3) := by decide +kernel
theorem c136_112 : mc_cd 136 112 = some (.istore 6, 2) := by decide +kernel
theorem c136_114 : mc_cd 136 114 = some (.aload_n 2, 1) := by decide +kernel
theorem c136_115 : mc_cd 136 115 = some (.aload_n 1, 1) := by decide +kernel
theorem c136_116 : mc_cd 136 116 = some (.invokevirtual 61, 3) := by decide +kernel
theorem c136_119 : mc_cd 136 119 = some (.iinc 7 1, 3) := by decide +kernel
theorem c136_122 : mc_cd 136 122 = some (.goto (-88), 3) := by decide +kernel
theorem c136_125 : mc_cd 136 125 = some (.iload 6, 2) := by decide +kernel
theorem c136_127 : mc_cd 136 127 = some (.ireturn, 1) := by decide +kernel
abbrev q_136 (r0 : Nat) (r1 : Nat) (r2 : Nat) (a3 : Int) (T : wq_T) (H : wq_H) : Option Value → wq_T → wq_H → Prop := fun r T' H' => T = T' ∧ WT T H' ∧ wfr [(6, 5), (8, 999), (10, 999), (9, 999), (7, 999), (11, 999)] T H H' ∧ ∃ z : Int, some (vI z) = r ∧ ((-2147483648) ≤ z ∧ z ≤ 2147483647)
set_option maxHeartbeats 4000000 in
theorem s_136 {kt : Nat → Option mc_E} {T : wq_T} {H : wq_H} {r0 : Nat} {r1 : Nat} {r2 : Nat} {a3 : Int} (hW : WT T H) (g0 : T.2.2.2 r0 = some 25) (g1 : T.2.2.2 r1 = some 27) (g2 : T.2.2.2 r2 = some 6) (i3 : 0 ≤ a3 ∧ a3 ≤ 3) : wpc kt 4 136 [.ref r0, .ref r1, .ref r2, vI a3] T H (q_136 r0 r1 r2 a3 T H) := by
  refine wp_enter e136 (Nat.le_of_ble_eq_true rfl) rfl ?_
  have f0 : wfr [(6, 5), (8, 999), (10, 999), (9, 999), (7, 999), (11, 999)] T H H := wfr.rf
  show wp _ _ 136 0 [(0, .ref r0), (1, .ref r1), (2, .ref r2), (3, vI a3)] [] _ H _
  refine wp_of e136 c136_0 (rw_aload_n (pc' := 1) (v := .ref r1) rfl rfl rfl ?_)
  refine wp_of e136 c136_1 (xg_R (pc' := 4) lf_6_15 hW g1 sh_27 (by decide) (by decide) ty_27_0 rfl rfl (fun r45059 q45060 g45061 => ?_))
  refine wp_of e136 c136_4 (rw_aload_n (pc' := 5) (v := .ref r1) rfl rfl rfl ?_)
  refine wp_of e136 c136_5 (xg_R (pc' := 8) lf_6_21 hW g1 sh_27 (by decide) (by decide) ty_27_4 rfl rfl (fun r45062 q45063 g45064 => ?_))
  refine wp_of e136 c136_8 (rw_iload_n (pc' := 9) (z := a3) rfl rfl ?_)
  refine wp_of e136 c136_9 (xa_I (so := 0) (pc' := 10) hW g45064 sh_32 (by decide) (ty_32 _) (by omega) (by omega) rfl (fun b45065 b45066 => ?_))
  refine wp_of e136 c136_10 (xa_R (pc' := 11) (by decide) hW g45061 sh_28 (by decide) (ty_28 _) (by omega) (by omega) rfl (fun r45067 q45068 g45069 => ?_))
  refine wp_of e136 c136_11 (rw_astore (pc' := 13) (v := .ref r45067) (L' := [(4, .ref r45067), (0, .ref r0), (1, .ref r1), (2, .ref r2), (3, vI a3)]) rfl rfl rfl rfl ?_)
  refine wp_of e136 c136_13 (rw_aload_n (pc' := 14) (v := .ref r1) rfl rfl rfl ?_)
  refine wp_of e136 c136_14 (xg_R (pc' := 17) lf_6_25 hW g1 sh_27 (by decide) (by decide) ty_27_5 rfl rfl (fun r45070 q45071 g45072 => ?_))
  refine wp_of e136 c136_17 (rw_iload_n (pc' := 18) (z := a3) rfl rfl ?_)
  refine wp_of e136 c136_18 (xa_I (so := 0) (pc' := 19) hW g45072 sh_33 (by decide) (ty_33 _) (by omega) (by omega) rfl (fun b45073 b45074 => ?_))
  refine wp_of e136 c136_19 (rw_istore (pc' := 21) (z := H r45070 a3.toNat) (L' := [(5, vI (H r45070 a3.toNat)), (4, .ref r45067), (0, .ref r0), (1, .ref r1), (2, .ref r2), (3, vI a3)]) rfl rfl rfl ?_)
  refine wp_of e136 c136_21 (rw_sipush (pc' := 24) (z := -1000) rfl (by decide) ?_)
  refine wp_of e136 c136_24 (rw_istore (pc' := 26) (z := -1000) (L' := [(6, vI (-1000)), (5, vI (H r45070 a3.toNat)), (4, .ref r45067), (0, .ref r0), (1, .ref r1), (2, .ref r2), (3, vI a3)]) rfl rfl rfl ?_)
  refine wp_of e136 c136_26 (rw_aload_n (pc' := 27) (v := .ref r2) rfl rfl rfl ?_)
  refine wp_of e136 c136_27 (rw_aload_n (pc' := 28) (v := .ref r1) rfl rfl rfl ?_)
  refine wp_of e136 c136_28 (xc_V (pc' := 31) (r := r2) (as := [.ref r1]) (st := []) (lm_6_28) rfl rfl (Nat.le_of_ble_eq_true rfl) hW g2 sh_6 (by decide) rfl (by decide) (s_87 hW g2 g1) (fun R45075 T45076 H45077 p45078 => ?_))
  obtain ⟨e45079, w45081, f45082, e45080⟩ := p45078
  subst e45079
  subst e45080
  have f45083 := f0.tr f45082 rfl
  show wp _ _ 136 31 [(6, vI (-1000)), (5, vI (H r45070 a3.toNat)), (4, .ref r45067), (0, .ref r0), (1, .ref r1), (2, .ref r2), (3, vI a3)] [] _ H45077 _
  refine wp_of e136 c136_31 (rw_iconst (pc' := 32) rfl ?_)
  refine wp_of e136 c136_32 (rw_istore (pc' := 34) (z := 0) (L' := [(7, vI 0), (6, vI (-1000)), (5, vI (H r45070 a3.toNat)), (4, .ref r45067), (0, .ref r0), (1, .ref r1), (2, .ref r2), (3, vI a3)]) rfl rfl rfl ?_)
  have lp45692 : ∀ (n45693 : Nat) (v45695 : Int) (v45696 : Int) (H45697 : wq_H), WT T H45697 → wfr [(8, 999), (10, 999), (9, 999), (7, 999), (11, 999)] T H45077 H45697 → (0 ≤ v45695 ∧ v45695 ≤ 20000) → ((-1000) ≤ v45696 ∧ v45696 ≤ 23) → (20000 - v45695).toNat = n45693 → wp kt 3 136 34 [(7, vI v45695), (6, vI v45696), (5, vI (H r45070 a3.toNat)), (4, .ref r45067), (1, .ref r1), (2, .ref r2), (3, vI a3)] [] T H45697 (q_136 r0 r1 r2 a3 T H) := by
    intro n45693
    induction n45693 using Nat.strongRecOn with
    | _ n45693 ih45694 =>
      intro v45695 v45696 H45697 w45698 f45699 b45700 b45701 m45702
      have f45703 := f45083.tr f45699 rfl
      refine wp_of e136 c136_34 (rw_iload (pc' := 36) (z := v45695) rfl rfl ?_)
      refine wp_of e136 c136_36 (rw_i2l (pc' := 37) rfl ⟨by omega, by omega⟩ ?_)
      refine wp_of e136 c136_37 (rw_aload_n (pc' := 38) (v := .ref r1) rfl rfl rfl ?_)
      refine wp_of e136 c136_38 (xg_L (pc' := 41) lf_6_34 w45698 g1 sh_27 (by decide) (by decide) ty_27_18 rfl rfl (fun b45704 b45705 => ?_))
      refine wp_of e136 c136_41 (rw_lcmp (pc' := 42) rfl ⟨by omega, by omega⟩ ⟨by omega, by omega⟩ ?_)
      have b45706 := wq_cmp_b v45695 (H45697 r1 18)
      refine wp_of e136 c136_42 (rw_if_ge (p1 := 125) (p2 := 45) (by decide) rfl ⟨by omega, by omega⟩ (fun c45707 => ?_) (fun c45707 => ?_))
      · refine wp_of e136 c136_125 (rw_iload (pc' := 127) (z := v45696) rfl rfl ?_)
        exact wp_ireturn e136 c136_127 rfl ⟨rfl, w45698, f45703, v45696, rfl, ⟨by omega, by omega⟩⟩
      · refine wp_of e136 c136_45 (rw_iload (pc' := 47) (z := v45695) rfl rfl ?_)
        refine wp_of e136 c136_47 (rw_sipush (pc' := 50) (z := 20000) rfl (by decide) ?_)
        refine wp_of e136 c136_50 (rw_icmp_ge (p1 := 125) (p2 := 53) (by decide) rfl ⟨by omega, by omega⟩ ⟨by omega, by omega⟩ (fun c45708 => ?_) (fun c45708 => ?_))
        · refine wp_of e136 c136_125 (rw_iload (pc' := 127) (z := v45696) rfl rfl ?_)
          exact wp_ireturn e136 c136_127 rfl ⟨rfl, w45698, f45703, v45696, rfl, ⟨by omega, by omega⟩⟩
        · refine wp_of e136 c136_53 (rw_aload (pc' := 55) (v := .ref r45067) rfl rfl rfl ?_)
          refine wp_of e136 c136_55 (xg_R (pc' := 58) lf_6_38 w45698 g45069 sh_35 (by decide) (by decide) ty_35_2 rfl rfl (fun r45709 q45710 g45711 => ?_))
          refine wp_of e136 c136_58 (rw_aload_n (pc' := 59) (v := .ref r2) rfl rfl rfl ?_)
          refine wp_of e136 c136_59 (rw_aload_n (pc' := 60) (v := .ref r1) rfl rfl rfl ?_)
          have k45712 : H45697 r1 4 = H r1 4 := ((f45699 r1 4 _ g1 rfl).trans (f45082 r1 4 _ g1 rfl))
          have q45713 : H45697 r1 4 = (r45062 : Int) := k45712.trans q45063
          refine wp_of e136 c136_60 (xg_K (pc' := 63) lf_6_21 w45698 g1 sh_27 (by decide) (by decide) rfl q45713 rfl ?_)
          refine wp_of e136 c136_63 (rw_iload_n (pc' := 64) (z := a3) rfl rfl ?_)
          have k45714 : H45697 r45062 (a3.toNat) = H r45062 (a3.toNat) := ((f45699 r45062 (a3.toNat) _ g45064 rfl).trans (f45082 r45062 (a3.toNat) _ g45064 rfl))
          refine wp_of e136 c136_64 (xa_I (so := 0) (pc' := 65) w45698 g45064 sh_32 (by decide) (ty_32 _) (by omega) (by omega) rfl (fun b45715 b45716 => ?_))
          refine wp_of e136 c136_65 (xc_V (pc' := 68) (r := r2) (as := [vI (H45697 r45062 a3.toNat)]) (st := [.ref r45709]) (lm_6_43) rfl rfl (Nat.le_of_ble_eq_true rfl) w45698 g2 sh_6 (by decide) rfl (by decide) (s_89 w45698 g2 ⟨by omega, by omega⟩) (fun R45717 T45718 H45719 p45720 => ?_))
          obtain ⟨e45721, e45723, z45724, e45722, b45725⟩ := p45720
          subst e45721
          subst e45722
          subst e45723
          show wp _ _ 136 68 [(7, vI v45695), (6, vI v45696), (5, vI (H r45070 a3.toNat)), (4, .ref r45067), (1, .ref r1), (2, .ref r2), (3, vI a3)] [vI z45724, .ref r45709] _ H45697 _
          refine wp_of e136 c136_68 (xa_I (so := 0) (pc' := 69) w45698 g45711 sh_38 (by decide) (ty_38 _) (by omega) (by omega) rfl (fun b45726 b45727 => ?_))
          refine wp_of e136 c136_69 (rw_istore (pc' := 71) (z := H45697 r45709 z45724.toNat) (L' := [(8, vI (H45697 r45709 z45724.toNat)), (7, vI v45695), (6, vI v45696), (5, vI (H r45070 a3.toNat)), (4, .ref r45067), (1, .ref r1), (2, .ref r2), (3, vI a3)]) rfl rfl rfl ?_)
          refine wp_of e136 c136_71 (rw_aload_n (pc' := 72) (v := .ref r2) rfl rfl rfl ?_)
          refine wp_of e136 c136_72 (xc_V (pc' := 75) (r := r2) (as := []) (st := []) (lm_6_47) rfl rfl (Nat.le_of_ble_eq_true rfl) w45698 g2 sh_6 (by decide) rfl (by decide) (s_80 w45698 g2) (fun R45728 T45729 H45730 p45731 => ?_))
          obtain ⟨e45732, e45734, z45735, e45733, b45736⟩ := p45731
          subst e45732
          subst e45733
          subst e45734
          show wp _ _ 136 75 [(8, vI (H45697 r45709 z45724.toNat)), (7, vI v45695), (6, vI v45696), (5, vI (H r45070 a3.toNat)), (4, .ref r45067), (1, .ref r1), (2, .ref r2), (3, vI a3)] [vI z45735] _ H45697 _
          refine wp_of e136 c136_75 (rw_if_ne (p1 := 114) (p2 := 78) (by decide) rfl ⟨by omega, by omega⟩ (fun c45737 => ?_) (fun c45737 => ?_))
          · refine wp_of e136 c136_114 (rw_aload_n (pc' := 115) (v := .ref r2) rfl rfl rfl ?_)
            refine wp_of e136 c136_115 (rw_aload_n (pc' := 116) (v := .ref r1) rfl rfl rfl ?_)
            refine wp_of e136 c136_116 (xc_V (pc' := 119) (r := r2) (as := [.ref r1]) (st := []) (lm_6_61) rfl rfl (Nat.le_of_ble_eq_true rfl) w45698 g2 sh_6 (by decide) rfl (by decide) (s_91 w45698 g2 g1) (fun R45738 T45739 H45740 p45741 => ?_))
            obtain ⟨e45742, w45744, f45745, e45743⟩ := p45741
            subst e45742
            subst e45743
            have f45746 := f45703.tr f45745 rfl
            have f45747 := f45699.tr f45745 rfl
            show wp _ _ 136 119 [(8, vI (H45697 r45709 z45724.toNat)), (7, vI v45695), (6, vI v45696), (5, vI (H r45070 a3.toNat)), (4, .ref r45067), (1, .ref r1), (2, .ref r2), (3, vI a3)] [] _ H45740 _
            refine wp_of e136 c136_119 (rw_iinc (pc' := 122) (z := v45695) (L' := [(7, vI (v45695 + 1)), (8, vI (H45697 r45709 z45724.toNat)), (6, vI v45696), (5, vI (H r45070 a3.toNat)), (4, .ref r45067), (1, .ref r1), (2, .ref r2), (3, vI a3)]) rfl rfl rfl rfl ?_)
            refine wp_of e136 c136_122 (rw_goto (p1 := 34) (by decide) ?_)
            exact wp_lc (ks := [7, 8, 6, 5, 4, 1, 2, 3]) (wl_c rfl (wl_c rfl (wl_c rfl (wl_c rfl (wl_c rfl (wl_c rfl (wl_c rfl wl_n))))))) rfl (by decide) (ih45694 _ (by omega) (v45695 + 1) v45696 H45740 w45744 f45747 ⟨by omega, by omega⟩ ⟨by omega, by omega⟩ rfl)
          · refine wp_of e136 c136_78 (rw_iload (pc' := 80) (z := H45697 r45709 z45724.toNat) rfl rfl ?_)
            refine wp_of e136 c136_80 (rw_iload (pc' := 82) (z := H r45070 a3.toNat) rfl rfl ?_)
            refine wp_of e136 c136_82 (rw_iand (pc' := 83) rfl ?_)
            obtain ⟨v45748, e45749⟩ : ∃ x : Int, x = wq_and (H45697 r45709 z45724.toNat) (H r45070 a3.toNat) := ⟨_, rfl⟩
            rw [← e45749]
            have b45750 : -2147483648 ≤ v45748 ∧ v45748 ≤ 2147483647 := by
              rw [e45749]
              exact wI_and _ _
            refine wp_of e136 c136_83 (rw_iload (pc' := 85) (z := H r45070 a3.toNat) rfl rfl ?_)
            refine wp_of e136 c136_85 (rw_icmp_ne (p1 := 114) (p2 := 88) (by decide) rfl ⟨by omega, by omega⟩ ⟨by omega, by omega⟩ (fun c45751 => ?_) (fun c45751 => ?_))
            · refine wp_of e136 c136_114 (rw_aload_n (pc' := 115) (v := .ref r2) rfl rfl rfl ?_)
              refine wp_of e136 c136_115 (rw_aload_n (pc' := 116) (v := .ref r1) rfl rfl rfl ?_)
              refine wp_of e136 c136_116 (xc_V (pc' := 119) (r := r2) (as := [.ref r1]) (st := []) (lm_6_61) rfl rfl (Nat.le_of_ble_eq_true rfl) w45698 g2 sh_6 (by decide) rfl (by decide) (s_91 w45698 g2 g1) (fun R45752 T45753 H45754 p45755 => ?_))
              obtain ⟨e45756, w45758, f45759, e45757⟩ := p45755
              subst e45756
              subst e45757
              have f45760 := f45703.tr f45759 rfl
              have f45761 := f45699.tr f45759 rfl
              show wp _ _ 136 119 [(8, vI (H45697 r45709 z45724.toNat)), (7, vI v45695), (6, vI v45696), (5, vI (H r45070 a3.toNat)), (4, .ref r45067), (1, .ref r1), (2, .ref r2), (3, vI a3)] [] _ H45754 _
              refine wp_of e136 c136_119 (rw_iinc (pc' := 122) (z := v45695) (L' := [(7, vI (v45695 + 1)), (8, vI (H45697 r45709 z45724.toNat)), (6, vI v45696), (5, vI (H r45070 a3.toNat)), (4, .ref r45067), (1, .ref r1), (2, .ref r2), (3, vI a3)]) rfl rfl rfl rfl ?_)
              refine wp_of e136 c136_122 (rw_goto (p1 := 34) (by decide) ?_)
              exact wp_lc (ks := [7, 8, 6, 5, 4, 1, 2, 3]) (wl_c rfl (wl_c rfl (wl_c rfl (wl_c rfl (wl_c rfl (wl_c rfl (wl_c rfl wl_n))))))) rfl (by decide) (ih45694 _ (by omega) (v45695 + 1) v45696 H45754 w45758 f45761 ⟨by omega, by omega⟩ ⟨by omega, by omega⟩ rfl)
            · refine wp_of e136 c136_88 (rw_aload_n (pc' := 89) (v := .ref r2) rfl rfl rfl ?_)
              refine wp_of e136 c136_89 (rw_aload_n (pc' := 90) (v := .ref r1) rfl rfl rfl ?_)
              refine wp_of e136 c136_90 (xc_V (pc' := 93) (r := r2) (as := [.ref r1]) (st := []) (lm_6_51) rfl rfl (Nat.le_of_ble_eq_true rfl) w45698 g2 sh_6 (by decide) rfl (by decide) (s_81 w45698 g2 g1) (fun R45762 T45763 H45764 p45765 => ?_))
              obtain ⟨e45766, e45768, z45769, e45767, b45770⟩ := p45765
              subst e45766
              subst e45767
              subst e45768
              show wp _ _ 136 93 [(8, vI (H45697 r45709 z45724.toNat)), (7, vI v45695), (6, vI v45696), (5, vI (H r45070 a3.toNat)), (4, .ref r45067), (1, .ref r1), (2, .ref r2), (3, vI a3)] [vI z45769] _ H45697 _
              refine wp_of e136 c136_93 (rw_istore (pc' := 95) (z := z45769) (L' := [(9, vI z45769), (8, vI (H45697 r45709 z45724.toNat)), (7, vI v45695), (6, vI v45696), (5, vI (H r45070 a3.toNat)), (4, .ref r45067), (1, .ref r1), (2, .ref r2), (3, vI a3)]) rfl rfl rfl ?_)
              refine wp_of e136 c136_95 (rw_iload (pc' := 97) (z := z45769) rfl rfl ?_)
              refine wp_of e136 c136_97 (rw_bipush (pc' := 99) (z := 24) rfl (by decide) ?_)
              refine wp_of e136 c136_99 (rw_icmp_ne (p1 := 105) (p2 := 102) (by decide) rfl ⟨by omega, by omega⟩ ⟨by omega, by omega⟩ (fun c45771 => ?_) (fun c45771 => ?_))
              · refine wp_of e136 c136_105 (rw_iload (pc' := 107) (z := v45696) rfl rfl ?_)
                refine wp_of e136 c136_107 (rw_iload (pc' := 109) (z := z45769) rfl rfl ?_)
                refine wp_of e136 c136_109 (rw_math2 (pc' := 112) (z := max v45696 z45769) rfl rfl ⟨by omega, by omega⟩ ⟨by omega, by omega⟩ (Or.inr ⟨rfl, rfl⟩) (Nat.le_of_ble_eq_true rfl) rfl ?_)
                obtain ⟨v45772, e45773⟩ : ∃ x : Int, x = max v45696 z45769 := ⟨_, rfl⟩
                rw [← e45773]
                have b45774 : v45772 = v45696 ∨ v45772 = z45769 := by
                  rw [e45773]
                  omega
                have b45775 : v45696 ≤ v45772 ∧ z45769 ≤ v45772 := by
                  rw [e45773]
                  omega
                refine wp_of e136 c136_112 (rw_istore (pc' := 114) (z := v45772) (L' := [(6, vI v45772), (9, vI z45769), (8, vI (H45697 r45709 z45724.toNat)), (7, vI v45695), (5, vI (H r45070 a3.toNat)), (4, .ref r45067), (1, .ref r1), (2, .ref r2), (3, vI a3)]) rfl rfl rfl ?_)
                refine wp_of e136 c136_114 (rw_aload_n (pc' := 115) (v := .ref r2) rfl rfl rfl ?_)
                refine wp_of e136 c136_115 (rw_aload_n (pc' := 116) (v := .ref r1) rfl rfl rfl ?_)
                refine wp_of e136 c136_116 (xc_V (pc' := 119) (r := r2) (as := [.ref r1]) (st := []) (lm_6_61) rfl rfl (Nat.le_of_ble_eq_true rfl) w45698 g2 sh_6 (by decide) rfl (by decide) (s_91 w45698 g2 g1) (fun R45776 T45777 H45778 p45779 => ?_))
                obtain ⟨e45780, w45782, f45783, e45781⟩ := p45779
                subst e45780
                subst e45781
                have f45784 := f45703.tr f45783 rfl
                have f45785 := f45699.tr f45783 rfl
                show wp _ _ 136 119 [(6, vI v45772), (9, vI z45769), (8, vI (H45697 r45709 z45724.toNat)), (7, vI v45695), (5, vI (H r45070 a3.toNat)), (4, .ref r45067), (1, .ref r1), (2, .ref r2), (3, vI a3)] [] _ H45778 _
                refine wp_of e136 c136_119 (rw_iinc (pc' := 122) (z := v45695) (L' := [(7, vI (v45695 + 1)), (6, vI v45772), (9, vI z45769), (8, vI (H45697 r45709 z45724.toNat)), (5, vI (H r45070 a3.toNat)), (4, .ref r45067), (1, .ref r1), (2, .ref r2), (3, vI a3)]) rfl rfl rfl rfl ?_)
                refine wp_of e136 c136_122 (rw_goto (p1 := 34) (by decide) ?_)
                exact wp_lc (ks := [7, 6, 9, 8, 5, 4, 1, 2, 3]) (wl_c rfl (wl_c rfl (wl_c rfl (wl_c rfl (wl_c rfl (wl_c rfl (wl_c rfl wl_n))))))) rfl (by decide) (ih45694 _ (by omega) (v45695 + 1) v45772 H45778 w45782 f45785 ⟨by omega, by omega⟩ ⟨by omega, by omega⟩ rfl)
              · refine wp_of e136 c136_102 (rw_bipush (pc' := 104) (z := -2) rfl (by decide) ?_)
                exact wp_ireturn e136 c136_104 rfl ⟨rfl, w45698, f45703, -2, rfl, ⟨by omega, by omega⟩⟩
  exact wp_lc (ks := [7, 6, 5, 4, 0, 1, 2, 3]) (wl_c rfl (wl_c rfl (wl_c rfl (wl_c rfl (wl_c rfl (wl_c rfl (wl_c rfl wl_n))))))) rfl (by decide) (lp45692 _ 0 (-1000) H45077 w45081 wfr.rf ⟨by omega, by omega⟩ ⟨by omega, by omega⟩ rfl)
/-! StrikeAwake.bars(I)I -/
theorem e135 : wq_en 135 = some (0, 3, false, some FieldType.int) := rfl
theorem c135_0 : mc_cd 135 0 = some (.aload_n 0, 1) := by decide +kernel
theorem c135_1 : mc_cd 135 1 = some (.aload_n 0, 1) := by decide +kernel
theorem c135_2 : mc_cd 135 2 = some (.iload_n 1, 1) := by decide +kernel
theorem c135_3 : mc_cd 135 3 = some (.invokevirtual 238, 3) := by decide +kernel
theorem c135_6 : mc_cd 135 6 = some (.invokevirtual 245, 3) := by decide +kernel
theorem c135_9 : mc_cd 135 9 = some (.istore_n 2, 1) := by decide +kernel
theorem c135_10 : mc_cd 135 10 = some (.iload_n 2, 1) := by decide +kernel
theorem c135_11 : mc_cd 135 11 = some (.ifCond .eq 9, 3) := by decide +kernel
theorem c135_14 : mc_cd 135 14 = some (.aload_n 0, 1) := by decide +kernel
theorem c135_15 : mc_cd 135 15 = some (.iload_n 2, 1) := by decide +kernel
theorem c135_16 : mc_cd 135 16 = some (.invokevirtual 70, 3) := by decide +kernel
theorem c135_19 : mc_cd 135 19 = some (.ireturn, 1) := by decide +kernel
theorem c135_20 : mc_cd 135 20 = some (.aload_n 0, 1) := by decide +kernel
theorem c135_21 : mc_cd 135 21 = some (.aload_n 0, 1) := by decide +kernel
theorem c135_22 : mc_cd 135 22 = some (.getfield 44, 3) := by decide +kernel
theorem c135_25 : mc_cd 135 25 = some (.aload_n 0, 1) := by decide +kernel
theorem c135_26 : mc_cd 135 26 = some (.getfield 51, 3) := by decide +kernel
theorem c135_29 : mc_cd 135 29 = some (.aload_n 0, 1) := by decide +kernel
theorem c135_30 : mc_cd 135 30 = some (.getfield 23, 3) := by decide +kernel
theorem c135_33 : mc_cd 135 33 = some (.iload_n 1, 1) := by decide +kernel
theorem c135_34 : mc_cd 135 34 = some (.invokevirtual 248, 3) := by decide +kernel
theorem c135_37 : mc_cd 135 37 = some (.invokevirtual 99, 3) := by decide +kernel
theorem c135_40 : mc_cd 135 40 = some (.ireturn, 1) := by decide +kernel
abbrev q_135 (r0 : Nat) (a1 : Int) (T : wq_T) (H : wq_H) : Option Value → wq_T → wq_H → Prop := fun r T' H' => T = T' ∧ WT T H' ∧ wfr [(1, 10), (6, 5), (8, 999), (10, 999), (9, 999), (7, 999), (11, 999)] T H H' ∧ ∃ z : Int, some (vI z) = r ∧ ((-2147483648) ≤ z ∧ z ≤ 2147483647)
set_option maxHeartbeats 4000000 in
theorem s_135 {kt : Nat → Option mc_E} {T : wq_T} {H : wq_H} {r0 : Nat} {a1 : Int} (hW : WT T H) (g0 : T.2.2.2 r0 = some 1) (i1 : (-2147483648) ≤ a1 ∧ a1 ≤ 2147483647) : wpc kt 5 135 [.ref r0, vI a1] T H (q_135 r0 a1 T H) := by
  refine wp_enter e135 (Nat.le_of_ble_eq_true rfl) rfl ?_
  have f0 : wfr [(1, 10), (6, 5), (8, 999), (10, 999), (9, 999), (7, 999), (11, 999)] T H H := wfr.rf
  show wp _ _ 135 0 [(0, .ref r0), (1, vI a1)] [] _ H _
  refine wp_of e135 c135_0 (rw_aload_n (pc' := 1) (v := .ref r0) rfl rfl rfl ?_)
  refine wp_of e135 c135_1 (rw_aload_n (pc' := 2) (v := .ref r0) rfl rfl rfl ?_)
  refine wp_of e135 c135_2 (rw_iload_n (pc' := 3) (z := a1) rfl rfl ?_)
  refine wp_of e135 c135_3 (xc_V (pc' := 6) (r := r0) (as := [vI a1]) (st := [.ref r0]) (lm_0_238) rfl rfl (Nat.le_of_ble_eq_true rfl) hW g0 sh_1 (by decide) rfl (by decide) (s_133 hW g0 ⟨by omega, by omega⟩) (fun R45849 T45850 H45851 p45852 => ?_))
  obtain ⟨e45853, e45855, z45857, e45854, b45858, p45856⟩ := p45852
  subst e45853
  subst e45854
  subst e45855
  show wp _ _ 135 6 [(0, .ref r0), (1, vI a1)] [vI z45857, .ref r0] _ H _
  refine wp_of e135 c135_6 (xc_V (pc' := 9) (r := r0) (as := [vI z45857]) (st := []) (lm_0_245) rfl rfl (Nat.le_of_ble_eq_true rfl) hW g0 sh_1 (by decide) rfl (by decide) (s_84 hW g0 ⟨by omega, by omega⟩) (fun R45859 T45860 H45861 p45862 => ?_))
  obtain ⟨e45863, e45865, z45867, e45864, b45868, p45866⟩ := p45862
  subst e45863
  subst e45864
  subst e45865
  show wp _ _ 135 9 [(0, .ref r0), (1, vI a1)] [vI z45867] _ H _
  refine wp_of e135 c135_9 (rw_istore_n (pc' := 10) (z := z45867) (L' := [(2, vI z45867), (0, .ref r0), (1, vI a1)]) rfl rfl rfl ?_)
  refine wp_of e135 c135_10 (rw_iload_n (pc' := 11) (z := z45867) rfl rfl ?_)
  refine wp_of e135 c135_11 (rw_if_eq (p1 := 20) (p2 := 14) (by decide) rfl ⟨by omega, by omega⟩ (fun c45869 => ?_) (fun c45869 => ?_))
  · refine wp_of e135 c135_20 (rw_aload_n (pc' := 21) (v := .ref r0) rfl rfl rfl ?_)
    refine wp_of e135 c135_21 (rw_aload_n (pc' := 22) (v := .ref r0) rfl rfl rfl ?_)
    refine wp_of e135 c135_22 (xg_R (pc' := 25) lf_0_44 hW g0 sh_1 (by decide) (by decide) ty_1_5 rfl rfl (fun r45870 q45871 g45872 => ?_))
    refine wp_of e135 c135_25 (rw_aload_n (pc' := 26) (v := .ref r0) rfl rfl rfl ?_)
    refine wp_of e135 c135_26 (xg_R (pc' := 29) lf_0_51 hW g0 sh_1 (by decide) (by decide) ty_1_6 rfl rfl (fun r45873 q45874 g45875 => ?_))
    refine wp_of e135 c135_29 (rw_aload_n (pc' := 30) (v := .ref r0) rfl rfl rfl ?_)
    refine wp_of e135 c135_30 (xg_R (pc' := 33) lf_0_23 hW g0 sh_1 (by decide) (by decide) ty_1_2 rfl rfl (fun r45876 q45877 g45878 => ?_))
    refine wp_of e135 c135_33 (rw_iload_n (pc' := 34) (z := a1) rfl rfl ?_)
    refine wp_of e135 c135_34 (xc_V (pc' := 37) (r := r45870) (as := [.ref r45873, .ref r45876, vI a1]) (st := [.ref r0]) (lm_0_248) rfl rfl (Nat.le_of_ble_eq_true rfl) hW g45872 sh_25 (by decide) rfl (by decide) (s_136 hW g45872 g45875 g45878 ⟨by omega, by omega⟩) (fun R45879 T45880 H45881 p45882 => ?_))
    obtain ⟨e45883, w45885, f45886, z45887, e45884, b45888⟩ := p45882
    subst e45883
    subst e45884
    have f45889 := f0.tr f45886 rfl
    show wp _ _ 135 37 [(2, vI z45867), (0, .ref r0), (1, vI a1)] [vI z45887, .ref r0] _ H45881 _
    refine wp_of e135 c135_37 (xc_V (pc' := 40) (r := r0) (as := [vI z45887]) (st := []) (lm_0_99) rfl rfl (Nat.le_of_ble_eq_true rfl) w45885 g0 sh_1 (by decide) rfl (by decide) (s_51 w45885 g0 ⟨by omega, by omega⟩) (fun R45890 T45891 H45892 p45893 => ?_))
    obtain ⟨e45894, w45896, f45897, z45898, e45895, b45899⟩ := p45893
    subst e45894
    subst e45895
    have f45900 := f45889.tr f45897 rfl
    show wp _ _ 135 40 [(2, vI z45867), (0, .ref r0), (1, vI a1)] [vI z45898] _ H45892 _
    exact wp_ireturn e135 c135_40 rfl ⟨rfl, w45896, f45900, z45898, rfl, ⟨by omega, by omega⟩⟩
  · refine wp_of e135 c135_14 (rw_aload_n (pc' := 15) (v := .ref r0) rfl rfl rfl ?_)
    refine wp_of e135 c135_15 (rw_iload_n (pc' := 16) (z := z45867) rfl rfl ?_)
    refine wp_of e135 c135_16 (xc_V (pc' := 19) (r := r0) (as := [vI z45867]) (st := []) (lm_0_70) rfl rfl (Nat.le_of_ble_eq_true rfl) hW g0 sh_1 (by decide) rfl (by decide) (s_12 hW g0 ⟨by omega, by omega⟩) (fun R45901 T45902 H45903 p45904 => ?_))
    obtain ⟨e45905, w45907, f45908, z45909, e45906, b45910⟩ := p45904
    subst e45905
    subst e45906
    have f45911 := f0.tr f45908 rfl
    show wp _ _ 135 19 [(2, vI z45867), (0, .ref r0), (1, vI a1)] [vI z45909] _ H45903 _
    exact wp_ireturn e135 c135_19 rfl ⟨rfl, w45907, f45911, z45909, rfl, ⟨by omega, by omega⟩⟩
/-! StrikeAwake$Grounds.flawsOf(LStrikeAwake$Parish;LStrikeAwake$Walk;)J -/
theorem e140 : wq_en 140 = some (6, 7, false, some FieldType.long) := rfl
theorem c140_0 : mc_cd 140 0 = some (.lconst 0, 1) := by decide +kernel
theorem c140_1 : mc_cd 140 1 = some (.lstore_n 2, 1) := by decide +kernel
theorem c140_2 : mc_cd 140 2 = some (.iconst 0, 1) := by decide +kernel
theorem c140_3 : mc_cd 140 3 = some (.istore 4, 2) := by decide +kernel
theorem c140_5 : mc_cd 140 5 = some (.iload 4, 2) := by decide +kernel
theorem c140_7 : mc_cd 140 7 = some (.aload_n 0, 1) := by decide +kernel
theorem c140_8 : mc_cd 140 8 = some (.getfield 88, 3) := by decide +kernel
theorem c140_11 : mc_cd 140 11 = some (.if_icmp .ge 64, 3) := by decide +kernel
theorem c140_14 : mc_cd 140 14 = some (.aload_n 0, 1) := by decide +kernel
theorem c140_15 : mc_cd 140 15 = some (.getfield 91, 3) := by decide +kernel
theorem c140_18 : mc_cd 140 18 = some (.iload 4, 2) := by decide +kernel
theorem c140_20 : mc_cd 140 20 = some (.iaload, 1) := by decide +kernel
theorem c140_21 : mc_cd 140 21 = some (.istore 5, 2) := by decide +kernel
theorem c140_23 : mc_cd 140 23 = some (.aload_n 0, 1) := by decide +kernel
theorem c140_24 : mc_cd 140 24 = some (.iload 5, 2) := by decide +kernel
theorem c140_26 : mc_cd 140 26 = some (.aload_n 1, 1) := by decide +kernel
theorem c140_27 : mc_cd 140 27 = some (.iload 5, 2) := by decide +kernel
theorem c140_29 : mc_cd 140 29 = some (.invokevirtual 94, 3) := by decide +kernel
theorem c140_32 : mc_cd 140 32 = some (.invokevirtual 97, 3) := by decide +kernel
theorem c140_35 : mc_cd 140 35 = some (.istore 6, 2) := by decide +kernel
theorem c140_37 : mc_cd 140 37 = some (.iload 6, 2) := by decide +kernel
theorem c140_39 : mc_cd 140 39 = some (.iconst 2, 1) := by decide +kernel
theorem c140_40 : mc_cd 140 40 = some (.if_icmp .ne 13, 3) := by decide +kernel
theorem c140_43 : mc_cd 140 43 = some (.lload_n 2, 1) := by decide +kernel
theorem c140_44 : mc_cd 140 44 = some (.lconst 1, 1) := by decide +kernel
theorem c140_45 : mc_cd 140 45 = some (.iload 5, 2) := by decide +kernel
theorem c140_47 : mc_cd 140 47 = some (.lshl, 1) := by decide +kernel
theorem c140_48 : mc_cd 140 48 = some (.lor, 1) := by decide +kernel
theorem c140_49 : mc_cd 140 49 = some (.lstore_n 2, 1) := by decide +kernel
theorem c140_50 : mc_cd 140 50 = some (.goto 19, 3) := by decide +kernel
theorem c140_53 : mc_cd 140 53 = some (.iload 6, 2) := by decide +kernel
theorem c140_55 : mc_cd 140 55 = some (.iconst 1, 1) := by decide +kernel
theorem c140_56 : mc_cd 140 56 = some (.if_icmp .ne 13, 3) := by decide +kernel
theorem c140_59 : mc_cd 140 59 = some (.lload_n 2, 1) := by decide +kernel
theorem c140_60 : mc_cd 140 60 = some (.lconst 1, 1) := by decide +kernel
theorem c140_61 : mc_cd 140 61 = some (.iload 5, 2) := by decide +kernel
theorem c140_63 : mc_cd 140 63 = some (.bipush 32, 2) := by decide +kernel
theorem c140_65 : mc_cd 140 65 = some (.iadd, 1) := by decide +kernel
theorem c140_66 : mc_cd 140 66 = some (.lshl, 1) := by decide +kernel
theorem c140_67 : mc_cd 140 67 = some (.lor, 1) := by decide +kernel
theorem c140_68 : mc_cd 140 68 = some (.lstore_n 2, 1) := by decide +kernel
theorem c140_69 : mc_cd 140 69 = some (.iinc 4 1, 3) := by decide +kernel
theorem c140_72 : mc_cd 140 72 = some (.goto (-67), 3) := by decide +kernel
theorem c140_75 : mc_cd 140 75 = some (.lload_n 2, 1) := by decide +kernel
theorem c140_76 : mc_cd 140 76 = some (.lreturn, 1) := by decide +kernel
abbrev q_140 (r0 : Nat) (r1 : Nat) (T : wq_T) (H : wq_H) : Option Value → wq_T → wq_H → Prop := fun r T' H' => T = T' ∧ H = H' ∧ ∃ z : Int, some (vL z) = r ∧ ((-9223372036854775808) ≤ z ∧ z ≤ 9223372036854775807)
set_option maxHeartbeats 4000000 in
theorem s_140 {kt : Nat → Option mc_E} {T : wq_T} {H : wq_H} {r0 : Nat} {r1 : Nat} (hW : WT T H) (g0 : T.2.2.2 r0 = some 27) (g1 : T.2.2.2 r1 = some 6) : wpc kt 2 140 [.ref r0, .ref r1] T H (q_140 r0 r1 T H) := by
  refine wp_enter e140 (Nat.le_of_ble_eq_true rfl) rfl ?_
  show wp _ _ 140 0 [(0, .ref r0), (1, .ref r1)] [] _ H _
  refine wp_of e140 c140_0 (rw_lconst (pc' := 1) (z := 0) rfl rfl ?_)
  refine wp_of e140 c140_1 (rw_lstore_n (pc' := 2) (z := 0) (L' := [(2, vL 0), (0, .ref r0), (1, .ref r1)]) rfl rfl rfl ?_)
  refine wp_of e140 c140_2 (rw_iconst (pc' := 3) rfl ?_)
  refine wp_of e140 c140_3 (rw_istore (pc' := 5) (z := 0) (L' := [(4, vI 0), (2, vL 0), (0, .ref r0), (1, .ref r1)]) rfl rfl rfl ?_)
  have lp46525 : ∀ (n46526 : Nat) (v46528 : Int) (v46529 : Int), (0 ≤ v46528 ∧ v46528 ≤ 24) → ((-9223372036854775808) ≤ v46529 ∧ v46529 ≤ 9223372036854775807) → (24 - v46528).toNat = n46526 → wp kt 1 140 5 [(4, vI v46528), (2, vL v46529), (0, .ref r0), (1, .ref r1)] [] T H (q_140 r0 r1 T H) := by
    intro n46526
    induction n46526 using Nat.strongRecOn with
    | _ n46526 ih46527 =>
      intro v46528 v46529 b46532 b46533 m46534
      refine wp_of e140 c140_5 (rw_iload (pc' := 7) (z := v46528) rfl rfl ?_)
      refine wp_of e140 c140_7 (rw_aload_n (pc' := 8) (v := .ref r0) rfl rfl rfl ?_)
      refine wp_of e140 c140_8 (xg_I (pc' := 11) lf_6_88 hW g0 sh_27 (by decide) (by decide) ty_27_16 rfl rfl (fun b46535 b46536 => ?_))
      refine wp_of e140 c140_11 (rw_icmp_ge (p1 := 75) (p2 := 14) (by decide) rfl ⟨by omega, by omega⟩ ⟨by omega, by omega⟩ (fun c46537 => ?_) (fun c46537 => ?_))
      · refine wp_of e140 c140_75 (rw_lload_n (pc' := 76) (z := v46529) rfl rfl ?_)
        exact wp_lreturn e140 c140_76 rfl ⟨rfl, rfl, v46529, rfl, ⟨by omega, by omega⟩⟩
      · refine wp_of e140 c140_14 (rw_aload_n (pc' := 15) (v := .ref r0) rfl rfl rfl ?_)
        refine wp_of e140 c140_15 (xg_R (pc' := 18) lf_6_91 hW g0 sh_27 (by decide) (by decide) ty_27_2 rfl rfl (fun r46538 q46539 g46540 => ?_))
        refine wp_of e140 c140_18 (rw_iload (pc' := 20) (z := v46528) rfl rfl ?_)
        refine wp_of e140 c140_20 (xa_I (so := 0) (pc' := 21) hW g46540 sh_30 (by decide) (ty_30 _) (by omega) (by omega) rfl (fun b46541 b46542 => ?_))
        refine wp_of e140 c140_21 (rw_istore (pc' := 23) (z := H r46538 v46528.toNat) (L' := [(5, vI (H r46538 v46528.toNat)), (4, vI v46528), (2, vL v46529), (0, .ref r0), (1, .ref r1)]) rfl rfl rfl ?_)
        refine wp_of e140 c140_23 (rw_aload_n (pc' := 24) (v := .ref r0) rfl rfl rfl ?_)
        refine wp_of e140 c140_24 (rw_iload (pc' := 26) (z := H r46538 v46528.toNat) rfl rfl ?_)
        refine wp_of e140 c140_26 (rw_aload_n (pc' := 27) (v := .ref r1) rfl rfl rfl ?_)
        refine wp_of e140 c140_27 (rw_iload (pc' := 29) (z := H r46538 v46528.toNat) rfl rfl ?_)
        refine wp_of e140 c140_29 (xc_V (pc' := 32) (r := r1) (as := [vI (H r46538 v46528.toNat)]) (st := [vI (H r46538 v46528.toNat), .ref r0]) (lm_6_94) rfl rfl (Nat.le_of_ble_eq_true rfl) hW g1 sh_6 (by decide) rfl (by decide) (s_72 hW g1 ⟨by omega, by omega⟩) (fun R46543 T46544 H46545 p46546 => ?_))
        obtain ⟨e46547, e46549, z46550, e46548, b46551⟩ := p46546
        subst e46547
        subst e46548
        subst e46549
        show wp _ _ 140 32 [(5, vI (H r46538 v46528.toNat)), (4, vI v46528), (2, vL v46529), (0, .ref r0), (1, .ref r1)] [vI z46550, vI (H r46538 v46528.toNat), .ref r0] _ H _
        refine wp_of e140 c140_32 (xc_V (pc' := 35) (r := r0) (as := [vI (H r46538 v46528.toNat), vI z46550]) (st := []) (lm_6_97) rfl rfl (Nat.le_of_ble_eq_true rfl) hW g0 sh_27 (by decide) rfl (by decide) (s_76 hW g0 ⟨by omega, by omega⟩ ⟨by omega, by omega⟩) (fun R46552 T46553 H46554 p46555 => ?_))
        obtain ⟨e46556, e46558, z46559, e46557, b46560⟩ := p46555
        subst e46556
        subst e46557
        subst e46558
        show wp _ _ 140 35 [(5, vI (H r46538 v46528.toNat)), (4, vI v46528), (2, vL v46529), (0, .ref r0), (1, .ref r1)] [vI z46559] _ H _
        refine wp_of e140 c140_35 (rw_istore (pc' := 37) (z := z46559) (L' := [(6, vI z46559), (5, vI (H r46538 v46528.toNat)), (4, vI v46528), (2, vL v46529), (0, .ref r0), (1, .ref r1)]) rfl rfl rfl ?_)
        refine wp_of e140 c140_37 (rw_iload (pc' := 39) (z := z46559) rfl rfl ?_)
        refine wp_of e140 c140_39 (rw_iconst (pc' := 40) rfl ?_)
        refine wp_of e140 c140_40 (rw_icmp_ne (p1 := 53) (p2 := 43) (by decide) rfl ⟨by omega, by omega⟩ ⟨by omega, by omega⟩ (fun c46561 => ?_) (fun c46561 => ?_))
        · refine wp_of e140 c140_53 (rw_iload (pc' := 55) (z := z46559) rfl rfl ?_)
          refine wp_of e140 c140_55 (rw_iconst (pc' := 56) rfl ?_)
          refine wp_of e140 c140_56 (rw_icmp_ne (p1 := 69) (p2 := 59) (by decide) rfl ⟨by omega, by omega⟩ ⟨by omega, by omega⟩ (fun c46562 => ?_) (fun c46562 => ?_))
          · refine wp_of e140 c140_69 (rw_iinc (pc' := 72) (z := v46528) (L' := [(4, vI (v46528 + 1)), (6, vI z46559), (5, vI (H r46538 v46528.toNat)), (2, vL v46529), (0, .ref r0), (1, .ref r1)]) rfl rfl rfl rfl ?_)
            refine wp_of e140 c140_72 (rw_goto (p1 := 5) (by decide) ?_)
            exact wp_lc (ks := [4, 6, 5, 2, 0, 1]) (wl_c rfl (wl_c rfl (wl_c rfl (wl_c rfl wl_n)))) rfl (by decide) (ih46527 _ (by omega) (v46528 + 1) v46529 ⟨by omega, by omega⟩ ⟨by omega, by omega⟩ rfl)
          · refine wp_of e140 c140_59 (rw_lload_n (pc' := 60) (z := v46529) rfl rfl ?_)
            refine wp_of e140 c140_60 (rw_lconst (pc' := 61) (z := 1) rfl rfl ?_)
            refine wp_of e140 c140_61 (rw_iload (pc' := 63) (z := H r46538 v46528.toNat) rfl rfl ?_)
            refine wp_of e140 c140_63 (rw_bipush (pc' := 65) (z := 32) rfl (by decide) ?_)
            refine wp_of e140 c140_65 (rw_iadd (pc' := 66) rfl ?_)
            refine wp_of e140 c140_66 (rw_lshl (pc' := 67) rfl ?_)
            obtain ⟨v46563, e46564⟩ : ∃ x : Int, x = wl_shl 1 ((H r46538 v46528.toNat) + 32) := ⟨_, rfl⟩
            rw [← e46564]
            have b46565 : -9223372036854775808 ≤ v46563 ∧ v46563 ≤ 9223372036854775807 := by
              rw [e46564]
              exact wL_shl _ _
            refine wp_of e140 c140_67 (rw_lor (pc' := 68) rfl ?_)
            obtain ⟨v46566, e46567⟩ : ∃ x : Int, x = wl_or v46529 v46563 := ⟨_, rfl⟩
            rw [← e46567]
            have b46568 : -9223372036854775808 ≤ v46566 ∧ v46566 ≤ 9223372036854775807 := by
              rw [e46567]
              exact wL_or _ _
            refine wp_of e140 c140_68 (rw_lstore_n (pc' := 69) (z := v46566) (L' := [(2, vL v46566), (6, vI z46559), (5, vI (H r46538 v46528.toNat)), (4, vI v46528), (0, .ref r0), (1, .ref r1)]) rfl rfl rfl ?_)
            refine wp_of e140 c140_69 (rw_iinc (pc' := 72) (z := v46528) (L' := [(4, vI (v46528 + 1)), (2, vL v46566), (6, vI z46559), (5, vI (H r46538 v46528.toNat)), (0, .ref r0), (1, .ref r1)]) rfl rfl rfl rfl ?_)
            refine wp_of e140 c140_72 (rw_goto (p1 := 5) (by decide) ?_)
            exact wp_lc (ks := [4, 2, 6, 5, 0, 1]) (wl_c rfl (wl_c rfl (wl_c rfl (wl_c rfl wl_n)))) rfl (by decide) (ih46527 _ (by omega) (v46528 + 1) v46566 ⟨by omega, by omega⟩ ⟨by omega, by omega⟩ rfl)
        · refine wp_of e140 c140_43 (rw_lload_n (pc' := 44) (z := v46529) rfl rfl ?_)
          refine wp_of e140 c140_44 (rw_lconst (pc' := 45) (z := 1) rfl rfl ?_)
          refine wp_of e140 c140_45 (rw_iload (pc' := 47) (z := H r46538 v46528.toNat) rfl rfl ?_)
          refine wp_of e140 c140_47 (rw_lshl (pc' := 48) rfl ?_)
          obtain ⟨v46569, e46570⟩ : ∃ x : Int, x = wl_shl 1 (H r46538 v46528.toNat) := ⟨_, rfl⟩
          rw [← e46570]
          have b46571 : -9223372036854775808 ≤ v46569 ∧ v46569 ≤ 9223372036854775807 := by
            rw [e46570]
            exact wL_shl _ _
          refine wp_of e140 c140_48 (rw_lor (pc' := 49) rfl ?_)
          obtain ⟨v46572, e46573⟩ : ∃ x : Int, x = wl_or v46529 v46569 := ⟨_, rfl⟩
          rw [← e46573]
          have b46574 : -9223372036854775808 ≤ v46572 ∧ v46572 ≤ 9223372036854775807 := by
            rw [e46573]
            exact wL_or _ _
          refine wp_of e140 c140_49 (rw_lstore_n (pc' := 50) (z := v46572) (L' := [(2, vL v46572), (6, vI z46559), (5, vI (H r46538 v46528.toNat)), (4, vI v46528), (0, .ref r0), (1, .ref r1)]) rfl rfl rfl ?_)
          refine wp_of e140 c140_50 (rw_goto (p1 := 69) (by decide) ?_)
          refine wp_of e140 c140_69 (rw_iinc (pc' := 72) (z := v46528) (L' := [(4, vI (v46528 + 1)), (2, vL v46572), (6, vI z46559), (5, vI (H r46538 v46528.toNat)), (0, .ref r0), (1, .ref r1)]) rfl rfl rfl rfl ?_)
          refine wp_of e140 c140_72 (rw_goto (p1 := 5) (by decide) ?_)
          exact wp_lc (ks := [4, 2, 6, 5, 0, 1]) (wl_c rfl (wl_c rfl (wl_c rfl (wl_c rfl wl_n)))) rfl (by decide) (ih46527 _ (by omega) (v46528 + 1) v46572 ⟨by omega, by omega⟩ ⟨by omega, by omega⟩ rfl)
  exact wp_lc (ks := [4, 2, 0, 1]) (wl_c rfl (wl_c rfl (wl_c rfl (wl_c rfl wl_n)))) rfl (by decide) (lp46525 _ 0 0 ⟨by omega, by omega⟩ ⟨by omega, by omega⟩ rfl)
/-! StrikeAwake$Grounds.gather(LStrikeAwake$Parish;LStrikeAwake$Walk;)V -/
theorem e139 : wq_en 139 = some (6, 4, false, none) := rfl
theorem c139_0 : mc_cd 139 0 = some (.aload_n 0, 1) := by decide +kernel
theorem c139_1 : mc_cd 139 1 = some (.iconst 0, 1) := by decide +kernel
theorem c139_2 : mc_cd 139 2 = some (.putfield 68, 3) := by decide +kernel
theorem c139_5 : mc_cd 139 5 = some (.aload_n 0, 1) := by decide +kernel
theorem c139_6 : mc_cd 139 6 = some (.iconst 0, 1) := by decide +kernel
theorem c139_7 : mc_cd 139 7 = some (.putfield 81, 3) := by decide +kernel
theorem c139_10 : mc_cd 139 10 = some (.aload_n 2, 1) := by decide +kernel
theorem c139_11 : mc_cd 139 11 = some (.aload_n 1, 1) := by decide +kernel
theorem c139_12 : mc_cd 139 12 = some (.invokevirtual 28, 3) := by decide +kernel
theorem c139_15 : mc_cd 139 15 = some (.iconst 0, 1) := by decide +kernel
theorem c139_16 : mc_cd 139 16 = some (.istore_n 3, 1) := by decide +kernel
theorem c139_17 : mc_cd 139 17 = some (.iload_n 3, 1) := by decide +kernel
theorem c139_18 : mc_cd 139 18 = some (.i2l, 1) := by decide +kernel
theorem c139_19 : mc_cd 139 19 = some (.aload_n 1, 1) := by decide +kernel
theorem c139_20 : mc_cd 139 20 = some (.getfield 34, 3) := by decide +kernel
theorem c139_23 : mc_cd 139 23 = some (.lcmp, 1) := by decide +kernel
theorem c139_24 : mc_cd 139 24 = some (.ifCond .ge 52, 3) := by decide +kernel
theorem c139_27 : mc_cd 139 27 = some (.iload_n 3, 1) := by decide +kernel
theorem c139_28 : mc_cd 139 28 = some (.sipush 5000, 3) := by decide +kernel
theorem c139_31 : mc_cd 139 31 = some (.if_icmp .ge 45, 3) := by decide +kernel
theorem c139_34 : mc_cd 139 34 = some (.aload_n 2, 1) := by decide +kernel
theorem c139_35 : mc_cd 139 35 = some (.invokevirtual 47, 3) := by decide +kernel
theorem c139_38 : mc_cd 139 38 = some (.ifCond .ne 27, 3) := by decide +kernel
theorem c139_41 : mc_cd 139 41 = some (.aload_n 0, 1) := by decide +kernel
theorem c139_42 : mc_cd 139 42 = some (.getfield 9, 3) := by decide +kernel
theorem c139_45 : mc_cd 139 45 = some (.aload_n 0, 1) := by decide +kernel
theorem c139_46 : mc_cd 139 46 = some (.getfield 68, 3) := by decide +kernel
theorem c139_49 : mc_cd 139 49 = some (.aload_n 1, 1) := by decide +kernel
theorem c139_50 : mc_cd 139 50 = some (.aload_n 2, 1) := by decide +kernel
theorem c139_51 : mc_cd 139 51 = some (.invokestatic 84, 3) := by decide +kernel
theorem c139_54 : mc_cd 139 54 = some (.lastore, 1) := by decide +kernel
theorem c139_55 : mc_cd 139 55 = some (.aload_n 0, 1) := by decide +kernel
theorem c139_56 : mc_cd 139 56 = some (.dup, 1) := by decide +kernel
theorem c139_57 : mc_cd 139 57 = some (.getfield 68, 3) := by decide +kernel
theorem c139_60 : mc_cd 139 60 = some (.iconst 1, 1) := by decide +kernel
theorem c139_61 : mc_cd 139 61 = some (.iadd, 1) := by decide +kernel
theorem c139_62 : mc_cd 139 62 = some (.putfield 68, 3) := by decide +kernel
theorem c139_65 : mc_cd 139 65 = some (.aload_n 2, 1) := by decide +kernel
theorem c139_66 : mc_cd 139 66 = some (.aload_n 1, 1) := by decide +kernel
theorem c139_67 : mc_cd 139 67 = some (.invokevirtual 61, 3) := by decide +kernel
theorem c139_70 : mc_cd 139 70 = some (.iinc 3 1, 3) := by decide +kernel
theorem c139_73 : mc_cd 139 73 = some (.goto (-56), 3) := by decide +kernel
theorem c139_76 : mc_cd 139 76 = some (.return_, 1) := by decide +kernel
abbrev q_139 (r0 : Nat) (r1 : Nat) (r2 : Nat) (T : wq_T) (H : wq_H) : Option Value → wq_T → wq_H → Prop := fun r T' H' => T = T' ∧ WT T H' ∧ wfr [(25, 1), (25, 2), (6, 5), (8, 999), (10, 999), (26, 999), (9, 999), (7, 999), (11, 999)] T H H' ∧ none = r
set_option maxHeartbeats 4000000 in
theorem s_139 {kt : Nat → Option mc_E} {T : wq_T} {H : wq_H} {r0 : Nat} {r1 : Nat} {r2 : Nat} (hW : WT T H) (g0 : T.2.2.2 r0 = some 25) (g1 : T.2.2.2 r1 = some 27) (g2 : T.2.2.2 r2 = some 6) : wpc kt 4 139 [.ref r0, .ref r1, .ref r2] T H (q_139 r0 r1 r2 T H) := by
  refine wp_enter e139 (Nat.le_of_ble_eq_true rfl) rfl ?_
  have f0 : wfr [(25, 1), (25, 2), (6, 5), (8, 999), (10, 999), (26, 999), (9, 999), (7, 999), (11, 999)] T H H := wfr.rf
  show wp _ _ 139 0 [(0, .ref r0), (1, .ref r1), (2, .ref r2)] [] _ H _
  refine wp_of e139 c139_0 (rw_aload_n (pc' := 1) (v := .ref r0) rfl rfl rfl ?_)
  refine wp_of e139 c139_1 (rw_iconst (pc' := 2) rfl ?_)
  refine wp_of e139 c139_2 (xp_I (pc' := 5) lf_6_68 hW g0 sh_25 (by decide) (by decide) ty_25_1 rfl rfl (by omega) (by omega) ⟨by omega, by omega⟩ rfl (fun H47127 e47128 w47129 => ?_))
  have f47130 := f0.put' e47128 g0 rfl
  have k47131 : H47127 r0 1 = 0 := wq_u_s e47128
  refine wp_of e139 c139_5 (rw_aload_n (pc' := 6) (v := .ref r0) rfl rfl rfl ?_)
  refine wp_of e139 c139_6 (rw_iconst (pc' := 7) rfl ?_)
  refine wp_of e139 c139_7 (xp_I (pc' := 10) lf_6_81 w47129 g0 sh_25 (by decide) (by decide) ty_25_2 rfl rfl (by omega) (by omega) ⟨by omega, by omega⟩ rfl (fun H47132 e47133 w47134 => ?_))
  have f47135 := f47130.put' e47133 g0 rfl
  have k47136 : H47132 r0 2 = 0 := wq_u_s e47133
  refine wp_of e139 c139_10 (rw_aload_n (pc' := 11) (v := .ref r2) rfl rfl rfl ?_)
  refine wp_of e139 c139_11 (rw_aload_n (pc' := 12) (v := .ref r1) rfl rfl rfl ?_)
  refine wp_of e139 c139_12 (xc_V (pc' := 15) (r := r2) (as := [.ref r1]) (st := []) (lm_6_28) rfl rfl (Nat.le_of_ble_eq_true rfl) w47134 g2 sh_6 (by decide) rfl (by decide) (s_87 w47134 g2 g1) (fun R47137 T47138 H47139 p47140 => ?_))
  obtain ⟨e47141, w47143, f47144, e47142⟩ := p47140
  subst e47141
  subst e47142
  have f47145 := f47135.tr f47144 rfl
  show wp _ _ 139 15 [(0, .ref r0), (1, .ref r1), (2, .ref r2)] [] _ H47139 _
  refine wp_of e139 c139_15 (rw_iconst (pc' := 16) rfl ?_)
  refine wp_of e139 c139_16 (rw_istore_n (pc' := 17) (z := 0) (L' := [(3, vI 0), (0, .ref r0), (1, .ref r1), (2, .ref r2)]) rfl rfl rfl ?_)
  have lp47619 : ∀ (n47620 : Nat) (v47622 : Int) (H47623 : wq_H), WT T H47623 → wfr [(25, 1), (8, 999), (10, 999), (26, 999), (9, 999), (7, 999), (11, 999)] T H47139 H47623 → (0 ≤ v47622 ∧ v47622 ≤ 5000) → (H47623 r0 1 ≤ v47622) → (5000 - v47622).toNat = n47620 → wp kt 3 139 17 [(3, vI v47622), (0, .ref r0), (1, .ref r1), (2, .ref r2)] [] T H47623 (q_139 r0 r1 r2 T H) := by
    intro n47620
    induction n47620 using Nat.strongRecOn with
    | _ n47620 ih47621 =>
      intro v47622 H47623 w47624 f47625 b47626 x47627 m47628
      have f47629 := f47145.tr f47625 rfl
      refine wp_of e139 c139_17 (rw_iload_n (pc' := 18) (z := v47622) rfl rfl ?_)
      refine wp_of e139 c139_18 (rw_i2l (pc' := 19) rfl ⟨by omega, by omega⟩ ?_)
      refine wp_of e139 c139_19 (rw_aload_n (pc' := 20) (v := .ref r1) rfl rfl rfl ?_)
      refine wp_of e139 c139_20 (xg_L (pc' := 23) lf_6_34 w47624 g1 sh_27 (by decide) (by decide) ty_27_18 rfl rfl (fun b47630 b47631 => ?_))
      refine wp_of e139 c139_23 (rw_lcmp (pc' := 24) rfl ⟨by omega, by omega⟩ ⟨by omega, by omega⟩ ?_)
      have b47632 := wq_cmp_b v47622 (H47623 r1 18)
      refine wp_of e139 c139_24 (rw_if_ge (p1 := 76) (p2 := 27) (by decide) rfl ⟨by omega, by omega⟩ (fun c47633 => ?_) (fun c47633 => ?_))
      · exact wp_return e139 c139_76 rfl ⟨rfl, w47624, f47629, rfl⟩
      · refine wp_of e139 c139_27 (rw_iload_n (pc' := 28) (z := v47622) rfl rfl ?_)
        refine wp_of e139 c139_28 (rw_sipush (pc' := 31) (z := 5000) rfl (by decide) ?_)
        refine wp_of e139 c139_31 (rw_icmp_ge (p1 := 76) (p2 := 34) (by decide) rfl ⟨by omega, by omega⟩ ⟨by omega, by omega⟩ (fun c47634 => ?_) (fun c47634 => ?_))
        · exact wp_return e139 c139_76 rfl ⟨rfl, w47624, f47629, rfl⟩
        · refine wp_of e139 c139_34 (rw_aload_n (pc' := 35) (v := .ref r2) rfl rfl rfl ?_)
          refine wp_of e139 c139_35 (xc_V (pc' := 38) (r := r2) (as := []) (st := []) (lm_6_47) rfl rfl (Nat.le_of_ble_eq_true rfl) w47624 g2 sh_6 (by decide) rfl (by decide) (s_80 w47624 g2) (fun R47635 T47636 H47637 p47638 => ?_))
          obtain ⟨e47639, e47641, z47642, e47640, b47643⟩ := p47638
          subst e47639
          subst e47640
          subst e47641
          show wp _ _ 139 38 [(3, vI v47622), (0, .ref r0), (1, .ref r1), (2, .ref r2)] [vI z47642] _ H47623 _
          refine wp_of e139 c139_38 (rw_if_ne (p1 := 65) (p2 := 41) (by decide) rfl ⟨by omega, by omega⟩ (fun c47644 => ?_) (fun c47644 => ?_))
          · refine wp_of e139 c139_65 (rw_aload_n (pc' := 66) (v := .ref r2) rfl rfl rfl ?_)
            refine wp_of e139 c139_66 (rw_aload_n (pc' := 67) (v := .ref r1) rfl rfl rfl ?_)
            refine wp_of e139 c139_67 (xc_V (pc' := 70) (r := r2) (as := [.ref r1]) (st := []) (lm_6_61) rfl rfl (Nat.le_of_ble_eq_true rfl) w47624 g2 sh_6 (by decide) rfl (by decide) (s_91 w47624 g2 g1) (fun R47645 T47646 H47647 p47648 => ?_))
            obtain ⟨e47649, w47651, f47652, e47650⟩ := p47648
            subst e47649
            subst e47650
            have f47653 := f47629.tr f47652 rfl
            have f47654 := f47625.tr f47652 rfl
            show wp _ _ 139 70 [(3, vI v47622), (0, .ref r0), (1, .ref r1), (2, .ref r2)] [] _ H47647 _
            refine wp_of e139 c139_70 (rw_iinc (pc' := 73) (z := v47622) (L' := [(3, vI (v47622 + 1)), (0, .ref r0), (1, .ref r1), (2, .ref r2)]) rfl rfl rfl rfl ?_)
            refine wp_of e139 c139_73 (rw_goto (p1 := 17) (by decide) ?_)
            have k47655 : H47647 r0 1 = H47623 r0 1 := (f47652 r0 1 _ g0 rfl)
            exact wp_lc (ks := [3, 0, 1, 2]) (wl_c rfl (wl_c rfl (wl_c rfl (wl_c rfl wl_n)))) rfl (by decide) (ih47621 _ (by omega) (v47622 + 1) H47647 w47651 f47654 ⟨by omega, by omega⟩ (by omega) rfl)
          · refine wp_of e139 c139_41 (rw_aload_n (pc' := 42) (v := .ref r0) rfl rfl rfl ?_)
            refine wp_of e139 c139_42 (xg_R (pc' := 45) lf_6_9 w47624 g0 sh_25 (by decide) (by decide) ty_25_0 rfl rfl (fun r47656 q47657 g47658 => ?_))
            refine wp_of e139 c139_45 (rw_aload_n (pc' := 46) (v := .ref r0) rfl rfl rfl ?_)
            refine wp_of e139 c139_46 (xg_I (pc' := 49) lf_6_68 w47624 g0 sh_25 (by decide) (by decide) ty_25_1 rfl rfl (fun b47659 b47660 => ?_))
            refine wp_of e139 c139_49 (rw_aload_n (pc' := 50) (v := .ref r1) rfl rfl rfl ?_)
            refine wp_of e139 c139_50 (rw_aload_n (pc' := 51) (v := .ref r2) rfl rfl rfl ?_)
            refine wp_of e139 c139_51 (xc_S (pc' := 54) (as := [.ref r1, .ref r2]) (st := [vI (H47623 r0 1), .ref r47656]) (lm_6_84) rfl rfl (Nat.le_of_ble_eq_true rfl) rfl (by decide) (s_140 w47624 g1 g2) (fun R47661 T47662 H47663 p47664 => ?_))
            obtain ⟨e47665, e47667, z47668, e47666, b47669⟩ := p47664
            subst e47665
            subst e47666
            subst e47667
            show wp _ _ 139 54 [(3, vI v47622), (0, .ref r0), (1, .ref r1), (2, .ref r2)] [vL z47668, vI (H47623 r0 1), .ref r47656] _ H47623 _
            refine wp_of e139 c139_54 (xs_L (pc' := 55) w47624 g47658 (by decide) sh_26 (by decide) (ty_26 _) (by omega) (by omega) ⟨by omega, by omega⟩ (by omega) (by omega) rfl (fun H47670 e47671 w47672 => ?_))
            have f47673 := f47629.put' e47671 g47658 rfl
            have f47674 := f47625.put' e47671 g47658 rfl
            refine wp_of e139 c139_55 (rw_aload_n (pc' := 56) (v := .ref r0) rfl rfl rfl ?_)
            refine wp_of e139 c139_56 (rw_dup (pc' := 57) rfl rfl ?_)
            have k47675 : H47670 r0 1 = H47623 r0 1 := (wq_u_t e47671 g47658 g0 rfl 1)
            refine wp_of e139 c139_57 (xg_I (pc' := 60) lf_6_68 w47672 g0 sh_25 (by decide) (by decide) ty_25_1 rfl rfl (fun b47676 b47677 => ?_))
            refine wp_of e139 c139_60 (rw_iconst (pc' := 61) rfl ?_)
            refine wp_of e139 c139_61 (rw_iadd (pc' := 62) rfl ?_)
            refine wp_of e139 c139_62 (xp_I (pc' := 65) lf_6_68 w47672 g0 sh_25 (by decide) (by decide) ty_25_1 rfl rfl (by omega) (by omega) ⟨by omega, by omega⟩ rfl (fun H47678 e47679 w47680 => ?_))
            have f47681 := f47673.put' e47679 g0 rfl
            have f47682 := f47674.put' e47679 g0 rfl
            have k47683 : H47678 r0 1 = (H47670 r0 1) + 1 := wq_u_s e47679
            refine wp_of e139 c139_65 (rw_aload_n (pc' := 66) (v := .ref r2) rfl rfl rfl ?_)
            refine wp_of e139 c139_66 (rw_aload_n (pc' := 67) (v := .ref r1) rfl rfl rfl ?_)
            refine wp_of e139 c139_67 (xc_V (pc' := 70) (r := r2) (as := [.ref r1]) (st := []) (lm_6_61) rfl rfl (Nat.le_of_ble_eq_true rfl) w47680 g2 sh_6 (by decide) rfl (by decide) (s_91 w47680 g2 g1) (fun R47684 T47685 H47686 p47687 => ?_))
            obtain ⟨e47688, w47690, f47691, e47689⟩ := p47687
            subst e47688
            subst e47689
            have f47692 := f47681.tr f47691 rfl
            have f47693 := f47682.tr f47691 rfl
            show wp _ _ 139 70 [(3, vI v47622), (0, .ref r0), (1, .ref r1), (2, .ref r2)] [] _ H47686 _
            refine wp_of e139 c139_70 (rw_iinc (pc' := 73) (z := v47622) (L' := [(3, vI (v47622 + 1)), (0, .ref r0), (1, .ref r1), (2, .ref r2)]) rfl rfl rfl rfl ?_)
            refine wp_of e139 c139_73 (rw_goto (p1 := 17) (by decide) ?_)
            have k47694 : H47686 r0 1 = H47678 r0 1 := (f47691 r0 1 _ g0 rfl)
            exact wp_lc (ks := [3, 0, 1, 2]) (wl_c rfl (wl_c rfl (wl_c rfl (wl_c rfl wl_n)))) rfl (by decide) (ih47621 _ (by omega) (v47622 + 1) H47686 w47690 f47693 ⟨by omega, by omega⟩ (by omega) rfl)
  have k47695 : H47139 r0 1 = H47127 r0 1 := ((f47144 r0 1 _ g0 rfl).trans (wq_u_j e47133 rfl))
  exact wp_lc (ks := [3, 0, 1, 2]) (wl_c rfl (wl_c rfl (wl_c rfl (wl_c rfl wl_n)))) rfl (by decide) (lp47619 _ 0 H47139 w47143 wfr.rf ⟨by omega, by omega⟩ (by omega) rfl)
/-! StrikeAwake$Grounds.isLeft(LStrikeAwake$Parish;JI)Z -/
theorem e143 : wq_en 143 = some (6, 6, false, some FieldType.boolean) := rfl
theorem c143_0 : mc_cd 143 0 = some (.lload_n 1, 1) := by decide +kernel
theorem c143_1 : mc_cd 143 1 = some (.l2i, 1) := by decide +kernel
theorem c143_2 : mc_cd 143 2 = some (.iload_n 3, 1) := by decide +kernel
theorem c143_3 : mc_cd 143 3 = some (.iand, 1) := by decide +kernel
theorem c143_4 : mc_cd 143 4 = some (.istore 4, 2) := by decide +kernel
theorem c143_6 : mc_cd 143 6 = some (.lload_n 1, 1) := by decide +kernel
theorem c143_7 : mc_cd 143 7 = some (.bipush 32, 2) := by decide +kernel
theorem c143_9 : mc_cd 143 9 = some (.lshr, 1) := by decide +kernel
theorem c143_10 : mc_cd 143 10 = some (.l2i, 1) := by decide +kernel
theorem c143_11 : mc_cd 143 11 = some (.iload_n 3, 1) := by decide +kernel
theorem c143_12 : mc_cd 143 12 = some (.iand, 1) := by decide +kernel
theorem c143_13 : mc_cd 143 13 = some (.istore 5, 2) := by decide +kernel
theorem c143_15 : mc_cd 143 15 = some (.iload 4, 2) := by decide +kernel
theorem c143_17 : mc_cd 143 17 = some (.ifCond .ne 19, 3) := by decide +kernel
theorem c143_20 : mc_cd 143 20 = some (.iload 5, 2) := by decide +kernel
theorem c143_22 : mc_cd 143 22 = some (.invokestatic 108, 3) := by decide +kernel
theorem c143_25 : mc_cd 143 25 = some (.aload_n 0, 1) := by decide +kernel
theorem c143_26 : mc_cd 143 26 = some (.getfield 113, 3) := by decide +kernel
theorem c143_29 : mc_cd 143 29 = some (.if_icmp .gt 7, 3) := by decide +kernel
theorem c143_32 : mc_cd 143 32 = some (.iconst 1, 1) := by decide +kernel
theorem c143_33 : mc_cd 143 33 = some (.goto 4, 3) := by decide +kernel
theorem c143_36 : mc_cd 143 36 = some (.iconst 0, 1) := by decide +kernel
theorem c143_37 : mc_cd 143 37 = some (.ireturn, 1) := by decide +kernel
abbrev q_143 (r0 : Nat) (a1 : Int) (a2 : Int) (T : wq_T) (H : wq_H) : Option Value → wq_T → wq_H → Prop := fun r T' H' => T = T' ∧ H = H' ∧ ∃ z : Int, some (vI z) = r ∧ (0 ≤ z ∧ z ≤ 1)
set_option maxHeartbeats 4000000 in
theorem s_143 {kt : Nat → Option mc_E} {T : wq_T} {H : wq_H} {r0 : Nat} {a1 : Int} {a2 : Int} (hW : WT T H) (g0 : T.2.2.2 r0 = some 27) (i1 : (-9223372036854775808) ≤ a1 ∧ a1 ≤ 9223372036854775807) (i2 : (-2147483648) ≤ a2 ∧ a2 ≤ 2147483647) : wpc kt 2 143 [.ref r0, vL a1, vI a2] T H (q_143 r0 a1 a2 T H) := by
  refine wp_enter e143 (Nat.le_of_ble_eq_true rfl) rfl ?_
  show wp _ _ 143 0 [(0, .ref r0), (1, vL a1), (3, vI a2)] [] _ H _
  refine wp_of e143 c143_0 (rw_lload_n (pc' := 1) (z := a1) rfl rfl ?_)
  refine wp_of e143 c143_1 (rw_l2i (pc' := 2) rfl ?_)
  obtain ⟨v47719, e47720⟩ : ∃ x : Int, x = wq_w a1 := ⟨_, rfl⟩
  rw [← e47720]
  have b47721 : -2147483648 ≤ v47719 ∧ v47719 ≤ 2147483647 := by
    rw [e47720]
    exact wI_w _
  refine wp_of e143 c143_2 (rw_iload_n (pc' := 3) (z := a2) rfl rfl ?_)
  refine wp_of e143 c143_3 (rw_iand (pc' := 4) rfl ?_)
  obtain ⟨v47722, e47723⟩ : ∃ x : Int, x = wq_and v47719 a2 := ⟨_, rfl⟩
  rw [← e47723]
  have b47724 : -2147483648 ≤ v47722 ∧ v47722 ≤ 2147483647 := by
    rw [e47723]
    exact wI_and _ _
  refine wp_of e143 c143_4 (rw_istore (pc' := 6) (z := v47722) (L' := [(4, vI v47722), (0, .ref r0), (1, vL a1), (3, vI a2)]) rfl rfl rfl ?_)
  refine wp_of e143 c143_6 (rw_lload_n (pc' := 7) (z := a1) rfl rfl ?_)
  refine wp_of e143 c143_7 (rw_bipush (pc' := 9) (z := 32) rfl (by decide) ?_)
  refine wp_of e143 c143_9 (rw_lshr (pc' := 10) rfl ?_)
  obtain ⟨v47725, e47726⟩ : ∃ x : Int, x = wl_shr a1 32 := ⟨_, rfl⟩
  rw [← e47726]
  have b47727 : -9223372036854775808 ≤ v47725 ∧ v47725 ≤ 9223372036854775807 := by
    rw [e47726]
    exact wL_shr _ _
  refine wp_of e143 c143_10 (rw_l2i (pc' := 11) rfl ?_)
  obtain ⟨v47728, e47729⟩ : ∃ x : Int, x = wq_w v47725 := ⟨_, rfl⟩
  rw [← e47729]
  have b47730 : -2147483648 ≤ v47728 ∧ v47728 ≤ 2147483647 := by
    rw [e47729]
    exact wI_w _
  refine wp_of e143 c143_11 (rw_iload_n (pc' := 12) (z := a2) rfl rfl ?_)
  refine wp_of e143 c143_12 (rw_iand (pc' := 13) rfl ?_)
  obtain ⟨v47731, e47732⟩ : ∃ x : Int, x = wq_and v47728 a2 := ⟨_, rfl⟩
  rw [← e47732]
  have b47733 : -2147483648 ≤ v47731 ∧ v47731 ≤ 2147483647 := by
    rw [e47732]
    exact wI_and _ _
  refine wp_of e143 c143_13 (rw_istore (pc' := 15) (z := v47731) (L' := [(5, vI v47731), (4, vI v47722), (0, .ref r0), (1, vL a1), (3, vI a2)]) rfl rfl rfl ?_)
  refine wp_of e143 c143_15 (rw_iload (pc' := 17) (z := v47722) rfl rfl ?_)
  refine wp_of e143 c143_17 (rw_if_ne (p1 := 36) (p2 := 20) (by decide) rfl ⟨by omega, by omega⟩ (fun c47734 => ?_) (fun c47734 => ?_))
  · refine wp_of e143 c143_36 (rw_iconst (pc' := 37) rfl ?_)
    exact wp_zreturn e143 c143_37 rfl (by omega) ⟨rfl, rfl, 0, rfl, ⟨by omega, by omega⟩⟩
  · refine wp_of e143 c143_20 (rw_iload (pc' := 22) (z := v47731) rfl rfl ?_)
    refine wp_of e143 c143_22 (xc_S (pc' := 25) (as := [vI v47731]) (st := []) (lm_6_108) rfl rfl (Nat.le_of_ble_eq_true rfl) rfl (by decide) (s_126 hW ⟨by omega, by omega⟩) (fun R47735 T47736 H47737 p47738 => ?_))
    obtain ⟨e47739, e47741, z47742, e47740, b47743⟩ := p47738
    subst e47739
    subst e47740
    subst e47741
    show wp _ _ 143 25 [(5, vI v47731), (4, vI v47722), (0, .ref r0), (1, vL a1), (3, vI a2)] [vI z47742] _ H _
    refine wp_of e143 c143_25 (rw_aload_n (pc' := 26) (v := .ref r0) rfl rfl rfl ?_)
    refine wp_of e143 c143_26 (xg_I (pc' := 29) lf_6_113 hW g0 sh_27 (by decide) (by decide) ty_27_9 rfl rfl (fun b47744 b47745 => ?_))
    refine wp_of e143 c143_29 (rw_icmp_gt (p1 := 36) (p2 := 32) (by decide) rfl ⟨by omega, by omega⟩ ⟨by omega, by omega⟩ (fun c47746 => ?_) (fun c47746 => ?_))
    · refine wp_of e143 c143_36 (rw_iconst (pc' := 37) rfl ?_)
      exact wp_zreturn e143 c143_37 rfl (by omega) ⟨rfl, rfl, 0, rfl, ⟨by omega, by omega⟩⟩
    · refine wp_of e143 c143_32 (rw_iconst (pc' := 33) rfl ?_)
      refine wp_of e143 c143_33 (rw_goto (p1 := 37) (by decide) ?_)
      exact wp_zreturn e143 c143_37 rfl (by omega) ⟨rfl, rfl, 1, rfl, ⟨by omega, by omega⟩⟩
/-! StrikeAwake$Grounds.leavesNone(LStrikeAwake$Parish;I)Z -/
theorem e142 : wq_en 142 = some (6, 4, false, some FieldType.boolean) := rfl
theorem c142_0 : mc_cd 142 0 = some (.aload_n 0, 1) := by decide +kernel
theorem c142_1 : mc_cd 142 1 = some (.getfield 81, 3) := by decide +kernel
theorem c142_4 : mc_cd 142 4 = some (.aload_n 0, 1) := by decide +kernel
theorem c142_5 : mc_cd 142 5 = some (.getfield 68, 3) := by decide +kernel
theorem c142_8 : mc_cd 142 8 = some (.if_icmp .ge 22, 3) := by decide +kernel
theorem c142_11 : mc_cd 142 11 = some (.aload_n 1, 1) := by decide +kernel
theorem c142_12 : mc_cd 142 12 = some (.aload_n 0, 1) := by decide +kernel
theorem c142_13 : mc_cd 142 13 = some (.getfield 9, 3) := by decide +kernel
theorem c142_16 : mc_cd 142 16 = some (.aload_n 0, 1) := by decide +kernel
theorem c142_17 : mc_cd 142 17 = some (.getfield 81, 3) := by decide +kernel
theorem c142_20 : mc_cd 142 20 = some (.laload, 1) := by decide +kernel
theorem c142_21 : mc_cd 142 21 = some (.iload_n 2, 1) := by decide +kernel
theorem c142_22 : mc_cd 142 22 = some (.invokestatic 104, 3) := by decide +kernel
theorem c142_25 : mc_cd 142 25 = some (.ifCond .eq 5, 3) := by decide +kernel
theorem c142_28 : mc_cd 142 28 = some (.iconst 0, 1) := by decide +kernel
theorem c142_29 : mc_cd 142 29 = some (.ireturn, 1) := by decide +kernel
theorem c142_30 : mc_cd 142 30 = some (.iconst 0, 1) := by decide +kernel
theorem c142_31 : mc_cd 142 31 = some (.istore_n 3, 1) := by decide +kernel
theorem c142_32 : mc_cd 142 32 = some (.iload_n 3, 1) := by decide +kernel
theorem c142_33 : mc_cd 142 33 = some (.aload_n 0, 1) := by decide +kernel
theorem c142_34 : mc_cd 142 34 = some (.getfield 68, 3) := by decide +kernel
theorem c142_37 : mc_cd 142 37 = some (.if_icmp .ge 30, 3) := by decide +kernel
theorem c142_40 : mc_cd 142 40 = some (.aload_n 1, 1) := by decide +kernel
theorem c142_41 : mc_cd 142 41 = some (.aload_n 0, 1) := by decide +kernel
theorem c142_42 : mc_cd 142 42 = some (.getfield 9, 3) := by decide +kernel
theorem c142_45 : mc_cd 142 45 = some (.iload_n 3, 1) := by decide +kernel
theorem c142_46 : mc_cd 142 46 = some (.laload, 1) := by decide +kernel
theorem c142_47 : mc_cd 142 47 = some (.iload_n 2, 1) := by decide +kernel
theorem c142_48 : mc_cd 142 48 = some (.invokestatic 104, 3) := by decide +kernel
theorem c142_51 : mc_cd 142 51 = some (.ifCond .eq 10, 3) := by decide +kernel
theorem c142_54 : mc_cd 142 54 = some (.aload_n 0, 1) := by decide +kernel
theorem c142_55 : mc_cd 142 55 = some (.iload_n 3, 1) := by decide +kernel
theorem c142_56 : mc_cd 142 56 = some (.putfield 81, 3) := by decide +kernel
theorem c142_59 : mc_cd 142 59 = some (.iconst 0, 1) := by decide +kernel
theorem c142_60 : mc_cd 142 60 = some (.ireturn, 1) := by decide +kernel
theorem c142_61 : mc_cd 142 61 = some (.iinc 3 1, 3) := by decide +kernel
theorem c142_64 : mc_cd 142 64 = some (.goto (-32), 3) := by decide +kernel
theorem c142_67 : mc_cd 142 67 = some (.iconst 1, 1) := by decide +kernel
theorem c142_68 : mc_cd 142 68 = some (.ireturn, 1) := by decide +kernel
abbrev q_142 (r0 : Nat) (r1 : Nat) (a2 : Int) (T : wq_T) (H : wq_H) : Option Value → wq_T → wq_H → Prop := fun r T' H' => T = T' ∧ WT T H' ∧ wfr [(25, 2)] T H H' ∧ ∃ z : Int, some (vI z) = r ∧ (0 ≤ z ∧ z ≤ 1)
set_option maxHeartbeats 4000000 in
theorem s_142 {kt : Nat → Option mc_E} {T : wq_T} {H : wq_H} {r0 : Nat} {r1 : Nat} {a2 : Int} (hW : WT T H) (g0 : T.2.2.2 r0 = some 25) (g1 : T.2.2.2 r1 = some 27) (i2 : (-2147483648) ≤ a2 ∧ a2 ≤ 2147483647) : wpc kt 3 142 [.ref r0, .ref r1, vI a2] T H (q_142 r0 r1 a2 T H) := by
  refine wp_enter e142 (Nat.le_of_ble_eq_true rfl) rfl ?_
  have f0 : wfr [(25, 2)] T H H := wfr.rf
  show wp _ _ 142 0 [(0, .ref r0), (1, .ref r1), (2, vI a2)] [] _ H _
  refine wp_of e142 c142_0 (rw_aload_n (pc' := 1) (v := .ref r0) rfl rfl rfl ?_)
  refine wp_of e142 c142_1 (xg_I (pc' := 4) lf_6_81 hW g0 sh_25 (by decide) (by decide) ty_25_2 rfl rfl (fun b48110 b48111 => ?_))
  refine wp_of e142 c142_4 (rw_aload_n (pc' := 5) (v := .ref r0) rfl rfl rfl ?_)
  refine wp_of e142 c142_5 (xg_I (pc' := 8) lf_6_68 hW g0 sh_25 (by decide) (by decide) ty_25_1 rfl rfl (fun b48112 b48113 => ?_))
  refine wp_of e142 c142_8 (rw_icmp_ge (p1 := 30) (p2 := 11) (by decide) rfl ⟨by omega, by omega⟩ ⟨by omega, by omega⟩ (fun c48114 => ?_) (fun c48114 => ?_))
  · refine wp_of e142 c142_30 (rw_iconst (pc' := 31) rfl ?_)
    refine wp_of e142 c142_31 (rw_istore_n (pc' := 32) (z := 0) (L' := [(3, vI 0), (0, .ref r0), (1, .ref r1), (2, vI a2)]) rfl rfl rfl ?_)
    have lp48267 : ∀ (n48268 : Nat) (v48270 : Int), (0 ≤ v48270 ∧ v48270 ≤ 4999) → (4999 - v48270).toNat = n48268 → wp kt 2 142 32 [(3, vI v48270), (0, .ref r0), (1, .ref r1), (2, vI a2)] [] T H (q_142 r0 r1 a2 T H) := by
      intro n48268
      induction n48268 using Nat.strongRecOn with
      | _ n48268 ih48269 =>
        intro v48270 b48273 m48274
        refine wp_of e142 c142_32 (rw_iload_n (pc' := 33) (z := v48270) rfl rfl ?_)
        refine wp_of e142 c142_33 (rw_aload_n (pc' := 34) (v := .ref r0) rfl rfl rfl ?_)
        refine wp_of e142 c142_34 (xg_I (pc' := 37) lf_6_68 hW g0 sh_25 (by decide) (by decide) ty_25_1 rfl rfl (fun b48275 b48276 => ?_))
        refine wp_of e142 c142_37 (rw_icmp_ge (p1 := 67) (p2 := 40) (by decide) rfl ⟨by omega, by omega⟩ ⟨by omega, by omega⟩ (fun c48277 => ?_) (fun c48277 => ?_))
        · refine wp_of e142 c142_67 (rw_iconst (pc' := 68) rfl ?_)
          exact wp_zreturn e142 c142_68 rfl (by omega) ⟨rfl, hW, f0, 1, rfl, ⟨by omega, by omega⟩⟩
        · refine wp_of e142 c142_40 (rw_aload_n (pc' := 41) (v := .ref r1) rfl rfl rfl ?_)
          refine wp_of e142 c142_41 (rw_aload_n (pc' := 42) (v := .ref r0) rfl rfl rfl ?_)
          refine wp_of e142 c142_42 (xg_R (pc' := 45) lf_6_9 hW g0 sh_25 (by decide) (by decide) ty_25_0 rfl rfl (fun r48278 q48279 g48280 => ?_))
          refine wp_of e142 c142_45 (rw_iload_n (pc' := 46) (z := v48270) rfl rfl ?_)
          refine wp_of e142 c142_46 (xa_L (pc' := 47) hW g48280 sh_26 (by decide) (ty_26 _) (by omega) (by omega) rfl (fun b48281 b48282 => ?_))
          refine wp_of e142 c142_47 (rw_iload_n (pc' := 48) (z := a2) rfl rfl ?_)
          refine wp_of e142 c142_48 (xc_S (pc' := 51) (as := [.ref r1, vL (H r48278 v48270.toNat), vI a2]) (st := []) (lm_6_104) rfl rfl (Nat.le_of_ble_eq_true rfl) rfl (by decide) (s_143 hW g1 ⟨by omega, by omega⟩ ⟨by omega, by omega⟩) (fun R48283 T48284 H48285 p48286 => ?_))
          obtain ⟨e48287, e48289, z48290, e48288, b48291⟩ := p48286
          subst e48287
          subst e48288
          subst e48289
          show wp _ _ 142 51 [(3, vI v48270), (0, .ref r0), (1, .ref r1), (2, vI a2)] [vI z48290] _ H _
          refine wp_of e142 c142_51 (rw_if_eq (p1 := 61) (p2 := 54) (by decide) rfl ⟨by omega, by omega⟩ (fun c48292 => ?_) (fun c48292 => ?_))
          · refine wp_of e142 c142_61 (rw_iinc (pc' := 64) (z := v48270) (L' := [(3, vI (v48270 + 1)), (0, .ref r0), (1, .ref r1), (2, vI a2)]) rfl rfl rfl rfl ?_)
            refine wp_of e142 c142_64 (rw_goto (p1 := 32) (by decide) ?_)
            exact wp_lc (ks := [3, 0, 1, 2]) (wl_c rfl (wl_c rfl (wl_c rfl (wl_c rfl wl_n)))) rfl (by decide) (ih48269 _ (by omega) (v48270 + 1) ⟨by omega, by omega⟩ rfl)
          · refine wp_of e142 c142_54 (rw_aload_n (pc' := 55) (v := .ref r0) rfl rfl rfl ?_)
            refine wp_of e142 c142_55 (rw_iload_n (pc' := 56) (z := v48270) rfl rfl ?_)
            refine wp_of e142 c142_56 (xp_I (pc' := 59) lf_6_81 hW g0 sh_25 (by decide) (by decide) ty_25_2 rfl rfl (by omega) (by omega) ⟨by omega, by omega⟩ rfl (fun H48293 e48294 w48295 => ?_))
            have f48296 := f0.put' e48294 g0 rfl
            have k48297 : H48293 r0 2 = v48270 := wq_u_s e48294
            refine wp_of e142 c142_59 (rw_iconst (pc' := 60) rfl ?_)
            exact wp_zreturn e142 c142_60 rfl (by omega) ⟨rfl, w48295, f48296, 0, rfl, ⟨by omega, by omega⟩⟩
    exact wp_lc (ks := [3, 0, 1, 2]) (wl_c rfl (wl_c rfl (wl_c rfl (wl_c rfl wl_n)))) rfl (by decide) (lp48267 _ 0 ⟨by omega, by omega⟩ rfl)
  · refine wp_of e142 c142_11 (rw_aload_n (pc' := 12) (v := .ref r1) rfl rfl rfl ?_)
    refine wp_of e142 c142_12 (rw_aload_n (pc' := 13) (v := .ref r0) rfl rfl rfl ?_)
    refine wp_of e142 c142_13 (xg_R (pc' := 16) lf_6_9 hW g0 sh_25 (by decide) (by decide) ty_25_0 rfl rfl (fun r48298 q48299 g48300 => ?_))
    refine wp_of e142 c142_16 (rw_aload_n (pc' := 17) (v := .ref r0) rfl rfl rfl ?_)
    refine wp_of e142 c142_17 (xg_I (pc' := 20) lf_6_81 hW g0 sh_25 (by decide) (by decide) ty_25_2 rfl rfl (fun b48301 b48302 => ?_))
    refine wp_of e142 c142_20 (xa_L (pc' := 21) hW g48300 sh_26 (by decide) (ty_26 _) (by omega) (by omega) rfl (fun b48303 b48304 => ?_))
    refine wp_of e142 c142_21 (rw_iload_n (pc' := 22) (z := a2) rfl rfl ?_)
    refine wp_of e142 c142_22 (xc_S (pc' := 25) (as := [.ref r1, vL (H r48298 ((H r0 2).toNat)), vI a2]) (st := []) (lm_6_104) rfl rfl (Nat.le_of_ble_eq_true rfl) rfl (by decide) (s_143 hW g1 ⟨by omega, by omega⟩ ⟨by omega, by omega⟩) (fun R48305 T48306 H48307 p48308 => ?_))
    obtain ⟨e48309, e48311, z48312, e48310, b48313⟩ := p48308
    subst e48309
    subst e48310
    subst e48311
    show wp _ _ 142 25 [(0, .ref r0), (1, .ref r1), (2, vI a2)] [vI z48312] _ H _
    refine wp_of e142 c142_25 (rw_if_eq (p1 := 30) (p2 := 28) (by decide) rfl ⟨by omega, by omega⟩ (fun c48314 => ?_) (fun c48314 => ?_))
    · refine wp_of e142 c142_30 (rw_iconst (pc' := 31) rfl ?_)
      refine wp_of e142 c142_31 (rw_istore_n (pc' := 32) (z := 0) (L' := [(3, vI 0), (0, .ref r0), (1, .ref r1), (2, vI a2)]) rfl rfl rfl ?_)
      have lp48459 : ∀ (n48460 : Nat) (v48462 : Int), (0 ≤ v48462 ∧ v48462 ≤ 5000) → (5000 - v48462).toNat = n48460 → wp kt 2 142 32 [(3, vI v48462), (0, .ref r0), (1, .ref r1), (2, vI a2)] [] T H (q_142 r0 r1 a2 T H) := by
        intro n48460
        induction n48460 using Nat.strongRecOn with
        | _ n48460 ih48461 =>
          intro v48462 b48465 m48466
          refine wp_of e142 c142_32 (rw_iload_n (pc' := 33) (z := v48462) rfl rfl ?_)
          refine wp_of e142 c142_33 (rw_aload_n (pc' := 34) (v := .ref r0) rfl rfl rfl ?_)
          refine wp_of e142 c142_34 (xg_I (pc' := 37) lf_6_68 hW g0 sh_25 (by decide) (by decide) ty_25_1 rfl rfl (fun b48467 b48468 => ?_))
          refine wp_of e142 c142_37 (rw_icmp_ge (p1 := 67) (p2 := 40) (by decide) rfl ⟨by omega, by omega⟩ ⟨by omega, by omega⟩ (fun c48469 => ?_) (fun c48469 => ?_))
          · refine wp_of e142 c142_67 (rw_iconst (pc' := 68) rfl ?_)
            exact wp_zreturn e142 c142_68 rfl (by omega) ⟨rfl, hW, f0, 1, rfl, ⟨by omega, by omega⟩⟩
          · refine wp_of e142 c142_40 (rw_aload_n (pc' := 41) (v := .ref r1) rfl rfl rfl ?_)
            refine wp_of e142 c142_41 (rw_aload_n (pc' := 42) (v := .ref r0) rfl rfl rfl ?_)
            refine wp_of e142 c142_42 (xg_K (pc' := 45) lf_6_9 hW g0 sh_25 (by decide) (by decide) rfl q48299 rfl ?_)
            refine wp_of e142 c142_45 (rw_iload_n (pc' := 46) (z := v48462) rfl rfl ?_)
            refine wp_of e142 c142_46 (xa_L (pc' := 47) hW g48300 sh_26 (by decide) (ty_26 _) (by omega) (by omega) rfl (fun b48470 b48471 => ?_))
            refine wp_of e142 c142_47 (rw_iload_n (pc' := 48) (z := a2) rfl rfl ?_)
            refine wp_of e142 c142_48 (xc_S (pc' := 51) (as := [.ref r1, vL (H r48298 v48462.toNat), vI a2]) (st := []) (lm_6_104) rfl rfl (Nat.le_of_ble_eq_true rfl) rfl (by decide) (s_143 hW g1 ⟨by omega, by omega⟩ ⟨by omega, by omega⟩) (fun R48472 T48473 H48474 p48475 => ?_))
            obtain ⟨e48476, e48478, z48479, e48477, b48480⟩ := p48475
            subst e48476
            subst e48477
            subst e48478
            show wp _ _ 142 51 [(3, vI v48462), (0, .ref r0), (1, .ref r1), (2, vI a2)] [vI z48479] _ H _
            refine wp_of e142 c142_51 (rw_if_eq (p1 := 61) (p2 := 54) (by decide) rfl ⟨by omega, by omega⟩ (fun c48481 => ?_) (fun c48481 => ?_))
            · refine wp_of e142 c142_61 (rw_iinc (pc' := 64) (z := v48462) (L' := [(3, vI (v48462 + 1)), (0, .ref r0), (1, .ref r1), (2, vI a2)]) rfl rfl rfl rfl ?_)
              refine wp_of e142 c142_64 (rw_goto (p1 := 32) (by decide) ?_)
              exact wp_lc (ks := [3, 0, 1, 2]) (wl_c rfl (wl_c rfl (wl_c rfl (wl_c rfl wl_n)))) rfl (by decide) (ih48461 _ (by omega) (v48462 + 1) ⟨by omega, by omega⟩ rfl)
            · refine wp_of e142 c142_54 (rw_aload_n (pc' := 55) (v := .ref r0) rfl rfl rfl ?_)
              refine wp_of e142 c142_55 (rw_iload_n (pc' := 56) (z := v48462) rfl rfl ?_)
              refine wp_of e142 c142_56 (xp_I (pc' := 59) lf_6_81 hW g0 sh_25 (by decide) (by decide) ty_25_2 rfl rfl (by omega) (by omega) ⟨by omega, by omega⟩ rfl (fun H48482 e48483 w48484 => ?_))
              have f48485 := f0.put' e48483 g0 rfl
              have k48486 : H48482 r0 2 = v48462 := wq_u_s e48483
              refine wp_of e142 c142_59 (rw_iconst (pc' := 60) rfl ?_)
              exact wp_zreturn e142 c142_60 rfl (by omega) ⟨rfl, w48484, f48485, 0, rfl, ⟨by omega, by omega⟩⟩
      exact wp_lc (ks := [3, 0, 1, 2]) (wl_c rfl (wl_c rfl (wl_c rfl (wl_c rfl wl_n)))) rfl (by decide) (lp48459 _ 0 ⟨by omega, by omega⟩ rfl)
    · refine wp_of e142 c142_28 (rw_iconst (pc' := 29) rfl ?_)
      exact wp_zreturn e142 c142_29 rfl (by omega) ⟨rfl, hW, f0, 0, rfl, ⟨by omega, by omega⟩⟩
/-! StrikeAwake$Grounds.oneHour(LStrikeAwake$Parish;)I -/
theorem e141 : wq_en 141 = some (6, 4, false, some FieldType.int) := rfl
theorem c141_0 : mc_cd 141 0 = some (.iconst 0, 1) := by decide +kernel
theorem c141_1 : mc_cd 141 1 = some (.istore_n 2, 1) := by decide +kernel
theorem c141_2 : mc_cd 141 2 = some (.iload_n 2, 1) := by decide +kernel
theorem c141_3 : mc_cd 141 3 = some (.aload_n 1, 1) := by decide +kernel
theorem c141_4 : mc_cd 141 4 = some (.getfield 88, 3) := by decide +kernel
theorem c141_7 : mc_cd 141 7 = some (.if_icmp .ge 29, 3) := by decide +kernel
theorem c141_10 : mc_cd 141 10 = some (.iconst 1, 1) := by decide +kernel
theorem c141_11 : mc_cd 141 11 = some (.aload_n 1, 1) := by decide +kernel
theorem c141_12 : mc_cd 141 12 = some (.getfield 91, 3) := by decide +kernel
theorem c141_15 : mc_cd 141 15 = some (.iload_n 2, 1) := by decide +kernel
theorem c141_16 : mc_cd 141 16 = some (.iaload, 1) := by decide +kernel
theorem c141_17 : mc_cd 141 17 = some (.ishl, 1) := by decide +kernel
theorem c141_18 : mc_cd 141 18 = some (.istore_n 3, 1) := by decide +kernel
theorem c141_19 : mc_cd 141 19 = some (.aload_n 0, 1) := by decide +kernel
theorem c141_20 : mc_cd 141 20 = some (.aload_n 1, 1) := by decide +kernel
theorem c141_21 : mc_cd 141 21 = some (.iload_n 3, 1) := by decide +kernel
theorem c141_22 : mc_cd 141 22 = some (.invokevirtual 100, 3) := by decide +kernel
theorem c141_25 : mc_cd 141 25 = some (.ifCond .eq 5, 3) := by decide +kernel
theorem c141_28 : mc_cd 141 28 = some (.iload_n 3, 1) := by decide +kernel
theorem c141_29 : mc_cd 141 29 = some (.ireturn, 1) := by decide +kernel
theorem c141_30 : mc_cd 141 30 = some (.iinc 2 1, 3) := by decide +kernel
theorem c141_33 : mc_cd 141 33 = some (.goto (-31), 3) := by decide +kernel
theorem c141_36 : mc_cd 141 36 = some (.bipush (-2), 2) := by decide +kernel
theorem c141_38 : mc_cd 141 38 = some (.ireturn, 1) := by decide +kernel
abbrev q_141 (r0 : Nat) (r1 : Nat) (T : wq_T) (H : wq_H) : Option Value → wq_T → wq_H → Prop := fun r T' H' => T = T' ∧ WT T H' ∧ wfr [(25, 2)] T H H' ∧ ∃ z : Int, some (vI z) = r ∧ ((-2147483648) ≤ z ∧ z ≤ 2147483647)
set_option maxHeartbeats 4000000 in
theorem s_141 {kt : Nat → Option mc_E} {T : wq_T} {H : wq_H} {r0 : Nat} {r1 : Nat} (hW : WT T H) (g0 : T.2.2.2 r0 = some 25) (g1 : T.2.2.2 r1 = some 27) : wpc kt 4 141 [.ref r0, .ref r1] T H (q_141 r0 r1 T H) := by
  refine wp_enter e141 (Nat.le_of_ble_eq_true rfl) rfl ?_
  have f0 : wfr [(25, 2)] T H H := wfr.rf
  show wp _ _ 141 0 [(0, .ref r0), (1, .ref r1)] [] _ H _
  refine wp_of e141 c141_0 (rw_iconst (pc' := 1) rfl ?_)
  refine wp_of e141 c141_1 (rw_istore_n (pc' := 2) (z := 0) (L' := [(2, vI 0), (0, .ref r0), (1, .ref r1)]) rfl rfl rfl ?_)
  have lp48862 : ∀ (n48863 : Nat) (v48865 : Int) (H48866 : wq_H), WT T H48866 → wfr [(25, 2)] T H H48866 → (0 ≤ v48865 ∧ v48865 ≤ 24) → (24 - v48865).toNat = n48863 → wp kt 3 141 2 [(2, vI v48865), (0, .ref r0), (1, .ref r1)] [] T H48866 (q_141 r0 r1 T H) := by
    intro n48863
    induction n48863 using Nat.strongRecOn with
    | _ n48863 ih48864 =>
      intro v48865 H48866 w48867 f48868 b48869 m48870
      have f48871 := f0.tr f48868 rfl
      refine wp_of e141 c141_2 (rw_iload_n (pc' := 3) (z := v48865) rfl rfl ?_)
      refine wp_of e141 c141_3 (rw_aload_n (pc' := 4) (v := .ref r1) rfl rfl rfl ?_)
      refine wp_of e141 c141_4 (xg_I (pc' := 7) lf_6_88 w48867 g1 sh_27 (by decide) (by decide) ty_27_16 rfl rfl (fun b48872 b48873 => ?_))
      refine wp_of e141 c141_7 (rw_icmp_ge (p1 := 36) (p2 := 10) (by decide) rfl ⟨by omega, by omega⟩ ⟨by omega, by omega⟩ (fun c48874 => ?_) (fun c48874 => ?_))
      · refine wp_of e141 c141_36 (rw_bipush (pc' := 38) (z := -2) rfl (by decide) ?_)
        exact wp_ireturn e141 c141_38 rfl ⟨rfl, w48867, f48871, -2, rfl, ⟨by omega, by omega⟩⟩
      · refine wp_of e141 c141_10 (rw_iconst (pc' := 11) rfl ?_)
        refine wp_of e141 c141_11 (rw_aload_n (pc' := 12) (v := .ref r1) rfl rfl rfl ?_)
        refine wp_of e141 c141_12 (xg_R (pc' := 15) lf_6_91 w48867 g1 sh_27 (by decide) (by decide) ty_27_2 rfl rfl (fun r48875 q48876 g48877 => ?_))
        refine wp_of e141 c141_15 (rw_iload_n (pc' := 16) (z := v48865) rfl rfl ?_)
        refine wp_of e141 c141_16 (xa_I (so := 0) (pc' := 17) w48867 g48877 sh_30 (by decide) (ty_30 _) (by omega) (by omega) rfl (fun b48878 b48879 => ?_))
        refine wp_of e141 c141_17 (rw_ishl (pc' := 18) rfl ?_)
        obtain ⟨v48880, e48881⟩ : ∃ x : Int, x = wq_shl 1 (H48866 r48875 v48865.toNat) := ⟨_, rfl⟩
        rw [← e48881]
        have b48882 : -2147483648 ≤ v48880 ∧ v48880 ≤ 2147483647 := by
          rw [e48881]
          exact wI_shl _ _
        refine wp_of e141 c141_18 (rw_istore_n (pc' := 19) (z := v48880) (L' := [(3, vI v48880), (2, vI v48865), (0, .ref r0), (1, .ref r1)]) rfl rfl rfl ?_)
        refine wp_of e141 c141_19 (rw_aload_n (pc' := 20) (v := .ref r0) rfl rfl rfl ?_)
        refine wp_of e141 c141_20 (rw_aload_n (pc' := 21) (v := .ref r1) rfl rfl rfl ?_)
        refine wp_of e141 c141_21 (rw_iload_n (pc' := 22) (z := v48880) rfl rfl ?_)
        refine wp_of e141 c141_22 (xc_V (pc' := 25) (r := r0) (as := [.ref r1, vI v48880]) (st := []) (lm_6_100) rfl rfl (Nat.le_of_ble_eq_true rfl) w48867 g0 sh_25 (by decide) rfl (by decide) (s_142 w48867 g0 g1 ⟨by omega, by omega⟩) (fun R48883 T48884 H48885 p48886 => ?_))
        obtain ⟨e48887, w48889, f48890, z48891, e48888, b48892⟩ := p48886
        subst e48887
        subst e48888
        have f48893 := f48871.tr f48890 rfl
        have f48894 := f48868.tr f48890 rfl
        show wp _ _ 141 25 [(3, vI v48880), (2, vI v48865), (0, .ref r0), (1, .ref r1)] [vI z48891] _ H48885 _
        refine wp_of e141 c141_25 (rw_if_eq (p1 := 30) (p2 := 28) (by decide) rfl ⟨by omega, by omega⟩ (fun c48895 => ?_) (fun c48895 => ?_))
        · refine wp_of e141 c141_30 (rw_iinc (pc' := 33) (z := v48865) (L' := [(2, vI (v48865 + 1)), (3, vI v48880), (0, .ref r0), (1, .ref r1)]) rfl rfl rfl rfl ?_)
          refine wp_of e141 c141_33 (rw_goto (p1 := 2) (by decide) ?_)
          exact wp_lc (ks := [2, 3, 0, 1]) (wl_c rfl (wl_c rfl (wl_c rfl wl_n))) rfl (by decide) (ih48864 _ (by omega) (v48865 + 1) H48885 w48889 f48894 ⟨by omega, by omega⟩ rfl)
        · refine wp_of e141 c141_28 (rw_iload_n (pc' := 29) (z := v48880) rfl rfl ?_)
          exact wp_ireturn e141 c141_29 rfl ⟨rfl, w48889, f48893, v48880, rfl, ⟨by omega, by omega⟩⟩
  exact wp_lc (ks := [2, 0, 1]) (wl_c rfl (wl_c rfl (wl_c rfl wl_n))) rfl (by decide) (lp48862 _ 0 H hW wfr.rf ⟨by omega, by omega⟩ rfl)
/-! StrikeAwake$Grounds.twoHours(LStrikeAwake$Parish;)I -/
theorem e144 : wq_en 144 = some (6, 5, false, some FieldType.int) := rfl
theorem c144_0 : mc_cd 144 0 = some (.iconst 1, 1) := by decide +kernel
theorem c144_1 : mc_cd 144 1 = some (.istore_n 2, 1) := by decide +kernel
theorem c144_2 : mc_cd 144 2 = some (.iload_n 2, 1) := by decide +kernel
theorem c144_3 : mc_cd 144 3 = some (.aload_n 1, 1) := by decide +kernel
theorem c144_4 : mc_cd 144 4 = some (.getfield 88, 3) := by decide +kernel
theorem c144_7 : mc_cd 144 7 = some (.if_icmp .ge 54, 3) := by decide +kernel
theorem c144_10 : mc_cd 144 10 = some (.iconst 0, 1) := by decide +kernel
theorem c144_11 : mc_cd 144 11 = some (.istore_n 3, 1) := by decide +kernel
theorem c144_12 : mc_cd 144 12 = some (.iload_n 3, 1) := by decide +kernel
theorem c144_13 : mc_cd 144 13 = some (.iload_n 2, 1) := by decide +kernel
theorem c144_14 : mc_cd 144 14 = some (.if_icmp .ge 41, 3) := by decide +kernel
theorem c144_17 : mc_cd 144 17 = some (.iconst 1, 1) := by decide +kernel
theorem c144_18 : mc_cd 144 18 = some (.aload_n 1, 1) := by decide +kernel
theorem c144_19 : mc_cd 144 19 = some (.getfield 91, 3) := by decide +kernel
theorem c144_22 : mc_cd 144 22 = some (.iload_n 2, 1) := by decide +kernel
theorem c144_23 : mc_cd 144 23 = some (.iaload, 1) := by decide +kernel
theorem c144_24 : mc_cd 144 24 = some (.ishl, 1) := by decide +kernel
theorem c144_25 : mc_cd 144 25 = some (.iconst 1, 1) := by decide +kernel
theorem c144_26 : mc_cd 144 26 = some (.aload_n 1, 1) := by decide +kernel
theorem c144_27 : mc_cd 144 27 = some (.getfield 91, 3) := by decide +kernel
theorem c144_30 : mc_cd 144 30 = some (.iload_n 3, 1) := by decide +kernel
theorem c144_31 : mc_cd 144 31 = some (.iaload, 1) := by decide +kernel
theorem c144_32 : mc_cd 144 32 = some (.ishl, 1) := by decide +kernel
theorem c144_33 : mc_cd 144 33 = some (.ior, 1) := by decide +kernel
theorem c144_34 : mc_cd 144 34 = some (.istore 4, 2) := by decide +kernel
theorem c144_36 : mc_cd 144 36 = some (.aload_n 0, 1) := by decide +kernel
theorem c144_37 : mc_cd 144 37 = some (.aload_n 1, 1) := by decide +kernel
theorem c144_38 : mc_cd 144 38 = some (.iload 4, 2) := by decide +kernel
theorem c144_40 : mc_cd 144 40 = some (.invokevirtual 100, 3) := by decide +kernel
theorem c144_43 : mc_cd 144 43 = some (.ifCond .eq 6, 3) := by decide +kernel
theorem c144_46 : mc_cd 144 46 = some (.iload 4, 2) := by decide +kernel
theorem c144_48 : mc_cd 144 48 = some (.ireturn, 1) := by decide +kernel
theorem c144_49 : mc_cd 144 49 = some (.iinc 3 1, 3) := by decide +kernel
theorem c144_52 : mc_cd 144 52 = some (.goto (-40), 3) := by decide +kernel
theorem c144_55 : mc_cd 144 55 = some (.iinc 2 1, 3) := by decide +kernel
theorem c144_58 : mc_cd 144 58 = some (.goto (-56), 3) := by decide +kernel
theorem c144_61 : mc_cd 144 61 = some (.bipush (-2), 2) := by decide +kernel
theorem c144_63 : mc_cd 144 63 = some (.ireturn, 1) := by decide +kernel
abbrev q_144 (r0 : Nat) (r1 : Nat) (T : wq_T) (H : wq_H) : Option Value → wq_T → wq_H → Prop := fun r T' H' => T = T' ∧ WT T H' ∧ wfr [(25, 2)] T H H' ∧ ∃ z : Int, some (vI z) = r ∧ ((-2147483648) ≤ z ∧ z ≤ 2147483647)
set_option maxHeartbeats 4000000 in
theorem s_144 {kt : Nat → Option mc_E} {T : wq_T} {H : wq_H} {r0 : Nat} {r1 : Nat} (hW : WT T H) (g0 : T.2.2.2 r0 = some 25) (g1 : T.2.2.2 r1 = some 27) : wpc kt 4 144 [.ref r0, .ref r1] T H (q_144 r0 r1 T H) := by
  refine wp_enter e144 (Nat.le_of_ble_eq_true rfl) rfl ?_
  have f0 : wfr [(25, 2)] T H H := wfr.rf
  show wp _ _ 144 0 [(0, .ref r0), (1, .ref r1)] [] _ H _
  refine wp_of e144 c144_0 (rw_iconst (pc' := 1) rfl ?_)
  refine wp_of e144 c144_1 (rw_istore_n (pc' := 2) (z := 1) (L' := [(2, vI 1), (0, .ref r0), (1, .ref r1)]) rfl rfl rfl ?_)
  have lp51851 : ∀ (n51852 : Nat) (v51854 : Int) (H51855 : wq_H), WT T H51855 → wfr [(25, 2)] T H H51855 → (1 ≤ v51854 ∧ v51854 ≤ 24) → (24 - v51854).toNat = n51852 → wp kt 3 144 2 [(2, vI v51854), (0, .ref r0), (1, .ref r1)] [] T H51855 (q_144 r0 r1 T H) := by
    intro n51852
    induction n51852 using Nat.strongRecOn with
    | _ n51852 ih51853 =>
      intro v51854 H51855 w51856 f51857 b51858 m51859
      have f51860 := f0.tr f51857 rfl
      refine wp_of e144 c144_2 (rw_iload_n (pc' := 3) (z := v51854) rfl rfl ?_)
      refine wp_of e144 c144_3 (rw_aload_n (pc' := 4) (v := .ref r1) rfl rfl rfl ?_)
      refine wp_of e144 c144_4 (xg_I (pc' := 7) lf_6_88 w51856 g1 sh_27 (by decide) (by decide) ty_27_16 rfl rfl (fun b51861 b51862 => ?_))
      refine wp_of e144 c144_7 (rw_icmp_ge (p1 := 61) (p2 := 10) (by decide) rfl ⟨by omega, by omega⟩ ⟨by omega, by omega⟩ (fun c51863 => ?_) (fun c51863 => ?_))
      · refine wp_of e144 c144_61 (rw_bipush (pc' := 63) (z := -2) rfl (by decide) ?_)
        exact wp_ireturn e144 c144_63 rfl ⟨rfl, w51856, f51860, -2, rfl, ⟨by omega, by omega⟩⟩
      · refine wp_of e144 c144_10 (rw_iconst (pc' := 11) rfl ?_)
        refine wp_of e144 c144_11 (rw_istore_n (pc' := 12) (z := 0) (L' := [(3, vI 0), (2, vI v51854), (0, .ref r0), (1, .ref r1)]) rfl rfl rfl ?_)
        have lp52080 : ∀ (n52081 : Nat) (v52083 : Int) (H52084 : wq_H), WT T H52084 → wfr [(25, 2)] T H51855 H52084 → (0 ≤ v52083 ∧ v52083 ≤ 23) → (23 - v52083).toNat = n52081 → wp kt 3 144 12 [(3, vI v52083), (2, vI v51854), (0, .ref r0), (1, .ref r1)] [] T H52084 (q_144 r0 r1 T H) := by
          intro n52081
          induction n52081 using Nat.strongRecOn with
          | _ n52081 ih52082 =>
            intro v52083 H52084 w52085 f52086 b52087 m52088
            have f52089 := f51860.tr f52086 rfl
            have f52090 := f51857.tr f52086 rfl
            refine wp_of e144 c144_12 (rw_iload_n (pc' := 13) (z := v52083) rfl rfl ?_)
            refine wp_of e144 c144_13 (rw_iload_n (pc' := 14) (z := v51854) rfl rfl ?_)
            refine wp_of e144 c144_14 (rw_icmp_ge (p1 := 55) (p2 := 17) (by decide) rfl ⟨by omega, by omega⟩ ⟨by omega, by omega⟩ (fun c52091 => ?_) (fun c52091 => ?_))
            · refine wp_of e144 c144_55 (rw_iinc (pc' := 58) (z := v51854) (L' := [(2, vI (v51854 + 1)), (3, vI v52083), (0, .ref r0), (1, .ref r1)]) rfl rfl rfl rfl ?_)
              refine wp_of e144 c144_58 (rw_goto (p1 := 2) (by decide) ?_)
              exact wp_lc (ks := [2, 3, 0, 1]) (wl_c rfl (wl_c rfl (wl_c rfl wl_n))) rfl (by decide) (ih51853 _ (by omega) (v51854 + 1) H52084 w52085 f52090 ⟨by omega, by omega⟩ rfl)
            · refine wp_of e144 c144_17 (rw_iconst (pc' := 18) rfl ?_)
              refine wp_of e144 c144_18 (rw_aload_n (pc' := 19) (v := .ref r1) rfl rfl rfl ?_)
              refine wp_of e144 c144_19 (xg_R (pc' := 22) lf_6_91 w52085 g1 sh_27 (by decide) (by decide) ty_27_2 rfl rfl (fun r52092 q52093 g52094 => ?_))
              refine wp_of e144 c144_22 (rw_iload_n (pc' := 23) (z := v51854) rfl rfl ?_)
              refine wp_of e144 c144_23 (xa_I (so := 0) (pc' := 24) w52085 g52094 sh_30 (by decide) (ty_30 _) (by omega) (by omega) rfl (fun b52095 b52096 => ?_))
              refine wp_of e144 c144_24 (rw_ishl (pc' := 25) rfl ?_)
              obtain ⟨v52097, e52098⟩ : ∃ x : Int, x = wq_shl 1 (H52084 r52092 v51854.toNat) := ⟨_, rfl⟩
              rw [← e52098]
              have b52099 : -2147483648 ≤ v52097 ∧ v52097 ≤ 2147483647 := by
                rw [e52098]
                exact wI_shl _ _
              refine wp_of e144 c144_25 (rw_iconst (pc' := 26) rfl ?_)
              refine wp_of e144 c144_26 (rw_aload_n (pc' := 27) (v := .ref r1) rfl rfl rfl ?_)
              refine wp_of e144 c144_27 (xg_K (pc' := 30) lf_6_91 w52085 g1 sh_27 (by decide) (by decide) rfl q52093 rfl ?_)
              refine wp_of e144 c144_30 (rw_iload_n (pc' := 31) (z := v52083) rfl rfl ?_)
              refine wp_of e144 c144_31 (xa_I (so := 0) (pc' := 32) w52085 g52094 sh_30 (by decide) (ty_30 _) (by omega) (by omega) rfl (fun b52100 b52101 => ?_))
              refine wp_of e144 c144_32 (rw_ishl (pc' := 33) rfl ?_)
              obtain ⟨v52102, e52103⟩ : ∃ x : Int, x = wq_shl 1 (H52084 r52092 v52083.toNat) := ⟨_, rfl⟩
              rw [← e52103]
              have b52104 : -2147483648 ≤ v52102 ∧ v52102 ≤ 2147483647 := by
                rw [e52103]
                exact wI_shl _ _
              refine wp_of e144 c144_33 (rw_ior (pc' := 34) rfl ?_)
              obtain ⟨v52105, e52106⟩ : ∃ x : Int, x = wq_or v52097 v52102 := ⟨_, rfl⟩
              rw [← e52106]
              have b52107 : -2147483648 ≤ v52105 ∧ v52105 ≤ 2147483647 := by
                rw [e52106]
                exact wI_or _ _
              refine wp_of e144 c144_34 (rw_istore (pc' := 36) (z := v52105) (L' := [(4, vI v52105), (3, vI v52083), (2, vI v51854), (0, .ref r0), (1, .ref r1)]) rfl rfl rfl ?_)
              refine wp_of e144 c144_36 (rw_aload_n (pc' := 37) (v := .ref r0) rfl rfl rfl ?_)
              refine wp_of e144 c144_37 (rw_aload_n (pc' := 38) (v := .ref r1) rfl rfl rfl ?_)
              refine wp_of e144 c144_38 (rw_iload (pc' := 40) (z := v52105) rfl rfl ?_)
              refine wp_of e144 c144_40 (xc_V (pc' := 43) (r := r0) (as := [.ref r1, vI v52105]) (st := []) (lm_6_100) rfl rfl (Nat.le_of_ble_eq_true rfl) w52085 g0 sh_25 (by decide) rfl (by decide) (s_142 w52085 g0 g1 ⟨by omega, by omega⟩) (fun R52108 T52109 H52110 p52111 => ?_))
              obtain ⟨e52112, w52114, f52115, z52116, e52113, b52117⟩ := p52111
              subst e52112
              subst e52113
              have f52118 := f52089.tr f52115 rfl
              have f52119 := f52090.tr f52115 rfl
              have f52120 := f52086.tr f52115 rfl
              show wp _ _ 144 43 [(4, vI v52105), (3, vI v52083), (2, vI v51854), (0, .ref r0), (1, .ref r1)] [vI z52116] _ H52110 _
              refine wp_of e144 c144_43 (rw_if_eq (p1 := 49) (p2 := 46) (by decide) rfl ⟨by omega, by omega⟩ (fun c52121 => ?_) (fun c52121 => ?_))
              · refine wp_of e144 c144_49 (rw_iinc (pc' := 52) (z := v52083) (L' := [(3, vI (v52083 + 1)), (4, vI v52105), (2, vI v51854), (0, .ref r0), (1, .ref r1)]) rfl rfl rfl rfl ?_)
                refine wp_of e144 c144_52 (rw_goto (p1 := 12) (by decide) ?_)
                exact wp_lc (ks := [3, 4, 2, 0, 1]) (wl_c rfl (wl_c rfl (wl_c rfl (wl_c rfl wl_n)))) rfl (by decide) (ih52082 _ (by omega) (v52083 + 1) H52110 w52114 f52120 ⟨by omega, by omega⟩ rfl)
              · refine wp_of e144 c144_46 (rw_iload (pc' := 48) (z := v52105) rfl rfl ?_)
                exact wp_ireturn e144 c144_48 rfl ⟨rfl, w52114, f52118, v52105, rfl, ⟨by omega, by omega⟩⟩
        exact wp_lc (ks := [3, 2, 0, 1]) (wl_c rfl (wl_c rfl (wl_c rfl (wl_c rfl wl_n)))) rfl (by decide) (lp52080 _ 0 H51855 w51856 wfr.rf ⟨by omega, by omega⟩ rfl)
  exact wp_lc (ks := [2, 0, 1]) (wl_c rfl (wl_c rfl (wl_c rfl wl_n))) rfl (by decide) (lp51851 _ 1 H hW wfr.rf ⟨by omega, by omega⟩ rfl)
/-! StrikeAwake$Grounds.threeHours(LStrikeAwake$Parish;)I -/
theorem e145 : wq_en 145 = some (6, 7, false, some FieldType.int) := rfl
theorem c145_0 : mc_cd 145 0 = some (.iconst 2, 1) := by decide +kernel
theorem c145_1 : mc_cd 145 1 = some (.istore_n 2, 1) := by decide +kernel
theorem c145_2 : mc_cd 145 2 = some (.iload_n 2, 1) := by decide +kernel
theorem c145_3 : mc_cd 145 3 = some (.aload_n 1, 1) := by decide +kernel
theorem c145_4 : mc_cd 145 4 = some (.getfield 88, 3) := by decide +kernel
theorem c145_7 : mc_cd 145 7 = some (.if_icmp .ge 83, 3) := by decide +kernel
theorem c145_10 : mc_cd 145 10 = some (.iconst 1, 1) := by decide +kernel
theorem c145_11 : mc_cd 145 11 = some (.istore_n 3, 1) := by decide +kernel
theorem c145_12 : mc_cd 145 12 = some (.iload_n 3, 1) := by decide +kernel
theorem c145_13 : mc_cd 145 13 = some (.iload_n 2, 1) := by decide +kernel
theorem c145_14 : mc_cd 145 14 = some (.if_icmp .ge 70, 3) := by decide +kernel
theorem c145_17 : mc_cd 145 17 = some (.iconst 0, 1) := by decide +kernel
theorem c145_18 : mc_cd 145 18 = some (.istore 4, 2) := by decide +kernel
theorem c145_20 : mc_cd 145 20 = some (.iload 4, 2) := by decide +kernel
theorem c145_22 : mc_cd 145 22 = some (.iload_n 3, 1) := by decide +kernel
theorem c145_23 : mc_cd 145 23 = some (.if_icmp .ge 55, 3) := by decide +kernel
theorem c145_26 : mc_cd 145 26 = some (.iconst 1, 1) := by decide +kernel
theorem c145_27 : mc_cd 145 27 = some (.aload_n 1, 1) := by decide +kernel
theorem c145_28 : mc_cd 145 28 = some (.getfield 91, 3) := by decide +kernel
theorem c145_31 : mc_cd 145 31 = some (.iload_n 2, 1) := by decide +kernel
theorem c145_32 : mc_cd 145 32 = some (.iaload, 1) := by decide +kernel
theorem c145_33 : mc_cd 145 33 = some (.ishl, 1) := by decide +kernel
theorem c145_34 : mc_cd 145 34 = some (.iconst 1, 1) := by decide +kernel
theorem c145_35 : mc_cd 145 35 = some (.aload_n 1, 1) := by decide +kernel
theorem c145_36 : mc_cd 145 36 = some (.getfield 91, 3) := by decide +kernel
theorem c145_39 : mc_cd 145 39 = some (.iload_n 3, 1) := by decide +kernel
theorem c145_40 : mc_cd 145 40 = some (.iaload, 1) := by decide +kernel
theorem c145_41 : mc_cd 145 41 = some (.ishl, 1) := by decide +kernel
theorem c145_42 : mc_cd 145 42 = some (.ior, 1) := by decide +kernel
theorem c145_43 : mc_cd 145 43 = some (.istore 5, 2) := by decide +kernel
theorem c145_45 : mc_cd 145 45 = some (.iload 5, 2) := by decide +kernel
theorem c145_47 : mc_cd 145 47 = some (.iconst 1, 1) := by decide +kernel
theorem c145_48 : mc_cd 145 48 = some (.aload_n 1, 1) := by decide +kernel
theorem c145_49 : mc_cd 145 49 = some (.getfield 91, 3) := by decide +kernel
theorem c145_52 : mc_cd 145 52 = some (.iload 4, 2) := by decide +kernel
theorem c145_54 : mc_cd 145 54 = some (.iaload, 1) := by decide +kernel
theorem c145_55 : mc_cd 145 55 = some (.ishl, 1) := by decide +kernel
theorem c145_56 : mc_cd 145 56 = some (.ior, 1) := by decide +kernel
theorem c145_57 : mc_cd 145 57 = some (.istore 6, 2) := by decide +kernel
theorem c145_59 : mc_cd 145 59 = some (.aload_n 0, 1) := by decide +kernel
theorem c145_60 : mc_cd 145 60 = some (.aload_n 1, 1) := by decide +kernel
theorem c145_61 : mc_cd 145 61 = some (.iload 6, 2) := by decide +kernel
theorem c145_63 : mc_cd 145 63 = some (.invokevirtual 100, 3) := by decide +kernel
theorem c145_66 : mc_cd 145 66 = some (.ifCond .eq 6, 3) := by decide +kernel
theorem c145_69 : mc_cd 145 69 = some (.iload 6, 2) := by decide +kernel
theorem c145_71 : mc_cd 145 71 = some (.ireturn, 1) := by decide +kernel
theorem c145_72 : mc_cd 145 72 = some (.iinc 4 1, 3) := by decide +kernel
theorem c145_75 : mc_cd 145 75 = some (.goto (-55), 3) := by decide +kernel
theorem c145_78 : mc_cd 145 78 = some (.iinc 3 1, 3) := by decide +kernel
theorem c145_81 : mc_cd 145 81 = some (.goto (-69), 3) := by decide +kernel
theorem c145_84 : mc_cd 145 84 = some (.iinc 2 1, 3) := by decide +kernel
theorem c145_87 : mc_cd 145 87 = some (.goto (-85), 3) := by decide +kernel
theorem c145_90 : mc_cd 145 90 = some (.bipush (-2), 2) := by decide +kernel
theorem c145_92 : mc_cd 145 92 = some (.ireturn, 1) := by decide +kernel
abbrev q_145 (r0 : Nat) (r1 : Nat) (T : wq_T) (H : wq_H) : Option Value → wq_T → wq_H → Prop := fun r T' H' => T = T' ∧ WT T H' ∧ wfr [(25, 2)] T H H' ∧ ∃ z : Int, some (vI z) = r ∧ ((-2147483648) ≤ z ∧ z ≤ 2147483647)
set_option maxHeartbeats 4000000 in
theorem s_145 {kt : Nat → Option mc_E} {T : wq_T} {H : wq_H} {r0 : Nat} {r1 : Nat} (hW : WT T H) (g0 : T.2.2.2 r0 = some 25) (g1 : T.2.2.2 r1 = some 27) : wpc kt 4 145 [.ref r0, .ref r1] T H (q_145 r0 r1 T H) := by
  refine wp_enter e145 (Nat.le_of_ble_eq_true rfl) rfl ?_
  have f0 : wfr [(25, 2)] T H H := wfr.rf
  show wp _ _ 145 0 [(0, .ref r0), (1, .ref r1)] [] _ H _
  refine wp_of e145 c145_0 (rw_iconst (pc' := 1) rfl ?_)
  refine wp_of e145 c145_1 (rw_istore_n (pc' := 2) (z := 2) (L' := [(2, vI 2), (0, .ref r0), (1, .ref r1)]) rfl rfl rfl ?_)
  have lp72509 : ∀ (n72510 : Nat) (v72512 : Int) (H72513 : wq_H), WT T H72513 → wfr [(25, 2)] T H H72513 → (2 ≤ v72512 ∧ v72512 ≤ 24) → (24 - v72512).toNat = n72510 → wp kt 3 145 2 [(2, vI v72512), (0, .ref r0), (1, .ref r1)] [] T H72513 (q_145 r0 r1 T H) := by
    intro n72510
    induction n72510 using Nat.strongRecOn with
    | _ n72510 ih72511 =>
      intro v72512 H72513 w72514 f72515 b72516 m72517
      have f72518 := f0.tr f72515 rfl
      refine wp_of e145 c145_2 (rw_iload_n (pc' := 3) (z := v72512) rfl rfl ?_)
      refine wp_of e145 c145_3 (rw_aload_n (pc' := 4) (v := .ref r1) rfl rfl rfl ?_)
      refine wp_of e145 c145_4 (xg_I (pc' := 7) lf_6_88 w72514 g1 sh_27 (by decide) (by decide) ty_27_16 rfl rfl (fun b72519 b72520 => ?_))
      refine wp_of e145 c145_7 (rw_icmp_ge (p1 := 90) (p2 := 10) (by decide) rfl ⟨by omega, by omega⟩ ⟨by omega, by omega⟩ (fun c72521 => ?_) (fun c72521 => ?_))
      · refine wp_of e145 c145_90 (rw_bipush (pc' := 92) (z := -2) rfl (by decide) ?_)
        exact wp_ireturn e145 c145_92 rfl ⟨rfl, w72514, f72518, -2, rfl, ⟨by omega, by omega⟩⟩
      · refine wp_of e145 c145_10 (rw_iconst (pc' := 11) rfl ?_)
        refine wp_of e145 c145_11 (rw_istore_n (pc' := 12) (z := 1) (L' := [(3, vI 1), (2, vI v72512), (0, .ref r0), (1, .ref r1)]) rfl rfl rfl ?_)
        have lp74221 : ∀ (n74222 : Nat) (v74224 : Int) (H74225 : wq_H), WT T H74225 → wfr [(25, 2)] T H72513 H74225 → (1 ≤ v74224 ∧ v74224 ≤ 23) → (23 - v74224).toNat = n74222 → wp kt 3 145 12 [(3, vI v74224), (2, vI v72512), (0, .ref r0), (1, .ref r1)] [] T H74225 (q_145 r0 r1 T H) := by
          intro n74222
          induction n74222 using Nat.strongRecOn with
          | _ n74222 ih74223 =>
            intro v74224 H74225 w74226 f74227 b74228 m74229
            have f74230 := f72518.tr f74227 rfl
            have f74231 := f72515.tr f74227 rfl
            refine wp_of e145 c145_12 (rw_iload_n (pc' := 13) (z := v74224) rfl rfl ?_)
            refine wp_of e145 c145_13 (rw_iload_n (pc' := 14) (z := v72512) rfl rfl ?_)
            refine wp_of e145 c145_14 (rw_icmp_ge (p1 := 84) (p2 := 17) (by decide) rfl ⟨by omega, by omega⟩ ⟨by omega, by omega⟩ (fun c74232 => ?_) (fun c74232 => ?_))
            · refine wp_of e145 c145_84 (rw_iinc (pc' := 87) (z := v72512) (L' := [(2, vI (v72512 + 1)), (3, vI v74224), (0, .ref r0), (1, .ref r1)]) rfl rfl rfl rfl ?_)
              refine wp_of e145 c145_87 (rw_goto (p1 := 2) (by decide) ?_)
              exact wp_lc (ks := [2, 3, 0, 1]) (wl_c rfl (wl_c rfl (wl_c rfl wl_n))) rfl (by decide) (ih72511 _ (by omega) (v72512 + 1) H74225 w74226 f74231 ⟨by omega, by omega⟩ rfl)
            · refine wp_of e145 c145_17 (rw_iconst (pc' := 18) rfl ?_)
              refine wp_of e145 c145_18 (rw_istore (pc' := 20) (z := 0) (L' := [(4, vI 0), (3, vI v74224), (2, vI v72512), (0, .ref r0), (1, .ref r1)]) rfl rfl rfl ?_)
              have lp74505 : ∀ (n74506 : Nat) (v74508 : Int) (H74509 : wq_H), WT T H74509 → wfr [(25, 2)] T H74225 H74509 → (0 ≤ v74508 ∧ v74508 ≤ 22) → (22 - v74508).toNat = n74506 → wp kt 3 145 20 [(4, vI v74508), (3, vI v74224), (2, vI v72512), (0, .ref r0), (1, .ref r1)] [] T H74509 (q_145 r0 r1 T H) := by
                intro n74506
                induction n74506 using Nat.strongRecOn with
                | _ n74506 ih74507 =>
                  intro v74508 H74509 w74510 f74511 b74512 m74513
                  have f74514 := f74230.tr f74511 rfl
                  have f74515 := f74231.tr f74511 rfl
                  have f74516 := f74227.tr f74511 rfl
                  refine wp_of e145 c145_20 (rw_iload (pc' := 22) (z := v74508) rfl rfl ?_)
                  refine wp_of e145 c145_22 (rw_iload_n (pc' := 23) (z := v74224) rfl rfl ?_)
                  refine wp_of e145 c145_23 (rw_icmp_ge (p1 := 78) (p2 := 26) (by decide) rfl ⟨by omega, by omega⟩ ⟨by omega, by omega⟩ (fun c74517 => ?_) (fun c74517 => ?_))
                  · refine wp_of e145 c145_78 (rw_iinc (pc' := 81) (z := v74224) (L' := [(3, vI (v74224 + 1)), (4, vI v74508), (2, vI v72512), (0, .ref r0), (1, .ref r1)]) rfl rfl rfl rfl ?_)
                    refine wp_of e145 c145_81 (rw_goto (p1 := 12) (by decide) ?_)
                    exact wp_lc (ks := [3, 4, 2, 0, 1]) (wl_c rfl (wl_c rfl (wl_c rfl (wl_c rfl wl_n)))) rfl (by decide) (ih74223 _ (by omega) (v74224 + 1) H74509 w74510 f74516 ⟨by omega, by omega⟩ rfl)
                  · refine wp_of e145 c145_26 (rw_iconst (pc' := 27) rfl ?_)
                    refine wp_of e145 c145_27 (rw_aload_n (pc' := 28) (v := .ref r1) rfl rfl rfl ?_)
                    refine wp_of e145 c145_28 (xg_R (pc' := 31) lf_6_91 w74510 g1 sh_27 (by decide) (by decide) ty_27_2 rfl rfl (fun r74518 q74519 g74520 => ?_))
                    refine wp_of e145 c145_31 (rw_iload_n (pc' := 32) (z := v72512) rfl rfl ?_)
                    refine wp_of e145 c145_32 (xa_I (so := 0) (pc' := 33) w74510 g74520 sh_30 (by decide) (ty_30 _) (by omega) (by omega) rfl (fun b74521 b74522 => ?_))
                    refine wp_of e145 c145_33 (rw_ishl (pc' := 34) rfl ?_)
                    obtain ⟨v74523, e74524⟩ : ∃ x : Int, x = wq_shl 1 (H74509 r74518 v72512.toNat) := ⟨_, rfl⟩
                    rw [← e74524]
                    have b74525 : -2147483648 ≤ v74523 ∧ v74523 ≤ 2147483647 := by
                      rw [e74524]
                      exact wI_shl _ _
                    refine wp_of e145 c145_34 (rw_iconst (pc' := 35) rfl ?_)
                    refine wp_of e145 c145_35 (rw_aload_n (pc' := 36) (v := .ref r1) rfl rfl rfl ?_)
                    refine wp_of e145 c145_36 (xg_K (pc' := 39) lf_6_91 w74510 g1 sh_27 (by decide) (by decide) rfl q74519 rfl ?_)
                    refine wp_of e145 c145_39 (rw_iload_n (pc' := 40) (z := v74224) rfl rfl ?_)
                    refine wp_of e145 c145_40 (xa_I (so := 0) (pc' := 41) w74510 g74520 sh_30 (by decide) (ty_30 _) (by omega) (by omega) rfl (fun b74526 b74527 => ?_))
                    refine wp_of e145 c145_41 (rw_ishl (pc' := 42) rfl ?_)
                    obtain ⟨v74528, e74529⟩ : ∃ x : Int, x = wq_shl 1 (H74509 r74518 v74224.toNat) := ⟨_, rfl⟩
                    rw [← e74529]
                    have b74530 : -2147483648 ≤ v74528 ∧ v74528 ≤ 2147483647 := by
                      rw [e74529]
                      exact wI_shl _ _
                    refine wp_of e145 c145_42 (rw_ior (pc' := 43) rfl ?_)
                    obtain ⟨v74531, e74532⟩ : ∃ x : Int, x = wq_or v74523 v74528 := ⟨_, rfl⟩
                    rw [← e74532]
                    have b74533 : -2147483648 ≤ v74531 ∧ v74531 ≤ 2147483647 := by
                      rw [e74532]
                      exact wI_or _ _
                    refine wp_of e145 c145_43 (rw_istore (pc' := 45) (z := v74531) (L' := [(5, vI v74531), (4, vI v74508), (3, vI v74224), (2, vI v72512), (0, .ref r0), (1, .ref r1)]) rfl rfl rfl ?_)
                    refine wp_of e145 c145_45 (rw_iload (pc' := 47) (z := v74531) rfl rfl ?_)
                    refine wp_of e145 c145_47 (rw_iconst (pc' := 48) rfl ?_)
                    refine wp_of e145 c145_48 (rw_aload_n (pc' := 49) (v := .ref r1) rfl rfl rfl ?_)
                    refine wp_of e145 c145_49 (xg_K (pc' := 52) lf_6_91 w74510 g1 sh_27 (by decide) (by decide) rfl q74519 rfl ?_)
                    refine wp_of e145 c145_52 (rw_iload (pc' := 54) (z := v74508) rfl rfl ?_)
                    refine wp_of e145 c145_54 (xa_I (so := 0) (pc' := 55) w74510 g74520 sh_30 (by decide) (ty_30 _) (by omega) (by omega) rfl (fun b74534 b74535 => ?_))
                    refine wp_of e145 c145_55 (rw_ishl (pc' := 56) rfl ?_)
                    obtain ⟨v74536, e74537⟩ : ∃ x : Int, x = wq_shl 1 (H74509 r74518 v74508.toNat) := ⟨_, rfl⟩
                    rw [← e74537]
                    have b74538 : -2147483648 ≤ v74536 ∧ v74536 ≤ 2147483647 := by
                      rw [e74537]
                      exact wI_shl _ _
                    refine wp_of e145 c145_56 (rw_ior (pc' := 57) rfl ?_)
                    obtain ⟨v74539, e74540⟩ : ∃ x : Int, x = wq_or v74531 v74536 := ⟨_, rfl⟩
                    rw [← e74540]
                    have b74541 : -2147483648 ≤ v74539 ∧ v74539 ≤ 2147483647 := by
                      rw [e74540]
                      exact wI_or _ _
                    refine wp_of e145 c145_57 (rw_istore (pc' := 59) (z := v74539) (L' := [(6, vI v74539), (5, vI v74531), (4, vI v74508), (3, vI v74224), (2, vI v72512), (0, .ref r0), (1, .ref r1)]) rfl rfl rfl ?_)
                    refine wp_of e145 c145_59 (rw_aload_n (pc' := 60) (v := .ref r0) rfl rfl rfl ?_)
                    refine wp_of e145 c145_60 (rw_aload_n (pc' := 61) (v := .ref r1) rfl rfl rfl ?_)
                    refine wp_of e145 c145_61 (rw_iload (pc' := 63) (z := v74539) rfl rfl ?_)
                    refine wp_of e145 c145_63 (xc_V (pc' := 66) (r := r0) (as := [.ref r1, vI v74539]) (st := []) (lm_6_100) rfl rfl (Nat.le_of_ble_eq_true rfl) w74510 g0 sh_25 (by decide) rfl (by decide) (s_142 w74510 g0 g1 ⟨by omega, by omega⟩) (fun R74542 T74543 H74544 p74545 => ?_))
                    obtain ⟨e74546, w74548, f74549, z74550, e74547, b74551⟩ := p74545
                    subst e74546
                    subst e74547
                    have f74552 := f74514.tr f74549 rfl
                    have f74553 := f74515.tr f74549 rfl
                    have f74554 := f74516.tr f74549 rfl
                    have f74555 := f74511.tr f74549 rfl
                    show wp _ _ 145 66 [(6, vI v74539), (5, vI v74531), (4, vI v74508), (3, vI v74224), (2, vI v72512), (0, .ref r0), (1, .ref r1)] [vI z74550] _ H74544 _
                    refine wp_of e145 c145_66 (rw_if_eq (p1 := 72) (p2 := 69) (by decide) rfl ⟨by omega, by omega⟩ (fun c74556 => ?_) (fun c74556 => ?_))
                    · refine wp_of e145 c145_72 (rw_iinc (pc' := 75) (z := v74508) (L' := [(4, vI (v74508 + 1)), (6, vI v74539), (5, vI v74531), (3, vI v74224), (2, vI v72512), (0, .ref r0), (1, .ref r1)]) rfl rfl rfl rfl ?_)
                      refine wp_of e145 c145_75 (rw_goto (p1 := 20) (by decide) ?_)
                      exact wp_lc (ks := [4, 6, 5, 3, 2, 0, 1]) (wl_c rfl (wl_c rfl (wl_c rfl (wl_c rfl (wl_c rfl wl_n))))) rfl (by decide) (ih74507 _ (by omega) (v74508 + 1) H74544 w74548 f74555 ⟨by omega, by omega⟩ rfl)
                    · refine wp_of e145 c145_69 (rw_iload (pc' := 71) (z := v74539) rfl rfl ?_)
                      exact wp_ireturn e145 c145_71 rfl ⟨rfl, w74548, f74552, v74539, rfl, ⟨by omega, by omega⟩⟩
              exact wp_lc (ks := [4, 3, 2, 0, 1]) (wl_c rfl (wl_c rfl (wl_c rfl (wl_c rfl (wl_c rfl wl_n))))) rfl (by decide) (lp74505 _ 0 H74225 w74226 wfr.rf ⟨by omega, by omega⟩ rfl)
        exact wp_lc (ks := [3, 2, 0, 1]) (wl_c rfl (wl_c rfl (wl_c rfl (wl_c rfl wl_n)))) rfl (by decide) (lp74221 _ 1 H72513 w72514 wfr.rf ⟨by omega, by omega⟩ rfl)
  exact wp_lc (ks := [2, 0, 1]) (wl_c rfl (wl_c rfl (wl_c rfl wl_n))) rfl (by decide) (lp72509 _ 2 H hW wfr.rf ⟨by omega, by omega⟩ rfl)
/-! StrikeAwake$Grounds.fewestHours(LStrikeAwake$Parish;LStrikeAwake$Walk;)I -/
theorem e138 : wq_en 138 = some (6, 4, false, some FieldType.int) := rfl
theorem c138_0 : mc_cd 138 0 = some (.aload_n 0, 1) := by decide +kernel
theorem c138_1 : mc_cd 138 1 = some (.aload_n 1, 1) := by decide +kernel
theorem c138_2 : mc_cd 138 2 = some (.aload_n 2, 1) := by decide +kernel
theorem c138_3 : mc_cd 138 3 = some (.invokevirtual 64, 3) := by decide +kernel
theorem c138_6 : mc_cd 138 6 = some (.aload_n 0, 1) := by decide +kernel
theorem c138_7 : mc_cd 138 7 = some (.getfield 68, 3) := by decide +kernel
theorem c138_10 : mc_cd 138 10 = some (.ifCond .ne 5, 3) := by decide +kernel
theorem c138_13 : mc_cd 138 13 = some (.iconst 0, 1) := by decide +kernel
theorem c138_14 : mc_cd 138 14 = some (.ireturn, 1) := by decide +kernel
theorem c138_15 : mc_cd 138 15 = some (.aload_n 0, 1) := by decide +kernel
theorem c138_16 : mc_cd 138 16 = some (.aload_n 1, 1) := by decide +kernel
theorem c138_17 : mc_cd 138 17 = some (.invokevirtual 72, 3) := by decide +kernel
theorem c138_20 : mc_cd 138 20 = some (.istore_n 3, 1) := by decide +kernel
theorem c138_21 : mc_cd 138 21 = some (.iload_n 3, 1) := by decide +kernel
theorem c138_22 : mc_cd 138 22 = some (.bipush (-2), 2) := by decide +kernel
theorem c138_24 : mc_cd 138 24 = some (.if_icmp .ne 9, 3) := by decide +kernel
theorem c138_27 : mc_cd 138 27 = some (.aload_n 0, 1) := by decide +kernel
theorem c138_28 : mc_cd 138 28 = some (.aload_n 1, 1) := by decide +kernel
theorem c138_29 : mc_cd 138 29 = some (.invokevirtual 75, 3) := by decide +kernel
theorem c138_32 : mc_cd 138 32 = some (.istore_n 3, 1) := by decide +kernel
theorem c138_33 : mc_cd 138 33 = some (.iload_n 3, 1) := by decide +kernel
theorem c138_34 : mc_cd 138 34 = some (.bipush (-2), 2) := by decide +kernel
theorem c138_36 : mc_cd 138 36 = some (.if_icmp .ne 11, 3) := by decide +kernel
theorem c138_39 : mc_cd 138 39 = some (.aload_n 0, 1) := by decide +kernel
theorem c138_40 : mc_cd 138 40 = some (.aload_n 1, 1) := by decide +kernel
theorem c138_41 : mc_cd 138 41 = some (.invokevirtual 78, 3) := by decide +kernel
theorem c138_44 : mc_cd 138 44 = some (.goto 4, 3) := by decide +kernel
theorem c138_47 : mc_cd 138 47 = some (.iload_n 3, 1) := by decide +kernel
theorem c138_48 : mc_cd 138 48 = some (.ireturn, 1) := by decide +kernel
abbrev q_138 (r0 : Nat) (r1 : Nat) (r2 : Nat) (T : wq_T) (H : wq_H) : Option Value → wq_T → wq_H → Prop := fun r T' H' => T = T' ∧ WT T H' ∧ wfr [(25, 1), (25, 2), (6, 5), (8, 999), (10, 999), (26, 999), (9, 999), (7, 999), (11, 999)] T H H' ∧ ∃ z : Int, some (vI z) = r ∧ ((-2147483648) ≤ z ∧ z ≤ 2147483647)
set_option maxHeartbeats 4000000 in
theorem s_138 {kt : Nat → Option mc_E} {T : wq_T} {H : wq_H} {r0 : Nat} {r1 : Nat} {r2 : Nat} (hW : WT T H) (g0 : T.2.2.2 r0 = some 25) (g1 : T.2.2.2 r1 = some 27) (g2 : T.2.2.2 r2 = some 6) : wpc kt 5 138 [.ref r0, .ref r1, .ref r2] T H (q_138 r0 r1 r2 T H) := by
  refine wp_enter e138 (Nat.le_of_ble_eq_true rfl) rfl ?_
  have f0 : wfr [(25, 1), (25, 2), (6, 5), (8, 999), (10, 999), (26, 999), (9, 999), (7, 999), (11, 999)] T H H := wfr.rf
  show wp _ _ 138 0 [(0, .ref r0), (1, .ref r1), (2, .ref r2)] [] _ H _
  refine wp_of e138 c138_0 (rw_aload_n (pc' := 1) (v := .ref r0) rfl rfl rfl ?_)
  refine wp_of e138 c138_1 (rw_aload_n (pc' := 2) (v := .ref r1) rfl rfl rfl ?_)
  refine wp_of e138 c138_2 (rw_aload_n (pc' := 3) (v := .ref r2) rfl rfl rfl ?_)
  refine wp_of e138 c138_3 (xc_V (pc' := 6) (r := r0) (as := [.ref r1, .ref r2]) (st := []) (lm_6_64) rfl rfl (Nat.le_of_ble_eq_true rfl) hW g0 sh_25 (by decide) rfl (by decide) (s_139 hW g0 g1 g2) (fun R74616 T74617 H74618 p74619 => ?_))
  obtain ⟨e74620, w74622, f74623, e74621⟩ := p74619
  subst e74620
  subst e74621
  have f74624 := f0.tr f74623 rfl
  show wp _ _ 138 6 [(0, .ref r0), (1, .ref r1), (2, .ref r2)] [] _ H74618 _
  refine wp_of e138 c138_6 (rw_aload_n (pc' := 7) (v := .ref r0) rfl rfl rfl ?_)
  refine wp_of e138 c138_7 (xg_I (pc' := 10) lf_6_68 w74622 g0 sh_25 (by decide) (by decide) ty_25_1 rfl rfl (fun b74625 b74626 => ?_))
  refine wp_of e138 c138_10 (rw_if_ne (p1 := 15) (p2 := 13) (by decide) rfl ⟨by omega, by omega⟩ (fun c74627 => ?_) (fun c74627 => ?_))
  · refine wp_of e138 c138_15 (rw_aload_n (pc' := 16) (v := .ref r0) rfl rfl rfl ?_)
    refine wp_of e138 c138_16 (rw_aload_n (pc' := 17) (v := .ref r1) rfl rfl rfl ?_)
    refine wp_of e138 c138_17 (xc_V (pc' := 20) (r := r0) (as := [.ref r1]) (st := []) (lm_6_72) rfl rfl (Nat.le_of_ble_eq_true rfl) w74622 g0 sh_25 (by decide) rfl (by decide) (s_141 w74622 g0 g1) (fun R74628 T74629 H74630 p74631 => ?_))
    obtain ⟨e74632, w74634, f74635, z74636, e74633, b74637⟩ := p74631
    subst e74632
    subst e74633
    have f74638 := f74624.tr f74635 rfl
    show wp _ _ 138 20 [(0, .ref r0), (1, .ref r1), (2, .ref r2)] [vI z74636] _ H74630 _
    refine wp_of e138 c138_20 (rw_istore_n (pc' := 21) (z := z74636) (L' := [(3, vI z74636), (0, .ref r0), (1, .ref r1), (2, .ref r2)]) rfl rfl rfl ?_)
    refine wp_of e138 c138_21 (rw_iload_n (pc' := 22) (z := z74636) rfl rfl ?_)
    refine wp_of e138 c138_22 (rw_bipush (pc' := 24) (z := -2) rfl (by decide) ?_)
    refine wp_of e138 c138_24 (rw_icmp_ne (p1 := 33) (p2 := 27) (by decide) rfl ⟨by omega, by omega⟩ ⟨by omega, by omega⟩ (fun c74639 => ?_) (fun c74639 => ?_))
    · refine wp_of e138 c138_33 (rw_iload_n (pc' := 34) (z := z74636) rfl rfl ?_)
      refine wp_of e138 c138_34 (rw_bipush (pc' := 36) (z := -2) rfl (by decide) ?_)
      refine wp_of e138 c138_36 (rw_icmp_ne (p1 := 47) (p2 := 39) (by decide) rfl ⟨by omega, by omega⟩ ⟨by omega, by omega⟩ (fun c74640 => ?_) (fun c74640 => ?_))
      · refine wp_of e138 c138_47 (rw_iload_n (pc' := 48) (z := z74636) rfl rfl ?_)
        exact wp_ireturn e138 c138_48 rfl ⟨rfl, w74634, f74638, z74636, rfl, ⟨by omega, by omega⟩⟩
      · refine wp_of e138 c138_39 (rw_aload_n (pc' := 40) (v := .ref r0) rfl rfl rfl ?_)
        refine wp_of e138 c138_40 (rw_aload_n (pc' := 41) (v := .ref r1) rfl rfl rfl ?_)
        refine wp_of e138 c138_41 (xc_V (pc' := 44) (r := r0) (as := [.ref r1]) (st := []) (lm_6_78) rfl rfl (Nat.le_of_ble_eq_true rfl) w74634 g0 sh_25 (by decide) rfl (by decide) (s_145 w74634 g0 g1) (fun R74641 T74642 H74643 p74644 => ?_))
        obtain ⟨e74645, w74647, f74648, z74649, e74646, b74650⟩ := p74644
        subst e74645
        subst e74646
        have f74651 := f74638.tr f74648 rfl
        show wp _ _ 138 44 [(3, vI z74636), (0, .ref r0), (1, .ref r1), (2, .ref r2)] [vI z74649] _ H74643 _
        refine wp_of e138 c138_44 (rw_goto (p1 := 48) (by decide) ?_)
        exact wp_ireturn e138 c138_48 rfl ⟨rfl, w74647, f74651, z74649, rfl, ⟨by omega, by omega⟩⟩
    · refine wp_of e138 c138_27 (rw_aload_n (pc' := 28) (v := .ref r0) rfl rfl rfl ?_)
      refine wp_of e138 c138_28 (rw_aload_n (pc' := 29) (v := .ref r1) rfl rfl rfl ?_)
      refine wp_of e138 c138_29 (xc_V (pc' := 32) (r := r0) (as := [.ref r1]) (st := []) (lm_6_75) rfl rfl (Nat.le_of_ble_eq_true rfl) w74634 g0 sh_25 (by decide) rfl (by decide) (s_144 w74634 g0 g1) (fun R74652 T74653 H74654 p74655 => ?_))
      obtain ⟨e74656, w74658, f74659, z74660, e74657, b74661⟩ := p74655
      subst e74656
      subst e74657
      have f74662 := f74638.tr f74659 rfl
      show wp _ _ 138 32 [(3, vI z74636), (0, .ref r0), (1, .ref r1), (2, .ref r2)] [vI z74660] _ H74654 _
      refine wp_of e138 c138_32 (rw_istore_n (pc' := 33) (z := z74660) (L' := [(3, vI z74660), (0, .ref r0), (1, .ref r1), (2, .ref r2)]) rfl rfl rfl ?_)
      refine wp_of e138 c138_33 (rw_iload_n (pc' := 34) (z := z74660) rfl rfl ?_)
      refine wp_of e138 c138_34 (rw_bipush (pc' := 36) (z := -2) rfl (by decide) ?_)
      refine wp_of e138 c138_36 (rw_icmp_ne (p1 := 47) (p2 := 39) (by decide) rfl ⟨by omega, by omega⟩ ⟨by omega, by omega⟩ (fun c74663 => ?_) (fun c74663 => ?_))
      · refine wp_of e138 c138_47 (rw_iload_n (pc' := 48) (z := z74660) rfl rfl ?_)
        exact wp_ireturn e138 c138_48 rfl ⟨rfl, w74658, f74662, z74660, rfl, ⟨by omega, by omega⟩⟩
      · refine wp_of e138 c138_39 (rw_aload_n (pc' := 40) (v := .ref r0) rfl rfl rfl ?_)
        refine wp_of e138 c138_40 (rw_aload_n (pc' := 41) (v := .ref r1) rfl rfl rfl ?_)
        refine wp_of e138 c138_41 (xc_V (pc' := 44) (r := r0) (as := [.ref r1]) (st := []) (lm_6_78) rfl rfl (Nat.le_of_ble_eq_true rfl) w74658 g0 sh_25 (by decide) rfl (by decide) (s_145 w74658 g0 g1) (fun R74664 T74665 H74666 p74667 => ?_))
        obtain ⟨e74668, w74670, f74671, z74672, e74669, b74673⟩ := p74667
        subst e74668
        subst e74669
        have f74674 := f74662.tr f74671 rfl
        show wp _ _ 138 44 [(3, vI z74660), (0, .ref r0), (1, .ref r1), (2, .ref r2)] [vI z74672] _ H74666 _
        refine wp_of e138 c138_44 (rw_goto (p1 := 48) (by decide) ?_)
        exact wp_ireturn e138 c138_48 rfl ⟨rfl, w74670, f74674, z74672, rfl, ⟨by omega, by omega⟩⟩
  · refine wp_of e138 c138_13 (rw_iconst (pc' := 14) rfl ?_)
    exact wp_ireturn e138 c138_14 rfl ⟨rfl, w74622, f74624, 0, rfl, ⟨by omega, by omega⟩⟩
