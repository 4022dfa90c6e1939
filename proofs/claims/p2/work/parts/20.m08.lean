/-! methods (own work, written by wip/gen2/sx.py) -/
/-! StrikeAwake$Asking.fewestForHour(LStrikeAwake$Parish;LStrikeAwake$Census;I)I -/
theorem e131 : wq_en 131 = some (5, 5, false, some FieldType.int) := rfl
theorem c131_0 : mc_cd 131 0 = some (.aload_n 0, 1) := by decide +kernel
theorem c131_1 : mc_cd 131 1 = some (.aload_n 1, 1) := by decide +kernel
theorem c131_2 : mc_cd 131 2 = some (.aload_n 2, 1) := by decide +kernel
theorem c131_3 : mc_cd 131 3 = some (.invokevirtual 24, 3) := by decide +kernel
theorem c131_6 : mc_cd 131 6 = some (.iconst 0, 1) := by decide +kernel
theorem c131_7 : mc_cd 131 7 = some (.istore 4, 2) := by decide +kernel
theorem c131_9 : mc_cd 131 9 = some (.iload 4, 2) := by decide +kernel
theorem c131_11 : mc_cd 131 11 = some (.aload_n 0, 1) := by decide +kernel
theorem c131_12 : mc_cd 131 12 = some (.getfield 28, 3) := by decide +kernel
theorem c131_15 : mc_cd 131 15 = some (.if_icmp .ge 28, 3) := by decide +kernel
theorem c131_18 : mc_cd 131 18 = some (.aload_n 0, 1) := by decide +kernel
theorem c131_19 : mc_cd 131 19 = some (.getfield 15, 3) := by decide +kernel
theorem c131_22 : mc_cd 131 22 = some (.iload 4, 2) := by decide +kernel
theorem c131_24 : mc_cd 131 24 = some (.aload_n 1, 1) := by decide +kernel
theorem c131_25 : mc_cd 131 25 = some (.aload_n 0, 1) := by decide +kernel
theorem c131_26 : mc_cd 131 26 = some (.getfield 9, 3) := by decide +kernel
theorem c131_29 : mc_cd 131 29 = some (.iload 4, 2) := by decide +kernel
theorem c131_31 : mc_cd 131 31 = some (.iaload, 1) := by decide +kernel
theorem c131_32 : mc_cd 131 32 = some (.iload_n 3, 1) := by decide +kernel
theorem c131_33 : mc_cd 131 33 = some (.invokestatic 36, 3) := by decide +kernel
theorem c131_36 : mc_cd 131 36 = some (.iastore, 1) := by decide +kernel
theorem c131_37 : mc_cd 131 37 = some (.iinc 4 1, 3) := by decide +kernel
theorem c131_40 : mc_cd 131 40 = some (.goto (-31), 3) := by decide +kernel
theorem c131_43 : mc_cd 131 43 = some (.aload_n 0, 1) := by decide +kernel
theorem c131_44 : mc_cd 131 44 = some (.aload_n 1, 1) := by decide +kernel
theorem c131_45 : mc_cd 131 45 = some (.invokevirtual 32, 3) := by decide +kernel
theorem c131_48 : mc_cd 131 48 = some (.ireturn, 1) := by decide +kernel
abbrev q_131 (r0 : Nat) (r1 : Nat) (r2 : Nat) (a3 : Int) (T : wq_T) (H : wq_H) : Option Value → wq_T → wq_H → Prop := fun r T' H' => T = T' ∧ WT T H' ∧ wfr [(20, 4), (22, 999), (23, 999), (21, 999), (24, 999)] T H H' ∧ ∃ z : Int, some (vI z) = r ∧ ((-2147483648) ≤ z ∧ z ≤ 2147483647)
set_option maxHeartbeats 4000000 in
theorem s_131 {kt : Nat → Option mc_E} {T : wq_T} {H : wq_H} {r0 : Nat} {r1 : Nat} {r2 : Nat} {a3 : Int} (hW : WT T H) (g0 : T.2.2.2 r0 = some 20) (g1 : T.2.2.2 r1 = some 27) (g2 : T.2.2.2 r2 = some 12) (i3 : (-2147483648) ≤ a3 ∧ a3 ≤ 2147483647) : wpc kt 5 131 [.ref r0, .ref r1, .ref r2, vI a3] T H (q_131 r0 r1 r2 a3 T H) := by
  refine wp_enter e131 (Nat.le_of_ble_eq_true rfl) rfl ?_
  have f0 : wfr [(20, 4), (22, 999), (23, 999), (21, 999), (24, 999)] T H H := wfr.rf
  show wp _ _ 131 0 [(0, .ref r0), (1, .ref r1), (2, .ref r2), (3, vI a3)] [] _ H _
  refine wp_of e131 c131_0 (rw_aload_n (pc' := 1) (v := .ref r0) rfl rfl rfl ?_)
  refine wp_of e131 c131_1 (rw_aload_n (pc' := 2) (v := .ref r1) rfl rfl rfl ?_)
  refine wp_of e131 c131_2 (rw_aload_n (pc' := 3) (v := .ref r2) rfl rfl rfl ?_)
  refine wp_of e131 c131_3 (xc_V (pc' := 6) (r := r0) (as := [.ref r1, .ref r2]) (st := []) (lm_5_24) rfl rfl (Nat.le_of_ble_eq_true rfl) hW g0 sh_20 (by decide) rfl (by decide) (s_123 hW g0 g1 g2) (fun R42369 T42370 H42371 p42372 => ?_))
  obtain ⟨e42373, w42375, f42376, e42374⟩ := p42372
  subst e42373
  subst e42374
  have f42377 := f0.tr f42376 rfl
  show wp _ _ 131 6 [(0, .ref r0), (1, .ref r1), (2, .ref r2), (3, vI a3)] [] _ H42371 _
  refine wp_of e131 c131_6 (rw_iconst (pc' := 7) rfl ?_)
  refine wp_of e131 c131_7 (rw_istore (pc' := 9) (z := 0) (L' := [(4, vI 0), (0, .ref r0), (1, .ref r1), (2, .ref r2), (3, vI a3)]) rfl rfl rfl ?_)
  have lp42570 : ∀ (n42571 : Nat) (v42573 : Int) (H42574 : wq_H), WT T H42574 → wfr [(22, 999)] T H42371 H42574 → (0 ≤ v42573 ∧ v42573 ≤ 400) → (400 - v42573).toNat = n42571 → wp kt 4 131 9 [(4, vI v42573), (0, .ref r0), (1, .ref r1), (3, vI a3)] [] T H42574 (q_131 r0 r1 r2 a3 T H) := by
    intro n42571
    induction n42571 using Nat.strongRecOn with
    | _ n42571 ih42572 =>
      intro v42573 H42574 w42575 f42576 b42577 m42578
      have f42579 := f42377.tr f42576 rfl
      refine wp_of e131 c131_9 (rw_iload (pc' := 11) (z := v42573) rfl rfl ?_)
      refine wp_of e131 c131_11 (rw_aload_n (pc' := 12) (v := .ref r0) rfl rfl rfl ?_)
      refine wp_of e131 c131_12 (xg_I (pc' := 15) lf_5_28 w42575 g0 sh_20 (by decide) (by decide) ty_20_4 rfl rfl (fun b42580 b42581 => ?_))
      refine wp_of e131 c131_15 (rw_icmp_ge (p1 := 43) (p2 := 18) (by decide) rfl ⟨by omega, by omega⟩ ⟨by omega, by omega⟩ (fun c42582 => ?_) (fun c42582 => ?_))
      · refine wp_of e131 c131_43 (rw_aload_n (pc' := 44) (v := .ref r0) rfl rfl rfl ?_)
        refine wp_of e131 c131_44 (rw_aload_n (pc' := 45) (v := .ref r1) rfl rfl rfl ?_)
        refine wp_of e131 c131_45 (xc_V (pc' := 48) (r := r0) (as := [.ref r1]) (st := []) (lm_5_32) rfl rfl (Nat.le_of_ble_eq_true rfl) w42575 g0 sh_20 (by decide) rfl (by decide) (s_125 w42575 g0 g1) (fun R42583 T42584 H42585 p42586 => ?_))
        obtain ⟨e42587, w42589, f42590, z42591, e42588, b42592⟩ := p42586
        subst e42587
        subst e42588
        have f42593 := f42579.tr f42590 rfl
        show wp _ _ 131 48 [(4, vI v42573), (0, .ref r0), (1, .ref r1), (3, vI a3)] [vI z42591] _ H42585 _
        exact wp_ireturn e131 c131_48 rfl ⟨rfl, w42589, f42593, z42591, rfl, ⟨by omega, by omega⟩⟩
      · refine wp_of e131 c131_18 (rw_aload_n (pc' := 19) (v := .ref r0) rfl rfl rfl ?_)
        refine wp_of e131 c131_19 (xg_R (pc' := 22) lf_5_15 w42575 g0 sh_20 (by decide) (by decide) ty_20_1 rfl rfl (fun r42594 q42595 g42596 => ?_))
        refine wp_of e131 c131_22 (rw_iload (pc' := 24) (z := v42573) rfl rfl ?_)
        refine wp_of e131 c131_24 (rw_aload_n (pc' := 25) (v := .ref r1) rfl rfl rfl ?_)
        refine wp_of e131 c131_25 (rw_aload_n (pc' := 26) (v := .ref r0) rfl rfl rfl ?_)
        refine wp_of e131 c131_26 (xg_R (pc' := 29) lf_5_9 w42575 g0 sh_20 (by decide) (by decide) ty_20_0 rfl rfl (fun r42597 q42598 g42599 => ?_))
        refine wp_of e131 c131_29 (rw_iload (pc' := 31) (z := v42573) rfl rfl ?_)
        refine wp_of e131 c131_31 (xa_I (so := 0) (pc' := 32) w42575 g42599 sh_21 (by decide) (ty_21 _) (by omega) (by omega) rfl (fun b42600 b42601 => ?_))
        refine wp_of e131 c131_32 (rw_iload_n (pc' := 33) (z := a3) rfl rfl ?_)
        refine wp_of e131 c131_33 (xc_S (pc' := 36) (as := [.ref r1, vI (H42574 r42597 (v42573.toNat)), vI a3]) (st := [vI v42573, .ref r42594]) (lm_5_36) rfl rfl (Nat.le_of_ble_eq_true rfl) rfl (by decide) (s_116 w42575 g1 ⟨by omega, by omega⟩ ⟨by omega, by omega⟩) (fun R42602 T42603 H42604 p42605 => ?_))
        obtain ⟨e42606, e42608, z42609, e42607, b42610⟩ := p42605
        subst e42606
        subst e42607
        subst e42608
        show wp _ _ 131 36 [(4, vI v42573), (0, .ref r0), (1, .ref r1), (3, vI a3)] [vI z42609, vI v42573, .ref r42594] _ H42574 _
        refine wp_of e131 c131_36 (xs_I (pc' := 37) w42575 g42596 (by decide) sh_22 (by decide) (ty_22 _) (by omega) (by omega) ⟨by omega, by omega⟩ (by omega) (by omega) rfl (fun H42611 e42612 w42613 => ?_))
        have f42614 := f42579.put' e42612 g42596 rfl
        have f42615 := f42576.put' e42612 g42596 rfl
        refine wp_of e131 c131_37 (rw_iinc (pc' := 40) (z := v42573) (L' := [(4, vI (v42573 + 1)), (0, .ref r0), (1, .ref r1), (3, vI a3)]) rfl rfl rfl rfl ?_)
        refine wp_of e131 c131_40 (rw_goto (p1 := 9) (by decide) ?_)
        exact wp_lc (ks := [4, 0, 1, 3]) (wl_c rfl (wl_c rfl (wl_c rfl (wl_c rfl wl_n)))) rfl (by decide) (ih42572 _ (by omega) (v42573 + 1) H42611 w42613 f42615 ⟨by omega, by omega⟩ rfl)
  exact wp_lc (ks := [4, 0, 1, 2, 3]) (wl_c rfl (wl_c rfl (wl_c rfl (wl_c rfl wl_n)))) rfl (by decide) (lp42570 _ 0 H42371 w42375 wfr.rf ⟨by omega, by omega⟩ rfl)
/-! StrikeAwake.askFor(I)I -/
theorem e130 : wq_en 130 = some (0, 3, false, some FieldType.int) := rfl
theorem c130_0 : mc_cd 130 0 = some (.aload_n 0, 1) := by decide +kernel
theorem c130_1 : mc_cd 130 1 = some (.aload_n 0, 1) := by decide +kernel
theorem c130_2 : mc_cd 130 2 = some (.iload_n 1, 1) := by decide +kernel
theorem c130_3 : mc_cd 130 3 = some (.invokevirtual 132, 3) := by decide +kernel
theorem c130_6 : mc_cd 130 6 = some (.invokevirtual 227, 3) := by decide +kernel
theorem c130_9 : mc_cd 130 9 = some (.istore_n 2, 1) := by decide +kernel
theorem c130_10 : mc_cd 130 10 = some (.iload_n 2, 1) := by decide +kernel
theorem c130_11 : mc_cd 130 11 = some (.ifCond .eq 9, 3) := by decide +kernel
theorem c130_14 : mc_cd 130 14 = some (.aload_n 0, 1) := by decide +kernel
theorem c130_15 : mc_cd 130 15 = some (.iload_n 2, 1) := by decide +kernel
theorem c130_16 : mc_cd 130 16 = some (.invokevirtual 70, 3) := by decide +kernel
theorem c130_19 : mc_cd 130 19 = some (.ireturn, 1) := by decide +kernel
theorem c130_20 : mc_cd 130 20 = some (.aload_n 0, 1) := by decide +kernel
theorem c130_21 : mc_cd 130 21 = some (.aload_n 0, 1) := by decide +kernel
theorem c130_22 : mc_cd 130 22 = some (.getfield 37, 3) := by decide +kernel
theorem c130_25 : mc_cd 130 25 = some (.aload_n 0, 1) := by decide +kernel
theorem c130_26 : mc_cd 130 26 = some (.getfield 51, 3) := by decide +kernel
theorem c130_29 : mc_cd 130 29 = some (.aload_n 0, 1) := by decide +kernel
theorem c130_30 : mc_cd 130 30 = some (.getfield 30, 3) := by decide +kernel
theorem c130_33 : mc_cd 130 33 = some (.iload_n 1, 1) := by decide +kernel
theorem c130_34 : mc_cd 130 34 = some (.invokevirtual 234, 3) := by decide +kernel
theorem c130_37 : mc_cd 130 37 = some (.invokevirtual 99, 3) := by decide +kernel
theorem c130_40 : mc_cd 130 40 = some (.ireturn, 1) := by decide +kernel
abbrev q_130 (r0 : Nat) (a1 : Int) (T : wq_T) (H : wq_H) : Option Value → wq_T → wq_H → Prop := fun r T' H' => T = T' ∧ WT T H' ∧ wfr [(20, 4), (12, 5), (12, 6), (12, 7), (12, 8), (12, 9), (1, 10), (6, 5), (8, 999), (10, 999), (15, 999), (22, 999), (9, 999), (18, 999), (23, 999), (19, 999), (21, 999), (7, 999), (11, 999), (24, 999), (17, 999), (13, 999)] T H H' ∧ ∃ z : Int, some (vI z) = r ∧ ((-2147483648) ≤ z ∧ z ≤ 2147483647)
set_option maxHeartbeats 4000000 in
theorem s_130 {kt : Nat → Option mc_E} {T : wq_T} {H : wq_H} {r0 : Nat} {a1 : Int} (hW : WT T H) (g0 : T.2.2.2 r0 = some 1) (i1 : (-2147483648) ≤ a1 ∧ a1 ≤ 2147483647) : wpc kt 7 130 [.ref r0, vI a1] T H (q_130 r0 a1 T H) := by
  refine wp_enter e130 (Nat.le_of_ble_eq_true rfl) rfl ?_
  have f0 : wfr [(20, 4), (12, 5), (12, 6), (12, 7), (12, 8), (12, 9), (1, 10), (6, 5), (8, 999), (10, 999), (15, 999), (22, 999), (9, 999), (18, 999), (23, 999), (19, 999), (21, 999), (7, 999), (11, 999), (24, 999), (17, 999), (13, 999)] T H H := wfr.rf
  show wp _ _ 130 0 [(0, .ref r0), (1, vI a1)] [] _ H _
  refine wp_of e130 c130_0 (rw_aload_n (pc' := 1) (v := .ref r0) rfl rfl rfl ?_)
  refine wp_of e130 c130_1 (rw_aload_n (pc' := 2) (v := .ref r0) rfl rfl rfl ?_)
  refine wp_of e130 c130_2 (rw_iload_n (pc' := 3) (z := a1) rfl rfl ?_)
  refine wp_of e130 c130_3 (xc_V (pc' := 6) (r := r0) (as := [vI a1]) (st := [.ref r0]) (lm_0_132) rfl rfl (Nat.le_of_ble_eq_true rfl) hW g0 sh_1 (by decide) rfl (by decide) (s_60 hW g0 ⟨by omega, by omega⟩) (fun R42681 T42682 H42683 p42684 => ?_))
  obtain ⟨e42685, e42687, z42689, e42686, b42690, p42688⟩ := p42684
  subst e42685
  subst e42686
  subst e42687
  show wp _ _ 130 6 [(0, .ref r0), (1, vI a1)] [vI z42689, .ref r0] _ H _
  refine wp_of e130 c130_6 (xc_V (pc' := 9) (r := r0) (as := [vI z42689]) (st := []) (lm_0_227) rfl rfl (Nat.le_of_ble_eq_true rfl) hW g0 sh_1 (by decide) rfl (by decide) (s_121 hW g0 ⟨by omega, by omega⟩) (fun R42691 T42692 H42693 p42694 => ?_))
  obtain ⟨e42695, w42697, f42698, z42700, e42696, b42701, p42699⟩ := p42694
  subst e42695
  subst e42696
  have f42702 := f0.tr f42698 rfl
  show wp _ _ 130 9 [(0, .ref r0), (1, vI a1)] [vI z42700] _ H42693 _
  refine wp_of e130 c130_9 (rw_istore_n (pc' := 10) (z := z42700) (L' := [(2, vI z42700), (0, .ref r0), (1, vI a1)]) rfl rfl rfl ?_)
  refine wp_of e130 c130_10 (rw_iload_n (pc' := 11) (z := z42700) rfl rfl ?_)
  refine wp_of e130 c130_11 (rw_if_eq (p1 := 20) (p2 := 14) (by decide) rfl ⟨by omega, by omega⟩ (fun c42703 => ?_) (fun c42703 => ?_))
  · refine wp_of e130 c130_20 (rw_aload_n (pc' := 21) (v := .ref r0) rfl rfl rfl ?_)
    refine wp_of e130 c130_21 (rw_aload_n (pc' := 22) (v := .ref r0) rfl rfl rfl ?_)
    refine wp_of e130 c130_22 (xg_R (pc' := 25) lf_0_37 w42697 g0 sh_1 (by decide) (by decide) ty_1_4 rfl rfl (fun r42704 q42705 g42706 => ?_))
    refine wp_of e130 c130_25 (rw_aload_n (pc' := 26) (v := .ref r0) rfl rfl rfl ?_)
    refine wp_of e130 c130_26 (xg_R (pc' := 29) lf_0_51 w42697 g0 sh_1 (by decide) (by decide) ty_1_6 rfl rfl (fun r42707 q42708 g42709 => ?_))
    refine wp_of e130 c130_29 (rw_aload_n (pc' := 30) (v := .ref r0) rfl rfl rfl ?_)
    refine wp_of e130 c130_30 (xg_R (pc' := 33) lf_0_30 w42697 g0 sh_1 (by decide) (by decide) ty_1_3 rfl rfl (fun r42710 q42711 g42712 => ?_))
    refine wp_of e130 c130_33 (rw_iload_n (pc' := 34) (z := a1) rfl rfl ?_)
    refine wp_of e130 c130_34 (xc_V (pc' := 37) (r := r42704) (as := [.ref r42707, .ref r42710, vI a1]) (st := [.ref r0]) (lm_0_234) rfl rfl (Nat.le_of_ble_eq_true rfl) w42697 g42706 sh_20 (by decide) rfl (by decide) (s_131 w42697 g42706 g42709 g42712 ⟨by omega, by omega⟩) (fun R42713 T42714 H42715 p42716 => ?_))
    obtain ⟨e42717, w42719, f42720, z42721, e42718, b42722⟩ := p42716
    subst e42717
    subst e42718
    have f42723 := f42702.tr f42720 rfl
    show wp _ _ 130 37 [(2, vI z42700), (0, .ref r0), (1, vI a1)] [vI z42721, .ref r0] _ H42715 _
    refine wp_of e130 c130_37 (xc_V (pc' := 40) (r := r0) (as := [vI z42721]) (st := []) (lm_0_99) rfl rfl (Nat.le_of_ble_eq_true rfl) w42719 g0 sh_1 (by decide) rfl (by decide) (s_51 w42719 g0 ⟨by omega, by omega⟩) (fun R42724 T42725 H42726 p42727 => ?_))
    obtain ⟨e42728, w42730, f42731, z42732, e42729, b42733⟩ := p42727
    subst e42728
    subst e42729
    have f42734 := f42723.tr f42731 rfl
    show wp _ _ 130 40 [(2, vI z42700), (0, .ref r0), (1, vI a1)] [vI z42732] _ H42726 _
    exact wp_ireturn e130 c130_40 rfl ⟨rfl, w42730, f42734, z42732, rfl, ⟨by omega, by omega⟩⟩
  · refine wp_of e130 c130_14 (rw_aload_n (pc' := 15) (v := .ref r0) rfl rfl rfl ?_)
    refine wp_of e130 c130_15 (rw_iload_n (pc' := 16) (z := z42700) rfl rfl ?_)
    refine wp_of e130 c130_16 (xc_V (pc' := 19) (r := r0) (as := [vI z42700]) (st := []) (lm_0_70) rfl rfl (Nat.le_of_ble_eq_true rfl) w42697 g0 sh_1 (by decide) rfl (by decide) (s_12 w42697 g0 ⟨by omega, by omega⟩) (fun R42735 T42736 H42737 p42738 => ?_))
    obtain ⟨e42739, w42741, f42742, z42743, e42740, b42744⟩ := p42738
    subst e42739
    subst e42740
    have f42745 := f42702.tr f42742 rfl
    show wp _ _ 130 19 [(2, vI z42700), (0, .ref r0), (1, vI a1)] [vI z42743] _ H42737 _
    exact wp_ireturn e130 c130_19 rfl ⟨rfl, w42741, f42745, z42743, rfl, ⟨by omega, by omega⟩⟩
/-! StrikeAwake.isTold(I)Z -/
theorem e133 : wq_en 133 = some (0, 2, false, some FieldType.boolean) := rfl
theorem c133_0 : mc_cd 133 0 = some (.iload_n 1, 1) := by decide +kernel
theorem c133_1 : mc_cd 133 1 = some (.ifCond .lt 18, 3) := by decide +kernel
theorem c133_4 : mc_cd 133 4 = some (.iload_n 1, 1) := by decide +kernel
theorem c133_5 : mc_cd 133 5 = some (.aload_n 0, 1) := by decide +kernel
theorem c133_6 : mc_cd 133 6 = some (.getfield 51, 3) := by decide +kernel
theorem c133_9 : mc_cd 133 9 = some (.getfield 333, 3) := by decide +kernel
theorem c133_12 : mc_cd 133 12 = some (.if_icmp .ge 7, 3) := by decide +kernel
theorem c133_15 : mc_cd 133 15 = some (.iconst 1, 1) := by decide +kernel
theorem c133_16 : mc_cd 133 16 = some (.goto 4, 3) := by decide +kernel
theorem c133_19 : mc_cd 133 19 = some (.iconst 0, 1) := by decide +kernel
theorem c133_20 : mc_cd 133 20 = some (.ireturn, 1) := by decide +kernel
abbrev q_133 (r0 : Nat) (a1 : Int) (T : wq_T) (H : wq_H) : Option Value → wq_T → wq_H → Prop := fun r T' H' => T = T' ∧ H = H' ∧ ∃ z : Int, some (vI z) = r ∧ (0 ≤ z ∧ z ≤ 1) ∧ (z = 0 ∨ (0 ≤ a1 ∧ a1 ≤ 3))
set_option maxHeartbeats 4000000 in
theorem s_133 {kt : Nat → Option mc_E} {T : wq_T} {H : wq_H} {r0 : Nat} {a1 : Int} (hW : WT T H) (g0 : T.2.2.2 r0 = some 1) (i1 : (-2147483648) ≤ a1 ∧ a1 ≤ 2147483647) : wpc kt 1 133 [.ref r0, vI a1] T H (q_133 r0 a1 T H) := by
  refine wp_enter e133 (Nat.le_of_ble_eq_true rfl) rfl ?_
  show wp _ _ 133 0 [(0, .ref r0), (1, vI a1)] [] _ H _
  refine wp_of e133 c133_0 (rw_iload_n (pc' := 1) (z := a1) rfl rfl ?_)
  refine wp_of e133 c133_1 (rw_if_lt (p1 := 19) (p2 := 4) (by decide) rfl ⟨by omega, by omega⟩ (fun c42753 => ?_) (fun c42753 => ?_))
  · refine wp_of e133 c133_19 (rw_iconst (pc' := 20) rfl ?_)
    exact wp_zreturn e133 c133_20 rfl (by omega) ⟨rfl, rfl, 0, rfl, ⟨by omega, by omega⟩, by omega⟩
  · refine wp_of e133 c133_4 (rw_iload_n (pc' := 5) (z := a1) rfl rfl ?_)
    refine wp_of e133 c133_5 (rw_aload_n (pc' := 6) (v := .ref r0) rfl rfl rfl ?_)
    refine wp_of e133 c133_6 (xg_R (pc' := 9) lf_0_51 hW g0 sh_1 (by decide) (by decide) ty_1_6 rfl rfl (fun r42754 q42755 g42756 => ?_))
    refine wp_of e133 c133_9 (xg_I (pc' := 12) lf_0_333 hW g42756 sh_27 (by decide) (by decide) ty_27_13 rfl rfl (fun b42757 b42758 => ?_))
    refine wp_of e133 c133_12 (rw_icmp_ge (p1 := 19) (p2 := 15) (by decide) rfl ⟨by omega, by omega⟩ ⟨by omega, by omega⟩ (fun c42759 => ?_) (fun c42759 => ?_))
    · refine wp_of e133 c133_19 (rw_iconst (pc' := 20) rfl ?_)
      exact wp_zreturn e133 c133_20 rfl (by omega) ⟨rfl, rfl, 0, rfl, ⟨by omega, by omega⟩, by omega⟩
    · refine wp_of e133 c133_15 (rw_iconst (pc' := 16) rfl ?_)
      refine wp_of e133 c133_16 (rw_goto (p1 := 20) (by decide) ?_)
      exact wp_zreturn e133 c133_20 rfl (by omega) ⟨rfl, rfl, 1, rfl, ⟨by omega, by omega⟩, by omega⟩
/-! StrikeAwake$Census.hasTold(LStrikeAwake$Parish;I)Z -/
theorem e134 : wq_en 134 = some (4, 7, false, some FieldType.boolean) := rfl
theorem c134_0 : mc_cd 134 0 = some (.aload_n 1, 1) := by decide +kernel
theorem c134_1 : mc_cd 134 1 = some (.getfield 144, 3) := by decide +kernel
theorem c134_4 : mc_cd 134 4 = some (.iload_n 2, 1) := by decide +kernel
theorem c134_5 : mc_cd 134 5 = some (.iaload, 1) := by decide +kernel
theorem c134_6 : mc_cd 134 6 = some (.istore_n 3, 1) := by decide +kernel
theorem c134_7 : mc_cd 134 7 = some (.aload_n 1, 1) := by decide +kernel
theorem c134_8 : mc_cd 134 8 = some (.getfield 147, 3) := by decide +kernel
theorem c134_11 : mc_cd 134 11 = some (.iload_n 2, 1) := by decide +kernel
theorem c134_12 : mc_cd 134 12 = some (.iaload, 1) := by decide +kernel
theorem c134_13 : mc_cd 134 13 = some (.istore 4, 2) := by decide +kernel
theorem c134_15 : mc_cd 134 15 = some (.aload_n 1, 1) := by decide +kernel
theorem c134_16 : mc_cd 134 16 = some (.getfield 78, 3) := by decide +kernel
theorem c134_19 : mc_cd 134 19 = some (.iload_n 3, 1) := by decide +kernel
theorem c134_20 : mc_cd 134 20 = some (.aaload, 1) := by decide +kernel
theorem c134_21 : mc_cd 134 21 = some (.astore 5, 2) := by decide +kernel
theorem c134_23 : mc_cd 134 23 = some (.iconst 0, 1) := by decide +kernel
theorem c134_24 : mc_cd 134 24 = some (.istore 6, 2) := by decide +kernel
theorem c134_26 : mc_cd 134 26 = some (.iload 6, 2) := by decide +kernel
theorem c134_28 : mc_cd 134 28 = some (.aload 5, 2) := by decide +kernel
theorem c134_30 : mc_cd 134 30 = some (.getfield 116, 3) := by decide +kernel
theorem c134_33 : mc_cd 134 33 = some (.if_icmp .ge 39, 3) := by decide +kernel
theorem c134_36 : mc_cd 134 36 = some (.aload_n 0, 1) := by decide +kernel
theorem c134_37 : mc_cd 134 37 = some (.getfield 17, 3) := by decide +kernel
theorem c134_40 : mc_cd 134 40 = some (.iload_n 3, 1) := by decide +kernel
theorem c134_41 : mc_cd 134 41 = some (.aaload, 1) := by decide +kernel
theorem c134_42 : mc_cd 134 42 = some (.iload 6, 2) := by decide +kernel
theorem c134_44 : mc_cd 134 44 = some (.iaload, 1) := by decide +kernel
theorem c134_45 : mc_cd 134 45 = some (.ifCond .le 21, 3) := by decide +kernel
theorem c134_48 : mc_cd 134 48 = some (.aload 5, 2) := by decide +kernel
theorem c134_50 : mc_cd 134 50 = some (.getfield 138, 3) := by decide +kernel
theorem c134_53 : mc_cd 134 53 = some (.iload 6, 2) := by decide +kernel
theorem c134_55 : mc_cd 134 55 = some (.iaload, 1) := by decide +kernel
theorem c134_56 : mc_cd 134 56 = some (.iload 4, 2) := by decide +kernel
theorem c134_58 : mc_cd 134 58 = some (.iand, 1) := by decide +kernel
theorem c134_59 : mc_cd 134 59 = some (.iload 4, 2) := by decide +kernel
theorem c134_61 : mc_cd 134 61 = some (.if_icmp .ne 5, 3) := by decide +kernel
theorem c134_64 : mc_cd 134 64 = some (.iconst 1, 1) := by decide +kernel
theorem c134_65 : mc_cd 134 65 = some (.ireturn, 1) := by decide +kernel
theorem c134_66 : mc_cd 134 66 = some (.iinc 6 1, 3) := by decide +kernel
theorem c134_69 : mc_cd 134 69 = some (.goto (-43), 3) := by decide +kernel
theorem c134_72 : mc_cd 134 72 = some (.iconst 0, 1) := by decide +kernel
theorem c134_73 : mc_cd 134 73 = some (.ireturn, 1) := by decide +kernel
abbrev q_134 (r0 : Nat) (r1 : Nat) (a2 : Int) (T : wq_T) (H : wq_H) : Option Value → wq_T → wq_H → Prop := fun r T' H' => T = T' ∧ H = H' ∧ ∃ z : Int, some (vI z) = r ∧ (0 ≤ z ∧ z ≤ 1)
set_option maxHeartbeats 4000000 in
theorem s_134 {kt : Nat → Option mc_E} {T : wq_T} {H : wq_H} {r0 : Nat} {r1 : Nat} {a2 : Int} (hW : WT T H) (g0 : T.2.2.2 r0 = some 12) (g1 : T.2.2.2 r1 = some 27) (i2 : 0 ≤ a2 ∧ a2 ≤ 3) : wpc kt 1 134 [.ref r0, .ref r1, vI a2] T H (q_134 r0 r1 a2 T H) := by
  refine wp_enter e134 (Nat.le_of_ble_eq_true rfl) rfl ?_
  show wp _ _ 134 0 [(0, .ref r0), (1, .ref r1), (2, vI a2)] [] _ H _
  refine wp_of e134 c134_0 (rw_aload_n (pc' := 1) (v := .ref r1) rfl rfl rfl ?_)
  refine wp_of e134 c134_1 (xg_R (pc' := 4) lf_4_144 hW g1 sh_27 (by decide) (by decide) ty_27_4 rfl rfl (fun r42957 q42958 g42959 => ?_))
  refine wp_of e134 c134_4 (rw_iload_n (pc' := 5) (z := a2) rfl rfl ?_)
  refine wp_of e134 c134_5 (xa_I (so := 0) (pc' := 6) hW g42959 sh_32 (by decide) (ty_32 _) (by omega) (by omega) rfl (fun b42960 b42961 => ?_))
  refine wp_of e134 c134_6 (rw_istore_n (pc' := 7) (z := H r42957 (a2.toNat)) (L' := [(3, vI (H r42957 (a2.toNat))), (0, .ref r0), (1, .ref r1), (2, vI a2)]) rfl rfl rfl ?_)
  refine wp_of e134 c134_7 (rw_aload_n (pc' := 8) (v := .ref r1) rfl rfl rfl ?_)
  refine wp_of e134 c134_8 (xg_R (pc' := 11) lf_4_147 hW g1 sh_27 (by decide) (by decide) ty_27_5 rfl rfl (fun r42962 q42963 g42964 => ?_))
  refine wp_of e134 c134_11 (rw_iload_n (pc' := 12) (z := a2) rfl rfl ?_)
  refine wp_of e134 c134_12 (xa_I (so := 0) (pc' := 13) hW g42964 sh_33 (by decide) (ty_33 _) (by omega) (by omega) rfl (fun b42965 b42966 => ?_))
  refine wp_of e134 c134_13 (rw_istore (pc' := 15) (z := H r42962 (a2.toNat)) (L' := [(4, vI (H r42962 (a2.toNat))), (3, vI (H r42957 (a2.toNat))), (0, .ref r0), (1, .ref r1), (2, vI a2)]) rfl rfl rfl ?_)
  refine wp_of e134 c134_15 (rw_aload_n (pc' := 16) (v := .ref r1) rfl rfl rfl ?_)
  refine wp_of e134 c134_16 (xg_R (pc' := 19) lf_4_78 hW g1 sh_27 (by decide) (by decide) ty_27_0 rfl rfl (fun r42967 q42968 g42969 => ?_))
  refine wp_of e134 c134_19 (rw_iload_n (pc' := 20) (z := H r42957 (a2.toNat)) rfl rfl ?_)
  refine wp_of e134 c134_20 (xa_R (pc' := 21) (by decide) hW g42969 sh_28 (by decide) (ty_28 _) (by omega) (by omega) rfl (fun r42970 q42971 g42972 => ?_))
  refine wp_of e134 c134_21 (rw_astore (pc' := 23) (v := .ref r42970) (L' := [(5, .ref r42970), (4, vI (H r42962 (a2.toNat))), (3, vI (H r42957 (a2.toNat))), (0, .ref r0), (1, .ref r1), (2, vI a2)]) rfl rfl rfl rfl ?_)
  refine wp_of e134 c134_23 (rw_iconst (pc' := 24) rfl ?_)
  refine wp_of e134 c134_24 (rw_istore (pc' := 26) (z := 0) (L' := [(6, vI 0), (5, .ref r42970), (4, vI (H r42962 (a2.toNat))), (3, vI (H r42957 (a2.toNat))), (0, .ref r0), (1, .ref r1), (2, vI a2)]) rfl rfl rfl ?_)
  have lp43133 : ∀ (n43134 : Nat) (v43136 : Int), (0 ≤ v43136 ∧ v43136 ≤ 40) → (40 - v43136).toNat = n43134 → wp kt 0 134 26 [(6, vI v43136), (5, .ref r42970), (4, vI (H r42962 (a2.toNat))), (3, vI (H r42957 (a2.toNat))), (0, .ref r0)] [] T H (q_134 r0 r1 a2 T H) := by
    intro n43134
    induction n43134 using Nat.strongRecOn with
    | _ n43134 ih43135 =>
      intro v43136 b43139 m43140
      refine wp_of e134 c134_26 (rw_iload (pc' := 28) (z := v43136) rfl rfl ?_)
      refine wp_of e134 c134_28 (rw_aload (pc' := 30) (v := .ref r42970) rfl rfl rfl ?_)
      refine wp_of e134 c134_30 (xg_I (pc' := 33) lf_4_116 hW g42972 sh_35 (by decide) (by decide) ty_35_15 rfl rfl (fun b43141 b43142 => ?_))
      refine wp_of e134 c134_33 (rw_icmp_ge (p1 := 72) (p2 := 36) (by decide) rfl ⟨by omega, by omega⟩ ⟨by omega, by omega⟩ (fun c43143 => ?_) (fun c43143 => ?_))
      · refine wp_of e134 c134_72 (rw_iconst (pc' := 73) rfl ?_)
        exact wp_zreturn e134 c134_73 rfl (by omega) ⟨rfl, rfl, 0, rfl, ⟨by omega, by omega⟩⟩
      · refine wp_of e134 c134_36 (rw_aload_n (pc' := 37) (v := .ref r0) rfl rfl rfl ?_)
        refine wp_of e134 c134_37 (xg_R (pc' := 40) lf_4_17 hW g0 sh_12 (by decide) (by decide) ty_12_1 rfl rfl (fun r43144 q43145 g43146 => ?_))
        refine wp_of e134 c134_40 (rw_iload_n (pc' := 41) (z := H r42957 (a2.toNat)) rfl rfl ?_)
        refine wp_of e134 c134_41 (xa_R (pc' := 42) (by decide) hW g43146 sh_14 (by decide) (ty_14 _) (by omega) (by omega) rfl (fun r43147 q43148 g43149 => ?_))
        refine wp_of e134 c134_42 (rw_iload (pc' := 44) (z := v43136) rfl rfl ?_)
        refine wp_of e134 c134_44 (xa_I (so := 0) (pc' := 45) hW g43149 sh_15 (by decide) (ty_15 _) (by omega) (by omega) rfl (fun b43150 b43151 => ?_))
        refine wp_of e134 c134_45 (rw_if_le (p1 := 66) (p2 := 48) (by decide) rfl ⟨by omega, by omega⟩ (fun c43152 => ?_) (fun c43152 => ?_))
        · refine wp_of e134 c134_66 (rw_iinc (pc' := 69) (z := v43136) (L' := [(6, vI (v43136 + 1)), (5, .ref r42970), (4, vI (H r42962 (a2.toNat))), (3, vI (H r42957 (a2.toNat))), (0, .ref r0)]) rfl rfl rfl rfl ?_)
          refine wp_of e134 c134_69 (rw_goto (p1 := 26) (by decide) ?_)
          exact wp_lc (ks := [6, 5, 4, 3, 0]) (wl_c rfl (wl_c rfl (wl_c rfl (wl_c rfl (wl_c rfl wl_n))))) rfl (by decide) (ih43135 _ (by omega) (v43136 + 1) ⟨by omega, by omega⟩ rfl)
        · refine wp_of e134 c134_48 (rw_aload (pc' := 50) (v := .ref r42970) rfl rfl rfl ?_)
          refine wp_of e134 c134_50 (xg_R (pc' := 53) lf_4_138 hW g42972 sh_35 (by decide) (by decide) ty_35_2 rfl rfl (fun r43153 q43154 g43155 => ?_))
          refine wp_of e134 c134_53 (rw_iload (pc' := 55) (z := v43136) rfl rfl ?_)
          refine wp_of e134 c134_55 (xa_I (so := 0) (pc' := 56) hW g43155 sh_38 (by decide) (ty_38 _) (by omega) (by omega) rfl (fun b43156 b43157 => ?_))
          refine wp_of e134 c134_56 (rw_iload (pc' := 58) (z := H r42962 (a2.toNat)) rfl rfl ?_)
          refine wp_of e134 c134_58 (rw_iand (pc' := 59) rfl ?_)
          obtain ⟨v43158, e43159⟩ : ∃ x : Int, x = wq_and (H r43153 (v43136.toNat)) (H r42962 (a2.toNat)) := ⟨_, rfl⟩
          rw [← e43159]
          have b43160 : -2147483648 ≤ v43158 ∧ v43158 ≤ 2147483647 := by
            rw [e43159]
            exact wI_and _ _
          refine wp_of e134 c134_59 (rw_iload (pc' := 61) (z := H r42962 (a2.toNat)) rfl rfl ?_)
          refine wp_of e134 c134_61 (rw_icmp_ne (p1 := 66) (p2 := 64) (by decide) rfl ⟨by omega, by omega⟩ ⟨by omega, by omega⟩ (fun c43161 => ?_) (fun c43161 => ?_))
          · refine wp_of e134 c134_66 (rw_iinc (pc' := 69) (z := v43136) (L' := [(6, vI (v43136 + 1)), (5, .ref r42970), (4, vI (H r42962 (a2.toNat))), (3, vI (H r42957 (a2.toNat))), (0, .ref r0)]) rfl rfl rfl rfl ?_)
            refine wp_of e134 c134_69 (rw_goto (p1 := 26) (by decide) ?_)
            exact wp_lc (ks := [6, 5, 4, 3, 0]) (wl_c rfl (wl_c rfl (wl_c rfl (wl_c rfl (wl_c rfl wl_n))))) rfl (by decide) (ih43135 _ (by omega) (v43136 + 1) ⟨by omega, by omega⟩ rfl)
          · refine wp_of e134 c134_64 (rw_iconst (pc' := 65) rfl ?_)
            exact wp_zreturn e134 c134_65 rfl (by omega) ⟨rfl, rfl, 1, rfl, ⟨by omega, by omega⟩⟩
  exact wp_lc (ks := [6, 5, 4, 3, 0, 1, 2]) (wl_c rfl (wl_c rfl (wl_c rfl (wl_c rfl (wl_c rfl wl_n))))) rfl (by decide) (lp43133 _ 0 ⟨by omega, by omega⟩ rfl)
/-! StrikeAwake.lie(I)I -/
theorem e132 : wq_en 132 = some (0, 3, false, some FieldType.int) := rfl
theorem c132_0 : mc_cd 132 0 = some (.aload_n 0, 1) := by decide +kernel
theorem c132_1 : mc_cd 132 1 = some (.aload_n 0, 1) := by decide +kernel
theorem c132_2 : mc_cd 132 2 = some (.iload_n 1, 1) := by decide +kernel
theorem c132_3 : mc_cd 132 3 = some (.invokevirtual 238, 3) := by decide +kernel
theorem c132_6 : mc_cd 132 6 = some (.invokevirtual 174, 3) := by decide +kernel
theorem c132_9 : mc_cd 132 9 = some (.istore_n 2, 1) := by decide +kernel
theorem c132_10 : mc_cd 132 10 = some (.iload_n 2, 1) := by decide +kernel
theorem c132_11 : mc_cd 132 11 = some (.ifCond .eq 9, 3) := by decide +kernel
theorem c132_14 : mc_cd 132 14 = some (.aload_n 0, 1) := by decide +kernel
theorem c132_15 : mc_cd 132 15 = some (.iload_n 2, 1) := by decide +kernel
theorem c132_16 : mc_cd 132 16 = some (.invokevirtual 70, 3) := by decide +kernel
theorem c132_19 : mc_cd 132 19 = some (.ireturn, 1) := by decide +kernel
theorem c132_20 : mc_cd 132 20 = some (.aload_n 0, 1) := by decide +kernel
theorem c132_21 : mc_cd 132 21 = some (.aload_n 0, 1) := by decide +kernel
theorem c132_22 : mc_cd 132 22 = some (.getfield 30, 3) := by decide +kernel
theorem c132_25 : mc_cd 132 25 = some (.aload_n 0, 1) := by decide +kernel
theorem c132_26 : mc_cd 132 26 = some (.getfield 51, 3) := by decide +kernel
theorem c132_29 : mc_cd 132 29 = some (.iload_n 1, 1) := by decide +kernel
theorem c132_30 : mc_cd 132 30 = some (.invokevirtual 241, 3) := by decide +kernel
theorem c132_33 : mc_cd 132 33 = some (.ifCond .eq 7, 3) := by decide +kernel
theorem c132_36 : mc_cd 132 36 = some (.iconst 0, 1) := by decide +kernel
theorem c132_37 : mc_cd 132 37 = some (.goto 4, 3) := by decide +kernel
theorem c132_40 : mc_cd 132 40 = some (.iconst 1, 1) := by decide +kernel
theorem c132_41 : mc_cd 132 41 = some (.invokevirtual 99, 3) := by decide +kernel
theorem c132_44 : mc_cd 132 44 = some (.ireturn, 1) := by decide +kernel
abbrev q_132 (r0 : Nat) (a1 : Int) (T : wq_T) (H : wq_H) : Option Value → wq_T → wq_H → Prop := fun r T' H' => T = T' ∧ WT T H' ∧ wfr [(12, 5), (12, 6), (12, 7), (12, 8), (12, 9), (1, 10), (6, 5), (8, 999), (10, 999), (15, 999), (9, 999), (18, 999), (19, 999), (7, 999), (11, 999), (17, 999), (13, 999)] T H H' ∧ ∃ z : Int, some (vI z) = r ∧ ((-2147483648) ≤ z ∧ z ≤ 2147483647)
set_option maxHeartbeats 4000000 in
theorem s_132 {kt : Nat → Option mc_E} {T : wq_T} {H : wq_H} {r0 : Nat} {a1 : Int} (hW : WT T H) (g0 : T.2.2.2 r0 = some 1) (i1 : (-2147483648) ≤ a1 ∧ a1 ≤ 2147483647) : wpc kt 6 132 [.ref r0, vI a1] T H (q_132 r0 a1 T H) := by
  refine wp_enter e132 (Nat.le_of_ble_eq_true rfl) rfl ?_
  have f0 : wfr [(12, 5), (12, 6), (12, 7), (12, 8), (12, 9), (1, 10), (6, 5), (8, 999), (10, 999), (15, 999), (9, 999), (18, 999), (19, 999), (7, 999), (11, 999), (17, 999), (13, 999)] T H H := wfr.rf
  show wp _ _ 132 0 [(0, .ref r0), (1, vI a1)] [] _ H _
  refine wp_of e132 c132_0 (rw_aload_n (pc' := 1) (v := .ref r0) rfl rfl rfl ?_)
  refine wp_of e132 c132_1 (rw_aload_n (pc' := 2) (v := .ref r0) rfl rfl rfl ?_)
  refine wp_of e132 c132_2 (rw_iload_n (pc' := 3) (z := a1) rfl rfl ?_)
  refine wp_of e132 c132_3 (xc_V (pc' := 6) (r := r0) (as := [vI a1]) (st := [.ref r0]) (lm_0_238) rfl rfl (Nat.le_of_ble_eq_true rfl) hW g0 sh_1 (by decide) rfl (by decide) (s_133 hW g0 ⟨by omega, by omega⟩) (fun R43234 T43235 H43236 p43237 => ?_))
  obtain ⟨e43238, e43240, z43242, e43239, b43243, p43241⟩ := p43237
  subst e43238
  subst e43239
  subst e43240
  show wp _ _ 132 6 [(0, .ref r0), (1, vI a1)] [vI z43242, .ref r0] _ H _
  refine wp_of e132 c132_6 (xc_V (pc' := 9) (r := r0) (as := [vI z43242]) (st := []) (lm_0_174) rfl rfl (Nat.le_of_ble_eq_true rfl) hW g0 sh_1 (by decide) rfl (by decide) (s_83 hW g0 ⟨by omega, by omega⟩) (fun R43244 T43245 H43246 p43247 => ?_))
  obtain ⟨e43248, w43250, f43251, z43253, e43249, b43254, p43252⟩ := p43247
  subst e43248
  subst e43249
  have f43255 := f0.tr f43251 rfl
  show wp _ _ 132 9 [(0, .ref r0), (1, vI a1)] [vI z43253] _ H43246 _
  refine wp_of e132 c132_9 (rw_istore_n (pc' := 10) (z := z43253) (L' := [(2, vI z43253), (0, .ref r0), (1, vI a1)]) rfl rfl rfl ?_)
  refine wp_of e132 c132_10 (rw_iload_n (pc' := 11) (z := z43253) rfl rfl ?_)
  refine wp_of e132 c132_11 (rw_if_eq (p1 := 20) (p2 := 14) (by decide) rfl ⟨by omega, by omega⟩ (fun c43256 => ?_) (fun c43256 => ?_))
  · refine wp_of e132 c132_20 (rw_aload_n (pc' := 21) (v := .ref r0) rfl rfl rfl ?_)
    refine wp_of e132 c132_21 (rw_aload_n (pc' := 22) (v := .ref r0) rfl rfl rfl ?_)
    refine wp_of e132 c132_22 (xg_R (pc' := 25) lf_0_30 w43250 g0 sh_1 (by decide) (by decide) ty_1_3 rfl rfl (fun r43257 q43258 g43259 => ?_))
    refine wp_of e132 c132_25 (rw_aload_n (pc' := 26) (v := .ref r0) rfl rfl rfl ?_)
    refine wp_of e132 c132_26 (xg_R (pc' := 29) lf_0_51 w43250 g0 sh_1 (by decide) (by decide) ty_1_6 rfl rfl (fun r43260 q43261 g43262 => ?_))
    refine wp_of e132 c132_29 (rw_iload_n (pc' := 30) (z := a1) rfl rfl ?_)
    refine wp_of e132 c132_30 (xc_V (pc' := 33) (r := r43257) (as := [.ref r43260, vI a1]) (st := [.ref r0]) (lm_0_241) rfl rfl (Nat.le_of_ble_eq_true rfl) w43250 g43259 sh_12 (by decide) rfl (by decide) (s_134 w43250 g43259 g43262 ⟨by omega, by omega⟩) (fun R43263 T43264 H43265 p43266 => ?_))
    obtain ⟨e43267, e43269, z43270, e43268, b43271⟩ := p43266
    subst e43267
    subst e43268
    subst e43269
    show wp _ _ 132 33 [(2, vI z43253), (0, .ref r0), (1, vI a1)] [vI z43270, .ref r0] _ H43246 _
    refine wp_of e132 c132_33 (rw_if_eq (p1 := 40) (p2 := 36) (by decide) rfl ⟨by omega, by omega⟩ (fun c43272 => ?_) (fun c43272 => ?_))
    · refine wp_of e132 c132_40 (rw_iconst (pc' := 41) rfl ?_)
      refine wp_of e132 c132_41 (xc_V (pc' := 44) (r := r0) (as := [vI 1]) (st := []) (lm_0_99) rfl rfl (Nat.le_of_ble_eq_true rfl) w43250 g0 sh_1 (by decide) rfl (by decide) (s_51 w43250 g0 ⟨by omega, by omega⟩) (fun R43273 T43274 H43275 p43276 => ?_))
      obtain ⟨e43277, w43279, f43280, z43281, e43278, b43282⟩ := p43276
      subst e43277
      subst e43278
      have f43283 := f43255.tr f43280 rfl
      show wp _ _ 132 44 [(2, vI z43253), (0, .ref r0), (1, vI a1)] [vI z43281] _ H43275 _
      exact wp_ireturn e132 c132_44 rfl ⟨rfl, w43279, f43283, z43281, rfl, ⟨by omega, by omega⟩⟩
    · refine wp_of e132 c132_36 (rw_iconst (pc' := 37) rfl ?_)
      refine wp_of e132 c132_37 (rw_goto (p1 := 41) (by decide) ?_)
      refine wp_of e132 c132_41 (xc_V (pc' := 44) (r := r0) (as := [vI 0]) (st := []) (lm_0_99) rfl rfl (Nat.le_of_ble_eq_true rfl) w43250 g0 sh_1 (by decide) rfl (by decide) (s_51 w43250 g0 ⟨by omega, by omega⟩) (fun R43284 T43285 H43286 p43287 => ?_))
      obtain ⟨e43288, w43290, f43291, z43292, e43289, b43293⟩ := p43287
      subst e43288
      subst e43289
      have f43294 := f43255.tr f43291 rfl
      show wp _ _ 132 44 [(2, vI z43253), (0, .ref r0), (1, vI a1)] [vI z43292] _ H43286 _
      exact wp_ireturn e132 c132_44 rfl ⟨rfl, w43290, f43294, z43292, rfl, ⟨by omega, by omega⟩⟩
  · refine wp_of e132 c132_14 (rw_aload_n (pc' := 15) (v := .ref r0) rfl rfl rfl ?_)
    refine wp_of e132 c132_15 (rw_iload_n (pc' := 16) (z := z43253) rfl rfl ?_)
    refine wp_of e132 c132_16 (xc_V (pc' := 19) (r := r0) (as := [vI z43253]) (st := []) (lm_0_70) rfl rfl (Nat.le_of_ble_eq_true rfl) w43250 g0 sh_1 (by decide) rfl (by decide) (s_12 w43250 g0 ⟨by omega, by omega⟩) (fun R43295 T43296 H43297 p43298 => ?_))
    obtain ⟨e43299, w43301, f43302, z43303, e43300, b43304⟩ := p43298
    subst e43299
    subst e43300
    have f43305 := f43255.tr f43302 rfl
    show wp _ _ 132 19 [(2, vI z43253), (0, .ref r0), (1, vI a1)] [vI z43303] _ H43297 _
    exact wp_ireturn e132 c132_19 rfl ⟨rfl, w43301, f43305, z43303, rfl, ⟨by omega, by omega⟩⟩
/-! StrikeAwake$Grounds.barringHour(LStrikeAwake$Parish;LStrikeAwake$Walk;I)I -/
theorem e136 : wq_en 136 = some (6, 10, false, some FieldType.int) := rfl
theorem c136_0 : mc_cd 136 0 = some (.aload_n 1, 1) := by decide +kernel
theorem c136_1 : mc_cd 136 1 = some (.getfield 15, 3) := by decide +kernel
theorem c136_4 : mc_cd 136 4 = some (.aload_n 1, 1) := by decide +kernel
theorem c136_5 : mc_cd 136 5 = some (.getfield 21, 3) := by decide +kernel
theorem c136_8 : mc_cd 136 8 = some (.iload_n 3, 1) := by decide +kernel
theorem c136_9 : mc_cd 136 9 = some (.iaload, 1) := by decide +kernel
theorem c136_10 : mc_cd 136 10 = some (.aaload, 1) := by decide +kernel
theorem c136_11 : mc_cd 136 11 = some (.astore 4, 2) := by decide +kernel
theorem c136_13 : mc_cd 136 13 = some (.aload_n 1, 1) := by decide +kernel
theorem c136_14 : mc_cd 136 14 = some (.getfield 25, 3) := by decide +kernel
theorem c136_17 : mc_cd 136 17 = some (.iload_n 3, 1) := by decide +kernel
theorem c136_18 : mc_cd 136 18 = some (.iaload, 1) := by decide +kernel
theorem c136_19 : mc_cd 136 19 = some (.istore 5, 2) := by decide +kernel
theorem c136_21 : mc_cd 136 21 = some (.sipush (-1000), 3) := by decide +kernel
theorem c136_24 : mc_cd 136 24 = some (.istore 6, 2) := by decide +kernel
theorem c136_26 : mc_cd 136 26 = some (.aload_n 2, 1) := by decide +kernel
theorem c136_27 : mc_cd 136 27 = some (.aload_n 1, 1) := by decide +kernel
theorem c136_28 : mc_cd 136 28 = some (.invokevirtual 28, 3) := by decide +kernel
theorem c136_31 : mc_cd 136 31 = some (.iconst 0, 1) := by decide +kernel
theorem c136_32 : mc_cd 136 32 = some (.istore 7, 2) := by decide +kernel
theorem c136_34 : mc_cd 136 34 = some (.iload 7, 2) := by decide +kernel
theorem c136_36 : mc_cd 136 36 = some (.i2l, 1) := by decide +kernel
theorem c136_37 : mc_cd 136 37 = some (.aload_n 1, 1) := by decide +kernel
theorem c136_38 : mc_cd 136 38 = some (.getfield 34, 3) := by decide +kernel
theorem c136_41 : mc_cd 136 41 = some (.lcmp, 1) := by decide +kernel
theorem c136_42 : mc_cd 136 42 = some (.ifCond .ge 83, 3) := by decide +kernel
theorem c136_45 : mc_cd 136 45 = some (.iload 7, 2) := by decide +kernel
theorem c136_47 : mc_cd 136 47 = some (.sipush 20000, 3) := by decide +kernel
theorem c136_50 : mc_cd 136 50 = some (.if_icmp .ge 75, 3) := by decide +kernel
theorem c136_53 : mc_cd 136 53 = some (.aload 4, 2) := by decide +kernel
theorem c136_55 : mc_cd 136 55 = some (.getfield 38, 3) := by decide +kernel
theorem c136_58 : mc_cd 136 58 = some (.aload_n 2, 1) := by decide +kernel
theorem c136_59 : mc_cd 136 59 = some (.aload_n 1, 1) := by decide +kernel
theorem c136_60 : mc_cd 136 60 = some (.getfield 21, 3) := by decide +kernel
theorem c136_63 : mc_cd 136 63 = some (.iload_n 3, 1) := by decide +kernel
theorem c136_64 : mc_cd 136 64 = some (.iaload, 1) := by decide +kernel
theorem c136_65 : mc_cd 136 65 = some (.invokevirtual 43, 3) := by decide +kernel
theorem c136_68 : mc_cd 136 68 = some (.iaload, 1) := by decide +kernel
theorem c136_69 : mc_cd 136 69 = some (.istore 8, 2) := by decide +kernel
theorem c136_71 : mc_cd 136 71 = some (.aload_n 2, 1) := by decide +kernel
theorem c136_72 : mc_cd 136 72 = some (.invokevirtual 47, 3) := by decide +kernel
theorem c136_75 : mc_cd 136 75 = some (.ifCond .ne 39, 3) := by decide +kernel
theorem c136_78 : mc_cd 136 78 = some (.iload 8, 2) := by decide +kernel
theorem c136_80 : mc_cd 136 80 = some (.iload 5, 2) := by decide +kernel
theorem c136_82 : mc_cd 136 82 = some (.iand, 1) := by decide +kernel
theorem c136_83 : mc_cd 136 83 = some (.iload 5, 2) := by decide +kernel
theorem c136_85 : mc_cd 136 85 = some (.if_icmp .ne 29, 3) := by decide +kernel
theorem c136_88 : mc_cd 136 88 = some (.aload_n 2, 1) := by decide +kernel
theorem c136_89 : mc_cd 136 89 = some (.aload_n 1, 1) := by decide +kernel
theorem c136_90 : mc_cd 136 90 = some (.invokevirtual 51, 3) := by decide +kernel
theorem c136_93 : mc_cd 136 93 = some (.istore 9, 2) := by decide +kernel
theorem c136_95 : mc_cd 136 95 = some (.iload 9, 2) := by decide +kernel
theorem c136_97 : mc_cd 136 97 = some (.bipush 24, 2) := by decide +kernel
theorem c136_99 : mc_cd 136 99 = some (.if_icmp .ne 6, 3) := by decide +kernel
theorem c136_102 : mc_cd 136 102 = some (.bipush (-2), 2) := by decide +kernel
theorem c136_104 : mc_cd 136 104 = some (.ireturn, 1) := by decide +kernel
theorem c136_105 : mc_cd 136 105 = some (.iload 6, 2) := by decide +kernel
theorem c136_107 : mc_cd 136 107 = some (.iload 9, 2) := by decide +kernel
theorem c136_109 : mc_cd 136 109 = some (.invokestatic 55, 3) := by decide +kernel
theorem c136_112 : mc_cd 136 112 = some (.istore 6, 2) := by decide +kernel
theorem c136_114 : mc_cd 136 114 = some (.aload_n 2, 1) := by decide +kernel
theorem c136_115 : mc_cd 136 115 = some (.aload_n 1, 1) := by decide +kernel
theorem c136_116 : mc_cd 136 116 = some (.invokevirtual 61, 3) := by decide +kernel
theorem c136_119 : mc_cd 136 119 = some (.iinc 7 1, 3) := by decide +kernel
theorem c136_122 : mc_cd 136 122 = some (.goto (-88), 3) := by decide +kernel
theorem c136_125 : mc_cd 136 125 = some (.iload 6, 2) := by decide +kernel
theorem c136_127 : mc_cd 136 127 = some (.ireturn, 1) := by decide +kernel
abbrev q_136 (r0 : Nat) (r1 : Nat) (r2 : Nat) (a3 : Int) (T : wq_T) (H : wq_H) : Option Value → wq_T → wq_H → Prop := fun r T' H' => T = T' ∧ WT T H' ∧ wfr [(6, 5), (8, 999), (10, 999), (9, 999), (7, 999), (11, 999)] T H H' ∧ ∃ z : Int, some (vI z) = r ∧ ((-2147483648) ≤ z ∧ z ≤ 2147483647)
set_option maxHeartbeats 4000000 in
theorem s_136 {kt : Nat → Option mc_E} {T : wq_T} {H : wq_H} {r0 : Nat} {r1 : Nat} {r2 : Nat} {a3 : Int} (hW : WT T H) (g0 : T.2.2.2 r0 = some 25) (g1 : T.2.2.2 r1 = some 27) (g2 : T.2.2.2 r2 = some 6) (i3 : 0 ≤ a3 ∧ a3 ≤ 3) : wpc kt 4 136 [.ref r0, .ref r1, .ref r2, vI a3] T H (q_136 r0 r1 r2 a3 T H) := by
  refine wp_enter e136 (Nat.le_of_ble_eq_true rfl) rfl ?_
  have f0 : wfr [(6, 5), (8, 999), (10, 999), (9, 999), (7, 999), (11, 999)] T H H := wfr.rf
  show wp _ _ 136 0 [(0, .ref r0), (1, .ref r1), (2, .ref r2), (3, vI a3)] [] _ H _
  refine wp_of e136 c136_0 (rw_aload_n (pc' := 1) (v := .ref r1) rfl rfl rfl ?_)
  refine wp_of e136 c136_1 (xg_R (pc' := 4) lf_6_15 hW g1 sh_27 (by decide) (by decide) ty_27_0 rfl rfl (fun r44016 q44017 g44018 => ?_))
  refine wp_of e136 c136_4 (rw_aload_n (pc' := 5) (v := .ref r1) rfl rfl rfl ?_)
  refine wp_of e136 c136_5 (xg_R (pc' := 8) lf_6_21 hW g1 sh_27 (by decide) (by decide) ty_27_4 rfl rfl (fun r44019 q44020 g44021 => ?_))
  refine wp_of e136 c136_8 (rw_iload_n (pc' := 9) (z := a3) rfl rfl ?_)
  refine wp_of e136 c136_9 (xa_I (so := 0) (pc' := 10) hW g44021 sh_32 (by decide) (ty_32 _) (by omega) (by omega) rfl (fun b44022 b44023 => ?_))
  refine wp_of e136 c136_10 (xa_R (pc' := 11) (by decide) hW g44018 sh_28 (by decide) (ty_28 _) (by omega) (by omega) rfl (fun r44024 q44025 g44026 => ?_))
  refine wp_of e136 c136_11 (rw_astore (pc' := 13) (v := .ref r44024) (L' := [(4, .ref r44024), (0, .ref r0), (1, .ref r1), (2, .ref r2), (3, vI a3)]) rfl rfl rfl rfl ?_)
  refine wp_of e136 c136_13 (rw_aload_n (pc' := 14) (v := .ref r1) rfl rfl rfl ?_)
  refine wp_of e136 c136_14 (xg_R (pc' := 17) lf_6_25 hW g1 sh_27 (by decide) (by decide) ty_27_5 rfl rfl (fun r44027 q44028 g44029 => ?_))
  refine wp_of e136 c136_17 (rw_iload_n (pc' := 18) (z := a3) rfl rfl ?_)
  refine wp_of e136 c136_18 (xa_I (so := 0) (pc' := 19) hW g44029 sh_33 (by decide) (ty_33 _) (by omega) (by omega) rfl (fun b44030 b44031 => ?_))
  refine wp_of e136 c136_19 (rw_istore (pc' := 21) (z := H r44027 (a3.toNat)) (L' := [(5, vI (H r44027 (a3.toNat))), (4, .ref r44024), (0, .ref r0), (1, .ref r1), (2, .ref r2), (3, vI a3)]) rfl rfl rfl ?_)
  refine wp_of e136 c136_21 (rw_sipush (pc' := 24) (z := -1000) rfl (by decide) ?_)
  refine wp_of e136 c136_24 (rw_istore (pc' := 26) (z := -1000) (L' := [(6, vI (-1000)), (5, vI (H r44027 (a3.toNat))), (4, .ref r44024), (0, .ref r0), (1, .ref r1), (2, .ref r2), (3, vI a3)]) rfl rfl rfl ?_)
  refine wp_of e136 c136_26 (rw_aload_n (pc' := 27) (v := .ref r2) rfl rfl rfl ?_)
  refine wp_of e136 c136_27 (rw_aload_n (pc' := 28) (v := .ref r1) rfl rfl rfl ?_)
  refine wp_of e136 c136_28 (xc_V (pc' := 31) (r := r2) (as := [.ref r1]) (st := []) (lm_6_28) rfl rfl (Nat.le_of_ble_eq_true rfl) hW g2 sh_6 (by decide) rfl (by decide) (s_87 hW g2 g1) (fun R44032 T44033 H44034 p44035 => ?_))
  obtain ⟨e44036, w44038, f44039, e44037⟩ := p44035
  subst e44036
  subst e44037
  have f44040 := f0.tr f44039 rfl
  show wp _ _ 136 31 [(6, vI (-1000)), (5, vI (H r44027 (a3.toNat))), (4, .ref r44024), (0, .ref r0), (1, .ref r1), (2, .ref r2), (3, vI a3)] [] _ H44034 _
  refine wp_of e136 c136_31 (rw_iconst (pc' := 32) rfl ?_)
  refine wp_of e136 c136_32 (rw_istore (pc' := 34) (z := 0) (L' := [(7, vI 0), (6, vI (-1000)), (5, vI (H r44027 (a3.toNat))), (4, .ref r44024), (0, .ref r0), (1, .ref r1), (2, .ref r2), (3, vI a3)]) rfl rfl rfl ?_)
  have lp44649 : ∀ (n44650 : Nat) (v44652 : Int) (v44653 : Int) (H44654 : wq_H), WT T H44654 → wfr [(8, 999), (10, 999), (9, 999), (7, 999), (11, 999)] T H44034 H44654 → (0 ≤ v44652 ∧ v44652 ≤ 20000) → ((-1000) ≤ v44653 ∧ v44653 ≤ 23) → (20000 - v44652).toNat = n44650 → wp kt 3 136 34 [(7, vI v44652), (6, vI v44653), (5, vI (H r44027 (a3.toNat))), (4, .ref r44024), (1, .ref r1), (2, .ref r2), (3, vI a3)] [] T H44654 (q_136 r0 r1 r2 a3 T H) := by
    intro n44650
    induction n44650 using Nat.strongRecOn with
    | _ n44650 ih44651 =>
      intro v44652 v44653 H44654 w44655 f44656 b44657 b44658 m44659
      have f44660 := f44040.tr f44656 rfl
      refine wp_of e136 c136_34 (rw_iload (pc' := 36) (z := v44652) rfl rfl ?_)
      refine wp_of e136 c136_36 (rw_i2l (pc' := 37) rfl ⟨by omega, by omega⟩ ?_)
      refine wp_of e136 c136_37 (rw_aload_n (pc' := 38) (v := .ref r1) rfl rfl rfl ?_)
      refine wp_of e136 c136_38 (xg_L (pc' := 41) lf_6_34 w44655 g1 sh_27 (by decide) (by decide) ty_27_18 rfl rfl (fun b44661 b44662 => ?_))
      refine wp_of e136 c136_41 (rw_lcmp (pc' := 42) rfl ⟨by omega, by omega⟩ ⟨by omega, by omega⟩ ?_)
      have b44663 := wq_cmp_b v44652 (H44654 r1 18)
      refine wp_of e136 c136_42 (rw_if_ge (p1 := 125) (p2 := 45) (by decide) rfl ⟨by omega, by omega⟩ (fun c44664 => ?_) (fun c44664 => ?_))
      · refine wp_of e136 c136_125 (rw_iload (pc' := 127) (z := v44653) rfl rfl ?_)
        exact wp_ireturn e136 c136_127 rfl ⟨rfl, w44655, f44660, v44653, rfl, ⟨by omega, by omega⟩⟩
      · refine wp_of e136 c136_45 (rw_iload (pc' := 47) (z := v44652) rfl rfl ?_)
        refine wp_of e136 c136_47 (rw_sipush (pc' := 50) (z := 20000) rfl (by decide) ?_)
        refine wp_of e136 c136_50 (rw_icmp_ge (p1 := 125) (p2 := 53) (by decide) rfl ⟨by omega, by omega⟩ ⟨by omega, by omega⟩ (fun c44665 => ?_) (fun c44665 => ?_))
        · refine wp_of e136 c136_125 (rw_iload (pc' := 127) (z := v44653) rfl rfl ?_)
          exact wp_ireturn e136 c136_127 rfl ⟨rfl, w44655, f44660, v44653, rfl, ⟨by omega, by omega⟩⟩
        · refine wp_of e136 c136_53 (rw_aload (pc' := 55) (v := .ref r44024) rfl rfl rfl ?_)
          refine wp_of e136 c136_55 (xg_R (pc' := 58) lf_6_38 w44655 g44026 sh_35 (by decide) (by decide) ty_35_2 rfl rfl (fun r44666 q44667 g44668 => ?_))
          refine wp_of e136 c136_58 (rw_aload_n (pc' := 59) (v := .ref r2) rfl rfl rfl ?_)
          refine wp_of e136 c136_59 (rw_aload_n (pc' := 60) (v := .ref r1) rfl rfl rfl ?_)
          have k44669 : H44654 r1 4 = H r1 4 := ((f44656 r1 4 _ g1 rfl).trans (f44039 r1 4 _ g1 rfl))
          have q44670 : H44654 r1 4 = (r44019 : Int) := k44669.trans q44020
          refine wp_of e136 c136_60 (xg_K (pc' := 63) lf_6_21 w44655 g1 sh_27 (by decide) (by decide) rfl q44670 rfl ?_)
          refine wp_of e136 c136_63 (rw_iload_n (pc' := 64) (z := a3) rfl rfl ?_)
          have k44671 : H44654 r44019 (a3.toNat) = H r44019 (a3.toNat) := ((f44656 r44019 (a3.toNat) _ g44021 rfl).trans (f44039 r44019 (a3.toNat) _ g44021 rfl))
          refine wp_of e136 c136_64 (xa_I (so := 0) (pc' := 65) w44655 g44021 sh_32 (by decide) (ty_32 _) (by omega) (by omega) rfl (fun b44672 b44673 => ?_))
          refine wp_of e136 c136_65 (xc_V (pc' := 68) (r := r2) (as := [vI (H44654 r44019 (a3.toNat))]) (st := [.ref r44666]) (lm_6_43) rfl rfl (Nat.le_of_ble_eq_true rfl) w44655 g2 sh_6 (by decide) rfl (by decide) (s_89 w44655 g2 ⟨by omega, by omega⟩) (fun R44674 T44675 H44676 p44677 => ?_))
          obtain ⟨e44678, e44680, z44681, e44679, b44682⟩ := p44677
          subst e44678
          subst e44679
          subst e44680
          show wp _ _ 136 68 [(7, vI v44652), (6, vI v44653), (5, vI (H r44027 (a3.toNat))), (4, .ref r44024), (1, .ref r1), (2, .ref r2), (3, vI a3)] [vI z44681, .ref r44666] _ H44654 _
          refine wp_of e136 c136_68 (xa_I (so := 0) (pc' := 69) w44655 g44668 sh_38 (by decide) (ty_38 _) (by omega) (by omega) rfl (fun b44683 b44684 => ?_))
          refine wp_of e136 c136_69 (rw_istore (pc' := 71) (z := H44654 r44666 (z44681.toNat)) (L' := [(8, vI (H44654 r44666 (z44681.toNat))), (7, vI v44652), (6, vI v44653), (5, vI (H r44027 (a3.toNat))), (4, .ref r44024), (1, .ref r1), (2, .ref r2), (3, vI a3)]) rfl rfl rfl ?_)
          refine wp_of e136 c136_71 (rw_aload_n (pc' := 72) (v := .ref r2) rfl rfl rfl ?_)
          refine wp_of e136 c136_72 (xc_V (pc' := 75) (r := r2) (as := []) (st := []) (lm_6_47) rfl rfl (Nat.le_of_ble_eq_true rfl) w44655 g2 sh_6 (by decide) rfl (by decide) (s_80 w44655 g2) (fun R44685 T44686 H44687 p44688 => ?_))
          obtain ⟨e44689, e44691, z44692, e44690, b44693⟩ := p44688
          subst e44689
          subst e44690
          subst e44691
          show wp _ _ 136 75 [(8, vI (H44654 r44666 (z44681.toNat))), (7, vI v44652), (6, vI v44653), (5, vI (H r44027 (a3.toNat))), (4, .ref r44024), (1, .ref r1), (2, .ref r2), (3, vI a3)] [vI z44692] _ H44654 _
          refine wp_of e136 c136_75 (rw_if_ne (p1 := 114) (p2 := 78) (by decide) rfl ⟨by omega, by omega⟩ (fun c44694 => ?_) (fun c44694 => ?_))
          · refine wp_of e136 c136_114 (rw_aload_n (pc' := 115) (v := .ref r2) rfl rfl rfl ?_)
            refine wp_of e136 c136_115 (rw_aload_n (pc' := 116) (v := .ref r1) rfl rfl rfl ?_)
            refine wp_of e136 c136_116 (xc_V (pc' := 119) (r := r2) (as := [.ref r1]) (st := []) (lm_6_61) rfl rfl (Nat.le_of_ble_eq_true rfl) w44655 g2 sh_6 (by decide) rfl (by decide) (s_91 w44655 g2 g1) (fun R44695 T44696 H44697 p44698 => ?_))
            obtain ⟨e44699, w44701, f44702, e44700⟩ := p44698
            subst e44699
            subst e44700
            have f44703 := f44660.tr f44702 rfl
            have f44704 := f44656.tr f44702 rfl
            show wp _ _ 136 119 [(8, vI (H44654 r44666 (z44681.toNat))), (7, vI v44652), (6, vI v44653), (5, vI (H r44027 (a3.toNat))), (4, .ref r44024), (1, .ref r1), (2, .ref r2), (3, vI a3)] [] _ H44697 _
            refine wp_of e136 c136_119 (rw_iinc (pc' := 122) (z := v44652) (L' := [(7, vI (v44652 + 1)), (8, vI (H44654 r44666 (z44681.toNat))), (6, vI v44653), (5, vI (H r44027 (a3.toNat))), (4, .ref r44024), (1, .ref r1), (2, .ref r2), (3, vI a3)]) rfl rfl rfl rfl ?_)
            refine wp_of e136 c136_122 (rw_goto (p1 := 34) (by decide) ?_)
            exact wp_lc (ks := [7, 8, 6, 5, 4, 1, 2, 3]) (wl_c rfl (wl_c rfl (wl_c rfl (wl_c rfl (wl_c rfl (wl_c rfl (wl_c rfl wl_n))))))) rfl (by decide) (ih44651 _ (by omega) (v44652 + 1) v44653 H44697 w44701 f44704 ⟨by omega, by omega⟩ ⟨by omega, by omega⟩ rfl)
          · refine wp_of e136 c136_78 (rw_iload (pc' := 80) (z := H44654 r44666 (z44681.toNat)) rfl rfl ?_)
            refine wp_of e136 c136_80 (rw_iload (pc' := 82) (z := H r44027 (a3.toNat)) rfl rfl ?_)
            refine wp_of e136 c136_82 (rw_iand (pc' := 83) rfl ?_)
            obtain ⟨v44705, e44706⟩ : ∃ x : Int, x = wq_and (H44654 r44666 (z44681.toNat)) (H r44027 (a3.toNat)) := ⟨_, rfl⟩
            rw [← e44706]
            have b44707 : -2147483648 ≤ v44705 ∧ v44705 ≤ 2147483647 := by
              rw [e44706]
              exact wI_and _ _
            refine wp_of e136 c136_83 (rw_iload (pc' := 85) (z := H r44027 (a3.toNat)) rfl rfl ?_)
            refine wp_of e136 c136_85 (rw_icmp_ne (p1 := 114) (p2 := 88) (by decide) rfl ⟨by omega, by omega⟩ ⟨by omega, by omega⟩ (fun c44708 => ?_) (fun c44708 => ?_))
            · refine wp_of e136 c136_114 (rw_aload_n (pc' := 115) (v := .ref r2) rfl rfl rfl ?_)
              refine wp_of e136 c136_115 (rw_aload_n (pc' := 116) (v := .ref r1) rfl rfl rfl ?_)
              refine wp_of e136 c136_116 (xc_V (pc' := 119) (r := r2) (as := [.ref r1]) (st := []) (lm_6_61) rfl rfl (Nat.le_of_ble_eq_true rfl) w44655 g2 sh_6 (by decide) rfl (by decide) (s_91 w44655 g2 g1) (fun R44709 T44710 H44711 p44712 => ?_))
              obtain ⟨e44713, w44715, f44716, e44714⟩ := p44712
              subst e44713
              subst e44714
              have f44717 := f44660.tr f44716 rfl
              have f44718 := f44656.tr f44716 rfl
              show wp _ _ 136 119 [(8, vI (H44654 r44666 (z44681.toNat))), (7, vI v44652), (6, vI v44653), (5, vI (H r44027 (a3.toNat))), (4, .ref r44024), (1, .ref r1), (2, .ref r2), (3, vI a3)] [] _ H44711 _
              refine wp_of e136 c136_119 (rw_iinc (pc' := 122) (z := v44652) (L' := [(7, vI (v44652 + 1)), (8, vI (H44654 r44666 (z44681.toNat))), (6, vI v44653), (5, vI (H r44027 (a3.toNat))), (4, .ref r44024), (1, .ref r1), (2, .ref r2), (3, vI a3)]) rfl rfl rfl rfl ?_)
              refine wp_of e136 c136_122 (rw_goto (p1 := 34) (by decide) ?_)
              exact wp_lc (ks := [7, 8, 6, 5, 4, 1, 2, 3]) (wl_c rfl (wl_c rfl (wl_c rfl (wl_c rfl (wl_c rfl (wl_c rfl (wl_c rfl wl_n))))))) rfl (by decide) (ih44651 _ (by omega) (v44652 + 1) v44653 H44711 w44715 f44718 ⟨by omega, by omega⟩ ⟨by omega, by omega⟩ rfl)
            · refine wp_of e136 c136_88 (rw_aload_n (pc' := 89) (v := .ref r2) rfl rfl rfl ?_)
              refine wp_of e136 c136_89 (rw_aload_n (pc' := 90) (v := .ref r1) rfl rfl rfl ?_)
              refine wp_of e136 c136_90 (xc_V (pc' := 93) (r := r2) (as := [.ref r1]) (st := []) (lm_6_51) rfl rfl (Nat.le_of_ble_eq_true rfl) w44655 g2 sh_6 (by decide) rfl (by decide) (s_81 w44655 g2 g1) (fun R44719 T44720 H44721 p44722 => ?_))
              obtain ⟨e44723, e44725, z44726, e44724, b44727⟩ := p44722
              subst e44723
              subst e44724
              subst e44725
              show wp _ _ 136 93 [(8, vI (H44654 r44666 (z44681.toNat))), (7, vI v44652), (6, vI v44653), (5, vI (H r44027 (a3.toNat))), (4, .ref r44024), (1, .ref r1), (2, .ref r2), (3, vI a3)] [vI z44726] _ H44654 _
              refine wp_of e136 c136_93 (rw_istore (pc' := 95) (z := z44726) (L' := [(9, vI z44726), (8, vI (H44654 r44666 (z44681.toNat))), (7, vI v44652), (6, vI v44653), (5, vI (H r44027 (a3.toNat))), (4, .ref r44024), (1, .ref r1), (2, .ref r2), (3, vI a3)]) rfl rfl rfl ?_)
              refine wp_of e136 c136_95 (rw_iload (pc' := 97) (z := z44726) rfl rfl ?_)
              refine wp_of e136 c136_97 (rw_bipush (pc' := 99) (z := 24) rfl (by decide) ?_)
              refine wp_of e136 c136_99 (rw_icmp_ne (p1 := 105) (p2 := 102) (by decide) rfl ⟨by omega, by omega⟩ ⟨by omega, by omega⟩ (fun c44728 => ?_) (fun c44728 => ?_))
              · refine wp_of e136 c136_105 (rw_iload (pc' := 107) (z := v44653) rfl rfl ?_)
                refine wp_of e136 c136_107 (rw_iload (pc' := 109) (z := z44726) rfl rfl ?_)
                refine wp_of e136 c136_109 (rw_math2 (pc' := 112) (z := max v44653 z44726) rfl rfl ⟨by omega, by omega⟩ ⟨by omega, by omega⟩ (Or.inr ⟨rfl, rfl⟩) (Nat.le_of_ble_eq_true rfl) rfl ?_)
                obtain ⟨v44729, e44730⟩ : ∃ x : Int, x = max v44653 z44726 := ⟨_, rfl⟩
                rw [← e44730]
                have b44731 : v44729 = v44653 ∨ v44729 = z44726 := by
                  rw [e44730]
                  omega
                have b44732 : v44653 ≤ v44729 ∧ z44726 ≤ v44729 := by
                  rw [e44730]
                  omega
                refine wp_of e136 c136_112 (rw_istore (pc' := 114) (z := v44729) (L' := [(6, vI v44729), (9, vI z44726), (8, vI (H44654 r44666 (z44681.toNat))), (7, vI v44652), (5, vI (H r44027 (a3.toNat))), (4, .ref r44024), (1, .ref r1), (2, .ref r2), (3, vI a3)]) rfl rfl rfl ?_)
                refine wp_of e136 c136_114 (rw_aload_n (pc' := 115) (v := .ref r2) rfl rfl rfl ?_)
                refine wp_of e136 c136_115 (rw_aload_n (pc' := 116) (v := .ref r1) rfl rfl rfl ?_)
                refine wp_of e136 c136_116 (xc_V (pc' := 119) (r := r2) (as := [.ref r1]) (st := []) (lm_6_61) rfl rfl (Nat.le_of_ble_eq_true rfl) w44655 g2 sh_6 (by decide) rfl (by decide) (s_91 w44655 g2 g1) (fun R44733 T44734 H44735 p44736 => ?_))
                obtain ⟨e44737, w44739, f44740, e44738⟩ := p44736
                subst e44737
                subst e44738
                have f44741 := f44660.tr f44740 rfl
                have f44742 := f44656.tr f44740 rfl
                show wp _ _ 136 119 [(6, vI v44729), (9, vI z44726), (8, vI (H44654 r44666 (z44681.toNat))), (7, vI v44652), (5, vI (H r44027 (a3.toNat))), (4, .ref r44024), (1, .ref r1), (2, .ref r2), (3, vI a3)] [] _ H44735 _
                refine wp_of e136 c136_119 (rw_iinc (pc' := 122) (z := v44652) (L' := [(7, vI (v44652 + 1)), (6, vI v44729), (9, vI z44726), (8, vI (H44654 r44666 (z44681.toNat))), (5, vI (H r44027 (a3.toNat))), (4, .ref r44024), (1, .ref r1), (2, .ref r2), (3, vI a3)]) rfl rfl rfl rfl ?_)
                refine wp_of e136 c136_122 (rw_goto (p1 := 34) (by decide) ?_)
                exact wp_lc (ks := [7, 6, 9, 8, 5, 4, 1, 2, 3]) (wl_c rfl (wl_c rfl (wl_c rfl (wl_c rfl (wl_c rfl (wl_c rfl (wl_c rfl wl_n))))))) rfl (by decide) (ih44651 _ (by omega) (v44652 + 1) v44729 H44735 w44739 f44742 ⟨by omega, by omega⟩ ⟨by omega, by omega⟩ rfl)
              · refine wp_of e136 c136_102 (rw_bipush (pc' := 104) (z := -2) rfl (by decide) ?_)
                exact wp_ireturn e136 c136_104 rfl ⟨rfl, w44655, f44660, -2, rfl, ⟨by omega, by omega⟩⟩
  exact wp_lc (ks := [7, 6, 5, 4, 0, 1, 2, 3]) (wl_c rfl (wl_c rfl (wl_c rfl (wl_c rfl (wl_c rfl (wl_c rfl (wl_c rfl wl_n))))))) rfl (by decide) (lp44649 _ 0 (-1000) H44034 w44038 wfr.rf ⟨by omega, by omega⟩ ⟨by omega, by omega⟩ rfl)
/-! StrikeAwake.bars(I)I -/
theorem e135 : wq_en 135 = some (0, 3, false, some FieldType.int) := rfl
theorem c135_0 : mc_cd 135 0 = some (.aload_n 0, 1) := by decide +kernel
theorem c135_1 : mc_cd 135 1 = some (.aload_n 0, 1) := by decide +kernel
theorem c135_2 : mc_cd 135 2 = some (.iload_n 1, 1) := by decide +kernel
theorem c135_3 : mc_cd 135 3 = some (.invokevirtual 238, 3) := by decide +kernel
theorem c135_6 : mc_cd 135 6 = some (.invokevirtual 245, 3) := by decide +kernel
theorem c135_9 : mc_cd 135 9 = some (.istore_n 2, 1) := by decide +kernel
theorem c135_10 : mc_cd 135 10 = some (.iload_n 2, 1) := by decide +kernel
theorem c135_11 : mc_cd 135 11 = some (.ifCond .eq 9, 3) := by decide +kernel
theorem c135_14 : mc_cd 135 14 = some (.aload_n 0, 1) := by decide +kernel
theorem c135_15 : mc_cd 135 15 = some (.iload_n 2, 1) := by decide +kernel
theorem c135_16 : mc_cd 135 16 = some (.invokevirtual 70, 3) := by decide +kernel
theorem c135_19 : mc_cd 135 19 = some (.ireturn, 1) := by decide +kernel
theorem c135_20 : mc_cd 135 20 = some (.aload_n 0, 1) := by decide +kernel
theorem c135_21 : mc_cd 135 21 = some (.aload_n 0, 1) := by decide +kernel
theorem c135_22 : mc_cd 135 22 = some (.getfield 44, 3) := by decide +kernel
theorem c135_25 : mc_cd 135 25 = some (.aload_n 0, 1) := by decide +kernel
theorem c135_26 : mc_cd 135 26 = some (.getfield 51, 3) := by decide +kernel
theorem c135_29 : mc_cd 135 29 = some (.aload_n 0, 1) := by decide +kernel
theorem c135_30 : mc_cd 135 30 = some (.getfield 23, 3) := by decide +kernel
theorem c135_33 : mc_cd 135 33 = some (.iload_n 1, 1) := by decide +kernel
theorem c135_34 : mc_cd 135 34 = some (.invokevirtual 248, 3) := by decide +kernel
theorem c135_37 : mc_cd 135 37 = some (.invokevirtual 99, 3) := by decide +kernel
theorem c135_40 : mc_cd 135 40 = some (.ireturn, 1) := by decide +kernel
abbrev q_135 (r0 : Nat) (a1 : Int) (T : wq_T) (H : wq_H) : Option Value → wq_T → wq_H → Prop := fun r T' H' => T = T' ∧ WT T H' ∧ wfr [(1, 10), (6, 5), (8, 999), (10, 999), (9, 999), (7, 999), (11, 999)] T H H' ∧ ∃ z : Int, some (vI z) = r ∧ ((-2147483648) ≤ z ∧ z ≤ 2147483647)
set_option maxHeartbeats 4000000 in
theorem s_135 {kt : Nat → Option mc_E} {T : wq_T} {H : wq_H} {r0 : Nat} {a1 : Int} (hW : WT T H) (g0 : T.2.2.2 r0 = some 1) (i1 : (-2147483648) ≤ a1 ∧ a1 ≤ 2147483647) : wpc kt 5 135 [.ref r0, vI a1] T H (q_135 r0 a1 T H) := by
  refine wp_enter e135 (Nat.le_of_ble_eq_true rfl) rfl ?_
  have f0 : wfr [(1, 10), (6, 5), (8, 999), (10, 999), (9, 999), (7, 999), (11, 999)] T H H := wfr.rf
  show wp _ _ 135 0 [(0, .ref r0), (1, vI a1)] [] _ H _
  refine wp_of e135 c135_0 (rw_aload_n (pc' := 1) (v := .ref r0) rfl rfl rfl ?_)
  refine wp_of e135 c135_1 (rw_aload_n (pc' := 2) (v := .ref r0) rfl rfl rfl ?_)
  refine wp_of e135 c135_2 (rw_iload_n (pc' := 3) (z := a1) rfl rfl ?_)
  refine wp_of e135 c135_3 (xc_V (pc' := 6) (r := r0) (as := [vI a1]) (st := [.ref r0]) (lm_0_238) rfl rfl (Nat.le_of_ble_eq_true rfl) hW g0 sh_1 (by decide) rfl (by decide) (s_133 hW g0 ⟨by omega, by omega⟩) (fun R44806 T44807 H44808 p44809 => ?_))
  obtain ⟨e44810, e44812, z44814, e44811, b44815, p44813⟩ := p44809
  subst e44810
  subst e44811
  subst e44812
  show wp _ _ 135 6 [(0, .ref r0), (1, vI a1)] [vI z44814, .ref r0] _ H _
  refine wp_of e135 c135_6 (xc_V (pc' := 9) (r := r0) (as := [vI z44814]) (st := []) (lm_0_245) rfl rfl (Nat.le_of_ble_eq_true rfl) hW g0 sh_1 (by decide) rfl (by decide) (s_84 hW g0 ⟨by omega, by omega⟩) (fun R44816 T44817 H44818 p44819 => ?_))
  obtain ⟨e44820, e44822, z44824, e44821, b44825, p44823⟩ := p44819
  subst e44820
  subst e44821
  subst e44822
  show wp _ _ 135 9 [(0, .ref r0), (1, vI a1)] [vI z44824] _ H _
  refine wp_of e135 c135_9 (rw_istore_n (pc' := 10) (z := z44824) (L' := [(2, vI z44824), (0, .ref r0), (1, vI a1)]) rfl rfl rfl ?_)
  refine wp_of e135 c135_10 (rw_iload_n (pc' := 11) (z := z44824) rfl rfl ?_)
  refine wp_of e135 c135_11 (rw_if_eq (p1 := 20) (p2 := 14) (by decide) rfl ⟨by omega, by omega⟩ (fun c44826 => ?_) (fun c44826 => ?_))
  · refine wp_of e135 c135_20 (rw_aload_n (pc' := 21) (v := .ref r0) rfl rfl rfl ?_)
    refine wp_of e135 c135_21 (rw_aload_n (pc' := 22) (v := .ref r0) rfl rfl rfl ?_)
    refine wp_of e135 c135_22 (xg_R (pc' := 25) lf_0_44 hW g0 sh_1 (by decide) (by decide) ty_1_5 rfl rfl (fun r44827 q44828 g44829 => ?_))
    refine wp_of e135 c135_25 (rw_aload_n (pc' := 26) (v := .ref r0) rfl rfl rfl ?_)
    refine wp_of e135 c135_26 (xg_R (pc' := 29) lf_0_51 hW g0 sh_1 (by decide) (by decide) ty_1_6 rfl rfl (fun r44830 q44831 g44832 => ?_))
    refine wp_of e135 c135_29 (rw_aload_n (pc' := 30) (v := .ref r0) rfl rfl rfl ?_)
    refine wp_of e135 c135_30 (xg_R (pc' := 33) lf_0_23 hW g0 sh_1 (by decide) (by decide) ty_1_2 rfl rfl (fun r44833 q44834 g44835 => ?_))
    refine wp_of e135 c135_33 (rw_iload_n (pc' := 34) (z := a1) rfl rfl ?_)
    refine wp_of e135 c135_34 (xc_V (pc' := 37) (r := r44827) (as := [.ref r44830, .ref r44833, vI a1]) (st := [.ref r0]) (lm_0_248) rfl rfl (Nat.le_of_ble_eq_true rfl) hW g44829 sh_25 (by decide) rfl (by decide) (s_136 hW g44829 g44832 g44835 ⟨by omega, by omega⟩) (fun R44836 T44837 H44838 p44839 => ?_))
    obtain ⟨e44840, w44842, f44843, z44844, e44841, b44845⟩ := p44839
    subst e44840
    subst e44841
    have f44846 := f0.tr f44843 rfl
    show wp _ _ 135 37 [(2, vI z44824), (0, .ref r0), (1, vI a1)] [vI z44844, .ref r0] _ H44838 _
    refine wp_of e135 c135_37 (xc_V (pc' := 40) (r := r0) (as := [vI z44844]) (st := []) (lm_0_99) rfl rfl (Nat.le_of_ble_eq_true rfl) w44842 g0 sh_1 (by decide) rfl (by decide) (s_51 w44842 g0 ⟨by omega, by omega⟩) (fun R44847 T44848 H44849 p44850 => ?_))
    obtain ⟨e44851, w44853, f44854, z44855, e44852, b44856⟩ := p44850
    subst e44851
    subst e44852
    have f44857 := f44846.tr f44854 rfl
    show wp _ _ 135 40 [(2, vI z44824), (0, .ref r0), (1, vI a1)] [vI z44855] _ H44849 _
    exact wp_ireturn e135 c135_40 rfl ⟨rfl, w44853, f44857, z44855, rfl, ⟨by omega, by omega⟩⟩
  · refine wp_of e135 c135_14 (rw_aload_n (pc' := 15) (v := .ref r0) rfl rfl rfl ?_)
    refine wp_of e135 c135_15 (rw_iload_n (pc' := 16) (z := z44824) rfl rfl ?_)
    refine wp_of e135 c135_16 (xc_V (pc' := 19) (r := r0) (as := [vI z44824]) (st := []) (lm_0_70) rfl rfl (Nat.le_of_ble_eq_true rfl) hW g0 sh_1 (by decide) rfl (by decide) (s_12 hW g0 ⟨by omega, by omega⟩) (fun R44858 T44859 H44860 p44861 => ?_))
    obtain ⟨e44862, w44864, f44865, z44866, e44863, b44867⟩ := p44861
    subst e44862
    subst e44863
    have f44868 := f0.tr f44865 rfl
    show wp _ _ 135 19 [(2, vI z44824), (0, .ref r0), (1, vI a1)] [vI z44866] _ H44860 _
    exact wp_ireturn e135 c135_19 rfl ⟨rfl, w44864, f44868, z44866, rfl, ⟨by omega, by omega⟩⟩
/-! StrikeAwake$Grounds.flawsOf(LStrikeAwake$Parish;LStrikeAwake$Walk;)J -/
theorem e140 : wq_en 140 = some (6, 7, false, some FieldType.long) := rfl
theorem c140_0 : mc_cd 140 0 = some (.lconst 0, 1) := by decide +kernel
theorem c140_1 : mc_cd 140 1 = some (.lstore_n 2, 1) := by decide +kernel
theorem c140_2 : mc_cd 140 2 = some (.iconst 0, 1) := by decide +kernel
theorem c140_3 : mc_cd 140 3 = some (.istore 4, 2) := by decide +kernel
theorem c140_5 : mc_cd 140 5 = some (.iload 4, 2) := by decide +kernel
theorem c140_7 : mc_cd 140 7 = some (.aload_n 0, 1) := by decide +kernel
theorem c140_8 : mc_cd 140 8 = some (.getfield 88, 3) := by decide +kernel
theorem c140_11 : mc_cd 140 11 = some (.if_icmp .ge 64, 3) := by decide +kernel
theorem c140_14 : mc_cd 140 14 = some (.aload_n 0, 1) := by decide +kernel
theorem c140_15 : mc_cd 140 15 = some (.getfield 91, 3) := by decide +kernel
theorem c140_18 : mc_cd 140 18 = some (.iload 4, 2) := by decide +kernel
theorem c140_20 : mc_cd 140 20 = some (.iaload, 1) := by decide +kernel
theorem c140_21 : mc_cd 140 21 = some (.istore 5, 2) := by decide +kernel
theorem c140_23 : mc_cd 140 23 = some (.aload_n 0, 1) := by decide +kernel
theorem c140_24 : mc_cd 140 24 = some (.iload 5, 2) := by decide +kernel
theorem c140_26 : mc_cd 140 26 = some (.aload_n 1, 1) := by decide +kernel
theorem c140_27 : mc_cd 140 27 = some (.iload 5, 2) := by decide +kernel
theorem c140_29 : mc_cd 140 29 = some (.invokevirtual 94, 3) := by decide +kernel
theorem c140_32 : mc_cd 140 32 = some (.invokevirtual 97, 3) := by decide +kernel
theorem c140_35 : mc_cd 140 35 = some (.istore 6, 2) := by decide +kernel
theorem c140_37 : mc_cd 140 37 = some (.iload 6, 2) := by decide +kernel
theorem c140_39 : mc_cd 140 39 = some (.iconst 2, 1) := by decide +kernel
theorem c140_40 : mc_cd 140 40 = some (.if_icmp .ne 13, 3) := by decide +kernel
theorem c140_43 : mc_cd 140 43 = some (.lload_n 2, 1) := by decide +kernel
theorem c140_44 : mc_cd 140 44 = some (.lconst 1, 1) := by decide +kernel
theorem c140_45 : mc_cd 140 45 = some (.iload 5, 2) := by decide +kernel
theorem c140_47 : mc_cd 140 47 = some (.lshl, 1) := by decide +kernel
theorem c140_48 : mc_cd 140 48 = some (.lor, 1) := by decide +kernel
theorem c140_49 : mc_cd 140 49 = some (.lstore_n 2, 1) := by decide +kernel
theorem c140_50 : mc_cd 140 50 = some (.goto 19, 3) := by decide +kernel
theorem c140_53 : mc_cd 140 53 = some (.iload 6, 2) := by decide +kernel
theorem c140_55 : mc_cd 140 55 = some (.iconst 1, 1) := by decide +kernel
theorem c140_56 : mc_cd 140 56 = some (.if_icmp .ne 13, 3) := by decide +kernel
theorem c140_59 : mc_cd 140 59 = some (.lload_n 2, 1) := by decide +kernel
theorem c140_60 : mc_cd 140 60 = some (.lconst 1, 1) := by decide +kernel
theorem c140_61 : mc_cd 140 61 = some (.iload 5, 2) := by decide +kernel
theorem c140_63 : mc_cd 140 63 = some (.bipush 32, 2) := by decide +kernel
theorem c140_65 : mc_cd 140 65 = some (.iadd, 1) := by decide +kernel
theorem c140_66 : mc_cd 140 66 = some (.lshl, 1) := by decide +kernel
theorem c140_67 : mc_cd 140 67 = some (.lor, 1) := by decide +kernel
theorem c140_68 : mc_cd 140 68 = some (.lstore_n 2, 1) := by decide +kernel
theorem c140_69 : mc_cd 140 69 = some (.iinc 4 1, 3) := by decide +kernel
theorem c140_72 : mc_cd 140 72 = some (.goto (-67), 3) := by decide +kernel
theorem c140_75 : mc_cd 140 75 = some (.lload_n 2, 1) := by decide +kernel
theorem c140_76 : mc_cd 140 76 = some (.lreturn, 1) := by decide +kernel
abbrev q_140 (r0 : Nat) (r1 : Nat) (T : wq_T) (H : wq_H) : Option Value → wq_T → wq_H → Prop := fun r T' H' => T = T' ∧ H = H' ∧ ∃ z : Int, some (vL z) = r ∧ ((-9223372036854775808) ≤ z ∧ z ≤ 9223372036854775807)
set_option maxHeartbeats 4000000 in
theorem s_140 {kt : Nat → Option mc_E} {T : wq_T} {H : wq_H} {r0 : Nat} {r1 : Nat} (hW : WT T H) (g0 : T.2.2.2 r0 = some 27) (g1 : T.2.2.2 r1 = some 6) : wpc kt 2 140 [.ref r0, .ref r1] T H (q_140 r0 r1 T H) := by
  refine wp_enter e140 (Nat.le_of_ble_eq_true rfl) rfl ?_
  show wp _ _ 140 0 [(0, .ref r0), (1, .ref r1)] [] _ H _
  refine wp_of e140 c140_0 (rw_lconst (pc' := 1) (z := 0) rfl rfl ?_)
  refine wp_of e140 c140_1 (rw_lstore_n (pc' := 2) (z := 0) (L' := [(2, vL 0), (0, .ref r0), (1, .ref r1)]) rfl rfl rfl ?_)
  refine wp_of e140 c140_2 (rw_iconst (pc' := 3) rfl ?_)
  refine wp_of e140 c140_3 (rw_istore (pc' := 5) (z := 0) (L' := [(4, vI 0), (2, vL 0), (0, .ref r0), (1, .ref r1)]) rfl rfl rfl ?_)
  have lp45482 : ∀ (n45483 : Nat) (v45485 : Int) (v45486 : Int), (0 ≤ v45485 ∧ v45485 ≤ 24) → ((-9223372036854775808) ≤ v45486 ∧ v45486 ≤ 9223372036854775807) → (24 - v45485).toNat = n45483 → wp kt 1 140 5 [(4, vI v45485), (2, vL v45486), (0, .ref r0), (1, .ref r1)] [] T H (q_140 r0 r1 T H) := by
    intro n45483
    induction n45483 using Nat.strongRecOn with
    | _ n45483 ih45484 =>
      intro v45485 v45486 b45489 b45490 m45491
      refine wp_of e140 c140_5 (rw_iload (pc' := 7) (z := v45485) rfl rfl ?_)
      refine wp_of e140 c140_7 (rw_aload_n (pc' := 8) (v := .ref r0) rfl rfl rfl ?_)
      refine wp_of e140 c140_8 (xg_I (pc' := 11) lf_6_88 hW g0 sh_27 (by decide) (by decide) ty_27_16 rfl rfl (fun b45492 b45493 => ?_))
      refine wp_of e140 c140_11 (rw_icmp_ge (p1 := 75) (p2 := 14) (by decide) rfl ⟨by omega, by omega⟩ ⟨by omega, by omega⟩ (fun c45494 => ?_) (fun c45494 => ?_))
      · refine wp_of e140 c140_75 (rw_lload_n (pc' := 76) (z := v45486) rfl rfl ?_)
        exact wp_lreturn e140 c140_76 rfl ⟨rfl, rfl, v45486, rfl, ⟨by omega, by omega⟩⟩
      · refine wp_of e140 c140_14 (rw_aload_n (pc' := 15) (v := .ref r0) rfl rfl rfl ?_)
        refine wp_of e140 c140_15 (xg_R (pc' := 18) lf_6_91 hW g0 sh_27 (by decide) (by decide) ty_27_2 rfl rfl (fun r45495 q45496 g45497 => ?_))
        refine wp_of e140 c140_18 (rw_iload (pc' := 20) (z := v45485) rfl rfl ?_)
        refine wp_of e140 c140_20 (xa_I (so := 0) (pc' := 21) hW g45497 sh_30 (by decide) (ty_30 _) (by omega) (by omega) rfl (fun b45498 b45499 => ?_))
        refine wp_of e140 c140_21 (rw_istore (pc' := 23) (z := H r45495 (v45485.toNat)) (L' := [(5, vI (H r45495 (v45485.toNat))), (4, vI v45485), (2, vL v45486), (0, .ref r0), (1, .ref r1)]) rfl rfl rfl ?_)
        refine wp_of e140 c140_23 (rw_aload_n (pc' := 24) (v := .ref r0) rfl rfl rfl ?_)
        refine wp_of e140 c140_24 (rw_iload (pc' := 26) (z := H r45495 (v45485.toNat)) rfl rfl ?_)
        refine wp_of e140 c140_26 (rw_aload_n (pc' := 27) (v := .ref r1) rfl rfl rfl ?_)
        refine wp_of e140 c140_27 (rw_iload (pc' := 29) (z := H r45495 (v45485.toNat)) rfl rfl ?_)
        refine wp_of e140 c140_29 (xc_V (pc' := 32) (r := r1) (as := [vI (H r45495 (v45485.toNat))]) (st := [vI (H r45495 (v45485.toNat)), .ref r0]) (lm_6_94) rfl rfl (Nat.le_of_ble_eq_true rfl) hW g1 sh_6 (by decide) rfl (by decide) (s_72 hW g1 ⟨by omega, by omega⟩) (fun R45500 T45501 H45502 p45503 => ?_))
        obtain ⟨e45504, e45506, z45507, e45505, b45508⟩ := p45503
        subst e45504
        subst e45505
        subst e45506
        show wp _ _ 140 32 [(5, vI (H r45495 (v45485.toNat))), (4, vI v45485), (2, vL v45486), (0, .ref r0), (1, .ref r1)] [vI z45507, vI (H r45495 (v45485.toNat)), .ref r0] _ H _
        refine wp_of e140 c140_32 (xc_V (pc' := 35) (r := r0) (as := [vI (H r45495 (v45485.toNat)), vI z45507]) (st := []) (lm_6_97) rfl rfl (Nat.le_of_ble_eq_true rfl) hW g0 sh_27 (by decide) rfl (by decide) (s_76 hW g0 ⟨by omega, by omega⟩ ⟨by omega, by omega⟩) (fun R45509 T45510 H45511 p45512 => ?_))
        obtain ⟨e45513, e45515, z45516, e45514, b45517⟩ := p45512
        subst e45513
        subst e45514
        subst e45515
        show wp _ _ 140 35 [(5, vI (H r45495 (v45485.toNat))), (4, vI v45485), (2, vL v45486), (0, .ref r0), (1, .ref r1)] [vI z45516] _ H _
        refine wp_of e140 c140_35 (rw_istore (pc' := 37) (z := z45516) (L' := [(6, vI z45516), (5, vI (H r45495 (v45485.toNat))), (4, vI v45485), (2, vL v45486), (0, .ref r0), (1, .ref r1)]) rfl rfl rfl ?_)
        refine wp_of e140 c140_37 (rw_iload (pc' := 39) (z := z45516) rfl rfl ?_)
        refine wp_of e140 c140_39 (rw_iconst (pc' := 40) rfl ?_)
        refine wp_of e140 c140_40 (rw_icmp_ne (p1 := 53) (p2 := 43) (by decide) rfl ⟨by omega, by omega⟩ ⟨by omega, by omega⟩ (fun c45518 => ?_) (fun c45518 => ?_))
        · refine wp_of e140 c140_53 (rw_iload (pc' := 55) (z := z45516) rfl rfl ?_)
          refine wp_of e140 c140_55 (rw_iconst (pc' := 56) rfl ?_)
          refine wp_of e140 c140_56 (rw_icmp_ne (p1 := 69) (p2 := 59) (by decide) rfl ⟨by omega, by omega⟩ ⟨by omega, by omega⟩ (fun c45519 => ?_) (fun c45519 => ?_))
          · refine wp_of e140 c140_69 (rw_iinc (pc' := 72) (z := v45485) (L' := [(4, vI (v45485 + 1)), (6, vI z45516), (5, vI (H r45495 (v45485.toNat))), (2, vL v45486), (0, .ref r0), (1, .ref r1)]) rfl rfl rfl rfl ?_)
            refine wp_of e140 c140_72 (rw_goto (p1 := 5) (by decide) ?_)
            exact wp_lc (ks := [4, 6, 5, 2, 0, 1]) (wl_c rfl (wl_c rfl (wl_c rfl (wl_c rfl wl_n)))) rfl (by decide) (ih45484 _ (by omega) (v45485 + 1) v45486 ⟨by omega, by omega⟩ ⟨by omega, by omega⟩ rfl)
          · refine wp_of e140 c140_59 (rw_lload_n (pc' := 60) (z := v45486) rfl rfl ?_)
            refine wp_of e140 c140_60 (rw_lconst (pc' := 61) (z := 1) rfl rfl ?_)
            refine wp_of e140 c140_61 (rw_iload (pc' := 63) (z := H r45495 (v45485.toNat)) rfl rfl ?_)
            refine wp_of e140 c140_63 (rw_bipush (pc' := 65) (z := 32) rfl (by decide) ?_)
            refine wp_of e140 c140_65 (rw_iadd (pc' := 66) rfl ?_)
            refine wp_of e140 c140_66 (rw_lshl (pc' := 67) rfl ?_)
            obtain ⟨v45520, e45521⟩ : ∃ x : Int, x = wl_shl 1 ((H r45495 (v45485.toNat)) + 32) := ⟨_, rfl⟩
            rw [← e45521]
            have b45522 : -9223372036854775808 ≤ v45520 ∧ v45520 ≤ 9223372036854775807 := by
              rw [e45521]
              exact wL_shl _ _
            refine wp_of e140 c140_67 (rw_lor (pc' := 68) rfl ?_)
            obtain ⟨v45523, e45524⟩ : ∃ x : Int, x = wl_or v45486 v45520 := ⟨_, rfl⟩
            rw [← e45524]
            have b45525 : -9223372036854775808 ≤ v45523 ∧ v45523 ≤ 9223372036854775807 := by
              rw [e45524]
              exact wL_or _ _
            refine wp_of e140 c140_68 (rw_lstore_n (pc' := 69) (z := v45523) (L' := [(2, vL v45523), (6, vI z45516), (5, vI (H r45495 (v45485.toNat))), (4, vI v45485), (0, .ref r0), (1, .ref r1)]) rfl rfl rfl ?_)
            refine wp_of e140 c140_69 (rw_iinc (pc' := 72) (z := v45485) (L' := [(4, vI (v45485 + 1)), (2, vL v45523), (6, vI z45516), (5, vI (H r45495 (v45485.toNat))), (0, .ref r0), (1, .ref r1)]) rfl rfl rfl rfl ?_)
            refine wp_of e140 c140_72 (rw_goto (p1 := 5) (by decide) ?_)
            exact wp_lc (ks := [4, 2, 6, 5, 0, 1]) (wl_c rfl (wl_c rfl (wl_c rfl (wl_c rfl wl_n)))) rfl (by decide) (ih45484 _ (by omega) (v45485 + 1) v45523 ⟨by omega, by omega⟩ ⟨by omega, by omega⟩ rfl)
        · refine wp_of e140 c140_43 (rw_lload_n (pc' := 44) (z := v45486) rfl rfl ?_)
          refine wp_of e140 c140_44 (rw_lconst (pc' := 45) (z := 1) rfl rfl ?_)
          refine wp_of e140 c140_45 (rw_iload (pc' := 47) (z := H r45495 (v45485.toNat)) rfl rfl ?_)
          refine wp_of e140 c140_47 (rw_lshl (pc' := 48) rfl ?_)
          obtain ⟨v45526, e45527⟩ : ∃ x : Int, x = wl_shl 1 (H r45495 (v45485.toNat)) := ⟨_, rfl⟩
          rw [← e45527]
          have b45528 : -9223372036854775808 ≤ v45526 ∧ v45526 ≤ 9223372036854775807 := by
            rw [e45527]
            exact wL_shl _ _
          refine wp_of e140 c140_48 (rw_lor (pc' := 49) rfl ?_)
          obtain ⟨v45529, e45530⟩ : ∃ x : Int, x = wl_or v45486 v45526 := ⟨_, rfl⟩
          rw [← e45530]
          have b45531 : -9223372036854775808 ≤ v45529 ∧ v45529 ≤ 9223372036854775807 := by
            rw [e45530]
            exact wL_or _ _
          refine wp_of e140 c140_49 (rw_lstore_n (pc' := 50) (z := v45529) (L' := [(2, vL v45529), (6, vI z45516), (5, vI (H r45495 (v45485.toNat))), (4, vI v45485), (0, .ref r0), (1, .ref r1)]) rfl rfl rfl ?_)
          refine wp_of e140 c140_50 (rw_goto (p1 := 69) (by decide) ?_)
          refine wp_of e140 c140_69 (rw_iinc (pc' := 72) (z := v45485) (L' := [(4, vI (v45485 + 1)), (2, vL v45529), (6, vI z45516), (5, vI (H r45495 (v45485.toNat))), (0, .ref r0), (1, .ref r1)]) rfl rfl rfl rfl ?_)
          refine wp_of e140 c140_72 (rw_goto (p1 := 5) (by decide) ?_)
          exact wp_lc (ks := [4, 2, 6, 5, 0, 1]) (wl_c rfl (wl_c rfl (wl_c rfl (wl_c rfl wl_n)))) rfl (by decide) (ih45484 _ (by omega) (v45485 + 1) v45529 ⟨by omega, by omega⟩ ⟨by omega, by omega⟩ rfl)
  exact wp_lc (ks := [4, 2, 0, 1]) (wl_c rfl (wl_c rfl (wl_c rfl (wl_c rfl wl_n)))) rfl (by decide) (lp45482 _ 0 0 ⟨by omega, by omega⟩ ⟨by omega, by omega⟩ rfl)
/-! StrikeAwake$Grounds.gather(LStrikeAwake$Parish;LStrikeAwake$Walk;)V -/
theorem e139 : wq_en 139 = some (6, 4, false, none) := rfl
theorem c139_0 : mc_cd 139 0 = some (.aload_n 0, 1) := by decide +kernel
theorem c139_1 : mc_cd 139 1 = some (.iconst 0, 1) := by decide +kernel
theorem c139_2 : mc_cd 139 2 = some (.putfield 68, 3) := by decide +kernel
theorem c139_5 : mc_cd 139 5 = some (.aload_n 0, 1) := by decide +kernel
theorem c139_6 : mc_cd 139 6 = some (.iconst 0, 1) := by decide +kernel
theorem c139_7 : mc_cd 139 7 = some (.putfield 81, 3) := by decide +kernel
theorem c139_10 : mc_cd 139 10 = some (.aload_n 2, 1) := by decide +kernel
theorem c139_11 : mc_cd 139 11 = some (.aload_n 1, 1) := by decide +kernel
theorem c139_12 : mc_cd 139 12 = some (.invokevirtual 28, 3) := by decide +kernel
theorem c139_15 : mc_cd 139 15 = some (.iconst 0, 1) := by decide +kernel
theorem c139_16 : mc_cd 139 16 = some (.istore_n 3, 1) := by decide +kernel
theorem c139_17 : mc_cd 139 17 = some (.iload_n 3, 1) := by decide +kernel
theorem c139_18 : mc_cd 139 18 = some (.i2l, 1) := by decide +kernel
theorem c139_19 : mc_cd 139 19 = some (.aload_n 1, 1) := by decide +kernel
theorem c139_20 : mc_cd 139 20 = some (.getfield 34, 3) := by decide +kernel
theorem c139_23 : mc_cd 139 23 = some (.lcmp, 1) := by decide +kernel
theorem c139_24 : mc_cd 139 24 = some (.ifCond .ge 52, 3) := by decide +kernel
theorem c139_27 : mc_cd 139 27 = some (.iload_n 3, 1) := by decide +kernel
theorem c139_28 : mc_cd 139 28 = some (.sipush 5000, 3) := by decide +kernel
theorem c139_31 : mc_cd 139 31 = some (.if_icmp .ge 45, 3) := by decide +kernel
theorem c139_34 : mc_cd 139 34 = some (.aload_n 2, 1) := by decide +kernel
theorem c139_35 : mc_cd 139 35 = some (.invokevirtual 47, 3) := by decide +kernel
theorem c139_38 : mc_cd 139 38 = some (.ifCond .ne 27, 3) := by decide +kernel
theorem c139_41 : mc_cd 139 41 = some (.aload_n 0, 1) := by decide +kernel
theorem c139_42 : mc_cd 139 42 = some (.getfield 9, 3) := by decide +kernel
theorem c139_45 : mc_cd 139 45 = some (.aload_n 0, 1) := by decide +kernel
theorem c139_46 : mc_cd 139 46 = some (.getfield 68, 3) := by decide +kernel
theorem c139_49 : mc_cd 139 49 = some (.aload_n 1, 1) := by decide +kernel
theorem c139_50 : mc_cd 139 50 = some (.aload_n 2, 1) := by decide +kernel
theorem c139_51 : mc_cd 139 51 = some (.invokestatic 84, 3) := by decide +kernel
theorem c139_54 : mc_cd 139 54 = some (.lastore, 1) := by decide +kernel
theorem c139_55 : mc_cd 139 55 = some (.aload_n 0, 1) := by decide +kernel
theorem c139_56 : mc_cd 139 56 = some (.dup, 1) := by decide +kernel
theorem c139_57 : mc_cd 139 57 = some (.getfield 68, 3) := by decide +kernel
theorem c139_60 : mc_cd 139 60 = some (.iconst 1, 1) := by decide +kernel
theorem c139_61 : mc_cd 139 61 = some (.iadd, 1) := by decide +kernel
theorem c139_62 : mc_cd 139 62 = some (.putfield 68, 3) := by decide +kernel
theorem c139_65 : mc_cd 139 65 = some (.aload_n 2, 1) := by decide +kernel
theorem c139_66 : mc_cd 139 66 = some (.aload_n 1, 1) := by decide +kernel
theorem c139_67 : mc_cd 139 67 = some (.invokevirtual 61, 3) := by decide +kernel
theorem c139_70 : mc_cd 139 70 = some (.iinc 3 1, 3) := by decide +kernel
theorem c139_73 : mc_cd 139 73 = some (.goto (-56), 3) := by decide +kernel
theorem c139_76 : mc_cd 139 76 = some (.return_, 1) := by decide +kernel
abbrev q_139 (r0 : Nat) (r1 : Nat) (r2 : Nat) (T : wq_T) (H : wq_H) : Option Value → wq_T → wq_H → Prop := fun r T' H' => T = T' ∧ WT T H' ∧ wfr [(25, 1), (25, 2), (6, 5), (8, 999), (10, 999), (26, 999), (9, 999), (7, 999), (11, 999)] T H H' ∧ none = r
set_option maxHeartbeats 4000000 in
theorem s_139 {kt : Nat → Option mc_E} {T : wq_T} {H : wq_H} {r0 : Nat} {r1 : Nat} {r2 : Nat} (hW : WT T H) (g0 : T.2.2.2 r0 = some 25) (g1 : T.2.2.2 r1 = some 27) (g2 : T.2.2.2 r2 = some 6) : wpc kt 4 139 [.ref r0, .ref r1, .ref r2] T H (q_139 r0 r1 r2 T H) := by
  refine wp_enter e139 (Nat.le_of_ble_eq_true rfl) rfl ?_
  have f0 : wfr [(25, 1), (25, 2), (6, 5), (8, 999), (10, 999), (26, 999), (9, 999), (7, 999), (11, 999)] T H H := wfr.rf
  show wp _ _ 139 0 [(0, .ref r0), (1, .ref r1), (2, .ref r2)] [] _ H _
  refine wp_of e139 c139_0 (rw_aload_n (pc' := 1) (v := .ref r0) rfl rfl rfl ?_)
  refine wp_of e139 c139_1 (rw_iconst (pc' := 2) rfl ?_)
  refine wp_of e139 c139_2 (xp_I (pc' := 5) lf_6_68 hW g0 sh_25 (by decide) (by decide) ty_25_1 rfl rfl (by omega) (by omega) ⟨by omega, by omega⟩ rfl (fun H46084 e46085 w46086 => ?_))
  have f46087 := f0.put' e46085 g0 rfl
  have k46088 : H46084 r0 1 = 0 := wq_u_s e46085
  refine wp_of e139 c139_5 (rw_aload_n (pc' := 6) (v := .ref r0) rfl rfl rfl ?_)
  refine wp_of e139 c139_6 (rw_iconst (pc' := 7) rfl ?_)
  refine wp_of e139 c139_7 (xp_I (pc' := 10) lf_6_81 w46086 g0 sh_25 (by decide) (by decide) ty_25_2 rfl rfl (by omega) (by omega) ⟨by omega, by omega⟩ rfl (fun H46089 e46090 w46091 => ?_))
  have f46092 := f46087.put' e46090 g0 rfl
  have k46093 : H46089 r0 2 = 0 := wq_u_s e46090
  refine wp_of e139 c139_10 (rw_aload_n (pc' := 11) (v := .ref r2) rfl rfl rfl ?_)
  refine wp_of e139 c139_11 (rw_aload_n (pc' := 12) (v := .ref r1) rfl rfl rfl ?_)
  refine wp_of e139 c139_12 (xc_V (pc' := 15) (r := r2) (as := [.ref r1]) (st := []) (lm_6_28) rfl rfl (Nat.le_of_ble_eq_true rfl) w46091 g2 sh_6 (by decide) rfl (by decide) (s_87 w46091 g2 g1) (fun R46094 T46095 H46096 p46097 => ?_))
  obtain ⟨e46098, w46100, f46101, e46099⟩ := p46097
  subst e46098
  subst e46099
  have f46102 := f46092.tr f46101 rfl
  show wp _ _ 139 15 [(0, .ref r0), (1, .ref r1), (2, .ref r2)] [] _ H46096 _
  refine wp_of e139 c139_15 (rw_iconst (pc' := 16) rfl ?_)
  refine wp_of e139 c139_16 (rw_istore_n (pc' := 17) (z := 0) (L' := [(3, vI 0), (0, .ref r0), (1, .ref r1), (2, .ref r2)]) rfl rfl rfl ?_)
  have lp46576 : ∀ (n46577 : Nat) (v46579 : Int) (H46580 : wq_H), WT T H46580 → wfr [(25, 1), (8, 999), (10, 999), (26, 999), (9, 999), (7, 999), (11, 999)] T H46096 H46580 → (0 ≤ v46579 ∧ v46579 ≤ 5000) → (H46580 r0 1 ≤ v46579) → (5000 - v46579).toNat = n46577 → wp kt 3 139 17 [(3, vI v46579), (0, .ref r0), (1, .ref r1), (2, .ref r2)] [] T H46580 (q_139 r0 r1 r2 T H) := by
    intro n46577
    induction n46577 using Nat.strongRecOn with
    | _ n46577 ih46578 =>
      intro v46579 H46580 w46581 f46582 b46583 x46584 m46585
      have f46586 := f46102.tr f46582 rfl
      refine wp_of e139 c139_17 (rw_iload_n (pc' := 18) (z := v46579) rfl rfl ?_)
      refine wp_of e139 c139_18 (rw_i2l (pc' := 19) rfl ⟨by omega, by omega⟩ ?_)
      refine wp_of e139 c139_19 (rw_aload_n (pc' := 20) (v := .ref r1) rfl rfl rfl ?_)
      refine wp_of e139 c139_20 (xg_L (pc' := 23) lf_6_34 w46581 g1 sh_27 (by decide) (by decide) ty_27_18 rfl rfl (fun b46587 b46588 => ?_))
      refine wp_of e139 c139_23 (rw_lcmp (pc' := 24) rfl ⟨by omega, by omega⟩ ⟨by omega, by omega⟩ ?_)
      have b46589 := wq_cmp_b v46579 (H46580 r1 18)
      refine wp_of e139 c139_24 (rw_if_ge (p1 := 76) (p2 := 27) (by decide) rfl ⟨by omega, by omega⟩ (fun c46590 => ?_) (fun c46590 => ?_))
      · exact wp_return e139 c139_76 rfl ⟨rfl, w46581, f46586, rfl⟩
      · refine wp_of e139 c139_27 (rw_iload_n (pc' := 28) (z := v46579) rfl rfl ?_)
        refine wp_of e139 c139_28 (rw_sipush (pc' := 31) (z := 5000) rfl (by decide) ?_)
        refine wp_of e139 c139_31 (rw_icmp_ge (p1 := 76) (p2 := 34) (by decide) rfl ⟨by omega, by omega⟩ ⟨by omega, by omega⟩ (fun c46591 => ?_) (fun c46591 => ?_))
        · exact wp_return e139 c139_76 rfl ⟨rfl, w46581, f46586, rfl⟩
        · refine wp_of e139 c139_34 (rw_aload_n (pc' := 35) (v := .ref r2) rfl rfl rfl ?_)
          refine wp_of e139 c139_35 (xc_V (pc' := 38) (r := r2) (as := []) (st := []) (lm_6_47) rfl rfl (Nat.le_of_ble_eq_true rfl) w46581 g2 sh_6 (by decide) rfl (by decide) (s_80 w46581 g2) (fun R46592 T46593 H46594 p46595 => ?_))
          obtain ⟨e46596, e46598, z46599, e46597, b46600⟩ := p46595
          subst e46596
          subst e46597
          subst e46598
          show wp _ _ 139 38 [(3, vI v46579), (0, .ref r0), (1, .ref r1), (2, .ref r2)] [vI z46599] _ H46580 _
          refine wp_of e139 c139_38 (rw_if_ne (p1 := 65) (p2 := 41) (by decide) rfl ⟨by omega, by omega⟩ (fun c46601 => ?_) (fun c46601 => ?_))
          · refine wp_of e139 c139_65 (rw_aload_n (pc' := 66) (v := .ref r2) rfl rfl rfl ?_)
            refine wp_of e139 c139_66 (rw_aload_n (pc' := 67) (v := .ref r1) rfl rfl rfl ?_)
            refine wp_of e139 c139_67 (xc_V (pc' := 70) (r := r2) (as := [.ref r1]) (st := []) (lm_6_61) rfl rfl (Nat.le_of_ble_eq_true rfl) w46581 g2 sh_6 (by decide) rfl (by decide) (s_91 w46581 g2 g1) (fun R46602 T46603 H46604 p46605 => ?_))
            obtain ⟨e46606, w46608, f46609, e46607⟩ := p46605
            subst e46606
            subst e46607
            have f46610 := f46586.tr f46609 rfl
            have f46611 := f46582.tr f46609 rfl
            show wp _ _ 139 70 [(3, vI v46579), (0, .ref r0), (1, .ref r1), (2, .ref r2)] [] _ H46604 _
            refine wp_of e139 c139_70 (rw_iinc (pc' := 73) (z := v46579) (L' := [(3, vI (v46579 + 1)), (0, .ref r0), (1, .ref r1), (2, .ref r2)]) rfl rfl rfl rfl ?_)
            refine wp_of e139 c139_73 (rw_goto (p1 := 17) (by decide) ?_)
            have k46612 : H46604 r0 1 = H46580 r0 1 := (f46609 r0 1 _ g0 rfl)
            exact wp_lc (ks := [3, 0, 1, 2]) (wl_c rfl (wl_c rfl (wl_c rfl (wl_c rfl wl_n)))) rfl (by decide) (ih46578 _ (by omega) (v46579 + 1) H46604 w46608 f46611 ⟨by omega, by omega⟩ (by omega) rfl)
          · refine wp_of e139 c139_41 (rw_aload_n (pc' := 42) (v := .ref r0) rfl rfl rfl ?_)
            refine wp_of e139 c139_42 (xg_R (pc' := 45) lf_6_9 w46581 g0 sh_25 (by decide) (by decide) ty_25_0 rfl rfl (fun r46613 q46614 g46615 => ?_))
            refine wp_of e139 c139_45 (rw_aload_n (pc' := 46) (v := .ref r0) rfl rfl rfl ?_)
            refine wp_of e139 c139_46 (xg_I (pc' := 49) lf_6_68 w46581 g0 sh_25 (by decide) (by decide) ty_25_1 rfl rfl (fun b46616 b46617 => ?_))
            refine wp_of e139 c139_49 (rw_aload_n (pc' := 50) (v := .ref r1) rfl rfl rfl ?_)
            refine wp_of e139 c139_50 (rw_aload_n (pc' := 51) (v := .ref r2) rfl rfl rfl ?_)
            refine wp_of e139 c139_51 (xc_S (pc' := 54) (as := [.ref r1, .ref r2]) (st := [vI (H46580 r0 1), .ref r46613]) (lm_6_84) rfl rfl (Nat.le_of_ble_eq_true rfl) rfl (by decide) (s_140 w46581 g1 g2) (fun R46618 T46619 H46620 p46621 => ?_))
            obtain ⟨e46622, e46624, z46625, e46623, b46626⟩ := p46621
            subst e46622
            subst e46623
            subst e46624
            show wp _ _ 139 54 [(3, vI v46579), (0, .ref r0), (1, .ref r1), (2, .ref r2)] [vL z46625, vI (H46580 r0 1), .ref r46613] _ H46580 _
            refine wp_of e139 c139_54 (xs_L (pc' := 55) w46581 g46615 (by decide) sh_26 (by decide) (ty_26 _) (by omega) (by omega) ⟨by omega, by omega⟩ (by omega) (by omega) rfl (fun H46627 e46628 w46629 => ?_))
            have f46630 := f46586.put' e46628 g46615 rfl
            have f46631 := f46582.put' e46628 g46615 rfl
            refine wp_of e139 c139_55 (rw_aload_n (pc' := 56) (v := .ref r0) rfl rfl rfl ?_)
            refine wp_of e139 c139_56 (rw_dup (pc' := 57) rfl rfl ?_)
            have k46632 : H46627 r0 1 = H46580 r0 1 := (wq_u_t e46628 g46615 g0 rfl 1)
            refine wp_of e139 c139_57 (xg_I (pc' := 60) lf_6_68 w46629 g0 sh_25 (by decide) (by decide) ty_25_1 rfl rfl (fun b46633 b46634 => ?_))
            refine wp_of e139 c139_60 (rw_iconst (pc' := 61) rfl ?_)
            refine wp_of e139 c139_61 (rw_iadd (pc' := 62) rfl ?_)
            refine wp_of e139 c139_62 (xp_I (pc' := 65) lf_6_68 w46629 g0 sh_25 (by decide) (by decide) ty_25_1 rfl rfl (by omega) (by omega) ⟨by omega, by omega⟩ rfl (fun H46635 e46636 w46637 => ?_))
            have f46638 := f46630.put' e46636 g0 rfl
            have f46639 := f46631.put' e46636 g0 rfl
            have k46640 : H46635 r0 1 = (H46627 r0 1) + 1 := wq_u_s e46636
            refine wp_of e139 c139_65 (rw_aload_n (pc' := 66) (v := .ref r2) rfl rfl rfl ?_)
            refine wp_of e139 c139_66 (rw_aload_n (pc' := 67) (v := .ref r1) rfl rfl rfl ?_)
            refine wp_of e139 c139_67 (xc_V (pc' := 70) (r := r2) (as := [.ref r1]) (st := []) (lm_6_61) rfl rfl (Nat.le_of_ble_eq_true rfl) w46637 g2 sh_6 (by decide) rfl (by decide) (s_91 w46637 g2 g1) (fun R46641 T46642 H46643 p46644 => ?_))
            obtain ⟨e46645, w46647, f46648, e46646⟩ := p46644
            subst e46645
            subst e46646
            have f46649 := f46638.tr f46648 rfl
            have f46650 := f46639.tr f46648 rfl
            show wp _ _ 139 70 [(3, vI v46579), (0, .ref r0), (1, .ref r1), (2, .ref r2)] [] _ H46643 _
            refine wp_of e139 c139_70 (rw_iinc (pc' := 73) (z := v46579) (L' := [(3, vI (v46579 + 1)), (0, .ref r0), (1, .ref r1), (2, .ref r2)]) rfl rfl rfl rfl ?_)
            refine wp_of e139 c139_73 (rw_goto (p1 := 17) (by decide) ?_)
            have k46651 : H46643 r0 1 = H46635 r0 1 := (f46648 r0 1 _ g0 rfl)
            exact wp_lc (ks := [3, 0, 1, 2]) (wl_c rfl (wl_c rfl (wl_c rfl (wl_c rfl wl_n)))) rfl (by decide) (ih46578 _ (by omega) (v46579 + 1) H46643 w46647 f46650 ⟨by omega, by omega⟩ (by omega) rfl)
  have k46652 : H46096 r0 1 = H46084 r0 1 := ((f46101 r0 1 _ g0 rfl).trans (wq_u_j e46090 rfl))
  exact wp_lc (ks := [3, 0, 1, 2]) (wl_c rfl (wl_c rfl (wl_c rfl (wl_c rfl wl_n)))) rfl (by decide) (lp46576 _ 0 H46096 w46100 wfr.rf ⟨by omega, by omega⟩ (by omega) rfl)
/-! StrikeAwake$Grounds.isLeft(LStrikeAwake$Parish;JI)Z -/
theorem e143 : wq_en 143 = some (6, 6, false, some FieldType.boolean) := rfl
theorem c143_0 : mc_cd 143 0 = some (.lload_n 1, 1) := by decide +kernel
theorem c143_1 : mc_cd 143 1 = some (.l2i, 1) := by decide +kernel
theorem c143_2 : mc_cd 143 2 = some (.iload_n 3, 1) := by decide +kernel
theorem c143_3 : mc_cd 143 3 = some (.iand, 1) := by decide +kernel
theorem c143_4 : mc_cd 143 4 = some (.istore 4, 2) := by decide +kernel
theorem c143_6 : mc_cd 143 6 = some (.lload_n 1, 1) := by decide +kernel
theorem c143_7 : mc_cd 143 7 = some (.bipush 32, 2) := by decide +kernel
theorem c143_9 : mc_cd 143 9 = some (.lshr, 1) := by decide +kernel
theorem c143_10 : mc_cd 143 10 = some (.l2i, 1) := by decide +kernel
theorem c143_11 : mc_cd 143 11 = some (.iload_n 3, 1) := by decide +kernel
theorem c143_12 : mc_cd 143 12 = some (.iand, 1) := by decide +kernel
theorem c143_13 : mc_cd 143 13 = some (.istore 5, 2) := by decide +kernel
theorem c143_15 : mc_cd 143 15 = some (.iload 4, 2) := by decide +kernel
theorem c143_17 : mc_cd 143 17 = some (.ifCond .ne 19, 3) := by decide +kernel
theorem c143_20 : mc_cd 143 20 = some (.iload 5, 2) := by decide +kernel
theorem c143_22 : mc_cd 143 22 = some (.invokestatic 108, 3) := by decide +kernel
theorem c143_25 : mc_cd 143 25 = some (.aload_n 0, 1) := by decide +kernel
theorem c143_26 : mc_cd 143 26 = some (.getfield 113, 3) := by decide +kernel
theorem c143_29 : mc_cd 143 29 = some (.if_icmp .gt 7, 3) := by decide +kernel
theorem c143_32 : mc_cd 143 32 = some (.iconst 1, 1) := by decide +kernel
theorem c143_33 : mc_cd 143 33 = some (.goto 4, 3) := by decide +kernel
theorem c143_36 : mc_cd 143 36 = some (.iconst 0, 1) := by decide +kernel
theorem c143_37 : mc_cd 143 37 = some (.ireturn, 1) := by decide +kernel
abbrev q_143 (r0 : Nat) (a1 : Int) (a2 : Int) (T : wq_T) (H : wq_H) : Option Value → wq_T → wq_H → Prop := fun r T' H' => T = T' ∧ H = H' ∧ ∃ z : Int, some (vI z) = r ∧ (0 ≤ z ∧ z ≤ 1)
set_option maxHeartbeats 4000000 in
theorem s_143 {kt : Nat → Option mc_E} {T : wq_T} {H : wq_H} {r0 : Nat} {a1 : Int} {a2 : Int} (hW : WT T H) (g0 : T.2.2.2 r0 = some 27) (i1 : (-9223372036854775808) ≤ a1 ∧ a1 ≤ 9223372036854775807) (i2 : (-2147483648) ≤ a2 ∧ a2 ≤ 2147483647) : wpc kt 2 143 [.ref r0, vL a1, vI a2] T H (q_143 r0 a1 a2 T H) := by
  refine wp_enter e143 (Nat.le_of_ble_eq_true rfl) rfl ?_
  show wp _ _ 143 0 [(0, .ref r0), (1, vL a1), (3, vI a2)] [] _ H _
  refine wp_of e143 c143_0 (rw_lload_n (pc' := 1) (z := a1) rfl rfl ?_)
  refine wp_of e143 c143_1 (rw_l2i (pc' := 2) rfl ?_)
  obtain ⟨v46676, e46677⟩ : ∃ x : Int, x = wq_w a1 := ⟨_, rfl⟩
  rw [← e46677]
  have b46678 : -2147483648 ≤ v46676 ∧ v46676 ≤ 2147483647 := by
    rw [e46677]
    exact wI_w _
  have b46679 : (-2147483648 ≤ a1 ∧ a1 ≤ 2147483647) → v46676 = a1 := by
    rw [e46677]
    exact fun h => wq_w_id h
  refine wp_of e143 c143_2 (rw_iload_n (pc' := 3) (z := a2) rfl rfl ?_)
  refine wp_of e143 c143_3 (rw_iand (pc' := 4) rfl ?_)
  obtain ⟨v46680, e46681⟩ : ∃ x : Int, x = wq_and v46676 a2 := ⟨_, rfl⟩
  rw [← e46681]
  have b46682 : -2147483648 ≤ v46680 ∧ v46680 ≤ 2147483647 := by
    rw [e46681]
    exact wI_and _ _
  refine wp_of e143 c143_4 (rw_istore (pc' := 6) (z := v46680) (L' := [(4, vI v46680), (0, .ref r0), (1, vL a1), (3, vI a2)]) rfl rfl rfl ?_)
  refine wp_of e143 c143_6 (rw_lload_n (pc' := 7) (z := a1) rfl rfl ?_)
  refine wp_of e143 c143_7 (rw_bipush (pc' := 9) (z := 32) rfl (by decide) ?_)
  refine wp_of e143 c143_9 (rw_lshr (pc' := 10) rfl ?_)
  obtain ⟨v46683, e46684⟩ : ∃ x : Int, x = wl_shr a1 32 := ⟨_, rfl⟩
  rw [← e46684]
  have b46685 : -9223372036854775808 ≤ v46683 ∧ v46683 ≤ 9223372036854775807 := by
    rw [e46684]
    exact wL_shr _ _
  refine wp_of e143 c143_10 (rw_l2i (pc' := 11) rfl ?_)
  obtain ⟨v46686, e46687⟩ : ∃ x : Int, x = wq_w v46683 := ⟨_, rfl⟩
  rw [← e46687]
  have b46688 : -2147483648 ≤ v46686 ∧ v46686 ≤ 2147483647 := by
    rw [e46687]
    exact wI_w _
  have b46689 : (-2147483648 ≤ v46683 ∧ v46683 ≤ 2147483647) → v46686 = v46683 := by
    rw [e46687]
    exact fun h => wq_w_id h
  refine wp_of e143 c143_11 (rw_iload_n (pc' := 12) (z := a2) rfl rfl ?_)
  refine wp_of e143 c143_12 (rw_iand (pc' := 13) rfl ?_)
  obtain ⟨v46690, e46691⟩ : ∃ x : Int, x = wq_and v46686 a2 := ⟨_, rfl⟩
  rw [← e46691]
  have b46692 : -2147483648 ≤ v46690 ∧ v46690 ≤ 2147483647 := by
    rw [e46691]
    exact wI_and _ _
  refine wp_of e143 c143_13 (rw_istore (pc' := 15) (z := v46690) (L' := [(5, vI v46690), (4, vI v46680), (0, .ref r0), (1, vL a1), (3, vI a2)]) rfl rfl rfl ?_)
  refine wp_of e143 c143_15 (rw_iload (pc' := 17) (z := v46680) rfl rfl ?_)
  refine wp_of e143 c143_17 (rw_if_ne (p1 := 36) (p2 := 20) (by decide) rfl ⟨by omega, by omega⟩ (fun c46693 => ?_) (fun c46693 => ?_))
  · refine wp_of e143 c143_36 (rw_iconst (pc' := 37) rfl ?_)
    exact wp_zreturn e143 c143_37 rfl (by omega) ⟨rfl, rfl, 0, rfl, ⟨by omega, by omega⟩⟩
  · refine wp_of e143 c143_20 (rw_iload (pc' := 22) (z := v46690) rfl rfl ?_)
    refine wp_of e143 c143_22 (xc_S (pc' := 25) (as := [vI v46690]) (st := []) (lm_6_108) rfl rfl (Nat.le_of_ble_eq_true rfl) rfl (by decide) (s_126 hW ⟨by omega, by omega⟩) (fun R46694 T46695 H46696 p46697 => ?_))
    obtain ⟨e46698, e46700, z46701, e46699, b46702⟩ := p46697
    subst e46698
    subst e46699
    subst e46700
    show wp _ _ 143 25 [(5, vI v46690), (4, vI v46680), (0, .ref r0), (1, vL a1), (3, vI a2)] [vI z46701] _ H _
    refine wp_of e143 c143_25 (rw_aload_n (pc' := 26) (v := .ref r0) rfl rfl rfl ?_)
    refine wp_of e143 c143_26 (xg_I (pc' := 29) lf_6_113 hW g0 sh_27 (by decide) (by decide) ty_27_9 rfl rfl (fun b46703 b46704 => ?_))
    refine wp_of e143 c143_29 (rw_icmp_gt (p1 := 36) (p2 := 32) (by decide) rfl ⟨by omega, by omega⟩ ⟨by omega, by omega⟩ (fun c46705 => ?_) (fun c46705 => ?_))
    · refine wp_of e143 c143_36 (rw_iconst (pc' := 37) rfl ?_)
      exact wp_zreturn e143 c143_37 rfl (by omega) ⟨rfl, rfl, 0, rfl, ⟨by omega, by omega⟩⟩
    · refine wp_of e143 c143_32 (rw_iconst (pc' := 33) rfl ?_)
      refine wp_of e143 c143_33 (rw_goto (p1 := 37) (by decide) ?_)
      exact wp_zreturn e143 c143_37 rfl (by omega) ⟨rfl, rfl, 1, rfl, ⟨by omega, by omega⟩⟩
/-! StrikeAwake$Grounds.leavesNone(LStrikeAwake$Parish;I)Z -/
theorem e142 : wq_en 142 = some (6, 4, false, some FieldType.boolean) := rfl
theorem c142_0 : mc_cd 142 0 = some (.aload_n 0, 1) := by decide +kernel
theorem c142_1 : mc_cd 142 1 = some (.getfield 81, 3) := by decide +kernel
theorem c142_4 : mc_cd 142 4 = some (.aload_n 0, 1) := by decide +kernel
theorem c142_5 : mc_cd 142 5 = some (.getfield 68, 3) := by decide +kernel
theorem c142_8 : mc_cd 142 8 = some (.if_icmp .ge 22, 3) := by decide +kernel
theorem c142_11 : mc_cd 142 11 = some (.aload_n 1, 1) := by decide +kernel
theorem c142_12 : mc_cd 142 12 = some (.aload_n 0, 1) := by decide +kernel
theorem c142_13 : mc_cd 142 13 = some (.getfield 9, 3) := by decide +kernel
theorem c142_16 : mc_cd 142 16 = some (.aload_n 0, 1) := by decide +kernel
theorem c142_17 : mc_cd 142 17 = some (.getfield 81, 3) := by decide +kernel
theorem c142_20 : mc_cd 142 20 = some (.laload, 1) := by decide +kernel
theorem c142_21 : mc_cd 142 21 = some (.iload_n 2, 1) := by decide +kernel
theorem c142_22 : mc_cd 142 22 = some (.invokestatic 104, 3) := by decide +kernel
theorem c142_25 : mc_cd 142 25 = some (.ifCond .eq 5, 3) := by decide +kernel
theorem c142_28 : mc_cd 142 28 = some (.iconst 0, 1) := by decide +kernel
theorem c142_29 : mc_cd 142 29 = some (.ireturn, 1) := by decide +kernel
theorem c142_30 : mc_cd 142 30 = some (.iconst 0, 1) := by decide +kernel
theorem c142_31 : mc_cd 142 31 = some (.istore_n 3, 1) := by decide +kernel
theorem c142_32 : mc_cd 142 32 = some (.iload_n 3, 1) := by decide +kernel
theorem c142_33 : mc_cd 142 33 = some (.aload_n 0, 1) := by decide +kernel
theorem c142_34 : mc_cd 142 34 = some (.getfield 68, 3) := by decide +kernel
theorem c142_37 : mc_cd 142 37 = some (.if_icmp .ge 30, 3) := by decide +kernel
theorem c142_40 : mc_cd 142 40 = some (.aload_n 1, 1) := by decide +kernel
theorem c142_41 : mc_cd 142 41 = some (.aload_n 0, 1) := by decide +kernel
theorem c142_42 : mc_cd 142 42 = some (.getfield 9, 3) := by decide +kernel
theorem c142_45 : mc_cd 142 45 = some (.iload_n 3, 1) := by decide +kernel
theorem c142_46 : mc_cd 142 46 = some (.laload, 1) := by decide +kernel
theorem c142_47 : mc_cd 142 47 = some (.iload_n 2, 1) := by decide +kernel
theorem c142_48 : mc_cd 142 48 = some (.invokestatic 104, 3) := by decide +kernel
theorem c142_51 : mc_cd 142 51 = some (.ifCond .eq 10, 3) := by decide +kernel
theorem c142_54 : mc_cd 142 54 = some (.aload_n 0, 1) := by decide +kernel
theorem c142_55 : mc_cd 142 55 = some (.iload_n 3, 1) := by decide +kernel
theorem c142_56 : mc_cd 142 56 = some (.putfield 81, 3) := by decide +kernel
theorem c142_59 : mc_cd 142 59 = some (.iconst 0, 1) := by decide +kernel
theorem c142_60 : mc_cd 142 60 = some (.ireturn, 1) := by decide +kernel
theorem c142_61 : mc_cd 142 61 = some (.iinc 3 1, 3) := by decide +kernel
theorem c142_64 : mc_cd 142 64 = some (.goto (-32), 3) := by decide +kernel
theorem c142_67 : mc_cd 142 67 = some (.iconst 1, 1) := by decide +kernel
theorem c142_68 : mc_cd 142 68 = some (.ireturn, 1) := by decide +kernel
abbrev q_142 (r0 : Nat) (r1 : Nat) (a2 : Int) (T : wq_T) (H : wq_H) : Option Value → wq_T → wq_H → Prop := fun r T' H' => T = T' ∧ WT T H' ∧ wfr [(25, 2)] T H H' ∧ ∃ z : Int, some (vI z) = r ∧ (0 ≤ z ∧ z ≤ 1)
set_option maxHeartbeats 4000000 in
theorem s_142 {kt : Nat → Option mc_E} {T : wq_T} {H : wq_H} {r0 : Nat} {r1 : Nat} {a2 : Int} (hW : WT T H) (g0 : T.2.2.2 r0 = some 25) (g1 : T.2.2.2 r1 = some 27) (i2 : (-2147483648) ≤ a2 ∧ a2 ≤ 2147483647) : wpc kt 3 142 [.ref r0, .ref r1, vI a2] T H (q_142 r0 r1 a2 T H) := by
  refine wp_enter e142 (Nat.le_of_ble_eq_true rfl) rfl ?_
  have f0 : wfr [(25, 2)] T H H := wfr.rf
  show wp _ _ 142 0 [(0, .ref r0), (1, .ref r1), (2, vI a2)] [] _ H _
  refine wp_of e142 c142_0 (rw_aload_n (pc' := 1) (v := .ref r0) rfl rfl rfl ?_)
  refine wp_of e142 c142_1 (xg_I (pc' := 4) lf_6_81 hW g0 sh_25 (by decide) (by decide) ty_25_2 rfl rfl (fun b47069 b47070 => ?_))
  refine wp_of e142 c142_4 (rw_aload_n (pc' := 5) (v := .ref r0) rfl rfl rfl ?_)
  refine wp_of e142 c142_5 (xg_I (pc' := 8) lf_6_68 hW g0 sh_25 (by decide) (by decide) ty_25_1 rfl rfl (fun b47071 b47072 => ?_))
  refine wp_of e142 c142_8 (rw_icmp_ge (p1 := 30) (p2 := 11) (by decide) rfl ⟨by omega, by omega⟩ ⟨by omega, by omega⟩ (fun c47073 => ?_) (fun c47073 => ?_))
  · refine wp_of e142 c142_30 (rw_iconst (pc' := 31) rfl ?_)
    refine wp_of e142 c142_31 (rw_istore_n (pc' := 32) (z := 0) (L' := [(3, vI 0), (0, .ref r0), (1, .ref r1), (2, vI a2)]) rfl rfl rfl ?_)
    have lp47226 : ∀ (n47227 : Nat) (v47229 : Int), (0 ≤ v47229 ∧ v47229 ≤ 4999) → (4999 - v47229).toNat = n47227 → wp kt 2 142 32 [(3, vI v47229), (0, .ref r0), (1, .ref r1), (2, vI a2)] [] T H (q_142 r0 r1 a2 T H) := by
      intro n47227
      induction n47227 using Nat.strongRecOn with
      | _ n47227 ih47228 =>
        intro v47229 b47232 m47233
        refine wp_of e142 c142_32 (rw_iload_n (pc' := 33) (z := v47229) rfl rfl ?_)
        refine wp_of e142 c142_33 (rw_aload_n (pc' := 34) (v := .ref r0) rfl rfl rfl ?_)
        refine wp_of e142 c142_34 (xg_I (pc' := 37) lf_6_68 hW g0 sh_25 (by decide) (by decide) ty_25_1 rfl rfl (fun b47234 b47235 => ?_))
        refine wp_of e142 c142_37 (rw_icmp_ge (p1 := 67) (p2 := 40) (by decide) rfl ⟨by omega, by omega⟩ ⟨by omega, by omega⟩ (fun c47236 => ?_) (fun c47236 => ?_))
        · refine wp_of e142 c142_67 (rw_iconst (pc' := 68) rfl ?_)
          exact wp_zreturn e142 c142_68 rfl (by omega) ⟨rfl, hW, f0, 1, rfl, ⟨by omega, by omega⟩⟩
        · refine wp_of e142 c142_40 (rw_aload_n (pc' := 41) (v := .ref r1) rfl rfl rfl ?_)
          refine wp_of e142 c142_41 (rw_aload_n (pc' := 42) (v := .ref r0) rfl rfl rfl ?_)
          refine wp_of e142 c142_42 (xg_R (pc' := 45) lf_6_9 hW g0 sh_25 (by decide) (by decide) ty_25_0 rfl rfl (fun r47237 q47238 g47239 => ?_))
          refine wp_of e142 c142_45 (rw_iload_n (pc' := 46) (z := v47229) rfl rfl ?_)
          refine wp_of e142 c142_46 (xa_L (pc' := 47) hW g47239 sh_26 (by decide) (ty_26 _) (by omega) (by omega) rfl (fun b47240 b47241 => ?_))
          refine wp_of e142 c142_47 (rw_iload_n (pc' := 48) (z := a2) rfl rfl ?_)
          refine wp_of e142 c142_48 (xc_S (pc' := 51) (as := [.ref r1, vL (H r47237 (v47229.toNat)), vI a2]) (st := []) (lm_6_104) rfl rfl (Nat.le_of_ble_eq_true rfl) rfl (by decide) (s_143 hW g1 ⟨by omega, by omega⟩ ⟨by omega, by omega⟩) (fun R47242 T47243 H47244 p47245 => ?_))
          obtain ⟨e47246, e47248, z47249, e47247, b47250⟩ := p47245
          subst e47246
          subst e47247
          subst e47248
          show wp _ _ 142 51 [(3, vI v47229), (0, .ref r0), (1, .ref r1), (2, vI a2)] [vI z47249] _ H _
          refine wp_of e142 c142_51 (rw_if_eq (p1 := 61) (p2 := 54) (by decide) rfl ⟨by omega, by omega⟩ (fun c47251 => ?_) (fun c47251 => ?_))
          · refine wp_of e142 c142_61 (rw_iinc (pc' := 64) (z := v47229) (L' := [(3, vI (v47229 + 1)), (0, .ref r0), (1, .ref r1), (2, vI a2)]) rfl rfl rfl rfl ?_)
            refine wp_of e142 c142_64 (rw_goto (p1 := 32) (by decide) ?_)
            exact wp_lc (ks := [3, 0, 1, 2]) (wl_c rfl (wl_c rfl (wl_c rfl (wl_c rfl wl_n)))) rfl (by decide) (ih47228 _ (by omega) (v47229 + 1) ⟨by omega, by omega⟩ rfl)
          · refine wp_of e142 c142_54 (rw_aload_n (pc' := 55) (v := .ref r0) rfl rfl rfl ?_)
            refine wp_of e142 c142_55 (rw_iload_n (pc' := 56) (z := v47229) rfl rfl ?_)
            refine wp_of e142 c142_56 (xp_I (pc' := 59) lf_6_81 hW g0 sh_25 (by decide) (by decide) ty_25_2 rfl rfl (by omega) (by omega) ⟨by omega, by omega⟩ rfl (fun H47252 e47253 w47254 => ?_))
            have f47255 := f0.put' e47253 g0 rfl
            have k47256 : H47252 r0 2 = v47229 := wq_u_s e47253
            refine wp_of e142 c142_59 (rw_iconst (pc' := 60) rfl ?_)
            exact wp_zreturn e142 c142_60 rfl (by omega) ⟨rfl, w47254, f47255, 0, rfl, ⟨by omega, by omega⟩⟩
    exact wp_lc (ks := [3, 0, 1, 2]) (wl_c rfl (wl_c rfl (wl_c rfl (wl_c rfl wl_n)))) rfl (by decide) (lp47226 _ 0 ⟨by omega, by omega⟩ rfl)
  · refine wp_of e142 c142_11 (rw_aload_n (pc' := 12) (v := .ref r1) rfl rfl rfl ?_)
    refine wp_of e142 c142_12 (rw_aload_n (pc' := 13) (v := .ref r0) rfl rfl rfl ?_)
    refine wp_of e142 c142_13 (xg_R (pc' := 16) lf_6_9 hW g0 sh_25 (by decide) (by decide) ty_25_0 rfl rfl (fun r47257 q47258 g47259 => ?_))
    refine wp_of e142 c142_16 (rw_aload_n (pc' := 17) (v := .ref r0) rfl rfl rfl ?_)
    refine wp_of e142 c142_17 (xg_I (pc' := 20) lf_6_81 hW g0 sh_25 (by decide) (by decide) ty_25_2 rfl rfl (fun b47260 b47261 => ?_))
    refine wp_of e142 c142_20 (xa_L (pc' := 21) hW g47259 sh_26 (by decide) (ty_26 _) (by omega) (by omega) rfl (fun b47262 b47263 => ?_))
    refine wp_of e142 c142_21 (rw_iload_n (pc' := 22) (z := a2) rfl rfl ?_)
    refine wp_of e142 c142_22 (xc_S (pc' := 25) (as := [.ref r1, vL (H r47257 ((H r0 2).toNat)), vI a2]) (st := []) (lm_6_104) rfl rfl (Nat.le_of_ble_eq_true rfl) rfl (by decide) (s_143 hW g1 ⟨by omega, by omega⟩ ⟨by omega, by omega⟩) (fun R47264 T47265 H47266 p47267 => ?_))
    obtain ⟨e47268, e47270, z47271, e47269, b47272⟩ := p47267
    subst e47268
    subst e47269
    subst e47270
    show wp _ _ 142 25 [(0, .ref r0), (1, .ref r1), (2, vI a2)] [vI z47271] _ H _
    refine wp_of e142 c142_25 (rw_if_eq (p1 := 30) (p2 := 28) (by decide) rfl ⟨by omega, by omega⟩ (fun c47273 => ?_) (fun c47273 => ?_))
    · refine wp_of e142 c142_30 (rw_iconst (pc' := 31) rfl ?_)
      refine wp_of e142 c142_31 (rw_istore_n (pc' := 32) (z := 0) (L' := [(3, vI 0), (0, .ref r0), (1, .ref r1), (2, vI a2)]) rfl rfl rfl ?_)
      have lp47418 : ∀ (n47419 : Nat) (v47421 : Int), (0 ≤ v47421 ∧ v47421 ≤ 5000) → (5000 - v47421).toNat = n47419 → wp kt 2 142 32 [(3, vI v47421), (0, .ref r0), (1, .ref r1), (2, vI a2)] [] T H (q_142 r0 r1 a2 T H) := by
        intro n47419
        induction n47419 using Nat.strongRecOn with
        | _ n47419 ih47420 =>
          intro v47421 b47424 m47425
          refine wp_of e142 c142_32 (rw_iload_n (pc' := 33) (z := v47421) rfl rfl ?_)
          refine wp_of e142 c142_33 (rw_aload_n (pc' := 34) (v := .ref r0) rfl rfl rfl ?_)
          refine wp_of e142 c142_34 (xg_I (pc' := 37) lf_6_68 hW g0 sh_25 (by decide) (by decide) ty_25_1 rfl rfl (fun b47426 b47427 => ?_))
          refine wp_of e142 c142_37 (rw_icmp_ge (p1 := 67) (p2 := 40) (by decide) rfl ⟨by omega, by omega⟩ ⟨by omega, by omega⟩ (fun c47428 => ?_) (fun c47428 => ?_))
          · refine wp_of e142 c142_67 (rw_iconst (pc' := 68) rfl ?_)
            exact wp_zreturn e142 c142_68 rfl (by omega) ⟨rfl, hW, f0, 1, rfl, ⟨by omega, by omega⟩⟩
          · refine wp_of e142 c142_40 (rw_aload_n (pc' := 41) (v := .ref r1) rfl rfl rfl ?_)
            refine wp_of e142 c142_41 (rw_aload_n (pc' := 42) (v := .ref r0) rfl rfl rfl ?_)
            refine wp_of e142 c142_42 (xg_K (pc' := 45) lf_6_9 hW g0 sh_25 (by decide) (by decide) rfl q47258 rfl ?_)
            refine wp_of e142 c142_45 (rw_iload_n (pc' := 46) (z := v47421) rfl rfl ?_)
            refine wp_of e142 c142_46 (xa_L (pc' := 47) hW g47259 sh_26 (by decide) (ty_26 _) (by omega) (by omega) rfl (fun b47429 b47430 => ?_))
            refine wp_of e142 c142_47 (rw_iload_n (pc' := 48) (z := a2) rfl rfl ?_)
            refine wp_of e142 c142_48 (xc_S (pc' := 51) (as := [.ref r1, vL (H r47257 (v47421.toNat)), vI a2]) (st := []) (lm_6_104) rfl rfl (Nat.le_of_ble_eq_true rfl) rfl (by decide) (s_143 hW g1 ⟨by omega, by omega⟩ ⟨by omega, by omega⟩) (fun R47431 T47432 H47433 p47434 => ?_))
            obtain ⟨e47435, e47437, z47438, e47436, b47439⟩ := p47434
            subst e47435
            subst e47436
            subst e47437
            show wp _ _ 142 51 [(3, vI v47421), (0, .ref r0), (1, .ref r1), (2, vI a2)] [vI z47438] _ H _
            refine wp_of e142 c142_51 (rw_if_eq (p1 := 61) (p2 := 54) (by decide) rfl ⟨by omega, by omega⟩ (fun c47440 => ?_) (fun c47440 => ?_))
            · refine wp_of e142 c142_61 (rw_iinc (pc' := 64) (z := v47421) (L' := [(3, vI (v47421 + 1)), (0, .ref r0), (1, .ref r1), (2, vI a2)]) rfl rfl rfl rfl ?_)
              refine wp_of e142 c142_64 (rw_goto (p1 := 32) (by decide) ?_)
              exact wp_lc (ks := [3, 0, 1, 2]) (wl_c rfl (wl_c rfl (wl_c rfl (wl_c rfl wl_n)))) rfl (by decide) (ih47420 _ (by omega) (v47421 + 1) ⟨by omega, by omega⟩ rfl)
            · refine wp_of e142 c142_54 (rw_aload_n (pc' := 55) (v := .ref r0) rfl rfl rfl ?_)
              refine wp_of e142 c142_55 (rw_iload_n (pc' := 56) (z := v47421) rfl rfl ?_)
              refine wp_of e142 c142_56 (xp_I (pc' := 59) lf_6_81 hW g0 sh_25 (by decide) (by decide) ty_25_2 rfl rfl (by omega) (by omega) ⟨by omega, by omega⟩ rfl (fun H47441 e47442 w47443 => ?_))
              have f47444 := f0.put' e47442 g0 rfl
              have k47445 : H47441 r0 2 = v47421 := wq_u_s e47442
              refine wp_of e142 c142_59 (rw_iconst (pc' := 60) rfl ?_)
              exact wp_zreturn e142 c142_60 rfl (by omega) ⟨rfl, w47443, f47444, 0, rfl, ⟨by omega, by omega⟩⟩
      exact wp_lc (ks := [3, 0, 1, 2]) (wl_c rfl (wl_c rfl (wl_c rfl (wl_c rfl wl_n)))) rfl (by decide) (lp47418 _ 0 ⟨by omega, by omega⟩ rfl)
    · refine wp_of e142 c142_28 (rw_iconst (pc' := 29) rfl ?_)
      exact wp_zreturn e142 c142_29 rfl (by omega) ⟨rfl, hW, f0, 0, rfl, ⟨by omega, by omega⟩⟩
/-! StrikeAwake$Grounds.oneHour(LStrikeAwake$Parish;)I -/
theorem e141 : wq_en 141 = some (6, 4, false, some FieldType.int) := rfl
theorem c141_0 : mc_cd 141 0 = some (.iconst 0, 1) := by decide +kernel
theorem c141_1 : mc_cd 141 1 = some (.istore_n 2, 1) := by decide +kernel
theorem c141_2 : mc_cd 141 2 = some (.iload_n 2, 1) := by decide +kernel
theorem c141_3 : mc_cd 141 3 = some (.aload_n 1, 1) := by decide +kernel
theorem c141_4 : mc_cd 141 4 = some (.getfield 88, 3) := by decide +kernel
theorem c141_7 : mc_cd 141 7 = some (.if_icmp .ge 29, 3) := by decide +kernel
theorem c141_10 : mc_cd 141 10 = some (.iconst 1, 1) := by decide +kernel
theorem c141_11 : mc_cd 141 11 = some (.aload_n 1, 1) := by decide +kernel
theorem c141_12 : mc_cd 141 12 = some (.getfield 91, 3) := by decide +kernel
theorem c141_15 : mc_cd 141 15 = some (.iload_n 2, 1) := by decide +kernel
theorem c141_16 : mc_cd 141 16 = some (.iaload, 1) := by decide +kernel
theorem c141_17 : mc_cd 141 17 = some (.ishl, 1) := by decide +kernel
theorem c141_18 : mc_cd 141 18 = some (.istore_n 3, 1) := by decide +kernel
theorem c141_19 : mc_cd 141 19 = some (.aload_n 0, 1) := by decide +kernel
theorem c141_20 : mc_cd 141 20 = some (.aload_n 1, 1) := by decide +kernel
theorem c141_21 : mc_cd 141 21 = some (.iload_n 3, 1) := by decide +kernel
theorem c141_22 : mc_cd 141 22 = some (.invokevirtual 100, 3) := by decide +kernel
theorem c141_25 : mc_cd 141 25 = some (.ifCond .eq 5, 3) := by decide +kernel
theorem c141_28 : mc_cd 141 28 = some (.iload_n 3, 1) := by decide +kernel
theorem c141_29 : mc_cd 141 29 = some (.ireturn, 1) := by decide +kernel
theorem c141_30 : mc_cd 141 30 = some (.iinc 2 1, 3) := by decide +kernel
theorem c141_33 : mc_cd 141 33 = some (.goto (-31), 3) := by decide +kernel
theorem c141_36 : mc_cd 141 36 = some (.bipush (-2), 2) := by decide +kernel
theorem c141_38 : mc_cd 141 38 = some (.ireturn, 1) := by decide +kernel
abbrev q_141 (r0 : Nat) (r1 : Nat) (T : wq_T) (H : wq_H) : Option Value → wq_T → wq_H → Prop := fun r T' H' => T = T' ∧ WT T H' ∧ wfr [(25, 2)] T H H' ∧ ∃ z : Int, some (vI z) = r ∧ ((-2147483648) ≤ z ∧ z ≤ 2147483647)
set_option maxHeartbeats 4000000 in
theorem s_141 {kt : Nat → Option mc_E} {T : wq_T} {H : wq_H} {r0 : Nat} {r1 : Nat} (hW : WT T H) (g0 : T.2.2.2 r0 = some 25) (g1 : T.2.2.2 r1 = some 27) : wpc kt 4 141 [.ref r0, .ref r1] T H (q_141 r0 r1 T H) := by
  refine wp_enter e141 (Nat.le_of_ble_eq_true rfl) rfl ?_
  have f0 : wfr [(25, 2)] T H H := wfr.rf
  show wp _ _ 141 0 [(0, .ref r0), (1, .ref r1)] [] _ H _
  refine wp_of e141 c141_0 (rw_iconst (pc' := 1) rfl ?_)
  refine wp_of e141 c141_1 (rw_istore_n (pc' := 2) (z := 0) (L' := [(2, vI 0), (0, .ref r0), (1, .ref r1)]) rfl rfl rfl ?_)
  have lp47821 : ∀ (n47822 : Nat) (v47824 : Int) (H47825 : wq_H), WT T H47825 → wfr [(25, 2)] T H H47825 → (0 ≤ v47824 ∧ v47824 ≤ 24) → (24 - v47824).toNat = n47822 → wp kt 3 141 2 [(2, vI v47824), (0, .ref r0), (1, .ref r1)] [] T H47825 (q_141 r0 r1 T H) := by
    intro n47822
    induction n47822 using Nat.strongRecOn with
    | _ n47822 ih47823 =>
      intro v47824 H47825 w47826 f47827 b47828 m47829
      have f47830 := f0.tr f47827 rfl
      refine wp_of e141 c141_2 (rw_iload_n (pc' := 3) (z := v47824) rfl rfl ?_)
      refine wp_of e141 c141_3 (rw_aload_n (pc' := 4) (v := .ref r1) rfl rfl rfl ?_)
      refine wp_of e141 c141_4 (xg_I (pc' := 7) lf_6_88 w47826 g1 sh_27 (by decide) (by decide) ty_27_16 rfl rfl (fun b47831 b47832 => ?_))
      refine wp_of e141 c141_7 (rw_icmp_ge (p1 := 36) (p2 := 10) (by decide) rfl ⟨by omega, by omega⟩ ⟨by omega, by omega⟩ (fun c47833 => ?_) (fun c47833 => ?_))
      · refine wp_of e141 c141_36 (rw_bipush (pc' := 38) (z := -2) rfl (by decide) ?_)
        exact wp_ireturn e141 c141_38 rfl ⟨rfl, w47826, f47830, -2, rfl, ⟨by omega, by omega⟩⟩
      · refine wp_of e141 c141_10 (rw_iconst (pc' := 11) rfl ?_)
        refine wp_of e141 c141_11 (rw_aload_n (pc' := 12) (v := .ref r1) rfl rfl rfl ?_)
        refine wp_of e141 c141_12 (xg_R (pc' := 15) lf_6_91 w47826 g1 sh_27 (by decide) (by decide) ty_27_2 rfl rfl (fun r47834 q47835 g47836 => ?_))
        refine wp_of e141 c141_15 (rw_iload_n (pc' := 16) (z := v47824) rfl rfl ?_)
        refine wp_of e141 c141_16 (xa_I (so := 0) (pc' := 17) w47826 g47836 sh_30 (by decide) (ty_30 _) (by omega) (by omega) rfl (fun b47837 b47838 => ?_))
        refine wp_of e141 c141_17 (rw_ishl (pc' := 18) rfl ?_)
        obtain ⟨v47839, e47840⟩ : ∃ x : Int, x = wq_shl 1 (H47825 r47834 (v47824.toNat)) := ⟨_, rfl⟩
        rw [← e47840]
        have b47841 : -2147483648 ≤ v47839 ∧ v47839 ≤ 2147483647 := by
          rw [e47840]
          exact wI_shl _ _
        refine wp_of e141 c141_18 (rw_istore_n (pc' := 19) (z := v47839) (L' := [(3, vI v47839), (2, vI v47824), (0, .ref r0), (1, .ref r1)]) rfl rfl rfl ?_)
        refine wp_of e141 c141_19 (rw_aload_n (pc' := 20) (v := .ref r0) rfl rfl rfl ?_)
        refine wp_of e141 c141_20 (rw_aload_n (pc' := 21) (v := .ref r1) rfl rfl rfl ?_)
        refine wp_of e141 c141_21 (rw_iload_n (pc' := 22) (z := v47839) rfl rfl ?_)
        refine wp_of e141 c141_22 (xc_V (pc' := 25) (r := r0) (as := [.ref r1, vI v47839]) (st := []) (lm_6_100) rfl rfl (Nat.le_of_ble_eq_true rfl) w47826 g0 sh_25 (by decide) rfl (by decide) (s_142 w47826 g0 g1 ⟨by omega, by omega⟩) (fun R47842 T47843 H47844 p47845 => ?_))
        obtain ⟨e47846, w47848, f47849, z47850, e47847, b47851⟩ := p47845
        subst e47846
        subst e47847
        have f47852 := f47830.tr f47849 rfl
        have f47853 := f47827.tr f47849 rfl
        show wp _ _ 141 25 [(3, vI v47839), (2, vI v47824), (0, .ref r0), (1, .ref r1)] [vI z47850] _ H47844 _
        refine wp_of e141 c141_25 (rw_if_eq (p1 := 30) (p2 := 28) (by decide) rfl ⟨by omega, by omega⟩ (fun c47854 => ?_) (fun c47854 => ?_))
        · refine wp_of e141 c141_30 (rw_iinc (pc' := 33) (z := v47824) (L' := [(2, vI (v47824 + 1)), (3, vI v47839), (0, .ref r0), (1, .ref r1)]) rfl rfl rfl rfl ?_)
          refine wp_of e141 c141_33 (rw_goto (p1 := 2) (by decide) ?_)
          exact wp_lc (ks := [2, 3, 0, 1]) (wl_c rfl (wl_c rfl (wl_c rfl wl_n))) rfl (by decide) (ih47823 _ (by omega) (v47824 + 1) H47844 w47848 f47853 ⟨by omega, by omega⟩ rfl)
        · refine wp_of e141 c141_28 (rw_iload_n (pc' := 29) (z := v47839) rfl rfl ?_)
          exact wp_ireturn e141 c141_29 rfl ⟨rfl, w47848, f47852, v47839, rfl, ⟨by omega, by omega⟩⟩
  exact wp_lc (ks := [2, 0, 1]) (wl_c rfl (wl_c rfl (wl_c rfl wl_n))) rfl (by decide) (lp47821 _ 0 H hW wfr.rf ⟨by omega, by omega⟩ rfl)
/-! StrikeAwake$Grounds.twoHours(LStrikeAwake$Parish;)I -/
theorem e144 : wq_en 144 = some (6, 5, false, some FieldType.int) := rfl
theorem c144_0 : mc_cd 144 0 = some (.iconst 1, 1) := by decide +kernel
theorem c144_1 : mc_cd 144 1 = some (.istore_n 2, 1) := by decide +kernel
theorem c144_2 : mc_cd 144 2 = some (.iload_n 2, 1) := by decide +kernel
theorem c144_3 : mc_cd 144 3 = some (.aload_n 1, 1) := by decide +kernel
theorem c144_4 : mc_cd 144 4 = some (.getfield 88, 3) := by decide +kernel
theorem c144_7 : mc_cd 144 7 = some (.if_icmp .ge 54, 3) := by decide +kernel
theorem c144_10 : mc_cd 144 10 = some (.iconst 0, 1) := by decide +kernel
theorem c144_11 : mc_cd 144 11 = some (.istore_n 3, 1) := by decide +kernel
theorem c144_12 : mc_cd 144 12 = some (.iload_n 3, 1) := by decide +kernel
theorem c144_13 : mc_cd 144 13 = some (.iload_n 2, 1) := by decide +kernel
theorem c144_14 : mc_cd 144 14 = some (.if_icmp .ge 41, 3) := by decide +kernel
theorem c144_17 : mc_cd 144 17 = some (.iconst 1, 1) := by decide +kernel
theorem c144_18 : mc_cd 144 18 = some (.aload_n 1, 1) := by decide +kernel
theorem c144_19 : mc_cd 144 19 = some (.getfield 91, 3) := by decide +kernel
theorem c144_22 : mc_cd 144 22 = some (.iload_n 2, 1) := by decide +kernel
theorem c144_23 : mc_cd 144 23 = some (.iaload, 1) := by decide +kernel
theorem c144_24 : mc_cd 144 24 = some (.ishl, 1) := by decide +kernel
theorem c144_25 : mc_cd 144 25 = some (.iconst 1, 1) := by decide +kernel
theorem c144_26 : mc_cd 144 26 = some (.aload_n 1, 1) := by decide +kernel
theorem c144_27 : mc_cd 144 27 = some (.getfield 91, 3) := by decide +kernel
theorem c144_30 : mc_cd 144 30 = some (.iload_n 3, 1) := by decide +kernel
theorem c144_31 : mc_cd 144 31 = some (.iaload, 1) := by decide +kernel
theorem c144_32 : mc_cd 144 32 = some (.ishl, 1) := by decide +kernel
theorem c144_33 : mc_cd 144 33 = some (.ior, 1) := by decide +kernel
theorem c144_34 : mc_cd 144 34 = some (.istore 4, 2) := by decide +kernel
theorem c144_36 : mc_cd 144 36 = some (.aload_n 0, 1) := by decide +kernel
theorem c144_37 : mc_cd 144 37 = some (.aload_n 1, 1) := by decide +kernel
theorem c144_38 : mc_cd 144 38 = some (.iload 4, 2) := by decide +kernel
theorem c144_40 : mc_cd 144 40 = some (.invokevirtual 100, 3) := by decide +kernel
theorem c144_43 : mc_cd 144 43 = some (.ifCond .eq 6, 3) := by decide +kernel
theorem c144_46 : mc_cd 144 46 = some (.iload 4, 2) := by decide +kernel
theorem c144_48 : mc_cd 144 48 = some (.ireturn, 1) := by decide +kernel
theorem c144_49 : mc_cd 144 49 = some (.iinc 3 1, 3) := by decide +kernel
theorem c144_52 : mc_cd 144 52 = some (.goto (-40), 3) := by decide +kernel
theorem c144_55 : mc_cd 144 55 = some (.iinc 2 1, 3) := by decide +kernel
theorem c144_58 : mc_cd 144 58 = some (.goto (-56), 3) := by decide +kernel
theorem c144_61 : mc_cd 144 61 = some (.bipush (-2), 2) := by decide +kernel
theorem c144_63 : mc_cd 144 63 = some (.ireturn, 1) := by decide +kernel
abbrev q_144 (r0 : Nat) (r1 : Nat) (T : wq_T) (H : wq_H) : Option Value → wq_T → wq_H → Prop := fun r T' H' => T = T' ∧ WT T H' ∧ wfr [(25, 2)] T H H' ∧ ∃ z : Int, some (vI z) = r ∧ ((-2147483648) ≤ z ∧ z ≤ 2147483647)
set_option maxHeartbeats 4000000 in
theorem s_144 {kt : Nat → Option mc_E} {T : wq_T} {H : wq_H} {r0 : Nat} {r1 : Nat} (hW : WT T H) (g0 : T.2.2.2 r0 = some 25) (g1 : T.2.2.2 r1 = some 27) : wpc kt 4 144 [.ref r0, .ref r1] T H (q_144 r0 r1 T H) := by
  refine wp_enter e144 (Nat.le_of_ble_eq_true rfl) rfl ?_
  have f0 : wfr [(25, 2)] T H H := wfr.rf
  show wp _ _ 144 0 [(0, .ref r0), (1, .ref r1)] [] _ H _
  refine wp_of e144 c144_0 (rw_iconst (pc' := 1) rfl ?_)
  refine wp_of e144 c144_1 (rw_istore_n (pc' := 2) (z := 1) (L' := [(2, vI 1), (0, .ref r0), (1, .ref r1)]) rfl rfl rfl ?_)
  have lp50810 : ∀ (n50811 : Nat) (v50813 : Int) (H50814 : wq_H), WT T H50814 → wfr [(25, 2)] T H H50814 → (1 ≤ v50813 ∧ v50813 ≤ 24) → (24 - v50813).toNat = n50811 → wp kt 3 144 2 [(2, vI v50813), (0, .ref r0), (1, .ref r1)] [] T H50814 (q_144 r0 r1 T H) := by
    intro n50811
    induction n50811 using Nat.strongRecOn with
    | _ n50811 ih50812 =>
      intro v50813 H50814 w50815 f50816 b50817 m50818
      have f50819 := f0.tr f50816 rfl
      refine wp_of e144 c144_2 (rw_iload_n (pc' := 3) (z := v50813) rfl rfl ?_)
      refine wp_of e144 c144_3 (rw_aload_n (pc' := 4) (v := .ref r1) rfl rfl rfl ?_)
      refine wp_of e144 c144_4 (xg_I (pc' := 7) lf_6_88 w50815 g1 sh_27 (by decide) (by decide) ty_27_16 rfl rfl (fun b50820 b50821 => ?_))
      refine wp_of e144 c144_7 (rw_icmp_ge (p1 := 61) (p2 := 10) (by decide) rfl ⟨by omega, by omega⟩ ⟨by omega, by omega⟩ (fun c50822 => ?_) (fun c50822 => ?_))
      · refine wp_of e144 c144_61 (rw_bipush (pc' := 63) (z := -2) rfl (by decide) ?_)
        exact wp_ireturn e144 c144_63 rfl ⟨rfl, w50815, f50819, -2, rfl, ⟨by omega, by omega⟩⟩
      · refine wp_of e144 c144_10 (rw_iconst (pc' := 11) rfl ?_)
        refine wp_of e144 c144_11 (rw_istore_n (pc' := 12) (z := 0) (L' := [(3, vI 0), (2, vI v50813), (0, .ref r0), (1, .ref r1)]) rfl rfl rfl ?_)
        have lp51039 : ∀ (n51040 : Nat) (v51042 : Int) (H51043 : wq_H), WT T H51043 → wfr [(25, 2)] T H50814 H51043 → (0 ≤ v51042 ∧ v51042 ≤ 23) → (23 - v51042).toNat = n51040 → wp kt 3 144 12 [(3, vI v51042), (2, vI v50813), (0, .ref r0), (1, .ref r1)] [] T H51043 (q_144 r0 r1 T H) := by
          intro n51040
          induction n51040 using Nat.strongRecOn with
          | _ n51040 ih51041 =>
            intro v51042 H51043 w51044 f51045 b51046 m51047
            have f51048 := f50819.tr f51045 rfl
            have f51049 := f50816.tr f51045 rfl
            refine wp_of e144 c144_12 (rw_iload_n (pc' := 13) (z := v51042) rfl rfl ?_)
            refine wp_of e144 c144_13 (rw_iload_n (pc' := 14) (z := v50813) rfl rfl ?_)
            refine wp_of e144 c144_14 (rw_icmp_ge (p1 := 55) (p2 := 17) (by decide) rfl ⟨by omega, by omega⟩ ⟨by omega, by omega⟩ (fun c51050 => ?_) (fun c51050 => ?_))
            · refine wp_of e144 c144_55 (rw_iinc (pc' := 58) (z := v50813) (L' := [(2, vI (v50813 + 1)), (3, vI v51042), (0, .ref r0), (1, .ref r1)]) rfl rfl rfl rfl ?_)
              refine wp_of e144 c144_58 (rw_goto (p1 := 2) (by decide) ?_)
              exact wp_lc (ks := [2, 3, 0, 1]) (wl_c rfl (wl_c rfl (wl_c rfl wl_n))) rfl (by decide) (ih50812 _ (by omega) (v50813 + 1) H51043 w51044 f51049 ⟨by omega, by omega⟩ rfl)
            · refine wp_of e144 c144_17 (rw_iconst (pc' := 18) rfl ?_)
              refine wp_of e144 c144_18 (rw_aload_n (pc' := 19) (v := .ref r1) rfl rfl rfl ?_)
              refine wp_of e144 c144_19 (xg_R (pc' := 22) lf_6_91 w51044 g1 sh_27 (by decide) (by decide) ty_27_2 rfl rfl (fun r51051 q51052 g51053 => ?_))
              refine wp_of e144 c144_22 (rw_iload_n (pc' := 23) (z := v50813) rfl rfl ?_)
              refine wp_of e144 c144_23 (xa_I (so := 0) (pc' := 24) w51044 g51053 sh_30 (by decide) (ty_30 _) (by omega) (by omega) rfl (fun b51054 b51055 => ?_))
              refine wp_of e144 c144_24 (rw_ishl (pc' := 25) rfl ?_)
              obtain ⟨v51056, e51057⟩ : ∃ x : Int, x = wq_shl 1 (H51043 r51051 (v50813.toNat)) := ⟨_, rfl⟩
              rw [← e51057]
              have b51058 : -2147483648 ≤ v51056 ∧ v51056 ≤ 2147483647 := by
                rw [e51057]
                exact wI_shl _ _
              refine wp_of e144 c144_25 (rw_iconst (pc' := 26) rfl ?_)
              refine wp_of e144 c144_26 (rw_aload_n (pc' := 27) (v := .ref r1) rfl rfl rfl ?_)
              refine wp_of e144 c144_27 (xg_K (pc' := 30) lf_6_91 w51044 g1 sh_27 (by decide) (by decide) rfl q51052 rfl ?_)
              refine wp_of e144 c144_30 (rw_iload_n (pc' := 31) (z := v51042) rfl rfl ?_)
              refine wp_of e144 c144_31 (xa_I (so := 0) (pc' := 32) w51044 g51053 sh_30 (by decide) (ty_30 _) (by omega) (by omega) rfl (fun b51059 b51060 => ?_))
              refine wp_of e144 c144_32 (rw_ishl (pc' := 33) rfl ?_)
              obtain ⟨v51061, e51062⟩ : ∃ x : Int, x = wq_shl 1 (H51043 r51051 (v51042.toNat)) := ⟨_, rfl⟩
              rw [← e51062]
              have b51063 : -2147483648 ≤ v51061 ∧ v51061 ≤ 2147483647 := by
                rw [e51062]
                exact wI_shl _ _
              refine wp_of e144 c144_33 (rw_ior (pc' := 34) rfl ?_)
              obtain ⟨v51064, e51065⟩ : ∃ x : Int, x = wq_or v51056 v51061 := ⟨_, rfl⟩
              rw [← e51065]
              have b51066 : -2147483648 ≤ v51064 ∧ v51064 ≤ 2147483647 := by
                rw [e51065]
                exact wI_or _ _
              refine wp_of e144 c144_34 (rw_istore (pc' := 36) (z := v51064) (L' := [(4, vI v51064), (3, vI v51042), (2, vI v50813), (0, .ref r0), (1, .ref r1)]) rfl rfl rfl ?_)
              refine wp_of e144 c144_36 (rw_aload_n (pc' := 37) (v := .ref r0) rfl rfl rfl ?_)
              refine wp_of e144 c144_37 (rw_aload_n (pc' := 38) (v := .ref r1) rfl rfl rfl ?_)
              refine wp_of e144 c144_38 (rw_iload (pc' := 40) (z := v51064) rfl rfl ?_)
              refine wp_of e144 c144_40 (xc_V (pc' := 43) (r := r0) (as := [.ref r1, vI v51064]) (st := []) (lm_6_100) rfl rfl (Nat.le_of_ble_eq_true rfl) w51044 g0 sh_25 (by decide) rfl (by decide) (s_142 w51044 g0 g1 ⟨by omega, by omega⟩) (fun R51067 T51068 H51069 p51070 => ?_))
              obtain ⟨e51071, w51073, f51074, z51075, e51072, b51076⟩ := p51070
              subst e51071
              subst e51072
              have f51077 := f51048.tr f51074 rfl
              have f51078 := f51049.tr f51074 rfl
              have f51079 := f51045.tr f51074 rfl
              show wp _ _ 144 43 [(4, vI v51064), (3, vI v51042), (2, vI v50813), (0, .ref r0), (1, .ref r1)] [vI z51075] _ H51069 _
              refine wp_of e144 c144_43 (rw_if_eq (p1 := 49) (p2 := 46) (by decide) rfl ⟨by omega, by omega⟩ (fun c51080 => ?_) (fun c51080 => ?_))
              · refine wp_of e144 c144_49 (rw_iinc (pc' := 52) (z := v51042) (L' := [(3, vI (v51042 + 1)), (4, vI v51064), (2, vI v50813), (0, .ref r0), (1, .ref r1)]) rfl rfl rfl rfl ?_)
                refine wp_of e144 c144_52 (rw_goto (p1 := 12) (by decide) ?_)
                exact wp_lc (ks := [3, 4, 2, 0, 1]) (wl_c rfl (wl_c rfl (wl_c rfl (wl_c rfl wl_n)))) rfl (by decide) (ih51041 _ (by omega) (v51042 + 1) H51069 w51073 f51079 ⟨by omega, by omega⟩ rfl)
              · refine wp_of e144 c144_46 (rw_iload (pc' := 48) (z := v51064) rfl rfl ?_)
                exact wp_ireturn e144 c144_48 rfl ⟨rfl, w51073, f51077, v51064, rfl, ⟨by omega, by omega⟩⟩
        exact wp_lc (ks := [3, 2, 0, 1]) (wl_c rfl (wl_c rfl (wl_c rfl (wl_c rfl wl_n)))) rfl (by decide) (lp51039 _ 0 H50814 w50815 wfr.rf ⟨by omega, by omega⟩ rfl)
  exact wp_lc (ks := [2, 0, 1]) (wl_c rfl (wl_c rfl (wl_c rfl wl_n))) rfl (by decide) (lp50810 _ 1 H hW wfr.rf ⟨by omega, by omega⟩ rfl)
/-! StrikeAwake$Grounds.threeHours(LStrikeAwake$Parish;)I -/
theorem e145 : wq_en 145 = some (6, 7, false, some FieldType.int) := rfl
theorem c145_0 : mc_cd 145 0 = some (.iconst 2, 1) := by decide +kernel
theorem c145_1 : mc_cd 145 1 = some (.istore_n 2, 1) := by decide +kernel
theorem c145_2 : mc_cd 145 2 = some (.iload_n 2, 1) := by decide +kernel
theorem c145_3 : mc_cd 145 3 = some (.aload_n 1, 1) := by decide +kernel
theorem c145_4 : mc_cd 145 4 = some (.getfield 88, 3) := by decide +kernel
theorem c145_7 : mc_cd 145 7 = some (.if_icmp .ge 83, 3) := by decide +kernel
theorem c145_10 : mc_cd 145 10 = some (.iconst 1, 1) := by decide +kernel
theorem c145_11 : mc_cd 145 11 = some (.istore_n 3, 1) := by decide +kernel
theorem c145_12 : mc_cd 145 12 = some (.iload_n 3, 1) := by decide +kernel
theorem c145_13 : mc_cd 145 13 = some (.iload_n 2, 1) := by decide +kernel
theorem c145_14 : mc_cd 145 14 = some (.if_icmp .ge 70, 3) := by decide +kernel
theorem c145_17 : mc_cd 145 17 = some (.iconst 0, 1) := by decide +kernel
theorem c145_18 : mc_cd 145 18 = some (.istore 4, 2) := by decide +kernel
theorem c145_20 : mc_cd 145 20 = some (.iload 4, 2) := by decide +kernel
theorem c145_22 : mc_cd 145 22 = some (.iload_n 3, 1) := by decide +kernel
theorem c145_23 : mc_cd 145 23 = some (.if_icmp .ge 55, 3) := by decide +kernel
theorem c145_26 : mc_cd 145 26 = some (.iconst 1, 1) := by decide +kernel
theorem c145_27 : mc_cd 145 27 = some (.aload_n 1, 1) := by decide +kernel
theorem c145_28 : mc_cd 145 28 = some (.getfield 91, 3) := by decide +kernel
theorem c145_31 : mc_cd 145 31 = some (.iload_n 2, 1) := by decide +kernel
theorem c145_32 : mc_cd 145 32 = some (.iaload, 1) := by decide +kernel
theorem c145_33 : mc_cd 145 33 = some (.ishl, 1) := by decide +kernel
theorem c145_34 : mc_cd 145 34 = some (.iconst 1, 1) := by decide +kernel
theorem c145_35 : mc_cd 145 35 = some (.aload_n 1, 1) := by decide +kernel
theorem c145_36 : mc_cd 145 36 = some (.getfield 91, 3) := by decide +kernel
theorem c145_39 : mc_cd 145 39 = some (.iload_n 3, 1) := by decide +kernel
theorem c145_40 : mc_cd 145 40 = some (.iaload, 1) := by decide +kernel
theorem c145_41 : mc_cd 145 41 = some (.ishl, 1) := by decide +kernel
theorem c145_42 : mc_cd 145 42 = some (.ior, 1) := by decide +kernel
theorem c145_43 : mc_cd 145 43 = some (.istore 5, 2) := by decide +kernel
theorem c145_45 : mc_cd 145 45 = some (.iload 5, 2) := by decide +kernel
theorem c145_47 : mc_cd 145 47 = some (.iconst 1, 1) := by decide +kernel
theorem c145_48 : mc_cd 145 48 = some (.aload_n 1, 1) := by decide +kernel
theorem c145_49 : mc_cd 145 49 = some (.getfield 91, 3) := by decide +kernel
theorem c145_52 : mc_cd 145 52 = some (.iload 4, 2) := by decide +kernel
theorem c145_54 : mc_cd 145 54 = some (.iaload, 1) := by decide +kernel
theorem c145_55 : mc_cd 145 55 = some (.ishl, 1) := by decide +kernel
theorem c145_56 : mc_cd 145 56 = some (.ior, 1) := by decide +kernel
theorem c145_57 : mc_cd 145 57 = some (.istore 6, 2) := by decide +kernel
theorem c145_59 : mc_cd 145 59 = some (.aload_n 0, 1) := by decide +kernel
theorem c145_60 : mc_cd 145 60 = some (.aload_n 1, 1) := by decide +kernel
theorem c145_61 : mc_cd 145 61 = some (.iload 6, 2) := by decide +kernel
theorem c145_63 : mc_cd 145 63 = some (.invokevirtual 100, 3) := by decide +kernel
theorem c145_66 : mc_cd 145 66 = some (.ifCond .eq 6, 3) := by decide +kernel
theorem c145_69 : mc_cd 145 69 = some (.iload 6, 2) := by decide +kernel
theorem c145_71 : mc_cd 145 71 = some (.ireturn, 1) := by decide +kernel
theorem c145_72 : mc_cd 145 72 = some (.iinc 4 1, 3) := by decide +kernel
theorem c145_75 : mc_cd 145 75 = some (.goto (-55), 3) := by decide +kernel
theorem c145_78 : mc_cd 145 78 = some (.iinc 3 1, 3) := by decide +kernel
theorem c145_81 : mc_cd 145 81 = some (.goto (-69), 3) := by decide +kernel
theorem c145_84 : mc_cd 145 84 = some (.iinc 2 1, 3) := by decide +kernel
theorem c145_87 : mc_cd 145 87 = some (.goto (-85), 3) := by decide +kernel
theorem c145_90 : mc_cd 145 90 = some (.bipush (-2), 2) := by decide +kernel
theorem c145_92 : mc_cd 145 92 = some (.ireturn, 1) := by decide +kernel
abbrev q_145 (r0 : Nat) (r1 : Nat) (T : wq_T) (H : wq_H) : Option Value → wq_T → wq_H → Prop := fun r T' H' => T = T' ∧ WT T H' ∧ wfr [(25, 2)] T H H' ∧ ∃ z : Int, some (vI z) = r ∧ ((-2147483648) ≤ z ∧ z ≤ 2147483647)
set_option maxHeartbeats 4000000 in
theorem s_145 {kt : Nat → Option mc_E} {T : wq_T} {H : wq_H} {r0 : Nat} {r1 : Nat} (hW : WT T H) (g0 : T.2.2.2 r0 = some 25) (g1 : T.2.2.2 r1 = some 27) : wpc kt 4 145 [.ref r0, .ref r1] T H (q_145 r0 r1 T H) := by
  refine wp_enter e145 (Nat.le_of_ble_eq_true rfl) rfl ?_
  have f0 : wfr [(25, 2)] T H H := wfr.rf
  show wp _ _ 145 0 [(0, .ref r0), (1, .ref r1)] [] _ H _
  refine wp_of e145 c145_0 (rw_iconst (pc' := 1) rfl ?_)
  refine wp_of e145 c145_1 (rw_istore_n (pc' := 2) (z := 2) (L' := [(2, vI 2), (0, .ref r0), (1, .ref r1)]) rfl rfl rfl ?_)
  have lp71468 : ∀ (n71469 : Nat) (v71471 : Int) (H71472 : wq_H), WT T H71472 → wfr [(25, 2)] T H H71472 → (2 ≤ v71471 ∧ v71471 ≤ 24) → (24 - v71471).toNat = n71469 → wp kt 3 145 2 [(2, vI v71471), (0, .ref r0), (1, .ref r1)] [] T H71472 (q_145 r0 r1 T H) := by
    intro n71469
    induction n71469 using Nat.strongRecOn with
    | _ n71469 ih71470 =>
      intro v71471 H71472 w71473 f71474 b71475 m71476
      have f71477 := f0.tr f71474 rfl
      refine wp_of e145 c145_2 (rw_iload_n (pc' := 3) (z := v71471) rfl rfl ?_)
      refine wp_of e145 c145_3 (rw_aload_n (pc' := 4) (v := .ref r1) rfl rfl rfl ?_)
      refine wp_of e145 c145_4 (xg_I (pc' := 7) lf_6_88 w71473 g1 sh_27 (by decide) (by decide) ty_27_16 rfl rfl (fun b71478 b71479 => ?_))
      refine wp_of e145 c145_7 (rw_icmp_ge (p1 := 90) (p2 := 10) (by decide) rfl ⟨by omega, by omega⟩ ⟨by omega, by omega⟩ (fun c71480 => ?_) (fun c71480 => ?_))
      · refine wp_of e145 c145_90 (rw_bipush (pc' := 92) (z := -2) rfl (by decide) ?_)
        exact wp_ireturn e145 c145_92 rfl ⟨rfl, w71473, f71477, -2, rfl, ⟨by omega, by omega⟩⟩
      · refine wp_of e145 c145_10 (rw_iconst (pc' := 11) rfl ?_)
        refine wp_of e145 c145_11 (rw_istore_n (pc' := 12) (z := 1) (L' := [(3, vI 1), (2, vI v71471), (0, .ref r0), (1, .ref r1)]) rfl rfl rfl ?_)
        have lp73180 : ∀ (n73181 : Nat) (v73183 : Int) (H73184 : wq_H), WT T H73184 → wfr [(25, 2)] T H71472 H73184 → (1 ≤ v73183 ∧ v73183 ≤ 23) → (23 - v73183).toNat = n73181 → wp kt 3 145 12 [(3, vI v73183), (2, vI v71471), (0, .ref r0), (1, .ref r1)] [] T H73184 (q_145 r0 r1 T H) := by
          intro n73181
          induction n73181 using Nat.strongRecOn with
          | _ n73181 ih73182 =>
            intro v73183 H73184 w73185 f73186 b73187 m73188
            have f73189 := f71477.tr f73186 rfl
            have f73190 := f71474.tr f73186 rfl
            refine wp_of e145 c145_12 (rw_iload_n (pc' := 13) (z := v73183) rfl rfl ?_)
            refine wp_of e145 c145_13 (rw_iload_n (pc' := 14) (z := v71471) rfl rfl ?_)
            refine wp_of e145 c145_14 (rw_icmp_ge (p1 := 84) (p2 := 17) (by decide) rfl ⟨by omega, by omega⟩ ⟨by omega, by omega⟩ (fun c73191 => ?_) (fun c73191 => ?_))
            · refine wp_of e145 c145_84 (rw_iinc (pc' := 87) (z := v71471) (L' := [(2, vI (v71471 + 1)), (3, vI v73183), (0, .ref r0), (1, .ref r1)]) rfl rfl rfl rfl ?_)
              refine wp_of e145 c145_87 (rw_goto (p1 := 2) (by decide) ?_)
              exact wp_lc (ks := [2, 3, 0, 1]) (wl_c rfl (wl_c rfl (wl_c rfl wl_n))) rfl (by decide) (ih71470 _ (by omega) (v71471 + 1) H73184 w73185 f73190 ⟨by omega, by omega⟩ rfl)
            · refine wp_of e145 c145_17 (rw_iconst (pc' := 18) rfl ?_)
              refine wp_of e145 c145_18 (rw_istore (pc' := 20) (z := 0) (L' := [(4, vI 0), (3, vI v73183), (2, vI v71471), (0, .ref r0), (1, .ref r1)]) rfl rfl rfl ?_)
              have lp73464 : ∀ (n73465 : Nat) (v73467 : Int) (H73468 : wq_H), WT T H73468 → wfr [(25, 2)] T H73184 H73468 → (0 ≤ v73467 ∧ v73467 ≤ 22) → (22 - v73467).toNat = n73465 → wp kt 3 145 20 [(4, vI v73467), (3, vI v73183), (2, vI v71471), (0, .ref r0), (1, .ref r1)] [] T H73468 (q_145 r0 r1 T H) := by
                intro n73465
                induction n73465 using Nat.strongRecOn with
                | _ n73465 ih73466 =>
                  intro v73467 H73468 w73469 f73470 b73471 m73472
                  have f73473 := f73189.tr f73470 rfl
                  have f73474 := f73190.tr f73470 rfl
                  have f73475 := f73186.tr f73470 rfl
                  refine wp_of e145 c145_20 (rw_iload (pc' := 22) (z := v73467) rfl rfl ?_)
                  refine wp_of e145 c145_22 (rw_iload_n (pc' := 23) (z := v73183) rfl rfl ?_)
                  refine wp_of e145 c145_23 (rw_icmp_ge (p1 := 78) (p2 := 26) (by decide) rfl ⟨by omega, by omega⟩ ⟨by omega, by omega⟩ (fun c73476 => ?_) (fun c73476 => ?_))
                  · refine wp_of e145 c145_78 (rw_iinc (pc' := 81) (z := v73183) (L' := [(3, vI (v73183 + 1)), (4, vI v73467), (2, vI v71471), (0, .ref r0), (1, .ref r1)]) rfl rfl rfl rfl ?_)
                    refine wp_of e145 c145_81 (rw_goto (p1 := 12) (by decide) ?_)
                    exact wp_lc (ks := [3, 4, 2, 0, 1]) (wl_c rfl (wl_c rfl (wl_c rfl (wl_c rfl wl_n)))) rfl (by decide) (ih73182 _ (by omega) (v73183 + 1) H73468 w73469 f73475 ⟨by omega, by omega⟩ rfl)
                  · refine wp_of e145 c145_26 (rw_iconst (pc' := 27) rfl ?_)
                    refine wp_of e145 c145_27 (rw_aload_n (pc' := 28) (v := .ref r1) rfl rfl rfl ?_)
                    refine wp_of e145 c145_28 (xg_R (pc' := 31) lf_6_91 w73469 g1 sh_27 (by decide) (by decide) ty_27_2 rfl rfl (fun r73477 q73478 g73479 => ?_))
                    refine wp_of e145 c145_31 (rw_iload_n (pc' := 32) (z := v71471) rfl rfl ?_)
                    refine wp_of e145 c145_32 (xa_I (so := 0) (pc' := 33) w73469 g73479 sh_30 (by decide) (ty_30 _) (by omega) (by omega) rfl (fun b73480 b73481 => ?_))
                    refine wp_of e145 c145_33 (rw_ishl (pc' := 34) rfl ?_)
                    obtain ⟨v73482, e73483⟩ : ∃ x : Int, x = wq_shl 1 (H73468 r73477 (v71471.toNat)) := ⟨_, rfl⟩
                    rw [← e73483]
                    have b73484 : -2147483648 ≤ v73482 ∧ v73482 ≤ 2147483647 := by
                      rw [e73483]
                      exact wI_shl _ _
                    refine wp_of e145 c145_34 (rw_iconst (pc' := 35) rfl ?_)
                    refine wp_of e145 c145_35 (rw_aload_n (pc' := 36) (v := .ref r1) rfl rfl rfl ?_)
                    refine wp_of e145 c145_36 (xg_K (pc' := 39) lf_6_91 w73469 g1 sh_27 (by decide) (by decide) rfl q73478 rfl ?_)
                    refine wp_of e145 c145_39 (rw_iload_n (pc' := 40) (z := v73183) rfl rfl ?_)
                    refine wp_of e145 c145_40 (xa_I (so := 0) (pc' := 41) w73469 g73479 sh_30 (by decide) (ty_30 _) (by omega) (by omega) rfl (fun b73485 b73486 => ?_))
                    refine wp_of e145 c145_41 (rw_ishl (pc' := 42) rfl ?_)
                    obtain ⟨v73487, e73488⟩ : ∃ x : Int, x = wq_shl 1 (H73468 r73477 (v73183.toNat)) := ⟨_, rfl⟩
                    rw [← e73488]
                    have b73489 : -2147483648 ≤ v73487 ∧ v73487 ≤ 2147483647 := by
                      rw [e73488]
                      exact wI_shl _ _
                    refine wp_of e145 c145_42 (rw_ior (pc' := 43) rfl ?_)
                    obtain ⟨v73490, e73491⟩ : ∃ x : Int, x = wq_or v73482 v73487 := ⟨_, rfl⟩
                    rw [← e73491]
                    have b73492 : -2147483648 ≤ v73490 ∧ v73490 ≤ 2147483647 := by
                      rw [e73491]
                      exact wI_or _ _
                    refine wp_of e145 c145_43 (rw_istore (pc' := 45) (z := v73490) (L' := [(5, vI v73490), (4, vI v73467), (3, vI v73183), (2, vI v71471), (0, .ref r0), (1, .ref r1)]) rfl rfl rfl ?_)
                    refine wp_of e145 c145_45 (rw_iload (pc' := 47) (z := v73490) rfl rfl ?_)
                    refine wp_of e145 c145_47 (rw_iconst (pc' := 48) rfl ?_)
                    refine wp_of e145 c145_48 (rw_aload_n (pc' := 49) (v := .ref r1) rfl rfl rfl ?_)
                    refine wp_of e145 c145_49 (xg_K (pc' := 52) lf_6_91 w73469 g1 sh_27 (by decide) (by decide) rfl q73478 rfl ?_)
                    refine wp_of e145 c145_52 (rw_iload (pc' := 54) (z := v73467) rfl rfl ?_)
                    refine wp_of e145 c145_54 (xa_I (so := 0) (pc' := 55) w73469 g73479 sh_30 (by decide) (ty_30 _) (by omega) (by omega) rfl (fun b73493 b73494 => ?_))
                    refine wp_of e145 c145_55 (rw_ishl (pc' := 56) rfl ?_)
                    obtain ⟨v73495, e73496⟩ : ∃ x : Int, x = wq_shl 1 (H73468 r73477 (v73467.toNat)) := ⟨_, rfl⟩
                    rw [← e73496]
                    have b73497 : -2147483648 ≤ v73495 ∧ v73495 ≤ 2147483647 := by
                      rw [e73496]
                      exact wI_shl _ _
                    refine wp_of e145 c145_56 (rw_ior (pc' := 57) rfl ?_)
                    obtain ⟨v73498, e73499⟩ : ∃ x : Int, x = wq_or v73490 v73495 := ⟨_, rfl⟩
                    rw [← e73499]
                    have b73500 : -2147483648 ≤ v73498 ∧ v73498 ≤ 2147483647 := by
                      rw [e73499]
                      exact wI_or _ _
                    refine wp_of e145 c145_57 (rw_istore (pc' := 59) (z := v73498) (L' := [(6, vI v73498), (5, vI v73490), (4, vI v73467), (3, vI v73183), (2, vI v71471), (0, .ref r0), (1, .ref r1)]) rfl rfl rfl ?_)
                    refine wp_of e145 c145_59 (rw_aload_n (pc' := 60) (v := .ref r0) rfl rfl rfl ?_)
                    refine wp_of e145 c145_60 (rw_aload_n (pc' := 61) (v := .ref r1) rfl rfl rfl ?_)
                    refine wp_of e145 c145_61 (rw_iload (pc' := 63) (z := v73498) rfl rfl ?_)
                    refine wp_of e145 c145_63 (xc_V (pc' := 66) (r := r0) (as := [.ref r1, vI v73498]) (st := []) (lm_6_100) rfl rfl (Nat.le_of_ble_eq_true rfl) w73469 g0 sh_25 (by decide) rfl (by decide) (s_142 w73469 g0 g1 ⟨by omega, by omega⟩) (fun R73501 T73502 H73503 p73504 => ?_))
                    obtain ⟨e73505, w73507, f73508, z73509, e73506, b73510⟩ := p73504
                    subst e73505
                    subst e73506
                    have f73511 := f73473.tr f73508 rfl
                    have f73512 := f73474.tr f73508 rfl
                    have f73513 := f73475.tr f73508 rfl
                    have f73514 := f73470.tr f73508 rfl
                    show wp _ _ 145 66 [(6, vI v73498), (5, vI v73490), (4, vI v73467), (3, vI v73183), (2, vI v71471), (0, .ref r0), (1, .ref r1)] [vI z73509] _ H73503 _
                    refine wp_of e145 c145_66 (rw_if_eq (p1 := 72) (p2 := 69) (by decide) rfl ⟨by omega, by omega⟩ (fun c73515 => ?_) (fun c73515 => ?_))
                    · refine wp_of e145 c145_72 (rw_iinc (pc' := 75) (z := v73467) (L' := [(4, vI (v73467 + 1)), (6, vI v73498), (5, vI v73490), (3, vI v73183), (2, vI v71471), (0, .ref r0), (1, .ref r1)]) rfl rfl rfl rfl ?_)
                      refine wp_of e145 c145_75 (rw_goto (p1 := 20) (by decide) ?_)
                      exact wp_lc (ks := [4, 6, 5, 3, 2, 0, 1]) (wl_c rfl (wl_c rfl (wl_c rfl (wl_c rfl (wl_c rfl wl_n))))) rfl (by decide) (ih73466 _ (by omega) (v73467 + 1) H73503 w73507 f73514 ⟨by omega, by omega⟩ rfl)
                    · refine wp_of e145 c145_69 (rw_iload (pc' := 71) (z := v73498) rfl rfl ?_)
                      exact wp_ireturn e145 c145_71 rfl ⟨rfl, w73507, f73511, v73498, rfl, ⟨by omega, by omega⟩⟩
              exact wp_lc (ks := [4, 3, 2, 0, 1]) (wl_c rfl (wl_c rfl (wl_c rfl (wl_c rfl (wl_c rfl wl_n))))) rfl (by decide) (lp73464 _ 0 H73184 w73185 wfr.rf ⟨by omega, by omega⟩ rfl)
        exact wp_lc (ks := [3, 2, 0, 1]) (wl_c rfl (wl_c rfl (wl_c rfl (wl_c rfl wl_n)))) rfl (by decide) (lp73180 _ 1 H71472 w71473 wfr.rf ⟨by omega, by omega⟩ rfl)
  exact wp_lc (ks := [2, 0, 1]) (wl_c rfl (wl_c rfl (wl_c rfl wl_n))) rfl (by decide) (lp71468 _ 2 H hW wfr.rf ⟨by omega, by omega⟩ rfl)
/-! StrikeAwake$Grounds.fewestHours(LStrikeAwake$Parish;LStrikeAwake$Walk;)I -/
theorem e138 : wq_en 138 = some (6, 4, false, some FieldType.int) := rfl
theorem c138_0 : mc_cd 138 0 = some (.aload_n 0, 1) := by decide +kernel
theorem c138_1 : mc_cd 138 1 = some (.aload_n 1, 1) := by decide +kernel
theorem c138_2 : mc_cd 138 2 = some (.aload_n 2, 1) := by decide +kernel
theorem c138_3 : mc_cd 138 3 = some (.invokevirtual 64, 3) := by decide +kernel
theorem c138_6 : mc_cd 138 6 = some (.aload_n 0, 1) := by decide +kernel
theorem c138_7 : mc_cd 138 7 = some (.getfield 68, 3) := by decide +kernel
theorem c138_10 : mc_cd 138 10 = some (.ifCond .ne 5, 3) := by decide +kernel
theorem c138_13 : mc_cd 138 13 = some (.iconst 0, 1) := by decide +kernel
theorem c138_14 : mc_cd 138 14 = some (.ireturn, 1) := by decide +kernel
theorem c138_15 : mc_cd 138 15 = some (.aload_n 0, 1) := by decide +kernel
theorem c138_16 : mc_cd 138 16 = some (.aload_n 1, 1) := by decide +kernel
theorem c138_17 : mc_cd 138 17 = some (.invokevirtual 72, 3) := by decide +kernel
theorem c138_20 : mc_cd 138 20 = some (.istore_n 3, 1) := by decide +kernel
theorem c138_21 : mc_cd 138 21 = some (.iload_n 3, 1) := by decide +kernel
theorem c138_22 : mc_cd 138 22 = some (.bipush (-2), 2) := by decide +kernel
theorem c138_24 : mc_cd 138 24 = some (.if_icmp .ne 9, 3) := by decide +kernel
theorem c138_27 : mc_cd 138 27 = some (.aload_n 0, 1) := by decide +kernel
theorem c138_28 : mc_cd 138 28 = some (.aload_n 1, 1) := by decide +kernel
theorem c138_29 : mc_cd 138 29 = some (.invokevirtual 75, 3) := by decide +kernel
theorem c138_32 : mc_cd 138 32 = some (.istore_n 3, 1) := by decide +kernel
theorem c138_33 : mc_cd 138 33 = some (.iload_n 3, 1) := by decide +kernel
theorem c138_34 : mc_cd 138 34 = some (.bipush (-2), 2) := by decide +kernel
theorem c138_36 : mc_cd 138 36 = some (.if_icmp .ne 11, 3) := by decide +kernel
theorem c138_39 : mc_cd 138 39 = some (.aload_n 0, 1) := by decide +kernel
theorem c138_40 : mc_cd 138 40 = some (.aload_n 1, 1) := by decide +kernel
theorem c138_41 : mc_cd 138 41 = some (.invokevirtual 78, 3) := by decide +kernel
theorem c138_44 : mc_cd 138 44 = some (.goto 4, 3) := by decide +kernel
theorem c138_47 : mc_cd 138 47 = some (.iload_n 3, 1) := by decide +kernel
theorem c138_48 : mc_cd 138 48 = some (.ireturn, 1) := by decide +kernel
abbrev q_138 (r0 : Nat) (r1 : Nat) (r2 : Nat) (T : wq_T) (H : wq_H) : Option Value → wq_T → wq_H → Prop := fun r T' H' => T = T' ∧ WT T H' ∧ wfr [(25, 1), (25, 2), (6, 5), (8, 999), (10, 999), (26, 999), (9, 999), (7, 999), (11, 999)] T H H' ∧ ∃ z : Int, some (vI z) = r ∧ ((-2147483648) ≤ z ∧ z ≤ 2147483647)
set_option maxHeartbeats 4000000 in
theorem s_138 {kt : Nat → Option mc_E} {T : wq_T} {H : wq_H} {r0 : Nat} {r1 : Nat} {r2 : Nat} (hW : WT T H) (g0 : T.2.2.2 r0 = some 25) (g1 : T.2.2.2 r1 = some 27) (g2 : T.2.2.2 r2 = some 6) : wpc kt 5 138 [.ref r0, .ref r1, .ref r2] T H (q_138 r0 r1 r2 T H) := by
  refine wp_enter e138 (Nat.le_of_ble_eq_true rfl) rfl ?_
  have f0 : wfr [(25, 1), (25, 2), (6, 5), (8, 999), (10, 999), (26, 999), (9, 999), (7, 999), (11, 999)] T H H := wfr.rf
  show wp _ _ 138 0 [(0, .ref r0), (1, .ref r1), (2, .ref r2)] [] _ H _
  refine wp_of e138 c138_0 (rw_aload_n (pc' := 1) (v := .ref r0) rfl rfl rfl ?_)
  refine wp_of e138 c138_1 (rw_aload_n (pc' := 2) (v := .ref r1) rfl rfl rfl ?_)
  refine wp_of e138 c138_2 (rw_aload_n (pc' := 3) (v := .ref r2) rfl rfl rfl ?_)
  refine wp_of e138 c138_3 (xc_V (pc' := 6) (r := r0) (as := [.ref r1, .ref r2]) (st := []) (lm_6_64) rfl rfl (Nat.le_of_ble_eq_true rfl) hW g0 sh_25 (by decide) rfl (by decide) (s_139 hW g0 g1 g2) (fun R73575 T73576 H73577 p73578 => ?_))
  obtain ⟨e73579, w73581, f73582, e73580⟩ := p73578
  subst e73579
  subst e73580
  have f73583 := f0.tr f73582 rfl
  show wp _ _ 138 6 [(0, .ref r0), (1, .ref r1), (2, .ref r2)] [] _ H73577 _
  refine wp_of e138 c138_6 (rw_aload_n (pc' := 7) (v := .ref r0) rfl rfl rfl ?_)
  refine wp_of e138 c138_7 (xg_I (pc' := 10) lf_6_68 w73581 g0 sh_25 (by decide) (by decide) ty_25_1 rfl rfl (fun b73584 b73585 => ?_))
  refine wp_of e138 c138_10 (rw_if_ne (p1 := 15) (p2 := 13) (by decide) rfl ⟨by omega, by omega⟩ (fun c73586 => ?_) (fun c73586 => ?_))
  · refine wp_of e138 c138_15 (rw_aload_n (pc' := 16) (v := .ref r0) rfl rfl rfl ?_)
    refine wp_of e138 c138_16 (rw_aload_n (pc' := 17) (v := .ref r1) rfl rfl rfl ?_)
    refine wp_of e138 c138_17 (xc_V (pc' := 20) (r := r0) (as := [.ref r1]) (st := []) (lm_6_72) rfl rfl (Nat.le_of_ble_eq_true rfl) w73581 g0 sh_25 (by decide) rfl (by decide) (s_141 w73581 g0 g1) (fun R73587 T73588 H73589 p73590 => ?_))
    obtain ⟨e73591, w73593, f73594, z73595, e73592, b73596⟩ := p73590
    subst e73591
    subst e73592
    have f73597 := f73583.tr f73594 rfl
    show wp _ _ 138 20 [(0, .ref r0), (1, .ref r1), (2, .ref r2)] [vI z73595] _ H73589 _
    refine wp_of e138 c138_20 (rw_istore_n (pc' := 21) (z := z73595) (L' := [(3, vI z73595), (0, .ref r0), (1, .ref r1), (2, .ref r2)]) rfl rfl rfl ?_)
    refine wp_of e138 c138_21 (rw_iload_n (pc' := 22) (z := z73595) rfl rfl ?_)
    refine wp_of e138 c138_22 (rw_bipush (pc' := 24) (z := -2) rfl (by decide) ?_)
    refine wp_of e138 c138_24 (rw_icmp_ne (p1 := 33) (p2 := 27) (by decide) rfl ⟨by omega, by omega⟩ ⟨by omega, by omega⟩ (fun c73598 => ?_) (fun c73598 => ?_))
    · refine wp_of e138 c138_33 (rw_iload_n (pc' := 34) (z := z73595) rfl rfl ?_)
      refine wp_of e138 c138_34 (rw_bipush (pc' := 36) (z := -2) rfl (by decide) ?_)
      refine wp_of e138 c138_36 (rw_icmp_ne (p1 := 47) (p2 := 39) (by decide) rfl ⟨by omega, by omega⟩ ⟨by omega, by omega⟩ (fun c73599 => ?_) (fun c73599 => ?_))
      · refine wp_of e138 c138_47 (rw_iload_n (pc' := 48) (z := z73595) rfl rfl ?_)
        exact wp_ireturn e138 c138_48 rfl ⟨rfl, w73593, f73597, z73595, rfl, ⟨by omega, by omega⟩⟩
      · refine wp_of e138 c138_39 (rw_aload_n (pc' := 40) (v := .ref r0) rfl rfl rfl ?_)
        refine wp_of e138 c138_40 (rw_aload_n (pc' := 41) (v := .ref r1) rfl rfl rfl ?_)
        refine wp_of e138 c138_41 (xc_V (pc' := 44) (r := r0) (as := [.ref r1]) (st := []) (lm_6_78) rfl rfl (Nat.le_of_ble_eq_true rfl) w73593 g0 sh_25 (by decide) rfl (by decide) (s_145 w73593 g0 g1) (fun R73600 T73601 H73602 p73603 => ?_))
        obtain ⟨e73604, w73606, f73607, z73608, e73605, b73609⟩ := p73603
        subst e73604
        subst e73605
        have f73610 := f73597.tr f73607 rfl
        show wp _ _ 138 44 [(3, vI z73595), (0, .ref r0), (1, .ref r1), (2, .ref r2)] [vI z73608] _ H73602 _
        refine wp_of e138 c138_44 (rw_goto (p1 := 48) (by decide) ?_)
        exact wp_ireturn e138 c138_48 rfl ⟨rfl, w73606, f73610, z73608, rfl, ⟨by omega, by omega⟩⟩
    · refine wp_of e138 c138_27 (rw_aload_n (pc' := 28) (v := .ref r0) rfl rfl rfl ?_)
      refine wp_of e138 c138_28 (rw_aload_n (pc' := 29) (v := .ref r1) rfl rfl rfl ?_)
      refine wp_of e138 c138_29 (xc_V (pc' := 32) (r := r0) (as := [.ref r1]) (st := []) (lm_6_75) rfl rfl (Nat.le_of_ble_eq_true rfl) w73593 g0 sh_25 (by decide) rfl (by decide) (s_144 w73593 g0 g1) (fun R73611 T73612 H73613 p73614 => ?_))
      obtain ⟨e73615, w73617, f73618, z73619, e73616, b73620⟩ := p73614
      subst e73615
      subst e73616
      have f73621 := f73597.tr f73618 rfl
      show wp _ _ 138 32 [(3, vI z73595), (0, .ref r0), (1, .ref r1), (2, .ref r2)] [vI z73619] _ H73613 _
      refine wp_of e138 c138_32 (rw_istore_n (pc' := 33) (z := z73619) (L' := [(3, vI z73619), (0, .ref r0), (1, .ref r1), (2, .ref r2)]) rfl rfl rfl ?_)
      refine wp_of e138 c138_33 (rw_iload_n (pc' := 34) (z := z73619) rfl rfl ?_)
      refine wp_of e138 c138_34 (rw_bipush (pc' := 36) (z := -2) rfl (by decide) ?_)
      refine wp_of e138 c138_36 (rw_icmp_ne (p1 := 47) (p2 := 39) (by decide) rfl ⟨by omega, by omega⟩ ⟨by omega, by omega⟩ (fun c73622 => ?_) (fun c73622 => ?_))
      · refine wp_of e138 c138_47 (rw_iload_n (pc' := 48) (z := z73619) rfl rfl ?_)
        exact wp_ireturn e138 c138_48 rfl ⟨rfl, w73617, f73621, z73619, rfl, ⟨by omega, by omega⟩⟩
      · refine wp_of e138 c138_39 (rw_aload_n (pc' := 40) (v := .ref r0) rfl rfl rfl ?_)
        refine wp_of e138 c138_40 (rw_aload_n (pc' := 41) (v := .ref r1) rfl rfl rfl ?_)
        refine wp_of e138 c138_41 (xc_V (pc' := 44) (r := r0) (as := [.ref r1]) (st := []) (lm_6_78) rfl rfl (Nat.le_of_ble_eq_true rfl) w73617 g0 sh_25 (by decide) rfl (by decide) (s_145 w73617 g0 g1) (fun R73623 T73624 H73625 p73626 => ?_))
        obtain ⟨e73627, w73629, f73630, z73631, e73628, b73632⟩ := p73626
        subst e73627
        subst e73628
        have f73633 := f73621.tr f73630 rfl
        show wp _ _ 138 44 [(3, vI z73619), (0, .ref r0), (1, .ref r1), (2, .ref r2)] [vI z73631] _ H73625 _
        refine wp_of e138 c138_44 (rw_goto (p1 := 48) (by decide) ?_)
        exact wp_ireturn e138 c138_48 rfl ⟨rfl, w73629, f73633, z73631, rfl, ⟨by omega, by omega⟩⟩
  · refine wp_of e138 c138_13 (rw_iconst (pc' := 14) rfl ?_)
    exact wp_ireturn e138 c138_14 rfl ⟨rfl, w73581, f73583, 0, rfl, ⟨by omega, by omega⟩⟩
