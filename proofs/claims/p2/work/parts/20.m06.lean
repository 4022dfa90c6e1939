/-! methods (own work, written by wip/gen2/sx.py) -/
/-! StrikeAwake.having(II)I -/
theorem e98 : wq_en 98 = some (0, 4, false, some FieldType.int) := rfl
theorem c98_0 : mc_cd 98 0 = some (.aload_n 0, 1) := by decide +kernel
theorem c98_1 : mc_cd 98 1 = some (.aload_n 0, 1) := by decide +kernel
theorem c98_2 : mc_cd 98 2 = some (.iload_n 1, 1) := by decide +kernel
theorem c98_3 : mc_cd 98 3 = some (.iload_n 2, 1) := by decide +kernel
theorem c98_4 : mc_cd 98 4 = some (.invokevirtual 118, 3) := by decide +kernel
theorem c98_7 : mc_cd 98 7 = some (.invokevirtual 174, 3) := by decide +kernel
theorem c98_10 : mc_cd 98 10 = some (.istore_n 3, 1) := by decide +kernel
theorem c98_11 : mc_cd 98 11 = some (.iload_n 3, 1) := by decide +kernel
theorem c98_12 : mc_cd 98 12 = some (.ifCond .eq 9, 3) := by decide +kernel
theorem c98_15 : mc_cd 98 15 = some (.aload_n 0, 1) := by decide +kernel
theorem c98_16 : mc_cd 98 16 = some (.iload_n 3, 1) := by decide +kernel
theorem c98_17 : mc_cd 98 17 = some (.invokevirtual 70, 3) := by decide +kernel
theorem c98_20 : mc_cd 98 20 = some (.ireturn, 1) := by decide +kernel
theorem c98_21 : mc_cd 98 21 = some (.aload_n 0, 1) := by decide +kernel
theorem c98_22 : mc_cd 98 22 = some (.aload_n 0, 1) := by decide +kernel
theorem c98_23 : mc_cd 98 23 = some (.getfield 30, 3) := by decide +kernel
theorem c98_26 : mc_cd 98 26 = some (.getfield 190, 3) := by decide +kernel
theorem c98_29 : mc_cd 98 29 = some (.iload_n 1, 1) := by decide +kernel
theorem c98_30 : mc_cd 98 30 = some (.aaload, 1) := by decide +kernel
theorem c98_31 : mc_cd 98 31 = some (.iload_n 2, 1) := by decide +kernel
theorem c98_32 : mc_cd 98 32 = some (.iaload, 1) := by decide +kernel
theorem c98_33 : mc_cd 98 33 = some (.invokevirtual 99, 3) := by decide +kernel
theorem c98_36 : mc_cd 98 36 = some (.ireturn, 1) := by decide +kernel
abbrev q_98 (r0 : Nat) (a1 : Int) (a2 : Int) (T : wq_T) (H : wq_H) : Option Value → wq_T → wq_H → Prop := fun r T' H' => T = T' ∧ WT T H' ∧ wfr [(12, 5), (12, 6), (12, 7), (12, 8), (12, 9), (1, 10), (6, 5), (8, 999), (10, 999), (15, 999), (9, 999), (18, 999), (19, 999), (7, 999), (11, 999), (17, 999), (13, 999)] T H H' ∧ ∃ z : Int, some (vI z) = r ∧ ((-2147483648) ≤ z ∧ z ≤ 2147483647)
set_option maxHeartbeats 4000000 in
theorem s_98 {kt : Nat → Option mc_E} {T : wq_T} {H : wq_H} {r0 : Nat} {a1 : Int} {a2 : Int} (hW : WT T H) (g0 : T.2.2.2 r0 = some 1) (i1 : (-2147483648) ≤ a1 ∧ a1 ≤ 2147483647) (i2 : (-2147483648) ≤ a2 ∧ a2 ≤ 2147483647) : wpc kt 6 98 [.ref r0, vI a1, vI a2] T H (q_98 r0 a1 a2 T H) := by
  refine wp_enter e98 (Nat.le_of_ble_eq_true rfl) rfl ?_
  have f0 : wfr [(12, 5), (12, 6), (12, 7), (12, 8), (12, 9), (1, 10), (6, 5), (8, 999), (10, 999), (15, 999), (9, 999), (18, 999), (19, 999), (7, 999), (11, 999), (17, 999), (13, 999)] T H H := wfr.rf
  show wp _ _ 98 0 [(0, .ref r0), (1, vI a1), (2, vI a2)] [] _ H _
  refine wp_of e98 c98_0 (rw_aload_n (pc' := 1) (v := .ref r0) rfl rfl rfl ?_)
  refine wp_of e98 c98_1 (rw_aload_n (pc' := 2) (v := .ref r0) rfl rfl rfl ?_)
  refine wp_of e98 c98_2 (rw_iload_n (pc' := 3) (z := a1) rfl rfl ?_)
  refine wp_of e98 c98_3 (rw_iload_n (pc' := 4) (z := a2) rfl rfl ?_)
  refine wp_of e98 c98_4 (xc_V (pc' := 7) (r := r0) (as := [vI a1, vI a2]) (st := [.ref r0]) (lm_0_118) rfl rfl (Nat.le_of_ble_eq_true rfl) hW g0 sh_1 (by decide) rfl (by decide) (s_57 hW g0 ⟨by omega, by omega⟩ ⟨by omega, by omega⟩) (fun R29136 T29137 H29138 p29139 => ?_))
  obtain ⟨e29140, e29142, z29144, e29141, b29145, p29143⟩ := p29139
  subst e29140
  subst e29141
  subst e29142
  show wp _ _ 98 7 [(0, .ref r0), (1, vI a1), (2, vI a2)] [vI z29144, .ref r0] _ H _
  refine wp_of e98 c98_7 (xc_V (pc' := 10) (r := r0) (as := [vI z29144]) (st := []) (lm_0_174) rfl rfl (Nat.le_of_ble_eq_true rfl) hW g0 sh_1 (by decide) rfl (by decide) (s_83 hW g0 ⟨by omega, by omega⟩) (fun R29146 T29147 H29148 p29149 => ?_))
  obtain ⟨e29150, w29152, f29153, z29155, e29151, b29156, p29154⟩ := p29149
  subst e29150
  subst e29151
  have f29157 := f0.tr f29153 rfl
  show wp _ _ 98 10 [(0, .ref r0), (1, vI a1), (2, vI a2)] [vI z29155] _ H29148 _
  refine wp_of e98 c98_10 (rw_istore_n (pc' := 11) (z := z29155) (L' := [(3, vI z29155), (0, .ref r0), (1, vI a1), (2, vI a2)]) rfl rfl rfl ?_)
  refine wp_of e98 c98_11 (rw_iload_n (pc' := 12) (z := z29155) rfl rfl ?_)
  refine wp_of e98 c98_12 (rw_if_eq (p1 := 21) (p2 := 15) (by decide) rfl ⟨by omega, by omega⟩ (fun c29158 => ?_) (fun c29158 => ?_))
  · refine wp_of e98 c98_21 (rw_aload_n (pc' := 22) (v := .ref r0) rfl rfl rfl ?_)
    refine wp_of e98 c98_22 (rw_aload_n (pc' := 23) (v := .ref r0) rfl rfl rfl ?_)
    refine wp_of e98 c98_23 (xg_R (pc' := 26) lf_0_30 w29152 g0 sh_1 (by decide) (by decide) ty_1_3 rfl rfl (fun r29159 q29160 g29161 => ?_))
    refine wp_of e98 c98_26 (xg_R (pc' := 29) lf_0_190 w29152 g29161 sh_12 (by decide) (by decide) ty_12_1 rfl rfl (fun r29162 q29163 g29164 => ?_))
    refine wp_of e98 c98_29 (rw_iload_n (pc' := 30) (z := a1) rfl rfl ?_)
    refine wp_of e98 c98_30 (xa_R (pc' := 31) (by decide) w29152 g29164 sh_14 (by decide) (ty_14 _) (by omega) (by omega) rfl (fun r29165 q29166 g29167 => ?_))
    refine wp_of e98 c98_31 (rw_iload_n (pc' := 32) (z := a2) rfl rfl ?_)
    refine wp_of e98 c98_32 (xa_I (so := 0) (pc' := 33) w29152 g29167 sh_15 (by decide) (ty_15 _) (by omega) (by omega) rfl (fun b29168 b29169 => ?_))
    refine wp_of e98 c98_33 (xc_V (pc' := 36) (r := r0) (as := [vI (H29148 r29165 a2.toNat)]) (st := []) (lm_0_99) rfl rfl (Nat.le_of_ble_eq_true rfl) w29152 g0 sh_1 (by decide) rfl (by decide) (s_51 w29152 g0 ⟨by omega, by omega⟩) (fun R29170 T29171 H29172 p29173 => ?_))
    obtain ⟨e29174, w29176, f29177, z29178, e29175, b29179⟩ := p29173
    subst e29174
    subst e29175
    have f29180 := f29157.tr f29177 rfl
    show wp _ _ 98 36 [(3, vI z29155), (0, .ref r0), (1, vI a1), (2, vI a2)] [vI z29178] _ H29172 _
    exact wp_ireturn e98 c98_36 rfl ⟨rfl, w29176, f29180, z29178, rfl, ⟨by omega, by omega⟩⟩
  · refine wp_of e98 c98_15 (rw_aload_n (pc' := 16) (v := .ref r0) rfl rfl rfl ?_)
    refine wp_of e98 c98_16 (rw_iload_n (pc' := 17) (z := z29155) rfl rfl ?_)
    refine wp_of e98 c98_17 (xc_V (pc' := 20) (r := r0) (as := [vI z29155]) (st := []) (lm_0_70) rfl rfl (Nat.le_of_ble_eq_true rfl) w29152 g0 sh_1 (by decide) rfl (by decide) (s_12 w29152 g0 ⟨by omega, by omega⟩) (fun R29181 T29182 H29183 p29184 => ?_))
    obtain ⟨e29185, w29187, f29188, z29189, e29186, b29190⟩ := p29184
    subst e29185
    subst e29186
    have f29191 := f29157.tr f29188 rfl
    show wp _ _ 98 20 [(3, vI z29155), (0, .ref r0), (1, vI a1), (2, vI a2)] [vI z29189] _ H29183 _
    exact wp_ireturn e98 c98_20 rfl ⟨rfl, w29187, f29191, z29189, rfl, ⟨by omega, by omega⟩⟩
/-! StrikeAwake$Census.countAwake(LStrikeAwake$Parish;II)I -/
theorem e100 : wq_en 100 = some (4, 7, false, some FieldType.int) := rfl
theorem c100_0 : mc_cd 100 0 = some (.aload_n 1, 1) := by decide +kernel
theorem c100_1 : mc_cd 100 1 = some (.getfield 78, 3) := by decide +kernel
theorem c100_4 : mc_cd 100 4 = some (.iload_n 2, 1) := by decide +kernel
theorem c100_5 : mc_cd 100 5 = some (.aaload, 1) := by decide +kernel
theorem c100_6 : mc_cd 100 6 = some (.astore 4, 2) := by decide +kernel
theorem c100_8 : mc_cd 100 8 = some (.iconst 0, 1) := by decide +kernel
theorem c100_9 : mc_cd 100 9 = some (.istore 5, 2) := by decide +kernel
theorem c100_11 : mc_cd 100 11 = some (.iconst 0, 1) := by decide +kernel
theorem c100_12 : mc_cd 100 12 = some (.istore 6, 2) := by decide +kernel
theorem c100_14 : mc_cd 100 14 = some (.iload 6, 2) := by decide +kernel
theorem c100_16 : mc_cd 100 16 = some (.aload 4, 2) := by decide +kernel
theorem c100_18 : mc_cd 100 18 = some (.getfield 116, 3) := by decide +kernel
theorem c100_21 : mc_cd 100 21 = some (.if_icmp .ge 38, 3) := by decide +kernel
theorem c100_24 : mc_cd 100 24 = some (.aload 4, 2) := by decide +kernel
theorem c100_26 : mc_cd 100 26 = some (.getfield 119, 3) := by decide +kernel
theorem c100_29 : mc_cd 100 29 = some (.iload 6, 2) := by decide +kernel
theorem c100_31 : mc_cd 100 31 = some (.iaload, 1) := by decide +kernel
theorem c100_32 : mc_cd 100 32 = some (.iload_n 3, 1) := by decide +kernel
theorem c100_33 : mc_cd 100 33 = some (.invokestatic 122, 3) := by decide +kernel
theorem c100_36 : mc_cd 100 36 = some (.ifCond .eq 17, 3) := by decide +kernel
theorem c100_39 : mc_cd 100 39 = some (.iload 5, 2) := by decide +kernel
theorem c100_41 : mc_cd 100 41 = some (.aload_n 0, 1) := by decide +kernel
theorem c100_42 : mc_cd 100 42 = some (.getfield 17, 3) := by decide +kernel
theorem c100_45 : mc_cd 100 45 = some (.iload_n 2, 1) := by decide +kernel
theorem c100_46 : mc_cd 100 46 = some (.aaload, 1) := by decide +kernel
theorem c100_47 : mc_cd 100 47 = some (.iload 6, 2) := by decide +kernel
theorem c100_49 : mc_cd 100 49 = some (.iaload, 1) := by decide +kernel
theorem c100_50 : mc_cd 100 50 = some (.iadd, 1) := by decide +kernel
theorem c100_51 : mc_cd 100 51 = some (.istore 5, 2) := by decide +kernel
theorem c100_53 : mc_cd 100 53 = some (.iinc 6 1, 3) := by decide +kernel
theorem c100_56 : mc_cd 100 56 = some (.goto (-42), 3) := by decide +kernel
theorem c100_59 : mc_cd 100 59 = some (.iload 5, 2) := by decide +kernel
theorem c100_61 : mc_cd 100 61 = some (.ireturn, 1) := by decide +kernel
abbrev q_100 (r0 : Nat) (r1 : Nat) (a2 : Int) (a3 : Int) (T : wq_T) (H : wq_H) : Option Value → wq_T → wq_H → Prop := fun r T' H' => T = T' ∧ H = H' ∧ ∃ z : Int, some (vI z) = r ∧ ((-2147483648) ≤ z ∧ z ≤ 2147483647)
set_option maxHeartbeats 4000000 in
theorem s_100 {kt : Nat → Option mc_E} {T : wq_T} {H : wq_H} {r0 : Nat} {r1 : Nat} {a2 : Int} {a3 : Int} (hW : WT T H) (g0 : T.2.2.2 r0 = some 12) (g1 : T.2.2.2 r1 = some 27) (i2 : 0 ≤ a2 ∧ a2 ≤ 5) (i3 : (-2147483648) ≤ a3 ∧ a3 ≤ 2147483647) : wpc kt 2 100 [.ref r0, .ref r1, vI a2, vI a3] T H (q_100 r0 r1 a2 a3 T H) := by
  refine wp_enter e100 (Nat.le_of_ble_eq_true rfl) rfl ?_
  show wp _ _ 100 0 [(0, .ref r0), (1, .ref r1), (2, vI a2), (3, vI a3)] [] _ H _
  refine wp_of e100 c100_0 (rw_aload_n (pc' := 1) (v := .ref r1) rfl rfl rfl ?_)
  refine wp_of e100 c100_1 (xg_R (pc' := 4) lf_4_78 hW g1 sh_27 (by decide) (by decide) ty_27_0 rfl rfl (fun r29449 q29450 g29451 => ?_))
  refine wp_of e100 c100_4 (rw_iload_n (pc' := 5) (z := a2) rfl rfl ?_)
  refine wp_of e100 c100_5 (xa_R (pc' := 6) (by decide) hW g29451 sh_28 (by decide) (ty_28 _) (by omega) (by omega) rfl (fun r29452 q29453 g29454 => ?_))
  refine wp_of e100 c100_6 (rw_astore (pc' := 8) (v := .ref r29452) (L' := [(4, .ref r29452), (0, .ref r0), (1, .ref r1), (2, vI a2), (3, vI a3)]) rfl rfl rfl rfl ?_)
  refine wp_of e100 c100_8 (rw_iconst (pc' := 9) rfl ?_)
  refine wp_of e100 c100_9 (rw_istore (pc' := 11) (z := 0) (L' := [(5, vI 0), (4, .ref r29452), (0, .ref r0), (1, .ref r1), (2, vI a2), (3, vI a3)]) rfl rfl rfl ?_)
  refine wp_of e100 c100_11 (rw_iconst (pc' := 12) rfl ?_)
  refine wp_of e100 c100_12 (rw_istore (pc' := 14) (z := 0) (L' := [(6, vI 0), (5, vI 0), (4, .ref r29452), (0, .ref r0), (1, .ref r1), (2, vI a2), (3, vI a3)]) rfl rfl rfl ?_)
  have lp29677 : ∀ (n29678 : Nat) (v29680 : Int) (v29681 : Int), (0 ≤ v29680 ∧ v29680 ≤ 40) → ((-2147483648) ≤ v29681 ∧ v29681 ≤ 2147483647) → (40 - v29680).toNat = n29678 → wp kt 1 100 14 [(6, vI v29680), (5, vI v29681), (4, .ref r29452), (0, .ref r0), (2, vI a2), (3, vI a3)] [] T H (q_100 r0 r1 a2 a3 T H) := by
    intro n29678
    induction n29678 using Nat.strongRecOn with
    | _ n29678 ih29679 =>
      intro v29680 v29681 b29684 b29685 m29686
      refine wp_of e100 c100_14 (rw_iload (pc' := 16) (z := v29680) rfl rfl ?_)
      refine wp_of e100 c100_16 (rw_aload (pc' := 18) (v := .ref r29452) rfl rfl rfl ?_)
      refine wp_of e100 c100_18 (xg_I (pc' := 21) lf_4_116 hW g29454 sh_35 (by decide) (by decide) ty_35_15 rfl rfl (fun b29687 b29688 => ?_))
      refine wp_of e100 c100_21 (rw_icmp_ge (p1 := 59) (p2 := 24) (by decide) rfl ⟨by omega, by omega⟩ ⟨by omega, by omega⟩ (fun c29689 => ?_) (fun c29689 => ?_))
      · refine wp_of e100 c100_59 (rw_iload (pc' := 61) (z := v29681) rfl rfl ?_)
        exact wp_ireturn e100 c100_61 rfl ⟨rfl, rfl, v29681, rfl, ⟨by omega, by omega⟩⟩
      · refine wp_of e100 c100_24 (rw_aload (pc' := 26) (v := .ref r29452) rfl rfl rfl ?_)
        refine wp_of e100 c100_26 (xg_R (pc' := 29) lf_4_119 hW g29454 sh_35 (by decide) (by decide) ty_35_3 rfl rfl (fun r29690 q29691 g29692 => ?_))
        refine wp_of e100 c100_29 (rw_iload (pc' := 31) (z := v29680) rfl rfl ?_)
        refine wp_of e100 c100_31 (xa_I (so := 0) (pc' := 32) hW g29692 sh_39 (by decide) (ty_39 _) (by omega) (by omega) rfl (fun b29693 b29694 => ?_))
        refine wp_of e100 c100_32 (rw_iload_n (pc' := 33) (z := a3) rfl rfl ?_)
        refine wp_of e100 c100_33 (xc_S (pc' := 36) (as := [vI (H r29690 v29680.toNat), vI a3]) (st := []) (lm_4_122) rfl rfl (Nat.le_of_ble_eq_true rfl) rfl (by decide) (s_36 hW ⟨by omega, by omega⟩ ⟨by omega, by omega⟩) (fun R29695 T29696 H29697 p29698 => ?_))
        obtain ⟨e29699, e29701, z29702, e29700, b29703⟩ := p29698
        subst e29699
        subst e29700
        subst e29701
        show wp _ _ 100 36 [(6, vI v29680), (5, vI v29681), (4, .ref r29452), (0, .ref r0), (2, vI a2), (3, vI a3)] [vI z29702] _ H _
        refine wp_of e100 c100_36 (rw_if_eq (p1 := 53) (p2 := 39) (by decide) rfl ⟨by omega, by omega⟩ (fun c29704 => ?_) (fun c29704 => ?_))
        · refine wp_of e100 c100_53 (rw_iinc (pc' := 56) (z := v29680) (L' := [(6, vI (v29680 + 1)), (5, vI v29681), (4, .ref r29452), (0, .ref r0), (2, vI a2), (3, vI a3)]) rfl rfl rfl rfl ?_)
          refine wp_of e100 c100_56 (rw_goto (p1 := 14) (by decide) ?_)
          exact wp_lc (ks := [6, 5, 4, 0, 2, 3]) (wl_c rfl (wl_c rfl (wl_c rfl (wl_c rfl (wl_c rfl (wl_c rfl wl_n)))))) rfl (by decide) (ih29679 _ (by omega) (v29680 + 1) v29681 ⟨by omega, by omega⟩ ⟨by omega, by omega⟩ rfl)
        · refine wp_of e100 c100_39 (rw_iload (pc' := 41) (z := v29681) rfl rfl ?_)
          refine wp_of e100 c100_41 (rw_aload_n (pc' := 42) (v := .ref r0) rfl rfl rfl ?_)
          refine wp_of e100 c100_42 (xg_R (pc' := 45) lf_4_17 hW g0 sh_12 (by decide) (by decide) ty_12_1 rfl rfl (fun r29705 q29706 g29707 => ?_))
          refine wp_of e100 c100_45 (rw_iload_n (pc' := 46) (z := a2) rfl rfl ?_)
          refine wp_of e100 c100_46 (xa_R (pc' := 47) (by decide) hW g29707 sh_14 (by decide) (ty_14 _) (by omega) (by omega) rfl (fun r29708 q29709 g29710 => ?_))
          refine wp_of e100 c100_47 (rw_iload (pc' := 49) (z := v29680) rfl rfl ?_)
          refine wp_of e100 c100_49 (xa_I (so := 0) (pc' := 50) hW g29710 sh_15 (by decide) (ty_15 _) (by omega) (by omega) rfl (fun b29711 b29712 => ?_))
          refine wp_of e100 c100_50 (rw_iaddw (pc' := 51) rfl ?_)
          obtain ⟨v29713, e29714⟩ : ∃ x : Int, x = wq_w (v29681 + (H r29708 v29680.toNat)) := ⟨_, rfl⟩
          rw [← e29714]
          have b29715 : -2147483648 ≤ v29713 ∧ v29713 ≤ 2147483647 := by
            rw [e29714]
            exact wI_w _
          refine wp_of e100 c100_51 (rw_istore (pc' := 53) (z := v29713) (L' := [(5, vI v29713), (6, vI v29680), (4, .ref r29452), (0, .ref r0), (2, vI a2), (3, vI a3)]) rfl rfl rfl ?_)
          refine wp_of e100 c100_53 (rw_iinc (pc' := 56) (z := v29680) (L' := [(6, vI (v29680 + 1)), (5, vI v29713), (4, .ref r29452), (0, .ref r0), (2, vI a2), (3, vI a3)]) rfl rfl rfl rfl ?_)
          refine wp_of e100 c100_56 (rw_goto (p1 := 14) (by decide) ?_)
          exact wp_lc (ks := [6, 5, 4, 0, 2, 3]) (wl_c rfl (wl_c rfl (wl_c rfl (wl_c rfl (wl_c rfl (wl_c rfl wl_n)))))) rfl (by decide) (ih29679 _ (by omega) (v29680 + 1) v29713 ⟨by omega, by omega⟩ ⟨by omega, by omega⟩ rfl)
  exact wp_lc (ks := [6, 5, 4, 0, 1, 2, 3]) (wl_c rfl (wl_c rfl (wl_c rfl (wl_c rfl (wl_c rfl (wl_c rfl wl_n)))))) rfl (by decide) (lp29677 _ 0 0 ⟨by omega, by omega⟩ ⟨by omega, by omega⟩ rfl)
/-! StrikeAwake.times(II)I -/
theorem e99 : wq_en 99 = some (0, 4, false, some FieldType.int) := rfl
theorem c99_0 : mc_cd 99 0 = some (.aload_n 0, 1) := by decide +kernel
theorem c99_1 : mc_cd 99 1 = some (.aload_n 0, 1) := by decide +kernel
theorem c99_2 : mc_cd 99 2 = some (.iload_n 1, 1) := by decide +kernel
theorem c99_3 : mc_cd 99 3 = some (.invokevirtual 105, 3) := by decide +kernel
theorem c99_6 : mc_cd 99 6 = some (.ifCond .eq 15, 3) := by decide +kernel
theorem c99_9 : mc_cd 99 9 = some (.aload_n 0, 1) := by decide +kernel
theorem c99_10 : mc_cd 99 10 = some (.iload_n 2, 1) := by decide +kernel
theorem c99_11 : mc_cd 99 11 = some (.invokevirtual 132, 3) := by decide +kernel
theorem c99_14 : mc_cd 99 14 = some (.ifCond .eq 7, 3) := by decide +kernel
theorem c99_17 : mc_cd 99 17 = some (.iconst 1, 1) := by decide +kernel
theorem c99_18 : mc_cd 99 18 = some (.goto 4, 3) := by decide +kernel
theorem c99_21 : mc_cd 99 21 = some (.iconst 0, 1) := by decide +kernel
theorem c99_22 : mc_cd 99 22 = some (.invokevirtual 174, 3) := by decide +kernel
theorem c99_25 : mc_cd 99 25 = some (.istore_n 3, 1) := by decide +kernel
theorem c99_26 : mc_cd 99 26 = some (.iload_n 3, 1) := by decide +kernel
theorem c99_27 : mc_cd 99 27 = some (.ifCond .eq 9, 3) := by decide +kernel
theorem c99_30 : mc_cd 99 30 = some (.aload_n 0, 1) := by decide +kernel
theorem c99_31 : mc_cd 99 31 = some (.iload_n 3, 1) := by decide +kernel
theorem c99_32 : mc_cd 99 32 = some (.invokevirtual 70, 3) := by decide +kernel
theorem c99_35 : mc_cd 99 35 = some (.ireturn, 1) := by decide +kernel
theorem c99_36 : mc_cd 99 36 = some (.aload_n 0, 1) := by decide +kernel
theorem c99_37 : mc_cd 99 37 = some (.aload_n 0, 1) := by decide +kernel
theorem c99_38 : mc_cd 99 38 = some (.getfield 30, 3) := by decide +kernel
theorem c99_41 : mc_cd 99 41 = some (.aload_n 0, 1) := by decide +kernel
theorem c99_42 : mc_cd 99 42 = some (.getfield 51, 3) := by decide +kernel
theorem c99_45 : mc_cd 99 45 = some (.iload_n 1, 1) := by decide +kernel
theorem c99_46 : mc_cd 99 46 = some (.iload_n 2, 1) := by decide +kernel
theorem c99_47 : mc_cd 99 47 = some (.invokevirtual 194, 3) := by decide +kernel
theorem c99_50 : mc_cd 99 50 = some (.invokevirtual 99, 3) := by decide +kernel
theorem c99_53 : mc_cd 99 53 = some (.ireturn, 1) := by decide +kernel
abbrev q_99 (r0 : Nat) (a1 : Int) (a2 : Int) (T : wq_T) (H : wq_H) : Option Value → wq_T → wq_H → Prop := fun r T' H' => T = T' ∧ WT T H' ∧ wfr [(12, 5), (12, 6), (12, 7), (12, 8), (12, 9), (1, 10), (6, 5), (8, 999), (10, 999), (15, 999), (9, 999), (18, 999), (19, 999), (7, 999), (11, 999), (17, 999), (13, 999)] T H H' ∧ ∃ z : Int, some (vI z) = r ∧ ((-2147483648) ≤ z ∧ z ≤ 2147483647)
set_option maxHeartbeats 4000000 in
theorem s_99 {kt : Nat → Option mc_E} {T : wq_T} {H : wq_H} {r0 : Nat} {a1 : Int} {a2 : Int} (hW : WT T H) (g0 : T.2.2.2 r0 = some 1) (i1 : (-2147483648) ≤ a1 ∧ a1 ≤ 2147483647) (i2 : (-2147483648) ≤ a2 ∧ a2 ≤ 2147483647) : wpc kt 6 99 [.ref r0, vI a1, vI a2] T H (q_99 r0 a1 a2 T H) := by
  refine wp_enter e99 (Nat.le_of_ble_eq_true rfl) rfl ?_
  have f0 : wfr [(12, 5), (12, 6), (12, 7), (12, 8), (12, 9), (1, 10), (6, 5), (8, 999), (10, 999), (15, 999), (9, 999), (18, 999), (19, 999), (7, 999), (11, 999), (17, 999), (13, 999)] T H H := wfr.rf
  show wp _ _ 99 0 [(0, .ref r0), (1, vI a1), (2, vI a2)] [] _ H _
  refine wp_of e99 c99_0 (rw_aload_n (pc' := 1) (v := .ref r0) rfl rfl rfl ?_)
  refine wp_of e99 c99_1 (rw_aload_n (pc' := 2) (v := .ref r0) rfl rfl rfl ?_)
  refine wp_of e99 c99_2 (rw_iload_n (pc' := 3) (z := a1) rfl rfl ?_)
  refine wp_of e99 c99_3 (xc_V (pc' := 6) (r := r0) (as := [vI a1]) (st := [.ref r0]) (lm_0_105) rfl rfl (Nat.le_of_ble_eq_true rfl) hW g0 sh_1 (by decide) rfl (by decide) (s_55 hW g0 ⟨by omega, by omega⟩) (fun R29836 T29837 H29838 p29839 => ?_))
  obtain ⟨e29840, e29842, z29844, e29841, b29845, p29843⟩ := p29839
  subst e29840
  subst e29841
  subst e29842
  show wp _ _ 99 6 [(0, .ref r0), (1, vI a1), (2, vI a2)] [vI z29844, .ref r0] _ H _
  refine wp_of e99 c99_6 (rw_if_eq (p1 := 21) (p2 := 9) (by decide) rfl ⟨by omega, by omega⟩ (fun c29846 => ?_) (fun c29846 => ?_))
  · refine wp_of e99 c99_21 (rw_iconst (pc' := 22) rfl ?_)
    refine wp_of e99 c99_22 (xc_V (pc' := 25) (r := r0) (as := [vI 0]) (st := []) (lm_0_174) rfl rfl (Nat.le_of_ble_eq_true rfl) hW g0 sh_1 (by decide) rfl (by decide) (s_83 hW g0 ⟨by omega, by omega⟩) (fun R29847 T29848 H29849 p29850 => ?_))
    obtain ⟨e29851, w29853, f29854, z29856, e29852, b29857, p29855⟩ := p29850
    subst e29851
    subst e29852
    have f29858 := f0.tr f29854 rfl
    show wp _ _ 99 25 [(0, .ref r0), (1, vI a1), (2, vI a2)] [vI z29856] _ H29849 _
    refine wp_of e99 c99_25 (rw_istore_n (pc' := 26) (z := z29856) (L' := [(3, vI z29856), (0, .ref r0), (1, vI a1), (2, vI a2)]) rfl rfl rfl ?_)
    refine wp_of e99 c99_26 (rw_iload_n (pc' := 27) (z := z29856) rfl rfl ?_)
    refine wp_of e99 c99_27 (rw_if_eq (p1 := 36) (p2 := 30) (by decide) rfl ⟨by omega, by omega⟩ (fun c29859 => ?_) (fun c29859 => ?_))
    · exfalso
      omega
    · refine wp_of e99 c99_30 (rw_aload_n (pc' := 31) (v := .ref r0) rfl rfl rfl ?_)
      refine wp_of e99 c99_31 (rw_iload_n (pc' := 32) (z := z29856) rfl rfl ?_)
      refine wp_of e99 c99_32 (xc_V (pc' := 35) (r := r0) (as := [vI z29856]) (st := []) (lm_0_70) rfl rfl (Nat.le_of_ble_eq_true rfl) w29853 g0 sh_1 (by decide) rfl (by decide) (s_12 w29853 g0 ⟨by omega, by omega⟩) (fun R29860 T29861 H29862 p29863 => ?_))
      obtain ⟨e29864, w29866, f29867, z29868, e29865, b29869⟩ := p29863
      subst e29864
      subst e29865
      have f29870 := f29858.tr f29867 rfl
      show wp _ _ 99 35 [(3, vI z29856), (0, .ref r0), (1, vI a1), (2, vI a2)] [vI z29868] _ H29862 _
      exact wp_ireturn e99 c99_35 rfl ⟨rfl, w29866, f29870, z29868, rfl, ⟨by omega, by omega⟩⟩
  · refine wp_of e99 c99_9 (rw_aload_n (pc' := 10) (v := .ref r0) rfl rfl rfl ?_)
    refine wp_of e99 c99_10 (rw_iload_n (pc' := 11) (z := a2) rfl rfl ?_)
    refine wp_of e99 c99_11 (xc_V (pc' := 14) (r := r0) (as := [vI a2]) (st := [.ref r0]) (lm_0_132) rfl rfl (Nat.le_of_ble_eq_true rfl) hW g0 sh_1 (by decide) rfl (by decide) (s_60 hW g0 ⟨by omega, by omega⟩) (fun R29871 T29872 H29873 p29874 => ?_))
    obtain ⟨e29875, e29877, z29879, e29876, b29880, p29878⟩ := p29874
    subst e29875
    subst e29876
    subst e29877
    show wp _ _ 99 14 [(0, .ref r0), (1, vI a1), (2, vI a2)] [vI z29879, .ref r0] _ H _
    refine wp_of e99 c99_14 (rw_if_eq (p1 := 21) (p2 := 17) (by decide) rfl ⟨by omega, by omega⟩ (fun c29881 => ?_) (fun c29881 => ?_))
    · refine wp_of e99 c99_21 (rw_iconst (pc' := 22) rfl ?_)
      refine wp_of e99 c99_22 (xc_V (pc' := 25) (r := r0) (as := [vI 0]) (st := []) (lm_0_174) rfl rfl (Nat.le_of_ble_eq_true rfl) hW g0 sh_1 (by decide) rfl (by decide) (s_83 hW g0 ⟨by omega, by omega⟩) (fun R29882 T29883 H29884 p29885 => ?_))
      obtain ⟨e29886, w29888, f29889, z29891, e29887, b29892, p29890⟩ := p29885
      subst e29886
      subst e29887
      have f29893 := f0.tr f29889 rfl
      show wp _ _ 99 25 [(0, .ref r0), (1, vI a1), (2, vI a2)] [vI z29891] _ H29884 _
      refine wp_of e99 c99_25 (rw_istore_n (pc' := 26) (z := z29891) (L' := [(3, vI z29891), (0, .ref r0), (1, vI a1), (2, vI a2)]) rfl rfl rfl ?_)
      refine wp_of e99 c99_26 (rw_iload_n (pc' := 27) (z := z29891) rfl rfl ?_)
      refine wp_of e99 c99_27 (rw_if_eq (p1 := 36) (p2 := 30) (by decide) rfl ⟨by omega, by omega⟩ (fun c29894 => ?_) (fun c29894 => ?_))
      · exfalso
        omega
      · refine wp_of e99 c99_30 (rw_aload_n (pc' := 31) (v := .ref r0) rfl rfl rfl ?_)
        refine wp_of e99 c99_31 (rw_iload_n (pc' := 32) (z := z29891) rfl rfl ?_)
        refine wp_of e99 c99_32 (xc_V (pc' := 35) (r := r0) (as := [vI z29891]) (st := []) (lm_0_70) rfl rfl (Nat.le_of_ble_eq_true rfl) w29888 g0 sh_1 (by decide) rfl (by decide) (s_12 w29888 g0 ⟨by omega, by omega⟩) (fun R29895 T29896 H29897 p29898 => ?_))
        obtain ⟨e29899, w29901, f29902, z29903, e29900, b29904⟩ := p29898
        subst e29899
        subst e29900
        have f29905 := f29893.tr f29902 rfl
        show wp _ _ 99 35 [(3, vI z29891), (0, .ref r0), (1, vI a1), (2, vI a2)] [vI z29903] _ H29897 _
        exact wp_ireturn e99 c99_35 rfl ⟨rfl, w29901, f29905, z29903, rfl, ⟨by omega, by omega⟩⟩
    · refine wp_of e99 c99_17 (rw_iconst (pc' := 18) rfl ?_)
      refine wp_of e99 c99_18 (rw_goto (p1 := 22) (by decide) ?_)
      refine wp_of e99 c99_22 (xc_V (pc' := 25) (r := r0) (as := [vI 1]) (st := []) (lm_0_174) rfl rfl (Nat.le_of_ble_eq_true rfl) hW g0 sh_1 (by decide) rfl (by decide) (s_83 hW g0 ⟨by omega, by omega⟩) (fun R29906 T29907 H29908 p29909 => ?_))
      obtain ⟨e29910, w29912, f29913, z29915, e29911, b29916, p29914⟩ := p29909
      subst e29910
      subst e29911
      have f29917 := f0.tr f29913 rfl
      show wp _ _ 99 25 [(0, .ref r0), (1, vI a1), (2, vI a2)] [vI z29915] _ H29908 _
      refine wp_of e99 c99_25 (rw_istore_n (pc' := 26) (z := z29915) (L' := [(3, vI z29915), (0, .ref r0), (1, vI a1), (2, vI a2)]) rfl rfl rfl ?_)
      refine wp_of e99 c99_26 (rw_iload_n (pc' := 27) (z := z29915) rfl rfl ?_)
      refine wp_of e99 c99_27 (rw_if_eq (p1 := 36) (p2 := 30) (by decide) rfl ⟨by omega, by omega⟩ (fun c29918 => ?_) (fun c29918 => ?_))
      · refine wp_of e99 c99_36 (rw_aload_n (pc' := 37) (v := .ref r0) rfl rfl rfl ?_)
        refine wp_of e99 c99_37 (rw_aload_n (pc' := 38) (v := .ref r0) rfl rfl rfl ?_)
        refine wp_of e99 c99_38 (xg_R (pc' := 41) lf_0_30 w29912 g0 sh_1 (by decide) (by decide) ty_1_3 rfl rfl (fun r29919 q29920 g29921 => ?_))
        refine wp_of e99 c99_41 (rw_aload_n (pc' := 42) (v := .ref r0) rfl rfl rfl ?_)
        refine wp_of e99 c99_42 (xg_R (pc' := 45) lf_0_51 w29912 g0 sh_1 (by decide) (by decide) ty_1_6 rfl rfl (fun r29922 q29923 g29924 => ?_))
        refine wp_of e99 c99_45 (rw_iload_n (pc' := 46) (z := a1) rfl rfl ?_)
        refine wp_of e99 c99_46 (rw_iload_n (pc' := 47) (z := a2) rfl rfl ?_)
        refine wp_of e99 c99_47 (xc_V (pc' := 50) (r := r29919) (as := [.ref r29922, vI a1, vI a2]) (st := [.ref r0]) (lm_0_194) rfl rfl (Nat.le_of_ble_eq_true rfl) w29912 g29921 sh_12 (by decide) rfl (by decide) (s_100 w29912 g29921 g29924 ⟨by omega, by omega⟩ ⟨by omega, by omega⟩) (fun R29925 T29926 H29927 p29928 => ?_))
        obtain ⟨e29929, e29931, z29932, e29930, b29933⟩ := p29928
        subst e29929
        subst e29930
        subst e29931
        show wp _ _ 99 50 [(3, vI z29915), (0, .ref r0), (1, vI a1), (2, vI a2)] [vI z29932, .ref r0] _ H29908 _
        refine wp_of e99 c99_50 (xc_V (pc' := 53) (r := r0) (as := [vI z29932]) (st := []) (lm_0_99) rfl rfl (Nat.le_of_ble_eq_true rfl) w29912 g0 sh_1 (by decide) rfl (by decide) (s_51 w29912 g0 ⟨by omega, by omega⟩) (fun R29934 T29935 H29936 p29937 => ?_))
        obtain ⟨e29938, w29940, f29941, z29942, e29939, b29943⟩ := p29937
        subst e29938
        subst e29939
        have f29944 := f29917.tr f29941 rfl
        show wp _ _ 99 53 [(3, vI z29915), (0, .ref r0), (1, vI a1), (2, vI a2)] [vI z29942] _ H29936 _
        exact wp_ireturn e99 c99_53 rfl ⟨rfl, w29940, f29944, z29942, rfl, ⟨by omega, by omega⟩⟩
      · refine wp_of e99 c99_30 (rw_aload_n (pc' := 31) (v := .ref r0) rfl rfl rfl ?_)
        refine wp_of e99 c99_31 (rw_iload_n (pc' := 32) (z := z29915) rfl rfl ?_)
        refine wp_of e99 c99_32 (xc_V (pc' := 35) (r := r0) (as := [vI z29915]) (st := []) (lm_0_70) rfl rfl (Nat.le_of_ble_eq_true rfl) w29912 g0 sh_1 (by decide) rfl (by decide) (s_12 w29912 g0 ⟨by omega, by omega⟩) (fun R29945 T29946 H29947 p29948 => ?_))
        obtain ⟨e29949, w29951, f29952, z29953, e29950, b29954⟩ := p29948
        subst e29949
        subst e29950
        have f29955 := f29917.tr f29952 rfl
        show wp _ _ 99 35 [(3, vI z29915), (0, .ref r0), (1, vI a1), (2, vI a2)] [vI z29953] _ H29947 _
        exact wp_ireturn e99 c99_35 rfl ⟨rfl, w29951, f29955, z29953, rfl, ⟨by omega, by omega⟩⟩
/-! StrikeAwake.barOfSome(Z)I -/
theorem e102 : wq_en 102 = some (0, 3, false, some FieldType.int) := rfl
theorem c102_0 : mc_cd 102 0 = some (.aload_n 0, 1) := by decide +kernel
theorem c102_1 : mc_cd 102 1 = some (.iload_n 1, 1) := by decide +kernel
theorem c102_2 : mc_cd 102 2 = some (.invokevirtual 174, 3) := by decide +kernel
theorem c102_5 : mc_cd 102 5 = some (.istore_n 2, 1) := by decide +kernel
theorem c102_6 : mc_cd 102 6 = some (.iload_n 2, 1) := by decide +kernel
theorem c102_7 : mc_cd 102 7 = some (.ifCond .ne 18, 3) := by decide +kernel
theorem c102_10 : mc_cd 102 10 = some (.aload_n 0, 1) := by decide +kernel
theorem c102_11 : mc_cd 102 11 = some (.getfield 30, 3) := by decide +kernel
theorem c102_14 : mc_cd 102 14 = some (.getfield 177, 3) := by decide +kernel
theorem c102_17 : mc_cd 102 17 = some (.ifCond .ne 8, 3) := by decide +kernel
theorem c102_20 : mc_cd 102 20 = some (.bipush 6, 2) := by decide +kernel
theorem c102_22 : mc_cd 102 22 = some (.goto 4, 3) := by decide +kernel
theorem c102_25 : mc_cd 102 25 = some (.iload_n 2, 1) := by decide +kernel
theorem c102_26 : mc_cd 102 26 = some (.ireturn, 1) := by decide +kernel
abbrev q_102 (r0 : Nat) (a1 : Int) (T : wq_T) (H : wq_H) : Option Value → wq_T → wq_H → Prop := fun r T' H' => T = T' ∧ WT T H' ∧ wfr [(12, 5), (12, 6), (12, 7), (12, 8), (12, 9), (6, 5), (8, 999), (10, 999), (15, 999), (9, 999), (18, 999), (19, 999), (7, 999), (11, 999), (17, 999), (13, 999)] T H H' ∧ ∃ z : Int, some (vI z) = r ∧ (0 ≤ z ∧ z ≤ 6) ∧ (z ≠ 0 ∨ a1 = 1)
set_option maxHeartbeats 4000000 in
theorem s_102 {kt : Nat → Option mc_E} {T : wq_T} {H : wq_H} {r0 : Nat} {a1 : Int} (hW : WT T H) (g0 : T.2.2.2 r0 = some 1) (i1 : 0 ≤ a1 ∧ a1 ≤ 1) : wpc kt 6 102 [.ref r0, vI a1] T H (q_102 r0 a1 T H) := by
  refine wp_enter e102 (Nat.le_of_ble_eq_true rfl) rfl ?_
  have f0 : wfr [(12, 5), (12, 6), (12, 7), (12, 8), (12, 9), (6, 5), (8, 999), (10, 999), (15, 999), (9, 999), (18, 999), (19, 999), (7, 999), (11, 999), (17, 999), (13, 999)] T H H := wfr.rf
  show wp _ _ 102 0 [(0, .ref r0), (1, vI a1)] [] _ H _
  refine wp_of e102 c102_0 (rw_aload_n (pc' := 1) (v := .ref r0) rfl rfl rfl ?_)
  refine wp_of e102 c102_1 (rw_iload_n (pc' := 2) (z := a1) rfl rfl ?_)
  refine wp_of e102 c102_2 (xc_V (pc' := 5) (r := r0) (as := [vI a1]) (st := []) (lm_0_174) rfl rfl (Nat.le_of_ble_eq_true rfl) hW g0 sh_1 (by decide) rfl (by decide) (s_83 hW g0 ⟨by omega, by omega⟩) (fun R29975 T29976 H29977 p29978 => ?_))
  obtain ⟨e29979, w29981, f29982, z29984, e29980, b29985, p29983⟩ := p29978
  subst e29979
  subst e29980
  have f29986 := f0.tr f29982 rfl
  show wp _ _ 102 5 [(0, .ref r0), (1, vI a1)] [vI z29984] _ H29977 _
  refine wp_of e102 c102_5 (rw_istore_n (pc' := 6) (z := z29984) (L' := [(2, vI z29984), (0, .ref r0), (1, vI a1)]) rfl rfl rfl ?_)
  refine wp_of e102 c102_6 (rw_iload_n (pc' := 7) (z := z29984) rfl rfl ?_)
  refine wp_of e102 c102_7 (rw_if_ne (p1 := 25) (p2 := 10) (by decide) rfl ⟨by omega, by omega⟩ (fun c29987 => ?_) (fun c29987 => ?_))
  · refine wp_of e102 c102_25 (rw_iload_n (pc' := 26) (z := z29984) rfl rfl ?_)
    exact wp_ireturn e102 c102_26 rfl ⟨rfl, w29981, f29986, z29984, rfl, ⟨by omega, by omega⟩, by omega⟩
  · refine wp_of e102 c102_10 (rw_aload_n (pc' := 11) (v := .ref r0) rfl rfl rfl ?_)
    refine wp_of e102 c102_11 (xg_R (pc' := 14) lf_0_30 w29981 g0 sh_1 (by decide) (by decide) ty_1_3 rfl rfl (fun r29988 q29989 g29990 => ?_))
    refine wp_of e102 c102_14 (xg_I (pc' := 17) lf_0_177 w29981 g29990 sh_12 (by decide) (by decide) ty_12_5 rfl rfl (fun b29991 b29992 => ?_))
    refine wp_of e102 c102_17 (rw_if_ne (p1 := 25) (p2 := 20) (by decide) rfl ⟨by omega, by omega⟩ (fun c29993 => ?_) (fun c29993 => ?_))
    · refine wp_of e102 c102_25 (rw_iload_n (pc' := 26) (z := z29984) rfl rfl ?_)
      exact wp_ireturn e102 c102_26 rfl ⟨rfl, w29981, f29986, z29984, rfl, ⟨by omega, by omega⟩, by omega⟩
    · refine wp_of e102 c102_20 (rw_bipush (pc' := 22) (z := 6) rfl (by decide) ?_)
      refine wp_of e102 c102_22 (rw_goto (p1 := 26) (by decide) ?_)
      exact wp_ireturn e102 c102_26 rfl ⟨rfl, w29981, f29986, 6, rfl, ⟨by omega, by omega⟩, by omega⟩
/-! StrikeAwake$Census.sureness(LStrikeAwake$Parish;II)I -/
theorem e103 : wq_en 103 = some (4, 5, false, some FieldType.int) := rfl
theorem c103_0 : mc_cd 103 0 = some (.aload_n 0, 1) := by decide +kernel
theorem c103_1 : mc_cd 103 1 = some (.aload_n 1, 1) := by decide +kernel
theorem c103_2 : mc_cd 103 2 = some (.iload_n 2, 1) := by decide +kernel
theorem c103_3 : mc_cd 103 3 = some (.iload_n 3, 1) := by decide +kernel
theorem c103_4 : mc_cd 103 4 = some (.invokevirtual 126, 3) := by decide +kernel
theorem c103_7 : mc_cd 103 7 = some (.istore 4, 2) := by decide +kernel
theorem c103_9 : mc_cd 103 9 = some (.iload 4, 2) := by decide +kernel
theorem c103_11 : mc_cd 103 11 = some (.ifCond .ne 5, 3) := by decide +kernel
theorem c103_14 : mc_cd 103 14 = some (.iconst 0, 1) := by decide +kernel
theorem c103_15 : mc_cd 103 15 = some (.ireturn, 1) := by decide +kernel
theorem c103_16 : mc_cd 103 16 = some (.iload 4, 2) := by decide +kernel
theorem c103_18 : mc_cd 103 18 = some (.aload_n 0, 1) := by decide +kernel
theorem c103_19 : mc_cd 103 19 = some (.getfield 62, 3) := by decide +kernel
theorem c103_22 : mc_cd 103 22 = some (.if_icmp .ne 7, 3) := by decide +kernel
theorem c103_25 : mc_cd 103 25 = some (.iconst 2, 1) := by decide +kernel
theorem c103_26 : mc_cd 103 26 = some (.goto 4, 3) := by decide +kernel
theorem c103_29 : mc_cd 103 29 = some (.iconst 1, 1) := by decide +kernel
theorem c103_30 : mc_cd 103 30 = some (.ireturn, 1) := by decide +kernel
abbrev q_103 (r0 : Nat) (r1 : Nat) (a2 : Int) (a3 : Int) (T : wq_T) (H : wq_H) : Option Value → wq_T → wq_H → Prop := fun r T' H' => T = T' ∧ H = H' ∧ ∃ z : Int, some (vI z) = r ∧ (0 ≤ z ∧ z ≤ 2)
set_option maxHeartbeats 4000000 in
theorem s_103 {kt : Nat → Option mc_E} {T : wq_T} {H : wq_H} {r0 : Nat} {r1 : Nat} {a2 : Int} {a3 : Int} (hW : WT T H) (g0 : T.2.2.2 r0 = some 12) (g1 : T.2.2.2 r1 = some 27) (i2 : 0 ≤ a2 ∧ a2 ≤ 5) (i3 : (-2147483648) ≤ a3 ∧ a3 ≤ 2147483647) : wpc kt 3 103 [.ref r0, .ref r1, vI a2, vI a3] T H (q_103 r0 r1 a2 a3 T H) := by
  refine wp_enter e103 (Nat.le_of_ble_eq_true rfl) rfl ?_
  show wp _ _ 103 0 [(0, .ref r0), (1, .ref r1), (2, vI a2), (3, vI a3)] [] _ H _
  refine wp_of e103 c103_0 (rw_aload_n (pc' := 1) (v := .ref r0) rfl rfl rfl ?_)
  refine wp_of e103 c103_1 (rw_aload_n (pc' := 2) (v := .ref r1) rfl rfl rfl ?_)
  refine wp_of e103 c103_2 (rw_iload_n (pc' := 3) (z := a2) rfl rfl ?_)
  refine wp_of e103 c103_3 (rw_iload_n (pc' := 4) (z := a3) rfl rfl ?_)
  refine wp_of e103 c103_4 (xc_V (pc' := 7) (r := r0) (as := [.ref r1, vI a2, vI a3]) (st := []) (lm_4_126) rfl rfl (Nat.le_of_ble_eq_true rfl) hW g0 sh_12 (by decide) rfl (by decide) (s_100 hW g0 g1 ⟨by omega, by omega⟩ ⟨by omega, by omega⟩) (fun R30007 T30008 H30009 p30010 => ?_))
  obtain ⟨e30011, e30013, z30014, e30012, b30015⟩ := p30010
  subst e30011
  subst e30012
  subst e30013
  show wp _ _ 103 7 [(0, .ref r0), (1, .ref r1), (2, vI a2), (3, vI a3)] [vI z30014] _ H _
  refine wp_of e103 c103_7 (rw_istore (pc' := 9) (z := z30014) (L' := [(4, vI z30014), (0, .ref r0), (1, .ref r1), (2, vI a2), (3, vI a3)]) rfl rfl rfl ?_)
  refine wp_of e103 c103_9 (rw_iload (pc' := 11) (z := z30014) rfl rfl ?_)
  refine wp_of e103 c103_11 (rw_if_ne (p1 := 16) (p2 := 14) (by decide) rfl ⟨by omega, by omega⟩ (fun c30016 => ?_) (fun c30016 => ?_))
  · refine wp_of e103 c103_16 (rw_iload (pc' := 18) (z := z30014) rfl rfl ?_)
    refine wp_of e103 c103_18 (rw_aload_n (pc' := 19) (v := .ref r0) rfl rfl rfl ?_)
    refine wp_of e103 c103_19 (xg_I (pc' := 22) lf_4_62 hW g0 sh_12 (by decide) (by decide) ty_12_5 rfl rfl (fun b30017 b30018 => ?_))
    refine wp_of e103 c103_22 (rw_icmp_ne (p1 := 29) (p2 := 25) (by decide) rfl ⟨by omega, by omega⟩ ⟨by omega, by omega⟩ (fun c30019 => ?_) (fun c30019 => ?_))
    · refine wp_of e103 c103_29 (rw_iconst (pc' := 30) rfl ?_)
      exact wp_ireturn e103 c103_30 rfl ⟨rfl, rfl, 1, rfl, ⟨by omega, by omega⟩⟩
    · refine wp_of e103 c103_25 (rw_iconst (pc' := 26) rfl ?_)
      refine wp_of e103 c103_26 (rw_goto (p1 := 30) (by decide) ?_)
      exact wp_ireturn e103 c103_30 rfl ⟨rfl, rfl, 2, rfl, ⟨by omega, by omega⟩⟩
  · refine wp_of e103 c103_14 (rw_iconst (pc' := 15) rfl ?_)
    exact wp_ireturn e103 c103_15 rfl ⟨rfl, rfl, 0, rfl, ⟨by omega, by omega⟩⟩
/-! StrikeAwake.sure(II)I -/
theorem e101 : wq_en 101 = some (0, 4, false, some FieldType.int) := rfl
theorem c101_0 : mc_cd 101 0 = some (.aload_n 0, 1) := by decide +kernel
theorem c101_1 : mc_cd 101 1 = some (.aload_n 0, 1) := by decide +kernel
theorem c101_2 : mc_cd 101 2 = some (.iload_n 1, 1) := by decide +kernel
theorem c101_3 : mc_cd 101 3 = some (.invokevirtual 105, 3) := by decide +kernel
theorem c101_6 : mc_cd 101 6 = some (.ifCond .eq 15, 3) := by decide +kernel
theorem c101_9 : mc_cd 101 9 = some (.aload_n 0, 1) := by decide +kernel
theorem c101_10 : mc_cd 101 10 = some (.iload_n 2, 1) := by decide +kernel
theorem c101_11 : mc_cd 101 11 = some (.invokevirtual 132, 3) := by decide +kernel
theorem c101_14 : mc_cd 101 14 = some (.ifCond .eq 7, 3) := by decide +kernel
theorem c101_17 : mc_cd 101 17 = some (.iconst 1, 1) := by decide +kernel
theorem c101_18 : mc_cd 101 18 = some (.goto 4, 3) := by decide +kernel
theorem c101_21 : mc_cd 101 21 = some (.iconst 0, 1) := by decide +kernel
theorem c101_22 : mc_cd 101 22 = some (.invokevirtual 198, 3) := by decide +kernel
theorem c101_25 : mc_cd 101 25 = some (.istore_n 3, 1) := by decide +kernel
theorem c101_26 : mc_cd 101 26 = some (.iload_n 3, 1) := by decide +kernel
theorem c101_27 : mc_cd 101 27 = some (.ifCond .eq 9, 3) := by decide +kernel
theorem c101_30 : mc_cd 101 30 = some (.aload_n 0, 1) := by decide +kernel
theorem c101_31 : mc_cd 101 31 = some (.iload_n 3, 1) := by decide +kernel
theorem c101_32 : mc_cd 101 32 = some (.invokevirtual 70, 3) := by decide +kernel
theorem c101_35 : mc_cd 101 35 = some (.ireturn, 1) := by decide +kernel
theorem c101_36 : mc_cd 101 36 = some (.aload_n 0, 1) := by decide +kernel
theorem c101_37 : mc_cd 101 37 = some (.aload_n 0, 1) := by decide +kernel
theorem c101_38 : mc_cd 101 38 = some (.getfield 30, 3) := by decide +kernel
theorem c101_41 : mc_cd 101 41 = some (.aload_n 0, 1) := by decide +kernel
theorem c101_42 : mc_cd 101 42 = some (.getfield 51, 3) := by decide +kernel
theorem c101_45 : mc_cd 101 45 = some (.iload_n 1, 1) := by decide +kernel
theorem c101_46 : mc_cd 101 46 = some (.iload_n 2, 1) := by decide +kernel
theorem c101_47 : mc_cd 101 47 = some (.invokevirtual 201, 3) := by decide +kernel
theorem c101_50 : mc_cd 101 50 = some (.invokevirtual 99, 3) := by decide +kernel
theorem c101_53 : mc_cd 101 53 = some (.ireturn, 1) := by decide +kernel
abbrev q_101 (r0 : Nat) (a1 : Int) (a2 : Int) (T : wq_T) (H : wq_H) : Option Value → wq_T → wq_H → Prop := fun r T' H' => T = T' ∧ WT T H' ∧ wfr [(12, 5), (12, 6), (12, 7), (12, 8), (12, 9), (1, 10), (6, 5), (8, 999), (10, 999), (15, 999), (9, 999), (18, 999), (19, 999), (7, 999), (11, 999), (17, 999), (13, 999)] T H H' ∧ ∃ z : Int, some (vI z) = r ∧ ((-2147483648) ≤ z ∧ z ≤ 2147483647)
set_option maxHeartbeats 4000000 in
theorem s_101 {kt : Nat → Option mc_E} {T : wq_T} {H : wq_H} {r0 : Nat} {a1 : Int} {a2 : Int} (hW : WT T H) (g0 : T.2.2.2 r0 = some 1) (i1 : (-2147483648) ≤ a1 ∧ a1 ≤ 2147483647) (i2 : (-2147483648) ≤ a2 ∧ a2 ≤ 2147483647) : wpc kt 7 101 [.ref r0, vI a1, vI a2] T H (q_101 r0 a1 a2 T H) := by
  refine wp_enter e101 (Nat.le_of_ble_eq_true rfl) rfl ?_
  have f0 : wfr [(12, 5), (12, 6), (12, 7), (12, 8), (12, 9), (1, 10), (6, 5), (8, 999), (10, 999), (15, 999), (9, 999), (18, 999), (19, 999), (7, 999), (11, 999), (17, 999), (13, 999)] T H H := wfr.rf
  show wp _ _ 101 0 [(0, .ref r0), (1, vI a1), (2, vI a2)] [] _ H _
  refine wp_of e101 c101_0 (rw_aload_n (pc' := 1) (v := .ref r0) rfl rfl rfl ?_)
  refine wp_of e101 c101_1 (rw_aload_n (pc' := 2) (v := .ref r0) rfl rfl rfl ?_)
  refine wp_of e101 c101_2 (rw_iload_n (pc' := 3) (z := a1) rfl rfl ?_)
  refine wp_of e101 c101_3 (xc_V (pc' := 6) (r := r0) (as := [vI a1]) (st := [.ref r0]) (lm_0_105) rfl rfl (Nat.le_of_ble_eq_true rfl) hW g0 sh_1 (by decide) rfl (by decide) (s_55 hW g0 ⟨by omega, by omega⟩) (fun R30140 T30141 H30142 p30143 => ?_))
  obtain ⟨e30144, e30146, z30148, e30145, b30149, p30147⟩ := p30143
  subst e30144
  subst e30145
  subst e30146
  show wp _ _ 101 6 [(0, .ref r0), (1, vI a1), (2, vI a2)] [vI z30148, .ref r0] _ H _
  refine wp_of e101 c101_6 (rw_if_eq (p1 := 21) (p2 := 9) (by decide) rfl ⟨by omega, by omega⟩ (fun c30150 => ?_) (fun c30150 => ?_))
  · refine wp_of e101 c101_21 (rw_iconst (pc' := 22) rfl ?_)
    refine wp_of e101 c101_22 (xc_V (pc' := 25) (r := r0) (as := [vI 0]) (st := []) (lm_0_198) rfl rfl (Nat.le_of_ble_eq_true rfl) hW g0 sh_1 (by decide) rfl (by decide) (s_102 hW g0 ⟨by omega, by omega⟩) (fun R30151 T30152 H30153 p30154 => ?_))
    obtain ⟨e30155, w30157, f30158, z30160, e30156, b30161, p30159⟩ := p30154
    subst e30155
    subst e30156
    have f30162 := f0.tr f30158 rfl
    show wp _ _ 101 25 [(0, .ref r0), (1, vI a1), (2, vI a2)] [vI z30160] _ H30153 _
    refine wp_of e101 c101_25 (rw_istore_n (pc' := 26) (z := z30160) (L' := [(3, vI z30160), (0, .ref r0), (1, vI a1), (2, vI a2)]) rfl rfl rfl ?_)
    refine wp_of e101 c101_26 (rw_iload_n (pc' := 27) (z := z30160) rfl rfl ?_)
    refine wp_of e101 c101_27 (rw_if_eq (p1 := 36) (p2 := 30) (by decide) rfl ⟨by omega, by omega⟩ (fun c30163 => ?_) (fun c30163 => ?_))
    · exfalso
      omega
    · refine wp_of e101 c101_30 (rw_aload_n (pc' := 31) (v := .ref r0) rfl rfl rfl ?_)
      refine wp_of e101 c101_31 (rw_iload_n (pc' := 32) (z := z30160) rfl rfl ?_)
      refine wp_of e101 c101_32 (xc_V (pc' := 35) (r := r0) (as := [vI z30160]) (st := []) (lm_0_70) rfl rfl (Nat.le_of_ble_eq_true rfl) w30157 g0 sh_1 (by decide) rfl (by decide) (s_12 w30157 g0 ⟨by omega, by omega⟩) (fun R30164 T30165 H30166 p30167 => ?_))
      obtain ⟨e30168, w30170, f30171, z30172, e30169, b30173⟩ := p30167
      subst e30168
      subst e30169
      have f30174 := f30162.tr f30171 rfl
      show wp _ _ 101 35 [(3, vI z30160), (0, .ref r0), (1, vI a1), (2, vI a2)] [vI z30172] _ H30166 _
      exact wp_ireturn e101 c101_35 rfl ⟨rfl, w30170, f30174, z30172, rfl, ⟨by omega, by omega⟩⟩
  · refine wp_of e101 c101_9 (rw_aload_n (pc' := 10) (v := .ref r0) rfl rfl rfl ?_)
    refine wp_of e101 c101_10 (rw_iload_n (pc' := 11) (z := a2) rfl rfl ?_)
    refine wp_of e101 c101_11 (xc_V (pc' := 14) (r := r0) (as := [vI a2]) (st := [.ref r0]) (lm_0_132) rfl rfl (Nat.le_of_ble_eq_true rfl) hW g0 sh_1 (by decide) rfl (by decide) (s_60 hW g0 ⟨by omega, by omega⟩) (fun R30175 T30176 H30177 p30178 => ?_))
    obtain ⟨e30179, e30181, z30183, e30180, b30184, p30182⟩ := p30178
    subst e30179
    subst e30180
    subst e30181
    show wp _ _ 101 14 [(0, .ref r0), (1, vI a1), (2, vI a2)] [vI z30183, .ref r0] _ H _
    refine wp_of e101 c101_14 (rw_if_eq (p1 := 21) (p2 := 17) (by decide) rfl ⟨by omega, by omega⟩ (fun c30185 => ?_) (fun c30185 => ?_))
    · refine wp_of e101 c101_21 (rw_iconst (pc' := 22) rfl ?_)
      refine wp_of e101 c101_22 (xc_V (pc' := 25) (r := r0) (as := [vI 0]) (st := []) (lm_0_198) rfl rfl (Nat.le_of_ble_eq_true rfl) hW g0 sh_1 (by decide) rfl (by decide) (s_102 hW g0 ⟨by omega, by omega⟩) (fun R30186 T30187 H30188 p30189 => ?_))
      obtain ⟨e30190, w30192, f30193, z30195, e30191, b30196, p30194⟩ := p30189
      subst e30190
      subst e30191
      have f30197 := f0.tr f30193 rfl
      show wp _ _ 101 25 [(0, .ref r0), (1, vI a1), (2, vI a2)] [vI z30195] _ H30188 _
      refine wp_of e101 c101_25 (rw_istore_n (pc' := 26) (z := z30195) (L' := [(3, vI z30195), (0, .ref r0), (1, vI a1), (2, vI a2)]) rfl rfl rfl ?_)
      refine wp_of e101 c101_26 (rw_iload_n (pc' := 27) (z := z30195) rfl rfl ?_)
      refine wp_of e101 c101_27 (rw_if_eq (p1 := 36) (p2 := 30) (by decide) rfl ⟨by omega, by omega⟩ (fun c30198 => ?_) (fun c30198 => ?_))
      · exfalso
        omega
      · refine wp_of e101 c101_30 (rw_aload_n (pc' := 31) (v := .ref r0) rfl rfl rfl ?_)
        refine wp_of e101 c101_31 (rw_iload_n (pc' := 32) (z := z30195) rfl rfl ?_)
        refine wp_of e101 c101_32 (xc_V (pc' := 35) (r := r0) (as := [vI z30195]) (st := []) (lm_0_70) rfl rfl (Nat.le_of_ble_eq_true rfl) w30192 g0 sh_1 (by decide) rfl (by decide) (s_12 w30192 g0 ⟨by omega, by omega⟩) (fun R30199 T30200 H30201 p30202 => ?_))
        obtain ⟨e30203, w30205, f30206, z30207, e30204, b30208⟩ := p30202
        subst e30203
        subst e30204
        have f30209 := f30197.tr f30206 rfl
        show wp _ _ 101 35 [(3, vI z30195), (0, .ref r0), (1, vI a1), (2, vI a2)] [vI z30207] _ H30201 _
        exact wp_ireturn e101 c101_35 rfl ⟨rfl, w30205, f30209, z30207, rfl, ⟨by omega, by omega⟩⟩
    · refine wp_of e101 c101_17 (rw_iconst (pc' := 18) rfl ?_)
      refine wp_of e101 c101_18 (rw_goto (p1 := 22) (by decide) ?_)
      refine wp_of e101 c101_22 (xc_V (pc' := 25) (r := r0) (as := [vI 1]) (st := []) (lm_0_198) rfl rfl (Nat.le_of_ble_eq_true rfl) hW g0 sh_1 (by decide) rfl (by decide) (s_102 hW g0 ⟨by omega, by omega⟩) (fun R30210 T30211 H30212 p30213 => ?_))
      obtain ⟨e30214, w30216, f30217, z30219, e30215, b30220, p30218⟩ := p30213
      subst e30214
      subst e30215
      have f30221 := f0.tr f30217 rfl
      show wp _ _ 101 25 [(0, .ref r0), (1, vI a1), (2, vI a2)] [vI z30219] _ H30212 _
      refine wp_of e101 c101_25 (rw_istore_n (pc' := 26) (z := z30219) (L' := [(3, vI z30219), (0, .ref r0), (1, vI a1), (2, vI a2)]) rfl rfl rfl ?_)
      refine wp_of e101 c101_26 (rw_iload_n (pc' := 27) (z := z30219) rfl rfl ?_)
      refine wp_of e101 c101_27 (rw_if_eq (p1 := 36) (p2 := 30) (by decide) rfl ⟨by omega, by omega⟩ (fun c30222 => ?_) (fun c30222 => ?_))
      · refine wp_of e101 c101_36 (rw_aload_n (pc' := 37) (v := .ref r0) rfl rfl rfl ?_)
        refine wp_of e101 c101_37 (rw_aload_n (pc' := 38) (v := .ref r0) rfl rfl rfl ?_)
        refine wp_of e101 c101_38 (xg_R (pc' := 41) lf_0_30 w30216 g0 sh_1 (by decide) (by decide) ty_1_3 rfl rfl (fun r30223 q30224 g30225 => ?_))
        refine wp_of e101 c101_41 (rw_aload_n (pc' := 42) (v := .ref r0) rfl rfl rfl ?_)
        refine wp_of e101 c101_42 (xg_R (pc' := 45) lf_0_51 w30216 g0 sh_1 (by decide) (by decide) ty_1_6 rfl rfl (fun r30226 q30227 g30228 => ?_))
        refine wp_of e101 c101_45 (rw_iload_n (pc' := 46) (z := a1) rfl rfl ?_)
        refine wp_of e101 c101_46 (rw_iload_n (pc' := 47) (z := a2) rfl rfl ?_)
        refine wp_of e101 c101_47 (xc_V (pc' := 50) (r := r30223) (as := [.ref r30226, vI a1, vI a2]) (st := [.ref r0]) (lm_0_201) rfl rfl (Nat.le_of_ble_eq_true rfl) w30216 g30225 sh_12 (by decide) rfl (by decide) (s_103 w30216 g30225 g30228 ⟨by omega, by omega⟩ ⟨by omega, by omega⟩) (fun R30229 T30230 H30231 p30232 => ?_))
        obtain ⟨e30233, e30235, z30236, e30234, b30237⟩ := p30232
        subst e30233
        subst e30234
        subst e30235
        show wp _ _ 101 50 [(3, vI z30219), (0, .ref r0), (1, vI a1), (2, vI a2)] [vI z30236, .ref r0] _ H30212 _
        refine wp_of e101 c101_50 (xc_V (pc' := 53) (r := r0) (as := [vI z30236]) (st := []) (lm_0_99) rfl rfl (Nat.le_of_ble_eq_true rfl) w30216 g0 sh_1 (by decide) rfl (by decide) (s_51 w30216 g0 ⟨by omega, by omega⟩) (fun R30238 T30239 H30240 p30241 => ?_))
        obtain ⟨e30242, w30244, f30245, z30246, e30243, b30247⟩ := p30241
        subst e30242
        subst e30243
        have f30248 := f30221.tr f30245 rfl
        show wp _ _ 101 53 [(3, vI z30219), (0, .ref r0), (1, vI a1), (2, vI a2)] [vI z30246] _ H30240 _
        exact wp_ireturn e101 c101_53 rfl ⟨rfl, w30244, f30248, z30246, rfl, ⟨by omega, by omega⟩⟩
      · refine wp_of e101 c101_30 (rw_aload_n (pc' := 31) (v := .ref r0) rfl rfl rfl ?_)
        refine wp_of e101 c101_31 (rw_iload_n (pc' := 32) (z := z30219) rfl rfl ?_)
        refine wp_of e101 c101_32 (xc_V (pc' := 35) (r := r0) (as := [vI z30219]) (st := []) (lm_0_70) rfl rfl (Nat.le_of_ble_eq_true rfl) w30216 g0 sh_1 (by decide) rfl (by decide) (s_12 w30216 g0 ⟨by omega, by omega⟩) (fun R30249 T30250 H30251 p30252 => ?_))
        obtain ⟨e30253, w30255, f30256, z30257, e30254, b30258⟩ := p30252
        subst e30253
        subst e30254
        have f30259 := f30221.tr f30256 rfl
        show wp _ _ 101 35 [(3, vI z30219), (0, .ref r0), (1, vI a1), (2, vI a2)] [vI z30257] _ H30251 _
        exact wp_ireturn e101 c101_35 rfl ⟨rfl, w30255, f30259, z30257, rfl, ⟨by omega, by omega⟩⟩
/-! StrikeAwake.surely(IZ)I -/
theorem e104 : wq_en 104 = some (0, 7, false, some FieldType.int) := rfl
theorem c104_0 : mc_cd 104 0 = some (.aload_n 0, 1) := by decide +kernel
theorem c104_1 : mc_cd 104 1 = some (.aload_n 0, 1) := by decide +kernel
theorem c104_2 : mc_cd 104 2 = some (.iload_n 1, 1) := by decide +kernel
theorem c104_3 : mc_cd 104 3 = some (.invokevirtual 132, 3) := by decide +kernel
theorem c104_6 : mc_cd 104 6 = some (.invokevirtual 198, 3) := by decide +kernel
theorem c104_9 : mc_cd 104 9 = some (.istore_n 3, 1) := by decide +kernel
theorem c104_10 : mc_cd 104 10 = some (.iload_n 3, 1) := by decide +kernel
theorem c104_11 : mc_cd 104 11 = some (.ifCond .eq 9, 3) := by decide +kernel
theorem c104_14 : mc_cd 104 14 = some (.aload_n 0, 1) := by decide +kernel
theorem c104_15 : mc_cd 104 15 = some (.iload_n 3, 1) := by decide +kernel
theorem c104_16 : mc_cd 104 16 = some (.invokevirtual 70, 3) := by decide +kernel
theorem c104_19 : mc_cd 104 19 = some (.ireturn, 1) := by decide +kernel
theorem c104_20 : mc_cd 104 20 = some (.iload_n 2, 1) := by decide +kernel
theorem c104_21 : mc_cd 104 21 = some (.ifCond .eq 7, 3) := by decide +kernel
theorem c104_24 : mc_cd 104 24 = some (.iconst 2, 1) := by decide +kernel
theorem c104_25 : mc_cd 104 25 = some (.goto 4, 3) := by decide +kernel
theorem c104_28 : mc_cd 104 28 = some (.iconst 0, 1) := by decide +kernel
theorem c104_29 : mc_cd 104 29 = some (.istore 4, 2) := by decide +kernel
theorem c104_31 : mc_cd 104 31 = some (.iconst 0, 1) := by decide +kernel
theorem c104_32 : mc_cd 104 32 = some (.istore 5, 2) := by decide +kernel
theorem c104_34 : mc_cd 104 34 = some (.iconst 0, 1) := by decide +kernel
theorem c104_35 : mc_cd 104 35 = some (.istore 6, 2) := by decide +kernel
theorem c104_37 : mc_cd 104 37 = some (.iload 6, 2) := by decide +kernel
theorem c104_39 : mc_cd 104 39 = some (.aload_n 0, 1) := by decide +kernel
theorem c104_40 : mc_cd 104 40 = some (.getfield 51, 3) := by decide +kernel
theorem c104_43 : mc_cd 104 43 = some (.getfield 96, 3) := by decide +kernel
theorem c104_46 : mc_cd 104 46 = some (.if_icmp .ge 37, 3) := by decide +kernel
theorem c104_49 : mc_cd 104 49 = some (.aload_n 0, 1) := by decide +kernel
theorem c104_50 : mc_cd 104 50 = some (.getfield 30, 3) := by decide +kernel
theorem c104_53 : mc_cd 104 53 = some (.aload_n 0, 1) := by decide +kernel
theorem c104_54 : mc_cd 104 54 = some (.getfield 51, 3) := by decide +kernel
theorem c104_57 : mc_cd 104 57 = some (.iload 6, 2) := by decide +kernel
theorem c104_59 : mc_cd 104 59 = some (.iload_n 1, 1) := by decide +kernel
theorem c104_60 : mc_cd 104 60 = some (.invokevirtual 201, 3) := by decide +kernel
theorem c104_63 : mc_cd 104 63 = some (.iload 4, 2) := by decide +kernel
theorem c104_65 : mc_cd 104 65 = some (.if_icmp .ne 12, 3) := by decide +kernel
theorem c104_68 : mc_cd 104 68 = some (.iload 5, 2) := by decide +kernel
theorem c104_70 : mc_cd 104 70 = some (.iconst 1, 1) := by decide +kernel
theorem c104_71 : mc_cd 104 71 = some (.iload 6, 2) := by decide +kernel
theorem c104_73 : mc_cd 104 73 = some (.ishl, 1) := by decide +kernel
theorem c104_74 : mc_cd 104 74 = some (.ior, 1) := by decide +kernel
theorem c104_75 : mc_cd 104 75 = some (.istore 5, 2) := by decide +kernel
theorem c104_77 : mc_cd 104 77 = some (.iinc 6 1, 3) := by decide +kernel
theorem c104_80 : mc_cd 104 80 = some (.goto (-43), 3) := by decide +kernel
theorem c104_83 : mc_cd 104 83 = some (.aload_n 0, 1) := by decide +kernel
theorem c104_84 : mc_cd 104 84 = some (.iload 5, 2) := by decide +kernel
theorem c104_86 : mc_cd 104 86 = some (.invokevirtual 99, 3) := by decide +kernel
theorem c104_89 : mc_cd 104 89 = some (.ireturn, 1) := by decide +kernel
abbrev q_104 (r0 : Nat) (a1 : Int) (a2 : Int) (T : wq_T) (H : wq_H) : Option Value → wq_T → wq_H → Prop := fun r T' H' => T = T' ∧ WT T H' ∧ wfr [(12, 5), (12, 6), (12, 7), (12, 8), (12, 9), (1, 10), (6, 5), (8, 999), (10, 999), (15, 999), (9, 999), (18, 999), (19, 999), (7, 999), (11, 999), (17, 999), (13, 999)] T H H' ∧ ∃ z : Int, some (vI z) = r ∧ ((-2147483648) ≤ z ∧ z ≤ 2147483647)
set_option maxHeartbeats 4000000 in
theorem s_104 {kt : Nat → Option mc_E} {T : wq_T} {H : wq_H} {r0 : Nat} {a1 : Int} {a2 : Int} (hW : WT T H) (g0 : T.2.2.2 r0 = some 1) (i1 : (-2147483648) ≤ a1 ∧ a1 ≤ 2147483647) (i2 : 0 ≤ a2 ∧ a2 ≤ 1) : wpc kt 7 104 [.ref r0, vI a1, vI a2] T H (q_104 r0 a1 a2 T H) := by
  refine wp_enter e104 (Nat.le_of_ble_eq_true rfl) rfl ?_
  have f0 : wfr [(12, 5), (12, 6), (12, 7), (12, 8), (12, 9), (1, 10), (6, 5), (8, 999), (10, 999), (15, 999), (9, 999), (18, 999), (19, 999), (7, 999), (11, 999), (17, 999), (13, 999)] T H H := wfr.rf
  show wp _ _ 104 0 [(0, .ref r0), (1, vI a1), (2, vI a2)] [] _ H _
  refine wp_of e104 c104_0 (rw_aload_n (pc' := 1) (v := .ref r0) rfl rfl rfl ?_)
  refine wp_of e104 c104_1 (rw_aload_n (pc' := 2) (v := .ref r0) rfl rfl rfl ?_)
  refine wp_of e104 c104_2 (rw_iload_n (pc' := 3) (z := a1) rfl rfl ?_)
  refine wp_of e104 c104_3 (xc_V (pc' := 6) (r := r0) (as := [vI a1]) (st := [.ref r0]) (lm_0_132) rfl rfl (Nat.le_of_ble_eq_true rfl) hW g0 sh_1 (by decide) rfl (by decide) (s_60 hW g0 ⟨by omega, by omega⟩) (fun R30687 T30688 H30689 p30690 => ?_))
  obtain ⟨e30691, e30693, z30695, e30692, b30696, p30694⟩ := p30690
  subst e30691
  subst e30692
  subst e30693
  show wp _ _ 104 6 [(0, .ref r0), (1, vI a1), (2, vI a2)] [vI z30695, .ref r0] _ H _
  refine wp_of e104 c104_6 (xc_V (pc' := 9) (r := r0) (as := [vI z30695]) (st := []) (lm_0_198) rfl rfl (Nat.le_of_ble_eq_true rfl) hW g0 sh_1 (by decide) rfl (by decide) (s_102 hW g0 ⟨by omega, by omega⟩) (fun R30697 T30698 H30699 p30700 => ?_))
  obtain ⟨e30701, w30703, f30704, z30706, e30702, b30707, p30705⟩ := p30700
  subst e30701
  subst e30702
  have f30708 := f0.tr f30704 rfl
  show wp _ _ 104 9 [(0, .ref r0), (1, vI a1), (2, vI a2)] [vI z30706] _ H30699 _
  refine wp_of e104 c104_9 (rw_istore_n (pc' := 10) (z := z30706) (L' := [(3, vI z30706), (0, .ref r0), (1, vI a1), (2, vI a2)]) rfl rfl rfl ?_)
  refine wp_of e104 c104_10 (rw_iload_n (pc' := 11) (z := z30706) rfl rfl ?_)
  refine wp_of e104 c104_11 (rw_if_eq (p1 := 20) (p2 := 14) (by decide) rfl ⟨by omega, by omega⟩ (fun c30709 => ?_) (fun c30709 => ?_))
  · refine wp_of e104 c104_20 (rw_iload_n (pc' := 21) (z := a2) rfl rfl ?_)
    refine wp_of e104 c104_21 (rw_if_eq (p1 := 28) (p2 := 24) (by decide) rfl ⟨by omega, by omega⟩ (fun c30710 => ?_) (fun c30710 => ?_))
    · refine wp_of e104 c104_28 (rw_iconst (pc' := 29) rfl ?_)
      refine wp_of e104 c104_29 (rw_istore (pc' := 31) (z := 0) (L' := [(4, vI 0), (3, vI z30706), (0, .ref r0), (1, vI a1), (2, vI a2)]) rfl rfl rfl ?_)
      refine wp_of e104 c104_31 (rw_iconst (pc' := 32) rfl ?_)
      refine wp_of e104 c104_32 (rw_istore (pc' := 34) (z := 0) (L' := [(5, vI 0), (4, vI 0), (3, vI z30706), (0, .ref r0), (1, vI a1), (2, vI a2)]) rfl rfl rfl ?_)
      refine wp_of e104 c104_34 (rw_iconst (pc' := 35) rfl ?_)
      refine wp_of e104 c104_35 (rw_istore (pc' := 37) (z := 0) (L' := [(6, vI 0), (5, vI 0), (4, vI 0), (3, vI z30706), (0, .ref r0), (1, vI a1), (2, vI a2)]) rfl rfl rfl ?_)
      have lp30872 : ∀ (n30873 : Nat) (v30875 : Int) (v30876 : Int), (0 ≤ v30875 ∧ v30875 ≤ 6) → ((-2147483648) ≤ v30876 ∧ v30876 ≤ 2147483647) → (6 - v30875).toNat = n30873 → wp kt 6 104 37 [(6, vI v30875), (5, vI v30876), (4, vI 0), (0, .ref r0), (1, vI a1)] [] T H30699 (q_104 r0 a1 a2 T H) := by
        intro n30873
        induction n30873 using Nat.strongRecOn with
        | _ n30873 ih30874 =>
          intro v30875 v30876 b30879 b30880 m30881
          refine wp_of e104 c104_37 (rw_iload (pc' := 39) (z := v30875) rfl rfl ?_)
          refine wp_of e104 c104_39 (rw_aload_n (pc' := 40) (v := .ref r0) rfl rfl rfl ?_)
          refine wp_of e104 c104_40 (xg_R (pc' := 43) lf_0_51 w30703 g0 sh_1 (by decide) (by decide) ty_1_6 rfl rfl (fun r30882 q30883 g30884 => ?_))
          refine wp_of e104 c104_43 (xg_I (pc' := 46) lf_0_96 w30703 g30884 sh_27 (by decide) (by decide) ty_27_10 rfl rfl (fun b30885 b30886 => ?_))
          refine wp_of e104 c104_46 (rw_icmp_ge (p1 := 83) (p2 := 49) (by decide) rfl ⟨by omega, by omega⟩ ⟨by omega, by omega⟩ (fun c30887 => ?_) (fun c30887 => ?_))
          · refine wp_of e104 c104_83 (rw_aload_n (pc' := 84) (v := .ref r0) rfl rfl rfl ?_)
            refine wp_of e104 c104_84 (rw_iload (pc' := 86) (z := v30876) rfl rfl ?_)
            refine wp_of e104 c104_86 (xc_V (pc' := 89) (r := r0) (as := [vI v30876]) (st := []) (lm_0_99) rfl rfl (Nat.le_of_ble_eq_true rfl) w30703 g0 sh_1 (by decide) rfl (by decide) (s_51 w30703 g0 ⟨by omega, by omega⟩) (fun R30888 T30889 H30890 p30891 => ?_))
            obtain ⟨e30892, w30894, f30895, z30896, e30893, b30897⟩ := p30891
            subst e30892
            subst e30893
            have f30898 := f30708.tr f30895 rfl
            show wp _ _ 104 89 [(6, vI v30875), (5, vI v30876), (4, vI 0), (0, .ref r0), (1, vI a1)] [vI z30896] _ H30890 _
            exact wp_ireturn e104 c104_89 rfl ⟨rfl, w30894, f30898, z30896, rfl, ⟨by omega, by omega⟩⟩
          · refine wp_of e104 c104_49 (rw_aload_n (pc' := 50) (v := .ref r0) rfl rfl rfl ?_)
            refine wp_of e104 c104_50 (xg_R (pc' := 53) lf_0_30 w30703 g0 sh_1 (by decide) (by decide) ty_1_3 rfl rfl (fun r30899 q30900 g30901 => ?_))
            refine wp_of e104 c104_53 (rw_aload_n (pc' := 54) (v := .ref r0) rfl rfl rfl ?_)
            refine wp_of e104 c104_54 (xg_K (pc' := 57) lf_0_51 w30703 g0 sh_1 (by decide) (by decide) rfl q30883 rfl ?_)
            refine wp_of e104 c104_57 (rw_iload (pc' := 59) (z := v30875) rfl rfl ?_)
            refine wp_of e104 c104_59 (rw_iload_n (pc' := 60) (z := a1) rfl rfl ?_)
            refine wp_of e104 c104_60 (xc_V (pc' := 63) (r := r30899) (as := [.ref r30882, vI v30875, vI a1]) (st := []) (lm_0_201) rfl rfl (Nat.le_of_ble_eq_true rfl) w30703 g30901 sh_12 (by decide) rfl (by decide) (s_103 w30703 g30901 g30884 ⟨by omega, by omega⟩ ⟨by omega, by omega⟩) (fun R30902 T30903 H30904 p30905 => ?_))
            obtain ⟨e30906, e30908, z30909, e30907, b30910⟩ := p30905
            subst e30906
            subst e30907
            subst e30908
            show wp _ _ 104 63 [(6, vI v30875), (5, vI v30876), (4, vI 0), (0, .ref r0), (1, vI a1)] [vI z30909] _ H30699 _
            refine wp_of e104 c104_63 (rw_iload (pc' := 65) (z := 0) rfl rfl ?_)
            refine wp_of e104 c104_65 (rw_icmp_ne (p1 := 77) (p2 := 68) (by decide) rfl ⟨by omega, by omega⟩ ⟨by omega, by omega⟩ (fun c30911 => ?_) (fun c30911 => ?_))
            · refine wp_of e104 c104_77 (rw_iinc (pc' := 80) (z := v30875) (L' := [(6, vI (v30875 + 1)), (5, vI v30876), (4, vI 0), (0, .ref r0), (1, vI a1)]) rfl rfl rfl rfl ?_)
              refine wp_of e104 c104_80 (rw_goto (p1 := 37) (by decide) ?_)
              exact wp_lc (ks := [6, 5, 4, 0, 1]) (wl_c rfl (wl_c rfl (wl_c rfl (wl_c rfl (wl_c rfl wl_n))))) rfl (by decide) (ih30874 _ (by omega) (v30875 + 1) v30876 ⟨by omega, by omega⟩ ⟨by omega, by omega⟩ rfl)
            · refine wp_of e104 c104_68 (rw_iload (pc' := 70) (z := v30876) rfl rfl ?_)
              refine wp_of e104 c104_70 (rw_iconst (pc' := 71) rfl ?_)
              refine wp_of e104 c104_71 (rw_iload (pc' := 73) (z := v30875) rfl rfl ?_)
              refine wp_of e104 c104_73 (rw_ishl (pc' := 74) rfl ?_)
              obtain ⟨v30912, e30913⟩ : ∃ x : Int, x = wq_shl 1 v30875 := ⟨_, rfl⟩
              rw [← e30913]
              have b30914 : -2147483648 ≤ v30912 ∧ v30912 ≤ 2147483647 := by
                rw [e30913]
                exact wI_shl _ _
              refine wp_of e104 c104_74 (rw_ior (pc' := 75) rfl ?_)
              obtain ⟨v30915, e30916⟩ : ∃ x : Int, x = wq_or v30876 v30912 := ⟨_, rfl⟩
              rw [← e30916]
              have b30917 : -2147483648 ≤ v30915 ∧ v30915 ≤ 2147483647 := by
                rw [e30916]
                exact wI_or _ _
              refine wp_of e104 c104_75 (rw_istore (pc' := 77) (z := v30915) (L' := [(5, vI v30915), (6, vI v30875), (4, vI 0), (0, .ref r0), (1, vI a1)]) rfl rfl rfl ?_)
              refine wp_of e104 c104_77 (rw_iinc (pc' := 80) (z := v30875) (L' := [(6, vI (v30875 + 1)), (5, vI v30915), (4, vI 0), (0, .ref r0), (1, vI a1)]) rfl rfl rfl rfl ?_)
              refine wp_of e104 c104_80 (rw_goto (p1 := 37) (by decide) ?_)
              exact wp_lc (ks := [6, 5, 4, 0, 1]) (wl_c rfl (wl_c rfl (wl_c rfl (wl_c rfl (wl_c rfl wl_n))))) rfl (by decide) (ih30874 _ (by omega) (v30875 + 1) v30915 ⟨by omega, by omega⟩ ⟨by omega, by omega⟩ rfl)
      exact wp_lc (ks := [6, 5, 4, 3, 0, 1, 2]) (wl_c rfl (wl_c rfl (wl_c rfl (wl_c rfl (wl_c rfl wl_n))))) rfl (by decide) (lp30872 _ 0 0 ⟨by omega, by omega⟩ ⟨by omega, by omega⟩ rfl)
    · refine wp_of e104 c104_24 (rw_iconst (pc' := 25) rfl ?_)
      refine wp_of e104 c104_25 (rw_goto (p1 := 29) (by decide) ?_)
      refine wp_of e104 c104_29 (rw_istore (pc' := 31) (z := 2) (L' := [(4, vI 2), (3, vI z30706), (0, .ref r0), (1, vI a1), (2, vI a2)]) rfl rfl rfl ?_)
      refine wp_of e104 c104_31 (rw_iconst (pc' := 32) rfl ?_)
      refine wp_of e104 c104_32 (rw_istore (pc' := 34) (z := 0) (L' := [(5, vI 0), (4, vI 2), (3, vI z30706), (0, .ref r0), (1, vI a1), (2, vI a2)]) rfl rfl rfl ?_)
      refine wp_of e104 c104_34 (rw_iconst (pc' := 35) rfl ?_)
      refine wp_of e104 c104_35 (rw_istore (pc' := 37) (z := 0) (L' := [(6, vI 0), (5, vI 0), (4, vI 2), (3, vI z30706), (0, .ref r0), (1, vI a1), (2, vI a2)]) rfl rfl rfl ?_)
      have lp31079 : ∀ (n31080 : Nat) (v31082 : Int) (v31083 : Int), (0 ≤ v31082 ∧ v31082 ≤ 6) → ((-2147483648) ≤ v31083 ∧ v31083 ≤ 2147483647) → (6 - v31082).toNat = n31080 → wp kt 6 104 37 [(6, vI v31082), (5, vI v31083), (4, vI 2), (0, .ref r0), (1, vI a1)] [] T H30699 (q_104 r0 a1 a2 T H) := by
        intro n31080
        induction n31080 using Nat.strongRecOn with
        | _ n31080 ih31081 =>
          intro v31082 v31083 b31086 b31087 m31088
          refine wp_of e104 c104_37 (rw_iload (pc' := 39) (z := v31082) rfl rfl ?_)
          refine wp_of e104 c104_39 (rw_aload_n (pc' := 40) (v := .ref r0) rfl rfl rfl ?_)
          refine wp_of e104 c104_40 (xg_R (pc' := 43) lf_0_51 w30703 g0 sh_1 (by decide) (by decide) ty_1_6 rfl rfl (fun r31089 q31090 g31091 => ?_))
          refine wp_of e104 c104_43 (xg_I (pc' := 46) lf_0_96 w30703 g31091 sh_27 (by decide) (by decide) ty_27_10 rfl rfl (fun b31092 b31093 => ?_))
          refine wp_of e104 c104_46 (rw_icmp_ge (p1 := 83) (p2 := 49) (by decide) rfl ⟨by omega, by omega⟩ ⟨by omega, by omega⟩ (fun c31094 => ?_) (fun c31094 => ?_))
          · refine wp_of e104 c104_83 (rw_aload_n (pc' := 84) (v := .ref r0) rfl rfl rfl ?_)
            refine wp_of e104 c104_84 (rw_iload (pc' := 86) (z := v31083) rfl rfl ?_)
            refine wp_of e104 c104_86 (xc_V (pc' := 89) (r := r0) (as := [vI v31083]) (st := []) (lm_0_99) rfl rfl (Nat.le_of_ble_eq_true rfl) w30703 g0 sh_1 (by decide) rfl (by decide) (s_51 w30703 g0 ⟨by omega, by omega⟩) (fun R31095 T31096 H31097 p31098 => ?_))
            obtain ⟨e31099, w31101, f31102, z31103, e31100, b31104⟩ := p31098
            subst e31099
            subst e31100
            have f31105 := f30708.tr f31102 rfl
            show wp _ _ 104 89 [(6, vI v31082), (5, vI v31083), (4, vI 2), (0, .ref r0), (1, vI a1)] [vI z31103] _ H31097 _
            exact wp_ireturn e104 c104_89 rfl ⟨rfl, w31101, f31105, z31103, rfl, ⟨by omega, by omega⟩⟩
          · refine wp_of e104 c104_49 (rw_aload_n (pc' := 50) (v := .ref r0) rfl rfl rfl ?_)
            refine wp_of e104 c104_50 (xg_R (pc' := 53) lf_0_30 w30703 g0 sh_1 (by decide) (by decide) ty_1_3 rfl rfl (fun r31106 q31107 g31108 => ?_))
            refine wp_of e104 c104_53 (rw_aload_n (pc' := 54) (v := .ref r0) rfl rfl rfl ?_)
            refine wp_of e104 c104_54 (xg_K (pc' := 57) lf_0_51 w30703 g0 sh_1 (by decide) (by decide) rfl q31090 rfl ?_)
            refine wp_of e104 c104_57 (rw_iload (pc' := 59) (z := v31082) rfl rfl ?_)
            refine wp_of e104 c104_59 (rw_iload_n (pc' := 60) (z := a1) rfl rfl ?_)
            refine wp_of e104 c104_60 (xc_V (pc' := 63) (r := r31106) (as := [.ref r31089, vI v31082, vI a1]) (st := []) (lm_0_201) rfl rfl (Nat.le_of_ble_eq_true rfl) w30703 g31108 sh_12 (by decide) rfl (by decide) (s_103 w30703 g31108 g31091 ⟨by omega, by omega⟩ ⟨by omega, by omega⟩) (fun R31109 T31110 H31111 p31112 => ?_))
            obtain ⟨e31113, e31115, z31116, e31114, b31117⟩ := p31112
            subst e31113
            subst e31114
            subst e31115
            show wp _ _ 104 63 [(6, vI v31082), (5, vI v31083), (4, vI 2), (0, .ref r0), (1, vI a1)] [vI z31116] _ H30699 _
            refine wp_of e104 c104_63 (rw_iload (pc' := 65) (z := 2) rfl rfl ?_)
            refine wp_of e104 c104_65 (rw_icmp_ne (p1 := 77) (p2 := 68) (by decide) rfl ⟨by omega, by omega⟩ ⟨by omega, by omega⟩ (fun c31118 => ?_) (fun c31118 => ?_))
            · refine wp_of e104 c104_77 (rw_iinc (pc' := 80) (z := v31082) (L' := [(6, vI (v31082 + 1)), (5, vI v31083), (4, vI 2), (0, .ref r0), (1, vI a1)]) rfl rfl rfl rfl ?_)
              refine wp_of e104 c104_80 (rw_goto (p1 := 37) (by decide) ?_)
              exact wp_lc (ks := [6, 5, 4, 0, 1]) (wl_c rfl (wl_c rfl (wl_c rfl (wl_c rfl (wl_c rfl wl_n))))) rfl (by decide) (ih31081 _ (by omega) (v31082 + 1) v31083 ⟨by omega, by omega⟩ ⟨by omega, by omega⟩ rfl)
            · refine wp_of e104 c104_68 (rw_iload (pc' := 70) (z := v31083) rfl rfl ?_)
              refine wp_of e104 c104_70 (rw_iconst (pc' := 71) rfl ?_)
              refine wp_of e104 c104_71 (rw_iload (pc' := 73) (z := v31082) rfl rfl ?_)
              refine wp_of e104 c104_73 (rw_ishl (pc' := 74) rfl ?_)
              obtain ⟨v31119, e31120⟩ : ∃ x : Int, x = wq_shl 1 v31082 := ⟨_, rfl⟩
              rw [← e31120]
              have b31121 : -2147483648 ≤ v31119 ∧ v31119 ≤ 2147483647 := by
                rw [e31120]
                exact wI_shl _ _
              refine wp_of e104 c104_74 (rw_ior (pc' := 75) rfl ?_)
              obtain ⟨v31122, e31123⟩ : ∃ x : Int, x = wq_or v31083 v31119 := ⟨_, rfl⟩
              rw [← e31123]
              have b31124 : -2147483648 ≤ v31122 ∧ v31122 ≤ 2147483647 := by
                rw [e31123]
                exact wI_or _ _
              refine wp_of e104 c104_75 (rw_istore (pc' := 77) (z := v31122) (L' := [(5, vI v31122), (6, vI v31082), (4, vI 2), (0, .ref r0), (1, vI a1)]) rfl rfl rfl ?_)
              refine wp_of e104 c104_77 (rw_iinc (pc' := 80) (z := v31082) (L' := [(6, vI (v31082 + 1)), (5, vI v31122), (4, vI 2), (0, .ref r0), (1, vI a1)]) rfl rfl rfl rfl ?_)
              refine wp_of e104 c104_80 (rw_goto (p1 := 37) (by decide) ?_)
              exact wp_lc (ks := [6, 5, 4, 0, 1]) (wl_c rfl (wl_c rfl (wl_c rfl (wl_c rfl (wl_c rfl wl_n))))) rfl (by decide) (ih31081 _ (by omega) (v31082 + 1) v31122 ⟨by omega, by omega⟩ ⟨by omega, by omega⟩ rfl)
      exact wp_lc (ks := [6, 5, 4, 3, 0, 1, 2]) (wl_c rfl (wl_c rfl (wl_c rfl (wl_c rfl (wl_c rfl wl_n))))) rfl (by decide) (lp31079 _ 0 0 ⟨by omega, by omega⟩ ⟨by omega, by omega⟩ rfl)
  · refine wp_of e104 c104_14 (rw_aload_n (pc' := 15) (v := .ref r0) rfl rfl rfl ?_)
    refine wp_of e104 c104_15 (rw_iload_n (pc' := 16) (z := z30706) rfl rfl ?_)
    refine wp_of e104 c104_16 (xc_V (pc' := 19) (r := r0) (as := [vI z30706]) (st := []) (lm_0_70) rfl rfl (Nat.le_of_ble_eq_true rfl) w30703 g0 sh_1 (by decide) rfl (by decide) (s_12 w30703 g0 ⟨by omega, by omega⟩) (fun R31125 T31126 H31127 p31128 => ?_))
    obtain ⟨e31129, w31131, f31132, z31133, e31130, b31134⟩ := p31128
    subst e31129
    subst e31130
    have f31135 := f30708.tr f31132 rfl
    show wp _ _ 104 19 [(3, vI z30706), (0, .ref r0), (1, vI a1), (2, vI a2)] [vI z31133] _ H31127 _
    exact wp_ireturn e104 c104_19 rfl ⟨rfl, w31131, f31135, z31133, rfl, ⟨by omega, by omega⟩⟩
/-! StrikeAwake$Census.hundredthsAwake(LStrikeAwake$Parish;II)I -/
theorem e106 : wq_en 106 = some (4, 8, false, some FieldType.int) := rfl
theorem c106_0 : mc_cd 106 0 = some (.aload_n 1, 1) := by decide +kernel
theorem c106_1 : mc_cd 106 1 = some (.getfield 78, 3) := by decide +kernel
theorem c106_4 : mc_cd 106 4 = some (.iload_n 2, 1) := by decide +kernel
theorem c106_5 : mc_cd 106 5 = some (.aaload, 1) := by decide +kernel
theorem c106_6 : mc_cd 106 6 = some (.astore 4, 2) := by decide +kernel
theorem c106_8 : mc_cd 106 8 = some (.lconst 0, 1) := by decide +kernel
theorem c106_9 : mc_cd 106 9 = some (.lstore 5, 2) := by decide +kernel
theorem c106_11 : mc_cd 106 11 = some (.iconst 0, 1) := by decide +kernel
theorem c106_12 : mc_cd 106 12 = some (.istore 7, 2) := by decide +kernel
theorem c106_14 : mc_cd 106 14 = some (.iload 7, 2) := by decide +kernel
theorem c106_16 : mc_cd 106 16 = some (.aload 4, 2) := by decide +kernel
theorem c106_18 : mc_cd 106 18 = some (.getfield 116, 3) := by decide +kernel
theorem c106_21 : mc_cd 106 21 = some (.if_icmp .ge 38, 3) := by decide +kernel
theorem c106_24 : mc_cd 106 24 = some (.aload 4, 2) := by decide +kernel
theorem c106_26 : mc_cd 106 26 = some (.getfield 119, 3) := by decide +kernel
theorem c106_29 : mc_cd 106 29 = some (.iload 7, 2) := by decide +kernel
theorem c106_31 : mc_cd 106 31 = some (.iaload, 1) := by decide +kernel
theorem c106_32 : mc_cd 106 32 = some (.iload_n 3, 1) := by decide +kernel
theorem c106_33 : mc_cd 106 33 = some (.invokestatic 122, 3) := by decide +kernel
theorem c106_36 : mc_cd 106 36 = some (.ifCond .eq 17, 3) := by decide +kernel
theorem c106_39 : mc_cd 106 39 = some (.lload 5, 2) := by decide +kernel
theorem c106_41 : mc_cd 106 41 = some (.aload_n 0, 1) := by decide +kernel
theorem c106_42 : mc_cd 106 42 = some (.getfield 22, 3) := by decide +kernel
theorem c106_45 : mc_cd 106 45 = some (.iload_n 2, 1) := by decide +kernel
theorem c106_46 : mc_cd 106 46 = some (.aaload, 1) := by decide +kernel
theorem c106_47 : mc_cd 106 47 = some (.iload 7, 2) := by decide +kernel
theorem c106_49 : mc_cd 106 49 = some (.laload, 1) := by decide +kernel
theorem c106_50 : mc_cd 106 50 = some (.ladd, 1) := by decide +kernel
theorem c106_51 : mc_cd 106 51 = some (.lstore 5, 2) := by decide +kernel
theorem c106_53 : mc_cd 106 53 = some (.iinc 7 1, 3) := by decide +kernel
theorem c106_56 : mc_cd 106 56 = some (.goto (-42), 3) := by decide +kernel
theorem c106_59 : mc_cd 106 59 = some (.aload_n 0, 1) := by decide +kernel
theorem c106_60 : mc_cd 106 60 = some (.getfield 66, 3) := by decide +kernel
theorem c106_63 : mc_cd 106 63 = some (.lconst 0, 1) := by decide +kernel
theorem c106_64 : mc_cd 106 64 = some (.lcmp, 1) := by decide +kernel
theorem c106_65 : mc_cd 106 65 = some (.ifCond .le 18, 3) := by decide +kernel
theorem c106_68 : mc_cd 106 68 = some (.lload 5, 2) := by decide +kernel
theorem c106_70 : mc_cd 106 70 = some (.ldc2_w 130, 3) := by decide +kernel
theorem c106_73 : mc_cd 106 73 = some (.lmul, 1) := by decide +kernel
theorem c106_74 : mc_cd 106 74 = some (.aload_n 0, 1) := by decide +kernel
theorem c106_75 : mc_cd 106 75 = some (.getfield 66, 3) := by decide +kernel
theorem c106_78 : mc_cd 106 78 = some (.ldiv, 1) := by decide +kernel
theorem c106_79 : mc_cd 106 79 = some (.l2i, 1) := by decide +kernel
theorem c106_80 : mc_cd 106 80 = some (.goto 4, 3) := by decide +kernel
theorem c106_83 : mc_cd 106 83 = some (.iconst 0, 1) := by decide +kernel
theorem c106_84 : mc_cd 106 84 = some (.ireturn, 1) := by decide +kernel
abbrev q_106 (r0 : Nat) (r1 : Nat) (a2 : Int) (a3 : Int) (T : wq_T) (H : wq_H) : Option Value → wq_T → wq_H → Prop := fun r T' H' => T = T' ∧ H = H' ∧ ∃ z : Int, some (vI z) = r ∧ ((-2147483648) ≤ z ∧ z ≤ 2147483647)
set_option maxHeartbeats 4000000 in
theorem s_106 {kt : Nat → Option mc_E} {T : wq_T} {H : wq_H} {r0 : Nat} {r1 : Nat} {a2 : Int} {a3 : Int} (hW : WT T H) (g0 : T.2.2.2 r0 = some 12) (g1 : T.2.2.2 r1 = some 27) (i2 : 0 ≤ a2 ∧ a2 ≤ 5) (i3 : (-2147483648) ≤ a3 ∧ a3 ≤ 2147483647) : wpc kt 2 106 [.ref r0, .ref r1, vI a2, vI a3] T H (q_106 r0 r1 a2 a3 T H) := by
  refine wp_enter e106 (Nat.le_of_ble_eq_true rfl) rfl ?_
  show wp _ _ 106 0 [(0, .ref r0), (1, .ref r1), (2, vI a2), (3, vI a3)] [] _ H _
  refine wp_of e106 c106_0 (rw_aload_n (pc' := 1) (v := .ref r1) rfl rfl rfl ?_)
  refine wp_of e106 c106_1 (xg_R (pc' := 4) lf_4_78 hW g1 sh_27 (by decide) (by decide) ty_27_0 rfl rfl (fun r31405 q31406 g31407 => ?_))
  refine wp_of e106 c106_4 (rw_iload_n (pc' := 5) (z := a2) rfl rfl ?_)
  refine wp_of e106 c106_5 (xa_R (pc' := 6) (by decide) hW g31407 sh_28 (by decide) (ty_28 _) (by omega) (by omega) rfl (fun r31408 q31409 g31410 => ?_))
  refine wp_of e106 c106_6 (rw_astore (pc' := 8) (v := .ref r31408) (L' := [(4, .ref r31408), (0, .ref r0), (1, .ref r1), (2, vI a2), (3, vI a3)]) rfl rfl rfl rfl ?_)
  refine wp_of e106 c106_8 (rw_lconst (pc' := 9) (z := 0) rfl rfl ?_)
  refine wp_of e106 c106_9 (rw_lstore (pc' := 11) (z := 0) (L' := [(5, vL 0), (4, .ref r31408), (0, .ref r0), (1, .ref r1), (2, vI a2), (3, vI a3)]) rfl rfl rfl ?_)
  refine wp_of e106 c106_11 (rw_iconst (pc' := 12) rfl ?_)
  refine wp_of e106 c106_12 (rw_istore (pc' := 14) (z := 0) (L' := [(7, vI 0), (5, vL 0), (4, .ref r31408), (0, .ref r0), (1, .ref r1), (2, vI a2), (3, vI a3)]) rfl rfl rfl ?_)
  have lp31633 : ∀ (n31634 : Nat) (v31636 : Int) (v31637 : Int), (0 ≤ v31636 ∧ v31636 ≤ 40) → ((-9223372036854775808) ≤ v31637 ∧ v31637 ≤ 9223372036854775807) → (40 - v31636).toNat = n31634 → wp kt 1 106 14 [(7, vI v31636), (5, vL v31637), (4, .ref r31408), (0, .ref r0), (2, vI a2), (3, vI a3)] [] T H (q_106 r0 r1 a2 a3 T H) := by
    intro n31634
    induction n31634 using Nat.strongRecOn with
    | _ n31634 ih31635 =>
      intro v31636 v31637 b31640 b31641 m31642
      refine wp_of e106 c106_14 (rw_iload (pc' := 16) (z := v31636) rfl rfl ?_)
      refine wp_of e106 c106_16 (rw_aload (pc' := 18) (v := .ref r31408) rfl rfl rfl ?_)
      refine wp_of e106 c106_18 (xg_I (pc' := 21) lf_4_116 hW g31410 sh_35 (by decide) (by decide) ty_35_15 rfl rfl (fun b31643 b31644 => ?_))
      refine wp_of e106 c106_21 (rw_icmp_ge (p1 := 59) (p2 := 24) (by decide) rfl ⟨by omega, by omega⟩ ⟨by omega, by omega⟩ (fun c31645 => ?_) (fun c31645 => ?_))
      · refine wp_of e106 c106_59 (rw_aload_n (pc' := 60) (v := .ref r0) rfl rfl rfl ?_)
        refine wp_of e106 c106_60 (xg_L (pc' := 63) lf_4_66 hW g0 sh_12 (by decide) (by decide) ty_12_6 rfl rfl (fun b31646 b31647 => ?_))
        refine wp_of e106 c106_63 (rw_lconst (pc' := 64) (z := 0) rfl rfl ?_)
        refine wp_of e106 c106_64 (rw_lcmp (pc' := 65) rfl ⟨by omega, by omega⟩ ⟨by omega, by omega⟩ ?_)
        have b31648 := wq_cmp_b (H r0 6) 0
        refine wp_of e106 c106_65 (rw_if_le (p1 := 83) (p2 := 68) (by decide) rfl ⟨by omega, by omega⟩ (fun c31649 => ?_) (fun c31649 => ?_))
        · refine wp_of e106 c106_83 (rw_iconst (pc' := 84) rfl ?_)
          exact wp_ireturn e106 c106_84 rfl ⟨rfl, rfl, 0, rfl, ⟨by omega, by omega⟩⟩
        · refine wp_of e106 c106_68 (rw_lload (pc' := 70) (z := v31637) rfl rfl ?_)
          refine wp_of e106 c106_70 (rw_ldc2 (pc' := 73) (z := 100) rfl rfl rfl ?_)
          refine wp_of e106 c106_73 (rw_lmulw (pc' := 74) rfl ?_)
          obtain ⟨v31650, e31651⟩ : ∃ x : Int, x = wl_w (v31637 * 100) := ⟨_, rfl⟩
          rw [← e31651]
          have b31652 : -9223372036854775808 ≤ v31650 ∧ v31650 ≤ 9223372036854775807 := by
            rw [e31651]
            exact wL_w _
          refine wp_of e106 c106_74 (rw_aload_n (pc' := 75) (v := .ref r0) rfl rfl rfl ?_)
          refine wp_of e106 c106_75 (xg_L (pc' := 78) lf_4_66 hW g0 sh_12 (by decide) (by decide) ty_12_6 rfl rfl (fun b31653 b31654 => ?_))
          refine wp_of e106 c106_78 (rw_ldiv (pc' := 79) rfl ⟨by omega, by omega⟩ (by omega) ?_)
          obtain ⟨v31655, e31656⟩ : ∃ x : Int, x = wl_div v31650 (H r0 6) := ⟨_, rfl⟩
          rw [← e31656]
          have b31657 : -9223372036854775808 ≤ v31655 ∧ v31655 ≤ 9223372036854775807 := by
            rw [e31656]
            exact wL_div _ _
          refine wp_of e106 c106_79 (rw_l2i (pc' := 80) rfl ?_)
          obtain ⟨v31658, e31659⟩ : ∃ x : Int, x = wq_w v31655 := ⟨_, rfl⟩
          rw [← e31659]
          have b31660 : -2147483648 ≤ v31658 ∧ v31658 ≤ 2147483647 := by
            rw [e31659]
            exact wI_w _
          refine wp_of e106 c106_80 (rw_goto (p1 := 84) (by decide) ?_)
          exact wp_ireturn e106 c106_84 rfl ⟨rfl, rfl, v31658, rfl, ⟨by omega, by omega⟩⟩
      · refine wp_of e106 c106_24 (rw_aload (pc' := 26) (v := .ref r31408) rfl rfl rfl ?_)
        refine wp_of e106 c106_26 (xg_R (pc' := 29) lf_4_119 hW g31410 sh_35 (by decide) (by decide) ty_35_3 rfl rfl (fun r31661 q31662 g31663 => ?_))
        refine wp_of e106 c106_29 (rw_iload (pc' := 31) (z := v31636) rfl rfl ?_)
        refine wp_of e106 c106_31 (xa_I (so := 0) (pc' := 32) hW g31663 sh_39 (by decide) (ty_39 _) (by omega) (by omega) rfl (fun b31664 b31665 => ?_))
        refine wp_of e106 c106_32 (rw_iload_n (pc' := 33) (z := a3) rfl rfl ?_)
        refine wp_of e106 c106_33 (xc_S (pc' := 36) (as := [vI (H r31661 v31636.toNat), vI a3]) (st := []) (lm_4_122) rfl rfl (Nat.le_of_ble_eq_true rfl) rfl (by decide) (s_36 hW ⟨by omega, by omega⟩ ⟨by omega, by omega⟩) (fun R31666 T31667 H31668 p31669 => ?_))
        obtain ⟨e31670, e31672, z31673, e31671, b31674⟩ := p31669
        subst e31670
        subst e31671
        subst e31672
        show wp _ _ 106 36 [(7, vI v31636), (5, vL v31637), (4, .ref r31408), (0, .ref r0), (2, vI a2), (3, vI a3)] [vI z31673] _ H _
        refine wp_of e106 c106_36 (rw_if_eq (p1 := 53) (p2 := 39) (by decide) rfl ⟨by omega, by omega⟩ (fun c31675 => ?_) (fun c31675 => ?_))
        · refine wp_of e106 c106_53 (rw_iinc (pc' := 56) (z := v31636) (L' := [(7, vI (v31636 + 1)), (5, vL v31637), (4, .ref r31408), (0, .ref r0), (2, vI a2), (3, vI a3)]) rfl rfl rfl rfl ?_)
          refine wp_of e106 c106_56 (rw_goto (p1 := 14) (by decide) ?_)
          exact wp_lc (ks := [7, 5, 4, 0, 2, 3]) (wl_c rfl (wl_c rfl (wl_c rfl (wl_c rfl (wl_c rfl (wl_c rfl wl_n)))))) rfl (by decide) (ih31635 _ (by omega) (v31636 + 1) v31637 ⟨by omega, by omega⟩ ⟨by omega, by omega⟩ rfl)
        · refine wp_of e106 c106_39 (rw_lload (pc' := 41) (z := v31637) rfl rfl ?_)
          refine wp_of e106 c106_41 (rw_aload_n (pc' := 42) (v := .ref r0) rfl rfl rfl ?_)
          refine wp_of e106 c106_42 (xg_R (pc' := 45) lf_4_22 hW g0 sh_12 (by decide) (by decide) ty_12_2 rfl rfl (fun r31676 q31677 g31678 => ?_))
          refine wp_of e106 c106_45 (rw_iload_n (pc' := 46) (z := a2) rfl rfl ?_)
          refine wp_of e106 c106_46 (xa_R (pc' := 47) (by decide) hW g31678 sh_16 (by decide) (ty_16 _) (by omega) (by omega) rfl (fun r31679 q31680 g31681 => ?_))
          refine wp_of e106 c106_47 (rw_iload (pc' := 49) (z := v31636) rfl rfl ?_)
          refine wp_of e106 c106_49 (xa_L (pc' := 50) hW g31681 sh_17 (by decide) (ty_17 _) (by omega) (by omega) rfl (fun b31682 b31683 => ?_))
          refine wp_of e106 c106_50 (rw_laddw (pc' := 51) rfl ?_)
          obtain ⟨v31684, e31685⟩ : ∃ x : Int, x = wl_w (v31637 + (H r31679 v31636.toNat)) := ⟨_, rfl⟩
          rw [← e31685]
          have b31686 : -9223372036854775808 ≤ v31684 ∧ v31684 ≤ 9223372036854775807 := by
            rw [e31685]
            exact wL_w _
          refine wp_of e106 c106_51 (rw_lstore (pc' := 53) (z := v31684) (L' := [(5, vL v31684), (7, vI v31636), (4, .ref r31408), (0, .ref r0), (2, vI a2), (3, vI a3)]) rfl rfl rfl ?_)
          refine wp_of e106 c106_53 (rw_iinc (pc' := 56) (z := v31636) (L' := [(7, vI (v31636 + 1)), (5, vL v31684), (4, .ref r31408), (0, .ref r0), (2, vI a2), (3, vI a3)]) rfl rfl rfl rfl ?_)
          refine wp_of e106 c106_56 (rw_goto (p1 := 14) (by decide) ?_)
          exact wp_lc (ks := [7, 5, 4, 0, 2, 3]) (wl_c rfl (wl_c rfl (wl_c rfl (wl_c rfl (wl_c rfl (wl_c rfl wl_n)))))) rfl (by decide) (ih31635 _ (by omega) (v31636 + 1) v31684 ⟨by omega, by omega⟩ ⟨by omega, by omega⟩ rfl)
  exact wp_lc (ks := [7, 5, 4, 0, 1, 2, 3]) (wl_c rfl (wl_c rfl (wl_c rfl (wl_c rfl (wl_c rfl (wl_c rfl wl_n)))))) rfl (by decide) (lp31633 _ 0 0 ⟨by omega, by omega⟩ ⟨by omega, by omega⟩ rfl)
/-! StrikeAwake.chance(II)I -/
theorem e105 : wq_en 105 = some (0, 4, false, some FieldType.int) := rfl
theorem c105_0 : mc_cd 105 0 = some (.aload_n 0, 1) := by decide +kernel
theorem c105_1 : mc_cd 105 1 = some (.aload_n 0, 1) := by decide +kernel
theorem c105_2 : mc_cd 105 2 = some (.iload_n 1, 1) := by decide +kernel
theorem c105_3 : mc_cd 105 3 = some (.invokevirtual 105, 3) := by decide +kernel
theorem c105_6 : mc_cd 105 6 = some (.ifCond .eq 15, 3) := by decide +kernel
theorem c105_9 : mc_cd 105 9 = some (.aload_n 0, 1) := by decide +kernel
theorem c105_10 : mc_cd 105 10 = some (.iload_n 2, 1) := by decide +kernel
theorem c105_11 : mc_cd 105 11 = some (.invokevirtual 132, 3) := by decide +kernel
theorem c105_14 : mc_cd 105 14 = some (.ifCond .eq 7, 3) := by decide +kernel
theorem c105_17 : mc_cd 105 17 = some (.iconst 1, 1) := by decide +kernel
theorem c105_18 : mc_cd 105 18 = some (.goto 4, 3) := by decide +kernel
theorem c105_21 : mc_cd 105 21 = some (.iconst 0, 1) := by decide +kernel
theorem c105_22 : mc_cd 105 22 = some (.invokevirtual 198, 3) := by decide +kernel
theorem c105_25 : mc_cd 105 25 = some (.istore_n 3, 1) := by decide +kernel
theorem c105_26 : mc_cd 105 26 = some (.iload_n 3, 1) := by decide +kernel
theorem c105_27 : mc_cd 105 27 = some (.ifCond .eq 9, 3) := by decide +kernel
theorem c105_30 : mc_cd 105 30 = some (.aload_n 0, 1) := by decide +kernel
theorem c105_31 : mc_cd 105 31 = some (.iload_n 3, 1) := by decide +kernel
theorem c105_32 : mc_cd 105 32 = some (.invokevirtual 70, 3) := by decide +kernel
theorem c105_35 : mc_cd 105 35 = some (.ireturn, 1) := by decide +kernel
theorem c105_36 : mc_cd 105 36 = some (.aload_n 0, 1) := by decide +kernel
theorem c105_37 : mc_cd 105 37 = some (.aload_n 0, 1) := by decide +kernel
theorem c105_38 : mc_cd 105 38 = some (.getfield 30, 3) := by decide +kernel
theorem c105_41 : mc_cd 105 41 = some (.aload_n 0, 1) := by decide +kernel
theorem c105_42 : mc_cd 105 42 = some (.getfield 51, 3) := by decide +kernel
theorem c105_45 : mc_cd 105 45 = some (.iload_n 1, 1) := by decide +kernel
theorem c105_46 : mc_cd 105 46 = some (.iload_n 2, 1) := by decide +kernel
theorem c105_47 : mc_cd 105 47 = some (.invokevirtual 204, 3) := by decide +kernel
theorem c105_50 : mc_cd 105 50 = some (.invokevirtual 99, 3) := by decide +kernel
theorem c105_53 : mc_cd 105 53 = some (.ireturn, 1) := by decide +kernel
abbrev q_105 (r0 : Nat) (a1 : Int) (a2 : Int) (T : wq_T) (H : wq_H) : Option Value → wq_T → wq_H → Prop := fun r T' H' => T = T' ∧ WT T H' ∧ wfr [(12, 5), (12, 6), (12, 7), (12, 8), (12, 9), (1, 10), (6, 5), (8, 999), (10, 999), (15, 999), (9, 999), (18, 999), (19, 999), (7, 999), (11, 999), (17, 999), (13, 999)] T H H' ∧ ∃ z : Int, some (vI z) = r ∧ ((-2147483648) ≤ z ∧ z ≤ 2147483647)
set_option maxHeartbeats 4000000 in
theorem s_105 {kt : Nat → Option mc_E} {T : wq_T} {H : wq_H} {r0 : Nat} {a1 : Int} {a2 : Int} (hW : WT T H) (g0 : T.2.2.2 r0 = some 1) (i1 : (-2147483648) ≤ a1 ∧ a1 ≤ 2147483647) (i2 : (-2147483648) ≤ a2 ∧ a2 ≤ 2147483647) : wpc kt 7 105 [.ref r0, vI a1, vI a2] T H (q_105 r0 a1 a2 T H) := by
  refine wp_enter e105 (Nat.le_of_ble_eq_true rfl) rfl ?_
  have f0 : wfr [(12, 5), (12, 6), (12, 7), (12, 8), (12, 9), (1, 10), (6, 5), (8, 999), (10, 999), (15, 999), (9, 999), (18, 999), (19, 999), (7, 999), (11, 999), (17, 999), (13, 999)] T H H := wfr.rf
  show wp _ _ 105 0 [(0, .ref r0), (1, vI a1), (2, vI a2)] [] _ H _
  refine wp_of e105 c105_0 (rw_aload_n (pc' := 1) (v := .ref r0) rfl rfl rfl ?_)
  refine wp_of e105 c105_1 (rw_aload_n (pc' := 2) (v := .ref r0) rfl rfl rfl ?_)
  refine wp_of e105 c105_2 (rw_iload_n (pc' := 3) (z := a1) rfl rfl ?_)
  refine wp_of e105 c105_3 (xc_V (pc' := 6) (r := r0) (as := [vI a1]) (st := [.ref r0]) (lm_0_105) rfl rfl (Nat.le_of_ble_eq_true rfl) hW g0 sh_1 (by decide) rfl (by decide) (s_55 hW g0 ⟨by omega, by omega⟩) (fun R31807 T31808 H31809 p31810 => ?_))
  obtain ⟨e31811, e31813, z31815, e31812, b31816, p31814⟩ := p31810
  subst e31811
  subst e31812
  subst e31813
  show wp _ _ 105 6 [(0, .ref r0), (1, vI a1), (2, vI a2)] [vI z31815, .ref r0] _ H _
  refine wp_of e105 c105_6 (rw_if_eq (p1 := 21) (p2 := 9) (by decide) rfl ⟨by omega, by omega⟩ (fun c31817 => ?_) (fun c31817 => ?_))
  · refine wp_of e105 c105_21 (rw_iconst (pc' := 22) rfl ?_)
    refine wp_of e105 c105_22 (xc_V (pc' := 25) (r := r0) (as := [vI 0]) (st := []) (lm_0_198) rfl rfl (Nat.le_of_ble_eq_true rfl) hW g0 sh_1 (by decide) rfl (by decide) (s_102 hW g0 ⟨by omega, by omega⟩) (fun R31818 T31819 H31820 p31821 => ?_))
    obtain ⟨e31822, w31824, f31825, z31827, e31823, b31828, p31826⟩ := p31821
    subst e31822
    subst e31823
    have f31829 := f0.tr f31825 rfl
    show wp _ _ 105 25 [(0, .ref r0), (1, vI a1), (2, vI a2)] [vI z31827] _ H31820 _
    refine wp_of e105 c105_25 (rw_istore_n (pc' := 26) (z := z31827) (L' := [(3, vI z31827), (0, .ref r0), (1, vI a1), (2, vI a2)]) rfl rfl rfl ?_)
    refine wp_of e105 c105_26 (rw_iload_n (pc' := 27) (z := z31827) rfl rfl ?_)
    refine wp_of e105 c105_27 (rw_if_eq (p1 := 36) (p2 := 30) (by decide) rfl ⟨by omega, by omega⟩ (fun c31830 => ?_) (fun c31830 => ?_))
    · exfalso
      omega
    · refine wp_of e105 c105_30 (rw_aload_n (pc' := 31) (v := .ref r0) rfl rfl rfl ?_)
      refine wp_of e105 c105_31 (rw_iload_n (pc' := 32) (z := z31827) rfl rfl ?_)
      refine wp_of e105 c105_32 (xc_V (pc' := 35) (r := r0) (as := [vI z31827]) (st := []) (lm_0_70) rfl rfl (Nat.le_of_ble_eq_true rfl) w31824 g0 sh_1 (by decide) rfl (by decide) (s_12 w31824 g0 ⟨by omega, by omega⟩) (fun R31831 T31832 H31833 p31834 => ?_))
      obtain ⟨e31835, w31837, f31838, z31839, e31836, b31840⟩ := p31834
      subst e31835
      subst e31836
      have f31841 := f31829.tr f31838 rfl
      show wp _ _ 105 35 [(3, vI z31827), (0, .ref r0), (1, vI a1), (2, vI a2)] [vI z31839] _ H31833 _
      exact wp_ireturn e105 c105_35 rfl ⟨rfl, w31837, f31841, z31839, rfl, ⟨by omega, by omega⟩⟩
  · refine wp_of e105 c105_9 (rw_aload_n (pc' := 10) (v := .ref r0) rfl rfl rfl ?_)
    refine wp_of e105 c105_10 (rw_iload_n (pc' := 11) (z := a2) rfl rfl ?_)
    refine wp_of e105 c105_11 (xc_V (pc' := 14) (r := r0) (as := [vI a2]) (st := [.ref r0]) (lm_0_132) rfl rfl (Nat.le_of_ble_eq_true rfl) hW g0 sh_1 (by decide) rfl (by decide) (s_60 hW g0 ⟨by omega, by omega⟩) (fun R31842 T31843 H31844 p31845 => ?_))
    obtain ⟨e31846, e31848, z31850, e31847, b31851, p31849⟩ := p31845
    subst e31846
    subst e31847
    subst e31848
    show wp _ _ 105 14 [(0, .ref r0), (1, vI a1), (2, vI a2)] [vI z31850, .ref r0] _ H _
    refine wp_of e105 c105_14 (rw_if_eq (p1 := 21) (p2 := 17) (by decide) rfl ⟨by omega, by omega⟩ (fun c31852 => ?_) (fun c31852 => ?_))
    · refine wp_of e105 c105_21 (rw_iconst (pc' := 22) rfl ?_)
      refine wp_of e105 c105_22 (xc_V (pc' := 25) (r := r0) (as := [vI 0]) (st := []) (lm_0_198) rfl rfl (Nat.le_of_ble_eq_true rfl) hW g0 sh_1 (by decide) rfl (by decide) (s_102 hW g0 ⟨by omega, by omega⟩) (fun R31853 T31854 H31855 p31856 => ?_))
      obtain ⟨e31857, w31859, f31860, z31862, e31858, b31863, p31861⟩ := p31856
      subst e31857
      subst e31858
      have f31864 := f0.tr f31860 rfl
      show wp _ _ 105 25 [(0, .ref r0), (1, vI a1), (2, vI a2)] [vI z31862] _ H31855 _
      refine wp_of e105 c105_25 (rw_istore_n (pc' := 26) (z := z31862) (L' := [(3, vI z31862), (0, .ref r0), (1, vI a1), (2, vI a2)]) rfl rfl rfl ?_)
      refine wp_of e105 c105_26 (rw_iload_n (pc' := 27) (z := z31862) rfl rfl ?_)
      refine wp_of e105 c105_27 (rw_if_eq (p1 := 36) (p2 := 30) (by decide) rfl ⟨by omega, by omega⟩ (fun c31865 => ?_) (fun c31865 => ?_))
      · exfalso
        omega
      · refine wp_of e105 c105_30 (rw_aload_n (pc' := 31) (v := .ref r0) rfl rfl rfl ?_)
        refine wp_of e105 c105_31 (rw_iload_n (pc' := 32) (z := z31862) rfl rfl ?_)
        refine wp_of e105 c105_32 (xc_V (pc' := 35) (r := r0) (as := [vI z31862]) (st := []) (lm_0_70) rfl rfl (Nat.le_of_ble_eq_true rfl) w31859 g0 sh_1 (by decide) rfl (by decide) (s_12 w31859 g0 ⟨by omega, by omega⟩) (fun R31866 T31867 H31868 p31869 => ?_))
        obtain ⟨e31870, w31872, f31873, z31874, e31871, b31875⟩ := p31869
        subst e31870
        subst e31871
        have f31876 := f31864.tr f31873 rfl
        show wp _ _ 105 35 [(3, vI z31862), (0, .ref r0), (1, vI a1), (2, vI a2)] [vI z31874] _ H31868 _
        exact wp_ireturn e105 c105_35 rfl ⟨rfl, w31872, f31876, z31874, rfl, ⟨by omega, by omega⟩⟩
    · refine wp_of e105 c105_17 (rw_iconst (pc' := 18) rfl ?_)
      refine wp_of e105 c105_18 (rw_goto (p1 := 22) (by decide) ?_)
      refine wp_of e105 c105_22 (xc_V (pc' := 25) (r := r0) (as := [vI 1]) (st := []) (lm_0_198) rfl rfl (Nat.le_of_ble_eq_true rfl) hW g0 sh_1 (by decide) rfl (by decide) (s_102 hW g0 ⟨by omega, by omega⟩) (fun R31877 T31878 H31879 p31880 => ?_))
      obtain ⟨e31881, w31883, f31884, z31886, e31882, b31887, p31885⟩ := p31880
      subst e31881
      subst e31882
      have f31888 := f0.tr f31884 rfl
      show wp _ _ 105 25 [(0, .ref r0), (1, vI a1), (2, vI a2)] [vI z31886] _ H31879 _
      refine wp_of e105 c105_25 (rw_istore_n (pc' := 26) (z := z31886) (L' := [(3, vI z31886), (0, .ref r0), (1, vI a1), (2, vI a2)]) rfl rfl rfl ?_)
      refine wp_of e105 c105_26 (rw_iload_n (pc' := 27) (z := z31886) rfl rfl ?_)
      refine wp_of e105 c105_27 (rw_if_eq (p1 := 36) (p2 := 30) (by decide) rfl ⟨by omega, by omega⟩ (fun c31889 => ?_) (fun c31889 => ?_))
      · refine wp_of e105 c105_36 (rw_aload_n (pc' := 37) (v := .ref r0) rfl rfl rfl ?_)
        refine wp_of e105 c105_37 (rw_aload_n (pc' := 38) (v := .ref r0) rfl rfl rfl ?_)
        refine wp_of e105 c105_38 (xg_R (pc' := 41) lf_0_30 w31883 g0 sh_1 (by decide) (by decide) ty_1_3 rfl rfl (fun r31890 q31891 g31892 => ?_))
        refine wp_of e105 c105_41 (rw_aload_n (pc' := 42) (v := .ref r0) rfl rfl rfl ?_)
        refine wp_of e105 c105_42 (xg_R (pc' := 45) lf_0_51 w31883 g0 sh_1 (by decide) (by decide) ty_1_6 rfl rfl (fun r31893 q31894 g31895 => ?_))
        refine wp_of e105 c105_45 (rw_iload_n (pc' := 46) (z := a1) rfl rfl ?_)
        refine wp_of e105 c105_46 (rw_iload_n (pc' := 47) (z := a2) rfl rfl ?_)
        refine wp_of e105 c105_47 (xc_V (pc' := 50) (r := r31890) (as := [.ref r31893, vI a1, vI a2]) (st := [.ref r0]) (lm_0_204) rfl rfl (Nat.le_of_ble_eq_true rfl) w31883 g31892 sh_12 (by decide) rfl (by decide) (s_106 w31883 g31892 g31895 ⟨by omega, by omega⟩ ⟨by omega, by omega⟩) (fun R31896 T31897 H31898 p31899 => ?_))
        obtain ⟨e31900, e31902, z31903, e31901, b31904⟩ := p31899
        subst e31900
        subst e31901
        subst e31902
        show wp _ _ 105 50 [(3, vI z31886), (0, .ref r0), (1, vI a1), (2, vI a2)] [vI z31903, .ref r0] _ H31879 _
        refine wp_of e105 c105_50 (xc_V (pc' := 53) (r := r0) (as := [vI z31903]) (st := []) (lm_0_99) rfl rfl (Nat.le_of_ble_eq_true rfl) w31883 g0 sh_1 (by decide) rfl (by decide) (s_51 w31883 g0 ⟨by omega, by omega⟩) (fun R31905 T31906 H31907 p31908 => ?_))
        obtain ⟨e31909, w31911, f31912, z31913, e31910, b31914⟩ := p31908
        subst e31909
        subst e31910
        have f31915 := f31888.tr f31912 rfl
        show wp _ _ 105 53 [(3, vI z31886), (0, .ref r0), (1, vI a1), (2, vI a2)] [vI z31913] _ H31907 _
        exact wp_ireturn e105 c105_53 rfl ⟨rfl, w31911, f31915, z31913, rfl, ⟨by omega, by omega⟩⟩
      · refine wp_of e105 c105_30 (rw_aload_n (pc' := 31) (v := .ref r0) rfl rfl rfl ?_)
        refine wp_of e105 c105_31 (rw_iload_n (pc' := 32) (z := z31886) rfl rfl ?_)
        refine wp_of e105 c105_32 (xc_V (pc' := 35) (r := r0) (as := [vI z31886]) (st := []) (lm_0_70) rfl rfl (Nat.le_of_ble_eq_true rfl) w31883 g0 sh_1 (by decide) rfl (by decide) (s_12 w31883 g0 ⟨by omega, by omega⟩) (fun R31916 T31917 H31918 p31919 => ?_))
        obtain ⟨e31920, w31922, f31923, z31924, e31921, b31925⟩ := p31919
        subst e31920
        subst e31921
        have f31926 := f31888.tr f31923 rfl
        show wp _ _ 105 35 [(3, vI z31886), (0, .ref r0), (1, vI a1), (2, vI a2)] [vI z31924] _ H31918 _
        exact wp_ireturn e105 c105_35 rfl ⟨rfl, w31922, f31926, z31924, rfl, ⟨by omega, by omega⟩⟩
/-! StrikeAwake.likeliest(I)I -/
theorem e107 : wq_en 107 = some (0, 3, false, some FieldType.int) := rfl
theorem c107_0 : mc_cd 107 0 = some (.aload_n 0, 1) := by decide +kernel
theorem c107_1 : mc_cd 107 1 = some (.aload_n 0, 1) := by decide +kernel
theorem c107_2 : mc_cd 107 2 = some (.iload_n 1, 1) := by decide +kernel
theorem c107_3 : mc_cd 107 3 = some (.invokevirtual 105, 3) := by decide +kernel
theorem c107_6 : mc_cd 107 6 = some (.invokevirtual 198, 3) := by decide +kernel
theorem c107_9 : mc_cd 107 9 = some (.istore_n 2, 1) := by decide +kernel
theorem c107_10 : mc_cd 107 10 = some (.iload_n 2, 1) := by decide +kernel
theorem c107_11 : mc_cd 107 11 = some (.ifCond .eq 9, 3) := by decide +kernel
theorem c107_14 : mc_cd 107 14 = some (.aload_n 0, 1) := by decide +kernel
theorem c107_15 : mc_cd 107 15 = some (.iload_n 2, 1) := by decide +kernel
theorem c107_16 : mc_cd 107 16 = some (.invokevirtual 70, 3) := by decide +kernel
theorem c107_19 : mc_cd 107 19 = some (.ireturn, 1) := by decide +kernel
theorem c107_20 : mc_cd 107 20 = some (.aload_n 0, 1) := by decide +kernel
theorem c107_21 : mc_cd 107 21 = some (.aload_n 0, 1) := by decide +kernel
theorem c107_22 : mc_cd 107 22 = some (.getfield 51, 3) := by decide +kernel
theorem c107_25 : mc_cd 107 25 = some (.aload_n 0, 1) := by decide +kernel
theorem c107_26 : mc_cd 107 26 = some (.getfield 30, 3) := by decide +kernel
theorem c107_29 : mc_cd 107 29 = some (.getfield 207, 3) := by decide +kernel
theorem c107_32 : mc_cd 107 32 = some (.iload_n 1, 1) := by decide +kernel
theorem c107_33 : mc_cd 107 33 = some (.invokevirtual 183, 3) := by decide +kernel
theorem c107_36 : mc_cd 107 36 = some (.invokevirtual 99, 3) := by decide +kernel
theorem c107_39 : mc_cd 107 39 = some (.ireturn, 1) := by decide +kernel
abbrev q_107 (r0 : Nat) (a1 : Int) (T : wq_T) (H : wq_H) : Option Value → wq_T → wq_H → Prop := fun r T' H' => T = T' ∧ WT T H' ∧ wfr [(12, 5), (12, 6), (12, 7), (12, 8), (12, 9), (1, 10), (6, 5), (8, 999), (10, 999), (15, 999), (9, 999), (18, 999), (19, 999), (7, 999), (11, 999), (17, 999), (13, 999)] T H H' ∧ ∃ z : Int, some (vI z) = r ∧ ((-2147483648) ≤ z ∧ z ≤ 2147483647)
set_option maxHeartbeats 4000000 in
theorem s_107 {kt : Nat → Option mc_E} {T : wq_T} {H : wq_H} {r0 : Nat} {a1 : Int} (hW : WT T H) (g0 : T.2.2.2 r0 = some 1) (i1 : (-2147483648) ≤ a1 ∧ a1 ≤ 2147483647) : wpc kt 7 107 [.ref r0, vI a1] T H (q_107 r0 a1 T H) := by
  refine wp_enter e107 (Nat.le_of_ble_eq_true rfl) rfl ?_
  have f0 : wfr [(12, 5), (12, 6), (12, 7), (12, 8), (12, 9), (1, 10), (6, 5), (8, 999), (10, 999), (15, 999), (9, 999), (18, 999), (19, 999), (7, 999), (11, 999), (17, 999), (13, 999)] T H H := wfr.rf
  show wp _ _ 107 0 [(0, .ref r0), (1, vI a1)] [] _ H _
  refine wp_of e107 c107_0 (rw_aload_n (pc' := 1) (v := .ref r0) rfl rfl rfl ?_)
  refine wp_of e107 c107_1 (rw_aload_n (pc' := 2) (v := .ref r0) rfl rfl rfl ?_)
  refine wp_of e107 c107_2 (rw_iload_n (pc' := 3) (z := a1) rfl rfl ?_)
  refine wp_of e107 c107_3 (xc_V (pc' := 6) (r := r0) (as := [vI a1]) (st := [.ref r0]) (lm_0_105) rfl rfl (Nat.le_of_ble_eq_true rfl) hW g0 sh_1 (by decide) rfl (by decide) (s_55 hW g0 ⟨by omega, by omega⟩) (fun R31989 T31990 H31991 p31992 => ?_))
  obtain ⟨e31993, e31995, z31997, e31994, b31998, p31996⟩ := p31992
  subst e31993
  subst e31994
  subst e31995
  show wp _ _ 107 6 [(0, .ref r0), (1, vI a1)] [vI z31997, .ref r0] _ H _
  refine wp_of e107 c107_6 (xc_V (pc' := 9) (r := r0) (as := [vI z31997]) (st := []) (lm_0_198) rfl rfl (Nat.le_of_ble_eq_true rfl) hW g0 sh_1 (by decide) rfl (by decide) (s_102 hW g0 ⟨by omega, by omega⟩) (fun R31999 T32000 H32001 p32002 => ?_))
  obtain ⟨e32003, w32005, f32006, z32008, e32004, b32009, p32007⟩ := p32002
  subst e32003
  subst e32004
  have f32010 := f0.tr f32006 rfl
  show wp _ _ 107 9 [(0, .ref r0), (1, vI a1)] [vI z32008] _ H32001 _
  refine wp_of e107 c107_9 (rw_istore_n (pc' := 10) (z := z32008) (L' := [(2, vI z32008), (0, .ref r0), (1, vI a1)]) rfl rfl rfl ?_)
  refine wp_of e107 c107_10 (rw_iload_n (pc' := 11) (z := z32008) rfl rfl ?_)
  refine wp_of e107 c107_11 (rw_if_eq (p1 := 20) (p2 := 14) (by decide) rfl ⟨by omega, by omega⟩ (fun c32011 => ?_) (fun c32011 => ?_))
  · refine wp_of e107 c107_20 (rw_aload_n (pc' := 21) (v := .ref r0) rfl rfl rfl ?_)
    refine wp_of e107 c107_21 (rw_aload_n (pc' := 22) (v := .ref r0) rfl rfl rfl ?_)
    refine wp_of e107 c107_22 (xg_R (pc' := 25) lf_0_51 w32005 g0 sh_1 (by decide) (by decide) ty_1_6 rfl rfl (fun r32012 q32013 g32014 => ?_))
    refine wp_of e107 c107_25 (rw_aload_n (pc' := 26) (v := .ref r0) rfl rfl rfl ?_)
    refine wp_of e107 c107_26 (xg_R (pc' := 29) lf_0_30 w32005 g0 sh_1 (by decide) (by decide) ty_1_3 rfl rfl (fun r32015 q32016 g32017 => ?_))
    refine wp_of e107 c107_29 (xg_I (pc' := 32) lf_0_207 w32005 g32017 sh_12 (by decide) (by decide) ty_12_7 rfl rfl (fun b32018 b32019 => ?_))
    refine wp_of e107 c107_32 (rw_iload_n (pc' := 33) (z := a1) rfl rfl ?_)
    refine wp_of e107 c107_33 (xc_V (pc' := 36) (r := r32012) (as := [vI (H32001 r32015 7), vI a1]) (st := [.ref r0]) (lm_0_183) rfl rfl (Nat.le_of_ble_eq_true rfl) w32005 g32014 sh_27 (by decide) rfl (by decide) (s_96 w32005 g32014 ⟨by omega, by omega⟩ ⟨by omega, by omega⟩) (fun R32020 T32021 H32022 p32023 => ?_))
    obtain ⟨e32024, e32026, z32027, e32025, b32028⟩ := p32023
    subst e32024
    subst e32025
    subst e32026
    show wp _ _ 107 36 [(2, vI z32008), (0, .ref r0), (1, vI a1)] [vI z32027, .ref r0] _ H32001 _
    refine wp_of e107 c107_36 (xc_V (pc' := 39) (r := r0) (as := [vI z32027]) (st := []) (lm_0_99) rfl rfl (Nat.le_of_ble_eq_true rfl) w32005 g0 sh_1 (by decide) rfl (by decide) (s_51 w32005 g0 ⟨by omega, by omega⟩) (fun R32029 T32030 H32031 p32032 => ?_))
    obtain ⟨e32033, w32035, f32036, z32037, e32034, b32038⟩ := p32032
    subst e32033
    subst e32034
    have f32039 := f32010.tr f32036 rfl
    show wp _ _ 107 39 [(2, vI z32008), (0, .ref r0), (1, vI a1)] [vI z32037] _ H32031 _
    exact wp_ireturn e107 c107_39 rfl ⟨rfl, w32035, f32039, z32037, rfl, ⟨by omega, by omega⟩⟩
  · refine wp_of e107 c107_14 (rw_aload_n (pc' := 15) (v := .ref r0) rfl rfl rfl ?_)
    refine wp_of e107 c107_15 (rw_iload_n (pc' := 16) (z := z32008) rfl rfl ?_)
    refine wp_of e107 c107_16 (xc_V (pc' := 19) (r := r0) (as := [vI z32008]) (st := []) (lm_0_70) rfl rfl (Nat.le_of_ble_eq_true rfl) w32005 g0 sh_1 (by decide) rfl (by decide) (s_12 w32005 g0 ⟨by omega, by omega⟩) (fun R32040 T32041 H32042 p32043 => ?_))
    obtain ⟨e32044, w32046, f32047, z32048, e32045, b32049⟩ := p32043
    subst e32044
    subst e32045
    have f32050 := f32010.tr f32047 rfl
    show wp _ _ 107 19 [(2, vI z32008), (0, .ref r0), (1, vI a1)] [vI z32048] _ H32042 _
    exact wp_ireturn e107 c107_19 rfl ⟨rfl, w32046, f32050, z32048, rfl, ⟨by omega, by omega⟩⟩
/-! StrikeAwake.greatest()J -/
theorem e108 : wq_en 108 = some (0, 2, false, some FieldType.long) := rfl
theorem c108_0 : mc_cd 108 0 = some (.aload_n 0, 1) := by decide +kernel
theorem c108_1 : mc_cd 108 1 = some (.aload_n 0, 1) := by decide +kernel
theorem c108_2 : mc_cd 108 2 = some (.getfield 58, 3) := by decide +kernel
theorem c108_5 : mc_cd 108 5 = some (.invokevirtual 198, 3) := by decide +kernel
theorem c108_8 : mc_cd 108 8 = some (.istore_n 1, 1) := by decide +kernel
theorem c108_9 : mc_cd 108 9 = some (.iload_n 1, 1) := by decide +kernel
theorem c108_10 : mc_cd 108 10 = some (.ifCond .eq 10, 3) := by decide +kernel
theorem c108_13 : mc_cd 108 13 = some (.aload_n 0, 1) := by decide +kernel
theorem c108_14 : mc_cd 108 14 = some (.iload_n 1, 1) := by decide +kernel
theorem c108_15 : mc_cd 108 15 = some (.invokevirtual 70, 3) := by decide +kernel
theorem c108_18 : mc_cd 108 18 = some (.i2l, 1) := by decide +kernel
theorem c108_19 : mc_cd 108 19 = some (.lreturn, 1) := by decide +kernel
theorem c108_20 : mc_cd 108 20 = some (.aload_n 0, 1) := by decide +kernel
theorem c108_21 : mc_cd 108 21 = some (.iconst 0, 1) := by decide +kernel
theorem c108_22 : mc_cd 108 22 = some (.putfield 102, 3) := by decide +kernel
theorem c108_25 : mc_cd 108 25 = some (.aload_n 0, 1) := by decide +kernel
theorem c108_26 : mc_cd 108 26 = some (.getfield 30, 3) := by decide +kernel
theorem c108_29 : mc_cd 108 29 = some (.getfield 210, 3) := by decide +kernel
theorem c108_32 : mc_cd 108 32 = some (.lreturn, 1) := by decide +kernel
abbrev q_108 (r0 : Nat) (T : wq_T) (H : wq_H) : Option Value → wq_T → wq_H → Prop := fun r T' H' => T = T' ∧ WT T H' ∧ wfr [(12, 5), (12, 6), (12, 7), (12, 8), (12, 9), (1, 10), (6, 5), (8, 999), (10, 999), (15, 999), (9, 999), (18, 999), (19, 999), (7, 999), (11, 999), (17, 999), (13, 999)] T H H' ∧ ∃ z : Int, some (vL z) = r ∧ ((-9223372036854775808) ≤ z ∧ z ≤ 9223372036854775807)
set_option maxHeartbeats 4000000 in
theorem s_108 {kt : Nat → Option mc_E} {T : wq_T} {H : wq_H} {r0 : Nat} (hW : WT T H) (g0 : T.2.2.2 r0 = some 1) : wpc kt 7 108 [.ref r0] T H (q_108 r0 T H) := by
  refine wp_enter e108 (Nat.le_of_ble_eq_true rfl) rfl ?_
  have f0 : wfr [(12, 5), (12, 6), (12, 7), (12, 8), (12, 9), (1, 10), (6, 5), (8, 999), (10, 999), (15, 999), (9, 999), (18, 999), (19, 999), (7, 999), (11, 999), (17, 999), (13, 999)] T H H := wfr.rf
  show wp _ _ 108 0 [(0, .ref r0)] [] _ H _
  refine wp_of e108 c108_0 (rw_aload_n (pc' := 1) (v := .ref r0) rfl rfl rfl ?_)
  refine wp_of e108 c108_1 (rw_aload_n (pc' := 2) (v := .ref r0) rfl rfl rfl ?_)
  refine wp_of e108 c108_2 (xg_I (pc' := 5) lf_0_58 hW g0 sh_1 (by decide) (by decide) ty_1_8 rfl rfl (fun b32087 b32088 => ?_))
  refine wp_of e108 c108_5 (xc_V (pc' := 8) (r := r0) (as := [vI (H r0 8)]) (st := []) (lm_0_198) rfl rfl (Nat.le_of_ble_eq_true rfl) hW g0 sh_1 (by decide) rfl (by decide) (s_102 hW g0 ⟨by omega, by omega⟩) (fun R32089 T32090 H32091 p32092 => ?_))
  obtain ⟨e32093, w32095, f32096, z32098, e32094, b32099, p32097⟩ := p32092
  subst e32093
  subst e32094
  have f32100 := f0.tr f32096 rfl
  show wp _ _ 108 8 [(0, .ref r0)] [vI z32098] _ H32091 _
  refine wp_of e108 c108_8 (rw_istore_n (pc' := 9) (z := z32098) (L' := [(1, vI z32098), (0, .ref r0)]) rfl rfl rfl ?_)
  refine wp_of e108 c108_9 (rw_iload_n (pc' := 10) (z := z32098) rfl rfl ?_)
  refine wp_of e108 c108_10 (rw_if_eq (p1 := 20) (p2 := 13) (by decide) rfl ⟨by omega, by omega⟩ (fun c32101 => ?_) (fun c32101 => ?_))
  · refine wp_of e108 c108_20 (rw_aload_n (pc' := 21) (v := .ref r0) rfl rfl rfl ?_)
    refine wp_of e108 c108_21 (rw_iconst (pc' := 22) rfl ?_)
    refine wp_of e108 c108_22 (xp_I (pc' := 25) lf_0_102 w32095 g0 sh_1 (by decide) (by decide) ty_1_10 rfl rfl (by omega) (by omega) ⟨by omega, by omega⟩ rfl (fun H32102 e32103 w32104 => ?_))
    have f32105 := f32100.put' e32103 g0 rfl
    have k32106 : H32102 r0 10 = 0 := wq_u_s e32103
    refine wp_of e108 c108_25 (rw_aload_n (pc' := 26) (v := .ref r0) rfl rfl rfl ?_)
    refine wp_of e108 c108_26 (xg_R (pc' := 29) lf_0_30 w32104 g0 sh_1 (by decide) (by decide) ty_1_3 rfl rfl (fun r32107 q32108 g32109 => ?_))
    refine wp_of e108 c108_29 (xg_L (pc' := 32) lf_0_210 w32104 g32109 sh_12 (by decide) (by decide) ty_12_8 rfl rfl (fun b32110 b32111 => ?_))
    exact wp_lreturn e108 c108_32 rfl ⟨rfl, w32104, f32105, H32102 r32107 8, rfl, ⟨by omega, by omega⟩⟩
  · refine wp_of e108 c108_13 (rw_aload_n (pc' := 14) (v := .ref r0) rfl rfl rfl ?_)
    refine wp_of e108 c108_14 (rw_iload_n (pc' := 15) (z := z32098) rfl rfl ?_)
    refine wp_of e108 c108_15 (xc_V (pc' := 18) (r := r0) (as := [vI z32098]) (st := []) (lm_0_70) rfl rfl (Nat.le_of_ble_eq_true rfl) w32095 g0 sh_1 (by decide) rfl (by decide) (s_12 w32095 g0 ⟨by omega, by omega⟩) (fun R32112 T32113 H32114 p32115 => ?_))
    obtain ⟨e32116, w32118, f32119, z32120, e32117, b32121⟩ := p32115
    subst e32116
    subst e32117
    have f32122 := f32100.tr f32119 rfl
    show wp _ _ 108 18 [(1, vI z32098), (0, .ref r0)] [vI z32120] _ H32114 _
    refine wp_of e108 c108_18 (rw_i2l (pc' := 19) rfl ⟨by omega, by omega⟩ ?_)
    exact wp_lreturn e108 c108_19 rfl ⟨rfl, w32118, f32122, z32120, rfl, ⟨by omega, by omega⟩⟩
/-! StrikeAwake$Census.awakeHours(LStrikeAwake$Parish;II)I -/
theorem e111 : wq_en 111 = some (4, 4, false, some FieldType.int) := rfl
theorem c111_0 : mc_cd 111 0 = some (.aload_n 0, 1) := by decide +kernel
theorem c111_1 : mc_cd 111 1 = some (.iload_n 1, 1) := by decide +kernel
theorem c111_2 : mc_cd 111 2 = some (.iload_n 2, 1) := by decide +kernel
theorem c111_3 : mc_cd 111 3 = some (.invokevirtual 135, 3) := by decide +kernel
theorem c111_6 : mc_cd 111 6 = some (.istore_n 3, 1) := by decide +kernel
theorem c111_7 : mc_cd 111 7 = some (.iload_n 3, 1) := by decide +kernel
theorem c111_8 : mc_cd 111 8 = some (.ifCond .ge 7, 3) := by decide +kernel
theorem c111_11 : mc_cd 111 11 = some (.iconst 0, 1) := by decide +kernel
theorem c111_12 : mc_cd 111 12 = some (.goto 14, 3) := by decide +kernel
theorem c111_15 : mc_cd 111 15 = some (.aload_n 0, 1) := by decide +kernel
theorem c111_16 : mc_cd 111 16 = some (.getfield 78, 3) := by decide +kernel
theorem c111_19 : mc_cd 111 19 = some (.iload_n 2, 1) := by decide +kernel
theorem c111_20 : mc_cd 111 20 = some (.aaload, 1) := by decide +kernel
theorem c111_21 : mc_cd 111 21 = some (.getfield 119, 3) := by decide +kernel
theorem c111_24 : mc_cd 111 24 = some (.iload_n 3, 1) := by decide +kernel
theorem c111_25 : mc_cd 111 25 = some (.iaload, 1) := by decide +kernel
theorem c111_26 : mc_cd 111 26 = some (.ireturn, 1) := by decide +kernel
abbrev q_111 (r0 : Nat) (a1 : Int) (a2 : Int) (T : wq_T) (H : wq_H) : Option Value → wq_T → wq_H → Prop := fun r T' H' => T = T' ∧ H = H' ∧ ∃ z : Int, some (vI z) = r ∧ ((-2147483648) ≤ z ∧ z ≤ 2147483647)
set_option maxHeartbeats 4000000 in
theorem s_111 {kt : Nat → Option mc_E} {T : wq_T} {H : wq_H} {r0 : Nat} {a1 : Int} {a2 : Int} (hW : WT T H) (g0 : T.2.2.2 r0 = some 27) (i1 : 0 ≤ a1 ∧ a1 ≤ 19999) (i2 : 0 ≤ a2 ∧ a2 ≤ 5) : wpc kt 2 111 [.ref r0, vI a1, vI a2] T H (q_111 r0 a1 a2 T H) := by
  refine wp_enter e111 (Nat.le_of_ble_eq_true rfl) rfl ?_
  show wp _ _ 111 0 [(0, .ref r0), (1, vI a1), (2, vI a2)] [] _ H _
  refine wp_of e111 c111_0 (rw_aload_n (pc' := 1) (v := .ref r0) rfl rfl rfl ?_)
  refine wp_of e111 c111_1 (rw_iload_n (pc' := 2) (z := a1) rfl rfl ?_)
  refine wp_of e111 c111_2 (rw_iload_n (pc' := 3) (z := a2) rfl rfl ?_)
  refine wp_of e111 c111_3 (xc_V (pc' := 6) (r := r0) (as := [vI a1, vI a2]) (st := []) (lm_4_135) rfl rfl (Nat.le_of_ble_eq_true rfl) hW g0 sh_27 (by decide) rfl (by decide) (s_96 hW g0 ⟨by omega, by omega⟩ ⟨by omega, by omega⟩) (fun R32144 T32145 H32146 p32147 => ?_))
  obtain ⟨e32148, e32150, z32151, e32149, b32152⟩ := p32147
  subst e32148
  subst e32149
  subst e32150
  show wp _ _ 111 6 [(0, .ref r0), (1, vI a1), (2, vI a2)] [vI z32151] _ H _
  refine wp_of e111 c111_6 (rw_istore_n (pc' := 7) (z := z32151) (L' := [(3, vI z32151), (0, .ref r0), (1, vI a1), (2, vI a2)]) rfl rfl rfl ?_)
  refine wp_of e111 c111_7 (rw_iload_n (pc' := 8) (z := z32151) rfl rfl ?_)
  refine wp_of e111 c111_8 (rw_if_ge (p1 := 15) (p2 := 11) (by decide) rfl ⟨by omega, by omega⟩ (fun c32153 => ?_) (fun c32153 => ?_))
  · refine wp_of e111 c111_15 (rw_aload_n (pc' := 16) (v := .ref r0) rfl rfl rfl ?_)
    refine wp_of e111 c111_16 (xg_R (pc' := 19) lf_4_78 hW g0 sh_27 (by decide) (by decide) ty_27_0 rfl rfl (fun r32154 q32155 g32156 => ?_))
    refine wp_of e111 c111_19 (rw_iload_n (pc' := 20) (z := a2) rfl rfl ?_)
    refine wp_of e111 c111_20 (xa_R (pc' := 21) (by decide) hW g32156 sh_28 (by decide) (ty_28 _) (by omega) (by omega) rfl (fun r32157 q32158 g32159 => ?_))
    refine wp_of e111 c111_21 (xg_R (pc' := 24) lf_4_119 hW g32159 sh_35 (by decide) (by decide) ty_35_3 rfl rfl (fun r32160 q32161 g32162 => ?_))
    refine wp_of e111 c111_24 (rw_iload_n (pc' := 25) (z := z32151) rfl rfl ?_)
    refine wp_of e111 c111_25 (xa_I (so := 0) (pc' := 26) hW g32162 sh_39 (by decide) (ty_39 _) (by omega) (by omega) rfl (fun b32163 b32164 => ?_))
    exact wp_ireturn e111 c111_26 rfl ⟨rfl, rfl, H r32160 z32151.toNat, rfl, ⟨by omega, by omega⟩⟩
  · refine wp_of e111 c111_11 (rw_iconst (pc' := 12) rfl ?_)
    refine wp_of e111 c111_12 (rw_goto (p1 := 26) (by decide) ?_)
    exact wp_ireturn e111 c111_26 rfl ⟨rfl, rfl, 0, rfl, ⟨by omega, by omega⟩⟩
/-! StrikeAwake$Census.bothAwake(LStrikeAwake$Parish;II)I -/
theorem e110 : wq_en 110 = some (4, 6, false, some FieldType.int) := rfl
theorem c110_0 : mc_cd 110 0 = some (.iconst 0, 1) := by decide +kernel
theorem c110_1 : mc_cd 110 1 = some (.istore 4, 2) := by decide +kernel
theorem c110_3 : mc_cd 110 3 = some (.iconst 0, 1) := by decide +kernel
theorem c110_4 : mc_cd 110 4 = some (.istore 5, 2) := by decide +kernel
theorem c110_6 : mc_cd 110 6 = some (.iload 5, 2) := by decide +kernel
theorem c110_8 : mc_cd 110 8 = some (.i2l, 1) := by decide +kernel
theorem c110_9 : mc_cd 110 9 = some (.aload_n 1, 1) := by decide +kernel
theorem c110_10 : mc_cd 110 10 = some (.getfield 45, 3) := by decide +kernel
theorem c110_13 : mc_cd 110 13 = some (.lcmp, 1) := by decide +kernel
theorem c110_14 : mc_cd 110 14 = some (.ifCond .ge 46, 3) := by decide +kernel
theorem c110_17 : mc_cd 110 17 = some (.iload 5, 2) := by decide +kernel
theorem c110_19 : mc_cd 110 19 = some (.sipush 20000, 3) := by decide +kernel
theorem c110_22 : mc_cd 110 22 = some (.if_icmp .ge 38, 3) := by decide +kernel
theorem c110_25 : mc_cd 110 25 = some (.aload_n 0, 1) := by decide +kernel
theorem c110_26 : mc_cd 110 26 = some (.iload 5, 2) := by decide +kernel
theorem c110_28 : mc_cd 110 28 = some (.invokevirtual 113, 3) := by decide +kernel
theorem c110_31 : mc_cd 110 31 = some (.ifCond .eq 23, 3) := by decide +kernel
theorem c110_34 : mc_cd 110 34 = some (.iload 4, 2) := by decide +kernel
theorem c110_36 : mc_cd 110 36 = some (.aload_n 1, 1) := by decide +kernel
theorem c110_37 : mc_cd 110 37 = some (.iload 5, 2) := by decide +kernel
theorem c110_39 : mc_cd 110 39 = some (.iload_n 2, 1) := by decide +kernel
theorem c110_40 : mc_cd 110 40 = some (.invokestatic 132, 3) := by decide +kernel
theorem c110_43 : mc_cd 110 43 = some (.aload_n 1, 1) := by decide +kernel
theorem c110_44 : mc_cd 110 44 = some (.iload 5, 2) := by decide +kernel
theorem c110_46 : mc_cd 110 46 = some (.iload_n 3, 1) := by decide +kernel
theorem c110_47 : mc_cd 110 47 = some (.invokestatic 132, 3) := by decide +kernel
theorem c110_50 : mc_cd 110 50 = some (.iand, 1) := by decide +kernel
theorem c110_51 : mc_cd 110 51 = some (.ior, 1) := by decide +kernel
theorem c110_52 : mc_cd 110 52 = some (.istore 4, 2) := by decide +kernel
theorem c110_54 : mc_cd 110 54 = some (.iinc 5 1, 3) := by decide +kernel
theorem c110_57 : mc_cd 110 57 = some (.goto (-51), 3) := by decide +kernel
theorem c110_60 : mc_cd 110 60 = some (.iload 4, 2) := by decide +kernel
theorem c110_62 : mc_cd 110 62 = some (.ireturn, 1) := by decide +kernel
abbrev q_110 (r0 : Nat) (r1 : Nat) (a2 : Int) (a3 : Int) (T : wq_T) (H : wq_H) : Option Value → wq_T → wq_H → Prop := fun r T' H' => T = T' ∧ H = H' ∧ ∃ z : Int, some (vI z) = r ∧ ((-2147483648) ≤ z ∧ z ≤ 2147483647)
set_option maxHeartbeats 4000000 in
theorem s_110 {kt : Nat → Option mc_E} {T : wq_T} {H : wq_H} {r0 : Nat} {r1 : Nat} {a2 : Int} {a3 : Int} (hW : WT T H) (g0 : T.2.2.2 r0 = some 12) (g1 : T.2.2.2 r1 = some 27) (i2 : 0 ≤ a2 ∧ a2 ≤ 5) (i3 : 0 ≤ a3 ∧ a3 ≤ 5) : wpc kt 3 110 [.ref r0, .ref r1, vI a2, vI a3] T H (q_110 r0 r1 a2 a3 T H) := by
  refine wp_enter e110 (Nat.le_of_ble_eq_true rfl) rfl ?_
  show wp _ _ 110 0 [(0, .ref r0), (1, .ref r1), (2, vI a2), (3, vI a3)] [] _ H _
  refine wp_of e110 c110_0 (rw_iconst (pc' := 1) rfl ?_)
  refine wp_of e110 c110_1 (rw_istore (pc' := 3) (z := 0) (L' := [(4, vI 0), (0, .ref r0), (1, .ref r1), (2, vI a2), (3, vI a3)]) rfl rfl rfl ?_)
  refine wp_of e110 c110_3 (rw_iconst (pc' := 4) rfl ?_)
  refine wp_of e110 c110_4 (rw_istore (pc' := 6) (z := 0) (L' := [(5, vI 0), (4, vI 0), (0, .ref r0), (1, .ref r1), (2, vI a2), (3, vI a3)]) rfl rfl rfl ?_)
  have lp32795 : ∀ (n32796 : Nat) (v32798 : Int) (v32799 : Int), (0 ≤ v32798 ∧ v32798 ≤ 20000) → ((-2147483648) ≤ v32799 ∧ v32799 ≤ 2147483647) → (20000 - v32798).toNat = n32796 → wp kt 2 110 6 [(5, vI v32798), (4, vI v32799), (0, .ref r0), (1, .ref r1), (2, vI a2), (3, vI a3)] [] T H (q_110 r0 r1 a2 a3 T H) := by
    intro n32796
    induction n32796 using Nat.strongRecOn with
    | _ n32796 ih32797 =>
      intro v32798 v32799 b32802 b32803 m32804
      refine wp_of e110 c110_6 (rw_iload (pc' := 8) (z := v32798) rfl rfl ?_)
      refine wp_of e110 c110_8 (rw_i2l (pc' := 9) rfl ⟨by omega, by omega⟩ ?_)
      refine wp_of e110 c110_9 (rw_aload_n (pc' := 10) (v := .ref r1) rfl rfl rfl ?_)
      refine wp_of e110 c110_10 (xg_L (pc' := 13) lf_4_45 hW g1 sh_27 (by decide) (by decide) ty_27_18 rfl rfl (fun b32805 b32806 => ?_))
      refine wp_of e110 c110_13 (rw_lcmp (pc' := 14) rfl ⟨by omega, by omega⟩ ⟨by omega, by omega⟩ ?_)
      have b32807 := wq_cmp_b v32798 (H r1 18)
      refine wp_of e110 c110_14 (rw_if_ge (p1 := 60) (p2 := 17) (by decide) rfl ⟨by omega, by omega⟩ (fun c32808 => ?_) (fun c32808 => ?_))
      · refine wp_of e110 c110_60 (rw_iload (pc' := 62) (z := v32799) rfl rfl ?_)
        exact wp_ireturn e110 c110_62 rfl ⟨rfl, rfl, v32799, rfl, ⟨by omega, by omega⟩⟩
      · refine wp_of e110 c110_17 (rw_iload (pc' := 19) (z := v32798) rfl rfl ?_)
        refine wp_of e110 c110_19 (rw_sipush (pc' := 22) (z := 20000) rfl (by decide) ?_)
        refine wp_of e110 c110_22 (rw_icmp_ge (p1 := 60) (p2 := 25) (by decide) rfl ⟨by omega, by omega⟩ ⟨by omega, by omega⟩ (fun c32809 => ?_) (fun c32809 => ?_))
        · refine wp_of e110 c110_60 (rw_iload (pc' := 62) (z := v32799) rfl rfl ?_)
          exact wp_ireturn e110 c110_62 rfl ⟨rfl, rfl, v32799, rfl, ⟨by omega, by omega⟩⟩
        · refine wp_of e110 c110_25 (rw_aload_n (pc' := 26) (v := .ref r0) rfl rfl rfl ?_)
          refine wp_of e110 c110_26 (rw_iload (pc' := 28) (z := v32798) rfl rfl ?_)
          refine wp_of e110 c110_28 (xc_V (pc' := 31) (r := r0) (as := [vI v32798]) (st := []) (lm_4_113) rfl rfl (Nat.le_of_ble_eq_true rfl) hW g0 sh_12 (by decide) rfl (by decide) (s_95 hW g0 ⟨by omega, by omega⟩) (fun R32810 T32811 H32812 p32813 => ?_))
          obtain ⟨e32814, e32816, z32817, e32815, b32818⟩ := p32813
          subst e32814
          subst e32815
          subst e32816
          show wp _ _ 110 31 [(5, vI v32798), (4, vI v32799), (0, .ref r0), (1, .ref r1), (2, vI a2), (3, vI a3)] [vI z32817] _ H _
          refine wp_of e110 c110_31 (rw_if_eq (p1 := 54) (p2 := 34) (by decide) rfl ⟨by omega, by omega⟩ (fun c32819 => ?_) (fun c32819 => ?_))
          · refine wp_of e110 c110_54 (rw_iinc (pc' := 57) (z := v32798) (L' := [(5, vI (v32798 + 1)), (4, vI v32799), (0, .ref r0), (1, .ref r1), (2, vI a2), (3, vI a3)]) rfl rfl rfl rfl ?_)
            refine wp_of e110 c110_57 (rw_goto (p1 := 6) (by decide) ?_)
            exact wp_lc (ks := [5, 4, 0, 1, 2, 3]) (wl_c rfl (wl_c rfl (wl_c rfl (wl_c rfl (wl_c rfl (wl_c rfl wl_n)))))) rfl (by decide) (ih32797 _ (by omega) (v32798 + 1) v32799 ⟨by omega, by omega⟩ ⟨by omega, by omega⟩ rfl)
          · refine wp_of e110 c110_34 (rw_iload (pc' := 36) (z := v32799) rfl rfl ?_)
            refine wp_of e110 c110_36 (rw_aload_n (pc' := 37) (v := .ref r1) rfl rfl rfl ?_)
            refine wp_of e110 c110_37 (rw_iload (pc' := 39) (z := v32798) rfl rfl ?_)
            refine wp_of e110 c110_39 (rw_iload_n (pc' := 40) (z := a2) rfl rfl ?_)
            refine wp_of e110 c110_40 (xc_S (pc' := 43) (as := [.ref r1, vI v32798, vI a2]) (st := [vI v32799]) (lm_4_132) rfl rfl (Nat.le_of_ble_eq_true rfl) rfl (by decide) (s_111 hW g1 ⟨by omega, by omega⟩ ⟨by omega, by omega⟩) (fun R32820 T32821 H32822 p32823 => ?_))
            obtain ⟨e32824, e32826, z32827, e32825, b32828⟩ := p32823
            subst e32824
            subst e32825
            subst e32826
            show wp _ _ 110 43 [(5, vI v32798), (4, vI v32799), (0, .ref r0), (1, .ref r1), (2, vI a2), (3, vI a3)] [vI z32827, vI v32799] _ H _
            refine wp_of e110 c110_43 (rw_aload_n (pc' := 44) (v := .ref r1) rfl rfl rfl ?_)
            refine wp_of e110 c110_44 (rw_iload (pc' := 46) (z := v32798) rfl rfl ?_)
            refine wp_of e110 c110_46 (rw_iload_n (pc' := 47) (z := a3) rfl rfl ?_)
            refine wp_of e110 c110_47 (xc_S (pc' := 50) (as := [.ref r1, vI v32798, vI a3]) (st := [vI z32827, vI v32799]) (lm_4_132) rfl rfl (Nat.le_of_ble_eq_true rfl) rfl (by decide) (s_111 hW g1 ⟨by omega, by omega⟩ ⟨by omega, by omega⟩) (fun R32829 T32830 H32831 p32832 => ?_))
            obtain ⟨e32833, e32835, z32836, e32834, b32837⟩ := p32832
            subst e32833
            subst e32834
            subst e32835
            show wp _ _ 110 50 [(5, vI v32798), (4, vI v32799), (0, .ref r0), (1, .ref r1), (2, vI a2), (3, vI a3)] [vI z32836, vI z32827, vI v32799] _ H _
            refine wp_of e110 c110_50 (rw_iand (pc' := 51) rfl ?_)
            obtain ⟨v32838, e32839⟩ : ∃ x : Int, x = wq_and z32827 z32836 := ⟨_, rfl⟩
            rw [← e32839]
            have b32840 : -2147483648 ≤ v32838 ∧ v32838 ≤ 2147483647 := by
              rw [e32839]
              exact wI_and _ _
            refine wp_of e110 c110_51 (rw_ior (pc' := 52) rfl ?_)
            obtain ⟨v32841, e32842⟩ : ∃ x : Int, x = wq_or v32799 v32838 := ⟨_, rfl⟩
            rw [← e32842]
            have b32843 : -2147483648 ≤ v32841 ∧ v32841 ≤ 2147483647 := by
              rw [e32842]
              exact wI_or _ _
            refine wp_of e110 c110_52 (rw_istore (pc' := 54) (z := v32841) (L' := [(4, vI v32841), (5, vI v32798), (0, .ref r0), (1, .ref r1), (2, vI a2), (3, vI a3)]) rfl rfl rfl ?_)
            refine wp_of e110 c110_54 (rw_iinc (pc' := 57) (z := v32798) (L' := [(5, vI (v32798 + 1)), (4, vI v32841), (0, .ref r0), (1, .ref r1), (2, vI a2), (3, vI a3)]) rfl rfl rfl rfl ?_)
            refine wp_of e110 c110_57 (rw_goto (p1 := 6) (by decide) ?_)
            exact wp_lc (ks := [5, 4, 0, 1, 2, 3]) (wl_c rfl (wl_c rfl (wl_c rfl (wl_c rfl (wl_c rfl (wl_c rfl wl_n)))))) rfl (by decide) (ih32797 _ (by omega) (v32798 + 1) v32841 ⟨by omega, by omega⟩ ⟨by omega, by omega⟩ rfl)
  exact wp_lc (ks := [5, 4, 0, 1, 2, 3]) (wl_c rfl (wl_c rfl (wl_c rfl (wl_c rfl (wl_c rfl (wl_c rfl wl_n)))))) rfl (by decide) (lp32795 _ 0 0 ⟨by omega, by omega⟩ ⟨by omega, by omega⟩ rfl)
/-! StrikeAwake.together(II)I -/
theorem e109 : wq_en 109 = some (0, 4, false, some FieldType.int) := rfl
theorem c109_0 : mc_cd 109 0 = some (.aload_n 0, 1) := by decide +kernel
theorem c109_1 : mc_cd 109 1 = some (.aload_n 0, 1) := by decide +kernel
theorem c109_2 : mc_cd 109 2 = some (.iload_n 1, 1) := by decide +kernel
theorem c109_3 : mc_cd 109 3 = some (.invokevirtual 105, 3) := by decide +kernel
theorem c109_6 : mc_cd 109 6 = some (.ifCond .eq 20, 3) := by decide +kernel
theorem c109_9 : mc_cd 109 9 = some (.aload_n 0, 1) := by decide +kernel
theorem c109_10 : mc_cd 109 10 = some (.iload_n 2, 1) := by decide +kernel
theorem c109_11 : mc_cd 109 11 = some (.invokevirtual 105, 3) := by decide +kernel
theorem c109_14 : mc_cd 109 14 = some (.ifCond .eq 12, 3) := by decide +kernel
theorem c109_17 : mc_cd 109 17 = some (.iload_n 1, 1) := by decide +kernel
theorem c109_18 : mc_cd 109 18 = some (.iload_n 2, 1) := by decide +kernel
theorem c109_19 : mc_cd 109 19 = some (.if_icmp .eq 7, 3) := by decide +kernel
theorem c109_22 : mc_cd 109 22 = some (.iconst 1, 1) := by decide +kernel
theorem c109_23 : mc_cd 109 23 = some (.goto 4, 3) := by decide +kernel
theorem c109_26 : mc_cd 109 26 = some (.iconst 0, 1) := by decide +kernel
theorem c109_27 : mc_cd 109 27 = some (.invokevirtual 174, 3) := by decide +kernel
theorem c109_30 : mc_cd 109 30 = some (.istore_n 3, 1) := by decide +kernel
theorem c109_31 : mc_cd 109 31 = some (.iload_n 3, 1) := by decide +kernel
theorem c109_32 : mc_cd 109 32 = some (.ifCond .eq 9, 3) := by decide +kernel
theorem c109_35 : mc_cd 109 35 = some (.aload_n 0, 1) := by decide +kernel
theorem c109_36 : mc_cd 109 36 = some (.iload_n 3, 1) := by decide +kernel
theorem c109_37 : mc_cd 109 37 = some (.invokevirtual 70, 3) := by decide +kernel
theorem c109_40 : mc_cd 109 40 = some (.ireturn, 1) := by decide +kernel
theorem c109_41 : mc_cd 109 41 = some (.aload_n 0, 1) := by decide +kernel
theorem c109_42 : mc_cd 109 42 = some (.aload_n 0, 1) := by decide +kernel
theorem c109_43 : mc_cd 109 43 = some (.getfield 30, 3) := by decide +kernel
theorem c109_46 : mc_cd 109 46 = some (.aload_n 0, 1) := by decide +kernel
theorem c109_47 : mc_cd 109 47 = some (.getfield 51, 3) := by decide +kernel
theorem c109_50 : mc_cd 109 50 = some (.iload_n 1, 1) := by decide +kernel
theorem c109_51 : mc_cd 109 51 = some (.iload_n 2, 1) := by decide +kernel
theorem c109_52 : mc_cd 109 52 = some (.invokevirtual 213, 3) := by decide +kernel
theorem c109_55 : mc_cd 109 55 = some (.invokevirtual 99, 3) := by decide +kernel
theorem c109_58 : mc_cd 109 58 = some (.ireturn, 1) := by decide +kernel
abbrev q_109 (r0 : Nat) (a1 : Int) (a2 : Int) (T : wq_T) (H : wq_H) : Option Value → wq_T → wq_H → Prop := fun r T' H' => T = T' ∧ WT T H' ∧ wfr [(12, 5), (12, 6), (12, 7), (12, 8), (12, 9), (1, 10), (6, 5), (8, 999), (10, 999), (15, 999), (9, 999), (18, 999), (19, 999), (7, 999), (11, 999), (17, 999), (13, 999)] T H H' ∧ ∃ z : Int, some (vI z) = r ∧ ((-2147483648) ≤ z ∧ z ≤ 2147483647)
set_option maxHeartbeats 4000000 in
theorem s_109 {kt : Nat → Option mc_E} {T : wq_T} {H : wq_H} {r0 : Nat} {a1 : Int} {a2 : Int} (hW : WT T H) (g0 : T.2.2.2 r0 = some 1) (i1 : (-2147483648) ≤ a1 ∧ a1 ≤ 2147483647) (i2 : (-2147483648) ≤ a2 ∧ a2 ≤ 2147483647) : wpc kt 6 109 [.ref r0, vI a1, vI a2] T H (q_109 r0 a1 a2 T H) := by
  refine wp_enter e109 (Nat.le_of_ble_eq_true rfl) rfl ?_
  have f0 : wfr [(12, 5), (12, 6), (12, 7), (12, 8), (12, 9), (1, 10), (6, 5), (8, 999), (10, 999), (15, 999), (9, 999), (18, 999), (19, 999), (7, 999), (11, 999), (17, 999), (13, 999)] T H H := wfr.rf
  show wp _ _ 109 0 [(0, .ref r0), (1, vI a1), (2, vI a2)] [] _ H _
  refine wp_of e109 c109_0 (rw_aload_n (pc' := 1) (v := .ref r0) rfl rfl rfl ?_)
  refine wp_of e109 c109_1 (rw_aload_n (pc' := 2) (v := .ref r0) rfl rfl rfl ?_)
  refine wp_of e109 c109_2 (rw_iload_n (pc' := 3) (z := a1) rfl rfl ?_)
  refine wp_of e109 c109_3 (xc_V (pc' := 6) (r := r0) (as := [vI a1]) (st := [.ref r0]) (lm_0_105) rfl rfl (Nat.le_of_ble_eq_true rfl) hW g0 sh_1 (by decide) rfl (by decide) (s_55 hW g0 ⟨by omega, by omega⟩) (fun R32989 T32990 H32991 p32992 => ?_))
  obtain ⟨e32993, e32995, z32997, e32994, b32998, p32996⟩ := p32992
  subst e32993
  subst e32994
  subst e32995
  show wp _ _ 109 6 [(0, .ref r0), (1, vI a1), (2, vI a2)] [vI z32997, .ref r0] _ H _
  refine wp_of e109 c109_6 (rw_if_eq (p1 := 26) (p2 := 9) (by decide) rfl ⟨by omega, by omega⟩ (fun c32999 => ?_) (fun c32999 => ?_))
  · refine wp_of e109 c109_26 (rw_iconst (pc' := 27) rfl ?_)
    refine wp_of e109 c109_27 (xc_V (pc' := 30) (r := r0) (as := [vI 0]) (st := []) (lm_0_174) rfl rfl (Nat.le_of_ble_eq_true rfl) hW g0 sh_1 (by decide) rfl (by decide) (s_83 hW g0 ⟨by omega, by omega⟩) (fun R33000 T33001 H33002 p33003 => ?_))
    obtain ⟨e33004, w33006, f33007, z33009, e33005, b33010, p33008⟩ := p33003
    subst e33004
    subst e33005
    have f33011 := f0.tr f33007 rfl
    show wp _ _ 109 30 [(0, .ref r0), (1, vI a1), (2, vI a2)] [vI z33009] _ H33002 _
    refine wp_of e109 c109_30 (rw_istore_n (pc' := 31) (z := z33009) (L' := [(3, vI z33009), (0, .ref r0), (1, vI a1), (2, vI a2)]) rfl rfl rfl ?_)
    refine wp_of e109 c109_31 (rw_iload_n (pc' := 32) (z := z33009) rfl rfl ?_)
    refine wp_of e109 c109_32 (rw_if_eq (p1 := 41) (p2 := 35) (by decide) rfl ⟨by omega, by omega⟩ (fun c33012 => ?_) (fun c33012 => ?_))
    · exfalso
      omega
    · refine wp_of e109 c109_35 (rw_aload_n (pc' := 36) (v := .ref r0) rfl rfl rfl ?_)
      refine wp_of e109 c109_36 (rw_iload_n (pc' := 37) (z := z33009) rfl rfl ?_)
      refine wp_of e109 c109_37 (xc_V (pc' := 40) (r := r0) (as := [vI z33009]) (st := []) (lm_0_70) rfl rfl (Nat.le_of_ble_eq_true rfl) w33006 g0 sh_1 (by decide) rfl (by decide) (s_12 w33006 g0 ⟨by omega, by omega⟩) (fun R33013 T33014 H33015 p33016 => ?_))
      obtain ⟨e33017, w33019, f33020, z33021, e33018, b33022⟩ := p33016
      subst e33017
      subst e33018
      have f33023 := f33011.tr f33020 rfl
      show wp _ _ 109 40 [(3, vI z33009), (0, .ref r0), (1, vI a1), (2, vI a2)] [vI z33021] _ H33015 _
      exact wp_ireturn e109 c109_40 rfl ⟨rfl, w33019, f33023, z33021, rfl, ⟨by omega, by omega⟩⟩
  · refine wp_of e109 c109_9 (rw_aload_n (pc' := 10) (v := .ref r0) rfl rfl rfl ?_)
    refine wp_of e109 c109_10 (rw_iload_n (pc' := 11) (z := a2) rfl rfl ?_)
    refine wp_of e109 c109_11 (xc_V (pc' := 14) (r := r0) (as := [vI a2]) (st := [.ref r0]) (lm_0_105) rfl rfl (Nat.le_of_ble_eq_true rfl) hW g0 sh_1 (by decide) rfl (by decide) (s_55 hW g0 ⟨by omega, by omega⟩) (fun R33024 T33025 H33026 p33027 => ?_))
    obtain ⟨e33028, e33030, z33032, e33029, b33033, p33031⟩ := p33027
    subst e33028
    subst e33029
    subst e33030
    show wp _ _ 109 14 [(0, .ref r0), (1, vI a1), (2, vI a2)] [vI z33032, .ref r0] _ H _
    refine wp_of e109 c109_14 (rw_if_eq (p1 := 26) (p2 := 17) (by decide) rfl ⟨by omega, by omega⟩ (fun c33034 => ?_) (fun c33034 => ?_))
    · refine wp_of e109 c109_26 (rw_iconst (pc' := 27) rfl ?_)
      refine wp_of e109 c109_27 (xc_V (pc' := 30) (r := r0) (as := [vI 0]) (st := []) (lm_0_174) rfl rfl (Nat.le_of_ble_eq_true rfl) hW g0 sh_1 (by decide) rfl (by decide) (s_83 hW g0 ⟨by omega, by omega⟩) (fun R33035 T33036 H33037 p33038 => ?_))
      obtain ⟨e33039, w33041, f33042, z33044, e33040, b33045, p33043⟩ := p33038
      subst e33039
      subst e33040
      have f33046 := f0.tr f33042 rfl
      show wp _ _ 109 30 [(0, .ref r0), (1, vI a1), (2, vI a2)] [vI z33044] _ H33037 _
      refine wp_of e109 c109_30 (rw_istore_n (pc' := 31) (z := z33044) (L' := [(3, vI z33044), (0, .ref r0), (1, vI a1), (2, vI a2)]) rfl rfl rfl ?_)
      refine wp_of e109 c109_31 (rw_iload_n (pc' := 32) (z := z33044) rfl rfl ?_)
      refine wp_of e109 c109_32 (rw_if_eq (p1 := 41) (p2 := 35) (by decide) rfl ⟨by omega, by omega⟩ (fun c33047 => ?_) (fun c33047 => ?_))
      · exfalso
        omega
      · refine wp_of e109 c109_35 (rw_aload_n (pc' := 36) (v := .ref r0) rfl rfl rfl ?_)
        refine wp_of e109 c109_36 (rw_iload_n (pc' := 37) (z := z33044) rfl rfl ?_)
        refine wp_of e109 c109_37 (xc_V (pc' := 40) (r := r0) (as := [vI z33044]) (st := []) (lm_0_70) rfl rfl (Nat.le_of_ble_eq_true rfl) w33041 g0 sh_1 (by decide) rfl (by decide) (s_12 w33041 g0 ⟨by omega, by omega⟩) (fun R33048 T33049 H33050 p33051 => ?_))
        obtain ⟨e33052, w33054, f33055, z33056, e33053, b33057⟩ := p33051
        subst e33052
        subst e33053
        have f33058 := f33046.tr f33055 rfl
        show wp _ _ 109 40 [(3, vI z33044), (0, .ref r0), (1, vI a1), (2, vI a2)] [vI z33056] _ H33050 _
        exact wp_ireturn e109 c109_40 rfl ⟨rfl, w33054, f33058, z33056, rfl, ⟨by omega, by omega⟩⟩
    · refine wp_of e109 c109_17 (rw_iload_n (pc' := 18) (z := a1) rfl rfl ?_)
      refine wp_of e109 c109_18 (rw_iload_n (pc' := 19) (z := a2) rfl rfl ?_)
      refine wp_of e109 c109_19 (rw_icmp_eq (p1 := 26) (p2 := 22) (by decide) rfl ⟨by omega, by omega⟩ ⟨by omega, by omega⟩ (fun c33059 => ?_) (fun c33059 => ?_))
      · refine wp_of e109 c109_26 (rw_iconst (pc' := 27) rfl ?_)
        refine wp_of e109 c109_27 (xc_V (pc' := 30) (r := r0) (as := [vI 0]) (st := []) (lm_0_174) rfl rfl (Nat.le_of_ble_eq_true rfl) hW g0 sh_1 (by decide) rfl (by decide) (s_83 hW g0 ⟨by omega, by omega⟩) (fun R33060 T33061 H33062 p33063 => ?_))
        obtain ⟨e33064, w33066, f33067, z33069, e33065, b33070, p33068⟩ := p33063
        subst e33064
        subst e33065
        have f33071 := f0.tr f33067 rfl
        show wp _ _ 109 30 [(0, .ref r0), (1, vI a1), (2, vI a2)] [vI z33069] _ H33062 _
        refine wp_of e109 c109_30 (rw_istore_n (pc' := 31) (z := z33069) (L' := [(3, vI z33069), (0, .ref r0), (1, vI a1), (2, vI a2)]) rfl rfl rfl ?_)
        refine wp_of e109 c109_31 (rw_iload_n (pc' := 32) (z := z33069) rfl rfl ?_)
        refine wp_of e109 c109_32 (rw_if_eq (p1 := 41) (p2 := 35) (by decide) rfl ⟨by omega, by omega⟩ (fun c33072 => ?_) (fun c33072 => ?_))
        · exfalso
          omega
        · refine wp_of e109 c109_35 (rw_aload_n (pc' := 36) (v := .ref r0) rfl rfl rfl ?_)
          refine wp_of e109 c109_36 (rw_iload_n (pc' := 37) (z := z33069) rfl rfl ?_)
          refine wp_of e109 c109_37 (xc_V (pc' := 40) (r := r0) (as := [vI z33069]) (st := []) (lm_0_70) rfl rfl (Nat.le_of_ble_eq_true rfl) w33066 g0 sh_1 (by decide) rfl (by decide) (s_12 w33066 g0 ⟨by omega, by omega⟩) (fun R33073 T33074 H33075 p33076 => ?_))
          obtain ⟨e33077, w33079, f33080, z33081, e33078, b33082⟩ := p33076
          subst e33077
          subst e33078
          have f33083 := f33071.tr f33080 rfl
          show wp _ _ 109 40 [(3, vI z33069), (0, .ref r0), (1, vI a1), (2, vI a2)] [vI z33081] _ H33075 _
          exact wp_ireturn e109 c109_40 rfl ⟨rfl, w33079, f33083, z33081, rfl, ⟨by omega, by omega⟩⟩
      · refine wp_of e109 c109_22 (rw_iconst (pc' := 23) rfl ?_)
        refine wp_of e109 c109_23 (rw_goto (p1 := 27) (by decide) ?_)
        refine wp_of e109 c109_27 (xc_V (pc' := 30) (r := r0) (as := [vI 1]) (st := []) (lm_0_174) rfl rfl (Nat.le_of_ble_eq_true rfl) hW g0 sh_1 (by decide) rfl (by decide) (s_83 hW g0 ⟨by omega, by omega⟩) (fun R33084 T33085 H33086 p33087 => ?_))
        obtain ⟨e33088, w33090, f33091, z33093, e33089, b33094, p33092⟩ := p33087
        subst e33088
        subst e33089
        have f33095 := f0.tr f33091 rfl
        show wp _ _ 109 30 [(0, .ref r0), (1, vI a1), (2, vI a2)] [vI z33093] _ H33086 _
        refine wp_of e109 c109_30 (rw_istore_n (pc' := 31) (z := z33093) (L' := [(3, vI z33093), (0, .ref r0), (1, vI a1), (2, vI a2)]) rfl rfl rfl ?_)
        refine wp_of e109 c109_31 (rw_iload_n (pc' := 32) (z := z33093) rfl rfl ?_)
        refine wp_of e109 c109_32 (rw_if_eq (p1 := 41) (p2 := 35) (by decide) rfl ⟨by omega, by omega⟩ (fun c33096 => ?_) (fun c33096 => ?_))
        · refine wp_of e109 c109_41 (rw_aload_n (pc' := 42) (v := .ref r0) rfl rfl rfl ?_)
          refine wp_of e109 c109_42 (rw_aload_n (pc' := 43) (v := .ref r0) rfl rfl rfl ?_)
          refine wp_of e109 c109_43 (xg_R (pc' := 46) lf_0_30 w33090 g0 sh_1 (by decide) (by decide) ty_1_3 rfl rfl (fun r33097 q33098 g33099 => ?_))
          refine wp_of e109 c109_46 (rw_aload_n (pc' := 47) (v := .ref r0) rfl rfl rfl ?_)
          refine wp_of e109 c109_47 (xg_R (pc' := 50) lf_0_51 w33090 g0 sh_1 (by decide) (by decide) ty_1_6 rfl rfl (fun r33100 q33101 g33102 => ?_))
          refine wp_of e109 c109_50 (rw_iload_n (pc' := 51) (z := a1) rfl rfl ?_)
          refine wp_of e109 c109_51 (rw_iload_n (pc' := 52) (z := a2) rfl rfl ?_)
          refine wp_of e109 c109_52 (xc_V (pc' := 55) (r := r33097) (as := [.ref r33100, vI a1, vI a2]) (st := [.ref r0]) (lm_0_213) rfl rfl (Nat.le_of_ble_eq_true rfl) w33090 g33099 sh_12 (by decide) rfl (by decide) (s_110 w33090 g33099 g33102 ⟨by omega, by omega⟩ ⟨by omega, by omega⟩) (fun R33103 T33104 H33105 p33106 => ?_))
          obtain ⟨e33107, e33109, z33110, e33108, b33111⟩ := p33106
          subst e33107
          subst e33108
          subst e33109
          show wp _ _ 109 55 [(3, vI z33093), (0, .ref r0), (1, vI a1), (2, vI a2)] [vI z33110, .ref r0] _ H33086 _
          refine wp_of e109 c109_55 (xc_V (pc' := 58) (r := r0) (as := [vI z33110]) (st := []) (lm_0_99) rfl rfl (Nat.le_of_ble_eq_true rfl) w33090 g0 sh_1 (by decide) rfl (by decide) (s_51 w33090 g0 ⟨by omega, by omega⟩) (fun R33112 T33113 H33114 p33115 => ?_))
          obtain ⟨e33116, w33118, f33119, z33120, e33117, b33121⟩ := p33115
          subst e33116
          subst e33117
          have f33122 := f33095.tr f33119 rfl
          show wp _ _ 109 58 [(3, vI z33093), (0, .ref r0), (1, vI a1), (2, vI a2)] [vI z33120] _ H33114 _
          exact wp_ireturn e109 c109_58 rfl ⟨rfl, w33118, f33122, z33120, rfl, ⟨by omega, by omega⟩⟩
        · refine wp_of e109 c109_35 (rw_aload_n (pc' := 36) (v := .ref r0) rfl rfl rfl ?_)
          refine wp_of e109 c109_36 (rw_iload_n (pc' := 37) (z := z33093) rfl rfl ?_)
          refine wp_of e109 c109_37 (xc_V (pc' := 40) (r := r0) (as := [vI z33093]) (st := []) (lm_0_70) rfl rfl (Nat.le_of_ble_eq_true rfl) w33090 g0 sh_1 (by decide) rfl (by decide) (s_12 w33090 g0 ⟨by omega, by omega⟩) (fun R33123 T33124 H33125 p33126 => ?_))
          obtain ⟨e33127, w33129, f33130, z33131, e33128, b33132⟩ := p33126
          subst e33127
          subst e33128
          have f33133 := f33095.tr f33130 rfl
          show wp _ _ 109 40 [(3, vI z33093), (0, .ref r0), (1, vI a1), (2, vI a2)] [vI z33131] _ H33125 _
          exact wp_ireturn e109 c109_40 rfl ⟨rfl, w33129, f33133, z33131, rfl, ⟨by omega, by omega⟩⟩
/-! StrikeAwake$Census.spansHeld(LStrikeAwake$Parish;I)J -/
theorem e113 : wq_en 113 = some (4, 6, false, some FieldType.long) := rfl
theorem c113_0 : mc_cd 113 0 = some (.lconst 0, 1) := by decide +kernel
theorem c113_1 : mc_cd 113 1 = some (.lstore_n 3, 1) := by decide +kernel
theorem c113_2 : mc_cd 113 2 = some (.iconst 0, 1) := by decide +kernel
theorem c113_3 : mc_cd 113 3 = some (.istore 5, 2) := by decide +kernel
theorem c113_5 : mc_cd 113 5 = some (.iload 5, 2) := by decide +kernel
theorem c113_7 : mc_cd 113 7 = some (.aload_n 1, 1) := by decide +kernel
theorem c113_8 : mc_cd 113 8 = some (.getfield 78, 3) := by decide +kernel
theorem c113_11 : mc_cd 113 11 = some (.iload_n 2, 1) := by decide +kernel
theorem c113_12 : mc_cd 113 12 = some (.aaload, 1) := by decide +kernel
theorem c113_13 : mc_cd 113 13 = some (.getfield 116, 3) := by decide +kernel
theorem c113_16 : mc_cd 113 16 = some (.if_icmp .ge 28, 3) := by decide +kernel
theorem c113_19 : mc_cd 113 19 = some (.aload_n 0, 1) := by decide +kernel
theorem c113_20 : mc_cd 113 20 = some (.getfield 17, 3) := by decide +kernel
theorem c113_23 : mc_cd 113 23 = some (.iload_n 2, 1) := by decide +kernel
theorem c113_24 : mc_cd 113 24 = some (.aaload, 1) := by decide +kernel
theorem c113_25 : mc_cd 113 25 = some (.iload 5, 2) := by decide +kernel
theorem c113_27 : mc_cd 113 27 = some (.iaload, 1) := by decide +kernel
theorem c113_28 : mc_cd 113 28 = some (.ifCond .le 10, 3) := by decide +kernel
theorem c113_31 : mc_cd 113 31 = some (.lload_n 3, 1) := by decide +kernel
theorem c113_32 : mc_cd 113 32 = some (.lconst 1, 1) := by decide +kernel
theorem c113_33 : mc_cd 113 33 = some (.iload 5, 2) := by decide +kernel
theorem c113_35 : mc_cd 113 35 = some (.lshl, 1) := by decide +kernel
theorem c113_36 : mc_cd 113 36 = some (.lor, 1) := by decide +kernel
theorem c113_37 : mc_cd 113 37 = some (.lstore_n 3, 1) := by decide +kernel
theorem c113_38 : mc_cd 113 38 = some (.iinc 5 1, 3) := by decide +kernel
theorem c113_41 : mc_cd 113 41 = some (.goto (-36), 3) := by decide +kernel
theorem c113_44 : mc_cd 113 44 = some (.lload_n 3, 1) := by decide +kernel
theorem c113_45 : mc_cd 113 45 = some (.lreturn, 1) := by decide +kernel
abbrev q_113 (r0 : Nat) (r1 : Nat) (a2 : Int) (T : wq_T) (H : wq_H) : Option Value → wq_T → wq_H → Prop := fun r T' H' => T = T' ∧ H = H' ∧ ∃ z : Int, some (vL z) = r ∧ ((-9223372036854775808) ≤ z ∧ z ≤ 9223372036854775807)
set_option maxHeartbeats 4000000 in
theorem s_113 {kt : Nat → Option mc_E} {T : wq_T} {H : wq_H} {r0 : Nat} {r1 : Nat} {a2 : Int} (hW : WT T H) (g0 : T.2.2.2 r0 = some 12) (g1 : T.2.2.2 r1 = some 27) (i2 : 0 ≤ a2 ∧ a2 ≤ 5) : wpc kt 1 113 [.ref r0, .ref r1, vI a2] T H (q_113 r0 r1 a2 T H) := by
  refine wp_enter e113 (Nat.le_of_ble_eq_true rfl) rfl ?_
  show wp _ _ 113 0 [(0, .ref r0), (1, .ref r1), (2, vI a2)] [] _ H _
  refine wp_of e113 c113_0 (rw_lconst (pc' := 1) (z := 0) rfl rfl ?_)
  refine wp_of e113 c113_1 (rw_lstore_n (pc' := 2) (z := 0) (L' := [(3, vL 0), (0, .ref r0), (1, .ref r1), (2, vI a2)]) rfl rfl rfl ?_)
  refine wp_of e113 c113_2 (rw_iconst (pc' := 3) rfl ?_)
  refine wp_of e113 c113_3 (rw_istore (pc' := 5) (z := 0) (L' := [(5, vI 0), (3, vL 0), (0, .ref r0), (1, .ref r1), (2, vI a2)]) rfl rfl rfl ?_)
  have lp33509 : ∀ (n33510 : Nat) (v33512 : Int) (v33513 : Int), (0 ≤ v33512 ∧ v33512 ≤ 40) → ((-9223372036854775808) ≤ v33513 ∧ v33513 ≤ 9223372036854775807) → (40 - v33512).toNat = n33510 → wp kt 0 113 5 [(5, vI v33512), (3, vL v33513), (0, .ref r0), (1, .ref r1), (2, vI a2)] [] T H (q_113 r0 r1 a2 T H) := by
    intro n33510
    induction n33510 using Nat.strongRecOn with
    | _ n33510 ih33511 =>
      intro v33512 v33513 b33516 b33517 m33518
      refine wp_of e113 c113_5 (rw_iload (pc' := 7) (z := v33512) rfl rfl ?_)
      refine wp_of e113 c113_7 (rw_aload_n (pc' := 8) (v := .ref r1) rfl rfl rfl ?_)
      refine wp_of e113 c113_8 (xg_R (pc' := 11) lf_4_78 hW g1 sh_27 (by decide) (by decide) ty_27_0 rfl rfl (fun r33519 q33520 g33521 => ?_))
      refine wp_of e113 c113_11 (rw_iload_n (pc' := 12) (z := a2) rfl rfl ?_)
      refine wp_of e113 c113_12 (xa_R (pc' := 13) (by decide) hW g33521 sh_28 (by decide) (ty_28 _) (by omega) (by omega) rfl (fun r33522 q33523 g33524 => ?_))
      refine wp_of e113 c113_13 (xg_I (pc' := 16) lf_4_116 hW g33524 sh_35 (by decide) (by decide) ty_35_15 rfl rfl (fun b33525 b33526 => ?_))
      refine wp_of e113 c113_16 (rw_icmp_ge (p1 := 44) (p2 := 19) (by decide) rfl ⟨by omega, by omega⟩ ⟨by omega, by omega⟩ (fun c33527 => ?_) (fun c33527 => ?_))
      · refine wp_of e113 c113_44 (rw_lload_n (pc' := 45) (z := v33513) rfl rfl ?_)
        exact wp_lreturn e113 c113_45 rfl ⟨rfl, rfl, v33513, rfl, ⟨by omega, by omega⟩⟩
      · refine wp_of e113 c113_19 (rw_aload_n (pc' := 20) (v := .ref r0) rfl rfl rfl ?_)
        refine wp_of e113 c113_20 (xg_R (pc' := 23) lf_4_17 hW g0 sh_12 (by decide) (by decide) ty_12_1 rfl rfl (fun r33528 q33529 g33530 => ?_))
        refine wp_of e113 c113_23 (rw_iload_n (pc' := 24) (z := a2) rfl rfl ?_)
        refine wp_of e113 c113_24 (xa_R (pc' := 25) (by decide) hW g33530 sh_14 (by decide) (ty_14 _) (by omega) (by omega) rfl (fun r33531 q33532 g33533 => ?_))
        refine wp_of e113 c113_25 (rw_iload (pc' := 27) (z := v33512) rfl rfl ?_)
        refine wp_of e113 c113_27 (xa_I (so := 0) (pc' := 28) hW g33533 sh_15 (by decide) (ty_15 _) (by omega) (by omega) rfl (fun b33534 b33535 => ?_))
        refine wp_of e113 c113_28 (rw_if_le (p1 := 38) (p2 := 31) (by decide) rfl ⟨by omega, by omega⟩ (fun c33536 => ?_) (fun c33536 => ?_))
        · refine wp_of e113 c113_38 (rw_iinc (pc' := 41) (z := v33512) (L' := [(5, vI (v33512 + 1)), (3, vL v33513), (0, .ref r0), (1, .ref r1), (2, vI a2)]) rfl rfl rfl rfl ?_)
          refine wp_of e113 c113_41 (rw_goto (p1 := 5) (by decide) ?_)
          exact wp_lc (ks := [5, 3, 0, 1, 2]) (wl_c rfl (wl_c rfl (wl_c rfl (wl_c rfl (wl_c rfl wl_n))))) rfl (by decide) (ih33511 _ (by omega) (v33512 + 1) v33513 ⟨by omega, by omega⟩ ⟨by omega, by omega⟩ rfl)
        · refine wp_of e113 c113_31 (rw_lload_n (pc' := 32) (z := v33513) rfl rfl ?_)
          refine wp_of e113 c113_32 (rw_lconst (pc' := 33) (z := 1) rfl rfl ?_)
          refine wp_of e113 c113_33 (rw_iload (pc' := 35) (z := v33512) rfl rfl ?_)
          refine wp_of e113 c113_35 (rw_lshl (pc' := 36) rfl ?_)
          obtain ⟨v33537, e33538⟩ : ∃ x : Int, x = wl_shl 1 v33512 := ⟨_, rfl⟩
          rw [← e33538]
          have b33539 : -9223372036854775808 ≤ v33537 ∧ v33537 ≤ 9223372036854775807 := by
            rw [e33538]
            exact wL_shl _ _
          refine wp_of e113 c113_36 (rw_lor (pc' := 37) rfl ?_)
          obtain ⟨v33540, e33541⟩ : ∃ x : Int, x = wl_or v33513 v33537 := ⟨_, rfl⟩
          rw [← e33541]
          have b33542 : -9223372036854775808 ≤ v33540 ∧ v33540 ≤ 9223372036854775807 := by
            rw [e33541]
            exact wL_or _ _
          refine wp_of e113 c113_37 (rw_lstore_n (pc' := 38) (z := v33540) (L' := [(3, vL v33540), (5, vI v33512), (0, .ref r0), (1, .ref r1), (2, vI a2)]) rfl rfl rfl ?_)
          refine wp_of e113 c113_38 (rw_iinc (pc' := 41) (z := v33512) (L' := [(5, vI (v33512 + 1)), (3, vL v33540), (0, .ref r0), (1, .ref r1), (2, vI a2)]) rfl rfl rfl rfl ?_)
          refine wp_of e113 c113_41 (rw_goto (p1 := 5) (by decide) ?_)
          exact wp_lc (ks := [5, 3, 0, 1, 2]) (wl_c rfl (wl_c rfl (wl_c rfl (wl_c rfl (wl_c rfl wl_n))))) rfl (by decide) (ih33511 _ (by omega) (v33512 + 1) v33540 ⟨by omega, by omega⟩ ⟨by omega, by omega⟩ rfl)
  exact wp_lc (ks := [5, 3, 0, 1, 2]) (wl_c rfl (wl_c rfl (wl_c rfl (wl_c rfl (wl_c rfl wl_n))))) rfl (by decide) (lp33509 _ 0 0 ⟨by omega, by omega⟩ ⟨by omega, by omega⟩ rfl)
/-! StrikeAwake.possible(I)J -/
theorem e112 : wq_en 112 = some (0, 3, false, some FieldType.long) := rfl
theorem c112_0 : mc_cd 112 0 = some (.aload_n 0, 1) := by decide +kernel
theorem c112_1 : mc_cd 112 1 = some (.aload_n 0, 1) := by decide +kernel
theorem c112_2 : mc_cd 112 2 = some (.iload_n 1, 1) := by decide +kernel
theorem c112_3 : mc_cd 112 3 = some (.invokevirtual 105, 3) := by decide +kernel
theorem c112_6 : mc_cd 112 6 = some (.invokevirtual 174, 3) := by decide +kernel
theorem c112_9 : mc_cd 112 9 = some (.istore_n 2, 1) := by decide +kernel
theorem c112_10 : mc_cd 112 10 = some (.iload_n 2, 1) := by decide +kernel
theorem c112_11 : mc_cd 112 11 = some (.ifCond .eq 10, 3) := by decide +kernel
theorem c112_14 : mc_cd 112 14 = some (.aload_n 0, 1) := by decide +kernel
theorem c112_15 : mc_cd 112 15 = some (.iload_n 2, 1) := by decide +kernel
theorem c112_16 : mc_cd 112 16 = some (.invokevirtual 70, 3) := by decide +kernel
theorem c112_19 : mc_cd 112 19 = some (.i2l, 1) := by decide +kernel
theorem c112_20 : mc_cd 112 20 = some (.lreturn, 1) := by decide +kernel
theorem c112_21 : mc_cd 112 21 = some (.aload_n 0, 1) := by decide +kernel
theorem c112_22 : mc_cd 112 22 = some (.iconst 0, 1) := by decide +kernel
theorem c112_23 : mc_cd 112 23 = some (.putfield 102, 3) := by decide +kernel
theorem c112_26 : mc_cd 112 26 = some (.aload_n 0, 1) := by decide +kernel
theorem c112_27 : mc_cd 112 27 = some (.getfield 30, 3) := by decide +kernel
theorem c112_30 : mc_cd 112 30 = some (.aload_n 0, 1) := by decide +kernel
theorem c112_31 : mc_cd 112 31 = some (.getfield 51, 3) := by decide +kernel
theorem c112_34 : mc_cd 112 34 = some (.iload_n 1, 1) := by decide +kernel
theorem c112_35 : mc_cd 112 35 = some (.invokevirtual 216, 3) := by decide +kernel
theorem c112_38 : mc_cd 112 38 = some (.lreturn, 1) := by decide +kernel
abbrev q_112 (r0 : Nat) (a1 : Int) (T : wq_T) (H : wq_H) : Option Value → wq_T → wq_H → Prop := fun r T' H' => T = T' ∧ WT T H' ∧ wfr [(12, 5), (12, 6), (12, 7), (12, 8), (12, 9), (1, 10), (6, 5), (8, 999), (10, 999), (15, 999), (9, 999), (18, 999), (19, 999), (7, 999), (11, 999), (17, 999), (13, 999)] T H H' ∧ ∃ z : Int, some (vL z) = r ∧ ((-9223372036854775808) ≤ z ∧ z ≤ 9223372036854775807)
set_option maxHeartbeats 4000000 in
theorem s_112 {kt : Nat → Option mc_E} {T : wq_T} {H : wq_H} {r0 : Nat} {a1 : Int} (hW : WT T H) (g0 : T.2.2.2 r0 = some 1) (i1 : (-2147483648) ≤ a1 ∧ a1 ≤ 2147483647) : wpc kt 6 112 [.ref r0, vI a1] T H (q_112 r0 a1 T H) := by
  refine wp_enter e112 (Nat.le_of_ble_eq_true rfl) rfl ?_
  have f0 : wfr [(12, 5), (12, 6), (12, 7), (12, 8), (12, 9), (1, 10), (6, 5), (8, 999), (10, 999), (15, 999), (9, 999), (18, 999), (19, 999), (7, 999), (11, 999), (17, 999), (13, 999)] T H H := wfr.rf
  show wp _ _ 112 0 [(0, .ref r0), (1, vI a1)] [] _ H _
  refine wp_of e112 c112_0 (rw_aload_n (pc' := 1) (v := .ref r0) rfl rfl rfl ?_)
  refine wp_of e112 c112_1 (rw_aload_n (pc' := 2) (v := .ref r0) rfl rfl rfl ?_)
  refine wp_of e112 c112_2 (rw_iload_n (pc' := 3) (z := a1) rfl rfl ?_)
  refine wp_of e112 c112_3 (xc_V (pc' := 6) (r := r0) (as := [vI a1]) (st := [.ref r0]) (lm_0_105) rfl rfl (Nat.le_of_ble_eq_true rfl) hW g0 sh_1 (by decide) rfl (by decide) (s_55 hW g0 ⟨by omega, by omega⟩) (fun R33597 T33598 H33599 p33600 => ?_))
  obtain ⟨e33601, e33603, z33605, e33602, b33606, p33604⟩ := p33600
  subst e33601
  subst e33602
  subst e33603
  show wp _ _ 112 6 [(0, .ref r0), (1, vI a1)] [vI z33605, .ref r0] _ H _
  refine wp_of e112 c112_6 (xc_V (pc' := 9) (r := r0) (as := [vI z33605]) (st := []) (lm_0_174) rfl rfl (Nat.le_of_ble_eq_true rfl) hW g0 sh_1 (by decide) rfl (by decide) (s_83 hW g0 ⟨by omega, by omega⟩) (fun R33607 T33608 H33609 p33610 => ?_))
  obtain ⟨e33611, w33613, f33614, z33616, e33612, b33617, p33615⟩ := p33610
  subst e33611
  subst e33612
  have f33618 := f0.tr f33614 rfl
  show wp _ _ 112 9 [(0, .ref r0), (1, vI a1)] [vI z33616] _ H33609 _
  refine wp_of e112 c112_9 (rw_istore_n (pc' := 10) (z := z33616) (L' := [(2, vI z33616), (0, .ref r0), (1, vI a1)]) rfl rfl rfl ?_)
  refine wp_of e112 c112_10 (rw_iload_n (pc' := 11) (z := z33616) rfl rfl ?_)
  refine wp_of e112 c112_11 (rw_if_eq (p1 := 21) (p2 := 14) (by decide) rfl ⟨by omega, by omega⟩ (fun c33619 => ?_) (fun c33619 => ?_))
  · refine wp_of e112 c112_21 (rw_aload_n (pc' := 22) (v := .ref r0) rfl rfl rfl ?_)
    refine wp_of e112 c112_22 (rw_iconst (pc' := 23) rfl ?_)
    refine wp_of e112 c112_23 (xp_I (pc' := 26) lf_0_102 w33613 g0 sh_1 (by decide) (by decide) ty_1_10 rfl rfl (by omega) (by omega) ⟨by omega, by omega⟩ rfl (fun H33620 e33621 w33622 => ?_))
    have f33623 := f33618.put' e33621 g0 rfl
    have k33624 : H33620 r0 10 = 0 := wq_u_s e33621
    refine wp_of e112 c112_26 (rw_aload_n (pc' := 27) (v := .ref r0) rfl rfl rfl ?_)
    refine wp_of e112 c112_27 (xg_R (pc' := 30) lf_0_30 w33622 g0 sh_1 (by decide) (by decide) ty_1_3 rfl rfl (fun r33625 q33626 g33627 => ?_))
    refine wp_of e112 c112_30 (rw_aload_n (pc' := 31) (v := .ref r0) rfl rfl rfl ?_)
    refine wp_of e112 c112_31 (xg_R (pc' := 34) lf_0_51 w33622 g0 sh_1 (by decide) (by decide) ty_1_6 rfl rfl (fun r33628 q33629 g33630 => ?_))
    refine wp_of e112 c112_34 (rw_iload_n (pc' := 35) (z := a1) rfl rfl ?_)
    refine wp_of e112 c112_35 (xc_V (pc' := 38) (r := r33625) (as := [.ref r33628, vI a1]) (st := []) (lm_0_216) rfl rfl (Nat.le_of_ble_eq_true rfl) w33622 g33627 sh_12 (by decide) rfl (by decide) (s_113 w33622 g33627 g33630 ⟨by omega, by omega⟩) (fun R33631 T33632 H33633 p33634 => ?_))
    obtain ⟨e33635, e33637, z33638, e33636, b33639⟩ := p33634
    subst e33635
    subst e33636
    subst e33637
    show wp _ _ 112 38 [(2, vI z33616), (0, .ref r0), (1, vI a1)] [vL z33638] _ H33620 _
    exact wp_lreturn e112 c112_38 rfl ⟨rfl, w33622, f33623, z33638, rfl, ⟨by omega, by omega⟩⟩
  · refine wp_of e112 c112_14 (rw_aload_n (pc' := 15) (v := .ref r0) rfl rfl rfl ?_)
    refine wp_of e112 c112_15 (rw_iload_n (pc' := 16) (z := z33616) rfl rfl ?_)
    refine wp_of e112 c112_16 (xc_V (pc' := 19) (r := r0) (as := [vI z33616]) (st := []) (lm_0_70) rfl rfl (Nat.le_of_ble_eq_true rfl) w33613 g0 sh_1 (by decide) rfl (by decide) (s_12 w33613 g0 ⟨by omega, by omega⟩) (fun R33640 T33641 H33642 p33643 => ?_))
    obtain ⟨e33644, w33646, f33647, z33648, e33645, b33649⟩ := p33643
    subst e33644
    subst e33645
    have f33650 := f33618.tr f33647 rfl
    show wp _ _ 112 19 [(2, vI z33616), (0, .ref r0), (1, vI a1)] [vI z33648] _ H33642 _
    refine wp_of e112 c112_19 (rw_i2l (pc' := 20) rfl ⟨by omega, by omega⟩ ?_)
    exact wp_lreturn e112 c112_20 rfl ⟨rfl, w33646, f33650, z33648, rfl, ⟨by omega, by omega⟩⟩
/-! StrikeAwake$Census.peopleAwake(LStrikeAwake$Parish;II)I -/
theorem e116 : wq_en 116 = some (4, 5, false, some FieldType.int) := rfl
theorem c116_0 : mc_cd 116 0 = some (.iconst 0, 1) := by decide +kernel
theorem c116_1 : mc_cd 116 1 = some (.istore_n 3, 1) := by decide +kernel
theorem c116_2 : mc_cd 116 2 = some (.iconst 0, 1) := by decide +kernel
theorem c116_3 : mc_cd 116 3 = some (.istore 4, 2) := by decide +kernel
theorem c116_5 : mc_cd 116 5 = some (.iload 4, 2) := by decide +kernel
theorem c116_7 : mc_cd 116 7 = some (.aload_n 0, 1) := by decide +kernel
theorem c116_8 : mc_cd 116 8 = some (.getfield 75, 3) := by decide +kernel
theorem c116_11 : mc_cd 116 11 = some (.if_icmp .ge 30, 3) := by decide +kernel
theorem c116_14 : mc_cd 116 14 = some (.aload_n 0, 1) := by decide +kernel
theorem c116_15 : mc_cd 116 15 = some (.iload_n 1, 1) := by decide +kernel
theorem c116_16 : mc_cd 116 16 = some (.iload 4, 2) := by decide +kernel
theorem c116_18 : mc_cd 116 18 = some (.invokestatic 132, 3) := by decide +kernel
theorem c116_21 : mc_cd 116 21 = some (.iload_n 2, 1) := by decide +kernel
theorem c116_22 : mc_cd 116 22 = some (.invokestatic 122, 3) := by decide +kernel
theorem c116_25 : mc_cd 116 25 = some (.ifCond .eq 10, 3) := by decide +kernel
theorem c116_28 : mc_cd 116 28 = some (.iload_n 3, 1) := by decide +kernel
theorem c116_29 : mc_cd 116 29 = some (.iconst 1, 1) := by decide +kernel
theorem c116_30 : mc_cd 116 30 = some (.iload 4, 2) := by decide +kernel
theorem c116_32 : mc_cd 116 32 = some (.ishl, 1) := by decide +kernel
theorem c116_33 : mc_cd 116 33 = some (.ior, 1) := by decide +kernel
theorem c116_34 : mc_cd 116 34 = some (.istore_n 3, 1) := by decide +kernel
theorem c116_35 : mc_cd 116 35 = some (.iinc 4 1, 3) := by decide +kernel
theorem c116_38 : mc_cd 116 38 = some (.goto (-33), 3) := by decide +kernel
theorem c116_41 : mc_cd 116 41 = some (.iload_n 3, 1) := by decide +kernel
theorem c116_42 : mc_cd 116 42 = some (.ireturn, 1) := by decide +kernel
abbrev q_116 (r0 : Nat) (a1 : Int) (a2 : Int) (T : wq_T) (H : wq_H) : Option Value → wq_T → wq_H → Prop := fun r T' H' => T = T' ∧ H = H' ∧ ∃ z : Int, some (vI z) = r ∧ ((-2147483648) ≤ z ∧ z ≤ 2147483647)
set_option maxHeartbeats 4000000 in
theorem s_116 {kt : Nat → Option mc_E} {T : wq_T} {H : wq_H} {r0 : Nat} {a1 : Int} {a2 : Int} (hW : WT T H) (g0 : T.2.2.2 r0 = some 27) (i1 : 0 ≤ a1 ∧ a1 ≤ 19999) (i2 : (-2147483648) ≤ a2 ∧ a2 ≤ 2147483647) : wpc kt 3 116 [.ref r0, vI a1, vI a2] T H (q_116 r0 a1 a2 T H) := by
  refine wp_enter e116 (Nat.le_of_ble_eq_true rfl) rfl ?_
  show wp _ _ 116 0 [(0, .ref r0), (1, vI a1), (2, vI a2)] [] _ H _
  refine wp_of e116 c116_0 (rw_iconst (pc' := 1) rfl ?_)
  refine wp_of e116 c116_1 (rw_istore_n (pc' := 2) (z := 0) (L' := [(3, vI 0), (0, .ref r0), (1, vI a1), (2, vI a2)]) rfl rfl rfl ?_)
  refine wp_of e116 c116_2 (rw_iconst (pc' := 3) rfl ?_)
  refine wp_of e116 c116_3 (rw_istore (pc' := 5) (z := 0) (L' := [(4, vI 0), (3, vI 0), (0, .ref r0), (1, vI a1), (2, vI a2)]) rfl rfl rfl ?_)
  have lp34042 : ∀ (n34043 : Nat) (v34045 : Int) (v34046 : Int), (0 ≤ v34045 ∧ v34045 ≤ 6) → ((-2147483648) ≤ v34046 ∧ v34046 ≤ 2147483647) → (6 - v34045).toNat = n34043 → wp kt 2 116 5 [(4, vI v34045), (3, vI v34046), (0, .ref r0), (1, vI a1), (2, vI a2)] [] T H (q_116 r0 a1 a2 T H) := by
    intro n34043
    induction n34043 using Nat.strongRecOn with
    | _ n34043 ih34044 =>
      intro v34045 v34046 b34049 b34050 m34051
      refine wp_of e116 c116_5 (rw_iload (pc' := 7) (z := v34045) rfl rfl ?_)
      refine wp_of e116 c116_7 (rw_aload_n (pc' := 8) (v := .ref r0) rfl rfl rfl ?_)
      refine wp_of e116 c116_8 (xg_I (pc' := 11) lf_4_75 hW g0 sh_27 (by decide) (by decide) ty_27_10 rfl rfl (fun b34052 b34053 => ?_))
      refine wp_of e116 c116_11 (rw_icmp_ge (p1 := 41) (p2 := 14) (by decide) rfl ⟨by omega, by omega⟩ ⟨by omega, by omega⟩ (fun c34054 => ?_) (fun c34054 => ?_))
      · refine wp_of e116 c116_41 (rw_iload_n (pc' := 42) (z := v34046) rfl rfl ?_)
        exact wp_ireturn e116 c116_42 rfl ⟨rfl, rfl, v34046, rfl, ⟨by omega, by omega⟩⟩
      · refine wp_of e116 c116_14 (rw_aload_n (pc' := 15) (v := .ref r0) rfl rfl rfl ?_)
        refine wp_of e116 c116_15 (rw_iload_n (pc' := 16) (z := a1) rfl rfl ?_)
        refine wp_of e116 c116_16 (rw_iload (pc' := 18) (z := v34045) rfl rfl ?_)
        refine wp_of e116 c116_18 (xc_S (pc' := 21) (as := [.ref r0, vI a1, vI v34045]) (st := []) (lm_4_132) rfl rfl (Nat.le_of_ble_eq_true rfl) rfl (by decide) (s_111 hW g0 ⟨by omega, by omega⟩ ⟨by omega, by omega⟩) (fun R34055 T34056 H34057 p34058 => ?_))
        obtain ⟨e34059, e34061, z34062, e34060, b34063⟩ := p34058
        subst e34059
        subst e34060
        subst e34061
        show wp _ _ 116 21 [(4, vI v34045), (3, vI v34046), (0, .ref r0), (1, vI a1), (2, vI a2)] [vI z34062] _ H _
        refine wp_of e116 c116_21 (rw_iload_n (pc' := 22) (z := a2) rfl rfl ?_)
        refine wp_of e116 c116_22 (xc_S (pc' := 25) (as := [vI z34062, vI a2]) (st := []) (lm_4_122) rfl rfl (Nat.le_of_ble_eq_true rfl) rfl (by decide) (s_36 hW ⟨by omega, by omega⟩ ⟨by omega, by omega⟩) (fun R34064 T34065 H34066 p34067 => ?_))
        obtain ⟨e34068, e34070, z34071, e34069, b34072⟩ := p34067
        subst e34068
        subst e34069
        subst e34070
        show wp _ _ 116 25 [(4, vI v34045), (3, vI v34046), (0, .ref r0), (1, vI a1), (2, vI a2)] [vI z34071] _ H _
        refine wp_of e116 c116_25 (rw_if_eq (p1 := 35) (p2 := 28) (by decide) rfl ⟨by omega, by omega⟩ (fun c34073 => ?_) (fun c34073 => ?_))
        · refine wp_of e116 c116_35 (rw_iinc (pc' := 38) (z := v34045) (L' := [(4, vI (v34045 + 1)), (3, vI v34046), (0, .ref r0), (1, vI a1), (2, vI a2)]) rfl rfl rfl rfl ?_)
          refine wp_of e116 c116_38 (rw_goto (p1 := 5) (by decide) ?_)
          exact wp_lc (ks := [4, 3, 0, 1, 2]) (wl_c rfl (wl_c rfl (wl_c rfl (wl_c rfl (wl_c rfl wl_n))))) rfl (by decide) (ih34044 _ (by omega) (v34045 + 1) v34046 ⟨by omega, by omega⟩ ⟨by omega, by omega⟩ rfl)
        · refine wp_of e116 c116_28 (rw_iload_n (pc' := 29) (z := v34046) rfl rfl ?_)
          refine wp_of e116 c116_29 (rw_iconst (pc' := 30) rfl ?_)
          refine wp_of e116 c116_30 (rw_iload (pc' := 32) (z := v34045) rfl rfl ?_)
          refine wp_of e116 c116_32 (rw_ishl (pc' := 33) rfl ?_)
          obtain ⟨v34074, e34075⟩ : ∃ x : Int, x = wq_shl 1 v34045 := ⟨_, rfl⟩
          rw [← e34075]
          have b34076 : -2147483648 ≤ v34074 ∧ v34074 ≤ 2147483647 := by
            rw [e34075]
            exact wI_shl _ _
          refine wp_of e116 c116_33 (rw_ior (pc' := 34) rfl ?_)
          obtain ⟨v34077, e34078⟩ : ∃ x : Int, x = wq_or v34046 v34074 := ⟨_, rfl⟩
          rw [← e34078]
          have b34079 : -2147483648 ≤ v34077 ∧ v34077 ≤ 2147483647 := by
            rw [e34078]
            exact wI_or _ _
          refine wp_of e116 c116_34 (rw_istore_n (pc' := 35) (z := v34077) (L' := [(3, vI v34077), (4, vI v34045), (0, .ref r0), (1, vI a1), (2, vI a2)]) rfl rfl rfl ?_)
          refine wp_of e116 c116_35 (rw_iinc (pc' := 38) (z := v34045) (L' := [(4, vI (v34045 + 1)), (3, vI v34077), (0, .ref r0), (1, vI a1), (2, vI a2)]) rfl rfl rfl rfl ?_)
          refine wp_of e116 c116_38 (rw_goto (p1 := 5) (by decide) ?_)
          exact wp_lc (ks := [4, 3, 0, 1, 2]) (wl_c rfl (wl_c rfl (wl_c rfl (wl_c rfl (wl_c rfl wl_n))))) rfl (by decide) (ih34044 _ (by omega) (v34045 + 1) v34077 ⟨by omega, by omega⟩ ⟨by omega, by omega⟩ rfl)
  exact wp_lc (ks := [4, 3, 0, 1, 2]) (wl_c rfl (wl_c rfl (wl_c rfl (wl_c rfl (wl_c rfl wl_n))))) rfl (by decide) (lp34042 _ 0 0 ⟨by omega, by omega⟩ ⟨by omega, by omega⟩ rfl)
