/-! methods (own work, written by wip/gen2/sx.py) -/
/-! StrikeAwake.having(II)I -/
theorem e98 : wq_en 98 = some (0, 4, false, some FieldType.int) := rfl
theorem c98_0 : mc_cd 98 0 = some (.aload_n 0, 1) := by decide +kernel
theorem c98_1 : mc_cd 98 1 = some (.aload_n 0, 1) := by decide +kernel
theorem c98_2 : mc_cd 98 2 = some (.iload_n 1, 1) := by decide +kernel
theorem c98_3 : mc_cd 98 3 = some (.iload_n 2, 1) := by decide +kernel
theorem c98_4 : mc_cd 98 4 = some (.invokevirtual 118, 3) := by decide +kernel
theorem c98_7 : mc_cd 98 7 = some (.invokevirtual 174, 3) := by decide +kernel
theorem c98_10 : mc_cd 98 10 = some (.istore_n 3, 1) := by decide +kernel
theorem c98_11 : mc_cd 98 11 = some (.iload_n 3, 1) := by decide +kernel
theorem c98_12 : mc_cd 98 12 = some (.ifCond .eq 9, 3) := by decide +kernel
theorem c98_15 : mc_cd 98 15 = some (.aload_n 0, 1) := by decide +kernel
theorem c98_16 : mc_cd 98 16 = some (.iload_n 3, 1) := by decide +kernel
theorem c98_17 : mc_cd 98 17 = some (.invokevirtual 70, 3) := by decide +kernel
theorem c98_20 : mc_cd 98 20 = some (.ireturn, 1) := by decide +kernel
theorem c98_21 : mc_cd 98 21 = some (.aload_n 0, 1) := by decide +kernel
theorem c98_22 : mc_cd 98 22 = some (.aload_n 0, 1) := by decide +kernel
theorem c98_23 : mc_cd 98 23 = some (.getfield 30, 3) := by decide +kernel
theorem c98_26 : mc_cd 98 26 = some (.getfield 190, 3) := by decide +kernel
theorem c98_29 : mc_cd 98 29 = some (.iload_n 1, 1) := by decide +kernel
theorem c98_30 : mc_cd 98 30 = some (.aaload, 1) := by decide +kernel
theorem c98_31 : mc_cd 98 31 = some (.iload_n 2, 1) := by decide +kernel
theorem c98_32 : mc_cd 98 32 = some (.iaload, 1) := by decide +kernel
theorem c98_33 : mc_cd 98 33 = some (.invokevirtual 99, 3) := by decide +kernel
theorem c98_36 : mc_cd 98 36 = some (.ireturn, 1) := by decide +kernel
abbrev q_98 (r0 : Nat) (a1 : Int) (a2 : Int) (T : wq_T) (H : wq_H) : Option Value → wq_T → wq_H → Prop := fun r T' H' => T = T' ∧ WT T H' ∧ wfr [(12, 5), (12, 6), (12, 7), (12, 8), (12, 9), (1, 10), (6, 5), (8, 999), (10, 999), (15, 999), (9, 999), (18, 999), (19, 999), (7, 999), (11, 999), (17, 999), (13, 999)] T H H' ∧ ∃ z : Int, some (vI z) = r ∧ ((-2147483648) ≤ z ∧ z ≤ 2147483647)
set_option maxHeartbeats 4000000 in
theorem s_98 {kt : Nat → Option mc_E} {T : wq_T} {H : wq_H} {r0 : Nat} {a1 : Int} {a2 : Int} (hW : WT T H) (g0 : T.2.2.2 r0 = some 1) (i1 : (-2147483648) ≤ a1 ∧ a1 ≤ 2147483647) (i2 : (-2147483648) ≤ a2 ∧ a2 ≤ 2147483647) : wpc kt 6 98 [.ref r0, vI a1, vI a2] T H (q_98 r0 a1 a2 T H) := by
  refine wp_enter e98 (Nat.le_of_ble_eq_true rfl) rfl ?_
  have f0 : wfr [(12, 5), (12, 6), (12, 7), (12, 8), (12, 9), (1, 10), (6, 5), (8, 999), (10, 999), (15, 999), (9, 999), (18, 999), (19, 999), (7, 999), (11, 999), (17, 999), (13, 999)] T H H := wfr.rf
  show wp _ _ 98 0 [(0, .ref r0), (1, vI a1), (2, vI a2)] [] _ H _
  refine wp_of e98 c98_0 (rw_aload_n (pc' := 1) (v := .ref r0) rfl rfl rfl ?_)
  refine wp_of e98 c98_1 (rw_aload_n (pc' := 2) (v := .ref r0) rfl rfl rfl ?_)
  refine wp_of e98 c98_2 (rw_iload_n (pc' := 3) (z := a1) rfl rfl ?_)
  refine wp_of e98 c98_3 (rw_iload_n (pc' := 4) (z := a2) rfl rfl ?_)
  refine wp_of e98 c98_4 (xc_V (pc' := 7) (r := r0) (as := [vI a1, vI a2]) (st := [.ref r0]) (lm_0_118) rfl rfl (Nat.le_of_ble_eq_true rfl) hW g0 sh_1 (by decide) rfl (by decide) (s_57 hW g0 ⟨by omega, by omega⟩ ⟨by omega, by omega⟩) (fun R28113 T28114 H28115 p28116 => ?_))
  obtain ⟨e28117, e28119, z28121, e28118, b28122, p28120⟩ := p28116
  subst e28117
  subst e28118
  subst e28119
  show wp _ _ 98 7 [(0, .ref r0), (1, vI a1), (2, vI a2)] [vI z28121, .ref r0] _ H _
  refine wp_of e98 c98_7 (xc_V (pc' := 10) (r := r0) (as := [vI z28121]) (st := []) (lm_0_174) rfl rfl (Nat.le_of_ble_eq_true rfl) hW g0 sh_1 (by decide) rfl (by decide) (s_83 hW g0 ⟨by omega, by omega⟩) (fun R28123 T28124 H28125 p28126 => ?_))
  obtain ⟨e28127, w28129, f28130, z28132, e28128, b28133, p28131⟩ := p28126
  subst e28127
  subst e28128
  have f28134 := f0.tr f28130 rfl
  show wp _ _ 98 10 [(0, .ref r0), (1, vI a1), (2, vI a2)] [vI z28132] _ H28125 _
  refine wp_of e98 c98_10 (rw_istore_n (pc' := 11) (z := z28132) (L' := [(3, vI z28132), (0, .ref r0), (1, vI a1), (2, vI a2)]) rfl rfl rfl ?_)
  refine wp_of e98 c98_11 (rw_iload_n (pc' := 12) (z := z28132) rfl rfl ?_)
  refine wp_of e98 c98_12 (rw_if_eq (p1 := 21) (p2 := 15) (by decide) rfl ⟨by omega, by omega⟩ (fun c28135 => ?_) (fun c28135 => ?_))
  · refine wp_of e98 c98_21 (rw_aload_n (pc' := 22) (v := .ref r0) rfl rfl rfl ?_)
    refine wp_of e98 c98_22 (rw_aload_n (pc' := 23) (v := .ref r0) rfl rfl rfl ?_)
    refine wp_of e98 c98_23 (xg_R (pc' := 26) lf_0_30 w28129 g0 sh_1 (by decide) (by decide) ty_1_3 rfl rfl (fun r28136 q28137 g28138 => ?_))
    refine wp_of e98 c98_26 (xg_R (pc' := 29) lf_0_190 w28129 g28138 sh_12 (by decide) (by decide) ty_12_1 rfl rfl (fun r28139 q28140 g28141 => ?_))
    refine wp_of e98 c98_29 (rw_iload_n (pc' := 30) (z := a1) rfl rfl ?_)
    refine wp_of e98 c98_30 (xa_R (pc' := 31) (by decide) w28129 g28141 sh_14 (by decide) (ty_14 _) (by omega) (by omega) rfl (fun r28142 q28143 g28144 => ?_))
    refine wp_of e98 c98_31 (rw_iload_n (pc' := 32) (z := a2) rfl rfl ?_)
    refine wp_of e98 c98_32 (xa_I (so := 0) (pc' := 33) w28129 g28144 sh_15 (by decide) (ty_15 _) (by omega) (by omega) rfl (fun b28145 b28146 => ?_))
    refine wp_of e98 c98_33 (xc_V (pc' := 36) (r := r0) (as := [vI (H28125 r28142 (a2.toNat))]) (st := []) (lm_0_99) rfl rfl (Nat.le_of_ble_eq_true rfl) w28129 g0 sh_1 (by decide) rfl (by decide) (s_51 w28129 g0 ⟨by omega, by omega⟩) (fun R28147 T28148 H28149 p28150 => ?_))
    obtain ⟨e28151, w28153, f28154, z28155, e28152, b28156⟩ := p28150
    subst e28151
    subst e28152
    have f28157 := f28134.tr f28154 rfl
    show wp _ _ 98 36 [(3, vI z28132), (0, .ref r0), (1, vI a1), (2, vI a2)] [vI z28155] _ H28149 _
    exact wp_ireturn e98 c98_36 rfl ⟨rfl, w28153, f28157, z28155, rfl, ⟨by omega, by omega⟩⟩
  · refine wp_of e98 c98_15 (rw_aload_n (pc' := 16) (v := .ref r0) rfl rfl rfl ?_)
    refine wp_of e98 c98_16 (rw_iload_n (pc' := 17) (z := z28132) rfl rfl ?_)
    refine wp_of e98 c98_17 (xc_V (pc' := 20) (r := r0) (as := [vI z28132]) (st := []) (lm_0_70) rfl rfl (Nat.le_of_ble_eq_true rfl) w28129 g0 sh_1 (by decide) rfl (by decide) (s_12 w28129 g0 ⟨by omega, by omega⟩) (fun R28158 T28159 H28160 p28161 => ?_))
    obtain ⟨e28162, w28164, f28165, z28166, e28163, b28167⟩ := p28161
    subst e28162
    subst e28163
    have f28168 := f28134.tr f28165 rfl
    show wp _ _ 98 20 [(3, vI z28132), (0, .ref r0), (1, vI a1), (2, vI a2)] [vI z28166] _ H28160 _
    exact wp_ireturn e98 c98_20 rfl ⟨rfl, w28164, f28168, z28166, rfl, ⟨by omega, by omega⟩⟩
/-! StrikeAwake$Census.countAwake(LStrikeAwake$Parish;II)I -/
theorem e100 : wq_en 100 = some (4, 7, false, some FieldType.int) := rfl
theorem c100_0 : mc_cd 100 0 = some (.aload_n 1, 1) := by decide +kernel
theorem c100_1 : mc_cd 100 1 = some (.getfield 78, 3) := by decide +kernel
theorem c100_4 : mc_cd 100 4 = some (.iload_n 2, 1) := by decide +kernel
theorem c100_5 : mc_cd 100 5 = some (.aaload, 1) := by decide +kernel
theorem c100_6 : mc_cd 100 6 = some (.astore 4, 2) := by decide +kernel
theorem c100_8 : mc_cd 100 8 = some (.iconst 0, 1) := by decide +kernel
theorem c100_9 : mc_cd 100 9 = some (.istore 5, 2) := by decide +kernel
theorem c100_11 : mc_cd 100 11 = some (.iconst 0, 1) := by decide +kernel
theorem c100_12 : mc_cd 100 12 = some (.istore 6, 2) := by decide +kernel
theorem c100_14 : mc_cd 100 14 = some (.iload 6, 2) := by decide +kernel
theorem c100_16 : mc_cd 100 16 = some (.aload 4, 2) := by decide +kernel
theorem c100_18 : mc_cd 100 18 = some (.getfield 116, 3) := by decide +kernel
theorem c100_21 : mc_cd 100 21 = some (.if_icmp .ge 38, 3) := by decide +kernel
theorem c100_24 : mc_cd 100 24 = some (.aload 4, 2) := by decide +kernel
theorem c100_26 : mc_cd 100 26 = some (.getfield 119, 3) := by decide +kernel
theorem c100_29 : mc_cd 100 29 = some (.iload 6, 2) := by decide +kernel
theorem c100_31 : mc_cd 100 31 = some (.iaload, 1) := by decide +kernel
theorem c100_32 : mc_cd 100 32 = some (.iload_n 3, 1) := by decide +kernel
theorem c100_33 : mc_cd 100 33 = some (.invokestatic 122, 3) := by decide +kernel
theorem c100_36 : mc_cd 100 36 = some (.ifCond .eq 17, 3) := by decide +kernel
theorem c100_39 : mc_cd 100 39 = some (.iload 5, 2) := by decide +kernel
theorem c100_41 : mc_cd 100 41 = some (.aload_n 0, 1) := by decide +kernel
theorem c100_42 : mc_cd 100 42 = some (.getfield 17, 3) := by decide +kernel
theorem c100_45 : mc_cd 100 45 = some (.iload_n 2, 1) := by decide +kernel
theorem c100_46 : mc_cd 100 46 = some (.aaload, 1) := by decide +kernel
theorem c100_47 : mc_cd 100 47 = some (.iload 6, 2) := by decide +kernel
theorem c100_49 : mc_cd 100 49 = some (.iaload, 1) := by decide +kernel
theorem c100_50 : mc_cd 100 50 = some (.iadd, 1) := by decide +kernel
theorem c100_51 : mc_cd 100 51 = some (.istore 5, 2) := by decide +kernel
theorem c100_53 : mc_cd 100 53 = some (.iinc 6 1, 3) := by decide +kernel
theorem c100_56 : mc_cd 100 56 = some (.goto (-42), 3) := by decide +kernel
theorem c100_59 : mc_cd 100 59 = some (.iload 5, 2) := by decide +kernel
theorem c100_61 : mc_cd 100 61 = some (.ireturn, 1) := by decide +kernel
abbrev q_100 (r0 : Nat) (r1 : Nat) (a2 : Int) (a3 : Int) (T : wq_T) (H : wq_H) : Option Value → wq_T → wq_H → Prop := fun r T' H' => T = T' ∧ H = H' ∧ ∃ z : Int, some (vI z) = r ∧ ((-2147483648) ≤ z ∧ z ≤ 2147483647)
set_option maxHeartbeats 4000000 in
theorem s_100 {kt : Nat → Option mc_E} {T : wq_T} {H : wq_H} {r0 : Nat} {r1 : Nat} {a2 : Int} {a3 : Int} (hW : WT T H) (g0 : T.2.2.2 r0 = some 12) (g1 : T.2.2.2 r1 = some 27) (i2 : 0 ≤ a2 ∧ a2 ≤ 5) (i3 : (-2147483648) ≤ a3 ∧ a3 ≤ 2147483647) : wpc kt 2 100 [.ref r0, .ref r1, vI a2, vI a3] T H (q_100 r0 r1 a2 a3 T H) := by
  refine wp_enter e100 (Nat.le_of_ble_eq_true rfl) rfl ?_
  show wp _ _ 100 0 [(0, .ref r0), (1, .ref r1), (2, vI a2), (3, vI a3)] [] _ H _
  refine wp_of e100 c100_0 (rw_aload_n (pc' := 1) (v := .ref r1) rfl rfl rfl ?_)
  refine wp_of e100 c100_1 (xg_R (pc' := 4) lf_4_78 hW g1 sh_27 (by decide) (by decide) ty_27_0 rfl rfl (fun r28426 q28427 g28428 => ?_))
  refine wp_of e100 c100_4 (rw_iload_n (pc' := 5) (z := a2) rfl rfl ?_)
  refine wp_of e100 c100_5 (xa_R (pc' := 6) (by decide) hW g28428 sh_28 (by decide) (ty_28 _) (by omega) (by omega) rfl (fun r28429 q28430 g28431 => ?_))
  refine wp_of e100 c100_6 (rw_astore (pc' := 8) (v := .ref r28429) (L' := [(4, .ref r28429), (0, .ref r0), (1, .ref r1), (2, vI a2), (3, vI a3)]) rfl rfl rfl rfl ?_)
  refine wp_of e100 c100_8 (rw_iconst (pc' := 9) rfl ?_)
  refine wp_of e100 c100_9 (rw_istore (pc' := 11) (z := 0) (L' := [(5, vI 0), (4, .ref r28429), (0, .ref r0), (1, .ref r1), (2, vI a2), (3, vI a3)]) rfl rfl rfl ?_)
  refine wp_of e100 c100_11 (rw_iconst (pc' := 12) rfl ?_)
  refine wp_of e100 c100_12 (rw_istore (pc' := 14) (z := 0) (L' := [(6, vI 0), (5, vI 0), (4, .ref r28429), (0, .ref r0), (1, .ref r1), (2, vI a2), (3, vI a3)]) rfl rfl rfl ?_)
  have lp28654 : ∀ (n28655 : Nat) (v28657 : Int) (v28658 : Int), (0 ≤ v28657 ∧ v28657 ≤ 40) → ((-2147483648) ≤ v28658 ∧ v28658 ≤ 2147483647) → (40 - v28657).toNat = n28655 → wp kt 1 100 14 [(6, vI v28657), (5, vI v28658), (4, .ref r28429), (0, .ref r0), (2, vI a2), (3, vI a3)] [] T H (q_100 r0 r1 a2 a3 T H) := by
    intro n28655
    induction n28655 using Nat.strongRecOn with
    | _ n28655 ih28656 =>
      intro v28657 v28658 b28661 b28662 m28663
      refine wp_of e100 c100_14 (rw_iload (pc' := 16) (z := v28657) rfl rfl ?_)
      refine wp_of e100 c100_16 (rw_aload (pc' := 18) (v := .ref r28429) rfl rfl rfl ?_)
      refine wp_of e100 c100_18 (xg_I (pc' := 21) lf_4_116 hW g28431 sh_35 (by decide) (by decide) ty_35_15 rfl rfl (fun b28664 b28665 => ?_))
      refine wp_of e100 c100_21 (rw_icmp_ge (p1 := 59) (p2 := 24) (by decide) rfl ⟨by omega, by omega⟩ ⟨by omega, by omega⟩ (fun c28666 => ?_) (fun c28666 => ?_))
      · refine wp_of e100 c100_59 (rw_iload (pc' := 61) (z := v28658) rfl rfl ?_)
        exact wp_ireturn e100 c100_61 rfl ⟨rfl, rfl, v28658, rfl, ⟨by omega, by omega⟩⟩
      · refine wp_of e100 c100_24 (rw_aload (pc' := 26) (v := .ref r28429) rfl rfl rfl ?_)
        refine wp_of e100 c100_26 (xg_R (pc' := 29) lf_4_119 hW g28431 sh_35 (by decide) (by decide) ty_35_3 rfl rfl (fun r28667 q28668 g28669 => ?_))
        refine wp_of e100 c100_29 (rw_iload (pc' := 31) (z := v28657) rfl rfl ?_)
        refine wp_of e100 c100_31 (xa_I (so := 0) (pc' := 32) hW g28669 sh_39 (by decide) (ty_39 _) (by omega) (by omega) rfl (fun b28670 b28671 => ?_))
        refine wp_of e100 c100_32 (rw_iload_n (pc' := 33) (z := a3) rfl rfl ?_)
        refine wp_of e100 c100_33 (xc_S (pc' := 36) (as := [vI (H r28667 (v28657.toNat)), vI a3]) (st := []) (lm_4_122) rfl rfl (Nat.le_of_ble_eq_true rfl) rfl (by decide) (s_36 hW ⟨by omega, by omega⟩ ⟨by omega, by omega⟩) (fun R28672 T28673 H28674 p28675 => ?_))
        obtain ⟨e28676, e28678, z28679, e28677, b28680⟩ := p28675
        subst e28676
        subst e28677
        subst e28678
        show wp _ _ 100 36 [(6, vI v28657), (5, vI v28658), (4, .ref r28429), (0, .ref r0), (2, vI a2), (3, vI a3)] [vI z28679] _ H _
        refine wp_of e100 c100_36 (rw_if_eq (p1 := 53) (p2 := 39) (by decide) rfl ⟨by omega, by omega⟩ (fun c28681 => ?_) (fun c28681 => ?_))
        · refine wp_of e100 c100_53 (rw_iinc (pc' := 56) (z := v28657) (L' := [(6, vI (v28657 + 1)), (5, vI v28658), (4, .ref r28429), (0, .ref r0), (2, vI a2), (3, vI a3)]) rfl rfl rfl rfl ?_)
          refine wp_of e100 c100_56 (rw_goto (p1 := 14) (by decide) ?_)
          exact wp_lc (ks := [6, 5, 4, 0, 2, 3]) (wl_c rfl (wl_c rfl (wl_c rfl (wl_c rfl (wl_c rfl (wl_c rfl wl_n)))))) rfl (by decide) (ih28656 _ (by omega) (v28657 + 1) v28658 ⟨by omega, by omega⟩ ⟨by omega, by omega⟩ rfl)
        · refine wp_of e100 c100_39 (rw_iload (pc' := 41) (z := v28658) rfl rfl ?_)
          refine wp_of e100 c100_41 (rw_aload_n (pc' := 42) (v := .ref r0) rfl rfl rfl ?_)
          refine wp_of e100 c100_42 (xg_R (pc' := 45) lf_4_17 hW g0 sh_12 (by decide) (by decide) ty_12_1 rfl rfl (fun r28682 q28683 g28684 => ?_))
          refine wp_of e100 c100_45 (rw_iload_n (pc' := 46) (z := a2) rfl rfl ?_)
          refine wp_of e100 c100_46 (xa_R (pc' := 47) (by decide) hW g28684 sh_14 (by decide) (ty_14 _) (by omega) (by omega) rfl (fun r28685 q28686 g28687 => ?_))
          refine wp_of e100 c100_47 (rw_iload (pc' := 49) (z := v28657) rfl rfl ?_)
          refine wp_of e100 c100_49 (xa_I (so := 0) (pc' := 50) hW g28687 sh_15 (by decide) (ty_15 _) (by omega) (by omega) rfl (fun b28688 b28689 => ?_))
          refine wp_of e100 c100_50 (rw_iaddw (pc' := 51) rfl ?_)
          obtain ⟨v28690, e28691⟩ : ∃ x : Int, x = wq_w (v28658 + (H r28685 (v28657.toNat))) := ⟨_, rfl⟩
          rw [← e28691]
          have b28692 : -2147483648 ≤ v28690 ∧ v28690 ≤ 2147483647 := by
            rw [e28691]
            exact wI_w _
          refine wp_of e100 c100_51 (rw_istore (pc' := 53) (z := v28690) (L' := [(5, vI v28690), (6, vI v28657), (4, .ref r28429), (0, .ref r0), (2, vI a2), (3, vI a3)]) rfl rfl rfl ?_)
          refine wp_of e100 c100_53 (rw_iinc (pc' := 56) (z := v28657) (L' := [(6, vI (v28657 + 1)), (5, vI v28690), (4, .ref r28429), (0, .ref r0), (2, vI a2), (3, vI a3)]) rfl rfl rfl rfl ?_)
          refine wp_of e100 c100_56 (rw_goto (p1 := 14) (by decide) ?_)
          exact wp_lc (ks := [6, 5, 4, 0, 2, 3]) (wl_c rfl (wl_c rfl (wl_c rfl (wl_c rfl (wl_c rfl (wl_c rfl wl_n)))))) rfl (by decide) (ih28656 _ (by omega) (v28657 + 1) v28690 ⟨by omega, by omega⟩ ⟨by omega, by omega⟩ rfl)
  exact wp_lc (ks := [6, 5, 4, 0, 1, 2, 3]) (wl_c rfl (wl_c rfl (wl_c rfl (wl_c rfl (wl_c rfl (wl_c rfl wl_n)))))) rfl (by decide) (lp28654 _ 0 0 ⟨by omega, by omega⟩ ⟨by omega, by omega⟩ rfl)
/-! StrikeAwake.times(II)I -/
theorem e99 : wq_en 99 = some (0, 4, false, some FieldType.int) := rfl
theorem c99_0 : mc_cd 99 0 = some (.aload_n 0, 1) := by decide +kernel
theorem c99_1 : mc_cd 99 1 = some (.aload_n 0, 1) := by decide +kernel
theorem c99_2 : mc_cd 99 2 = some (.iload_n 1, 1) := by decide +kernel
theorem c99_3 : mc_cd 99 3 = some (.invokevirtual 105, 3) := by decide +kernel
theorem c99_6 : mc_cd 99 6 = some (.ifCond .eq 15, 3) := by decide +kernel
theorem c99_9 : mc_cd 99 9 = some (.aload_n 0, 1) := by decide +kernel
theorem c99_10 : mc_cd 99 10 = some (.iload_n 2, 1) := by decide +kernel
theorem c99_11 : mc_cd 99 11 = some (.invokevirtual 132, 3) := by decide +kernel
theorem c99_14 : mc_cd 99 14 = some (.ifCond .eq 7, 3) := by decide +kernel
theorem c99_17 : mc_cd 99 17 = some (.iconst 1, 1) := by decide +kernel
theorem c99_18 : mc_cd 99 18 = some (.goto 4, 3) := by decide +kernel
theorem c99_21 : mc_cd 99 21 = some (.iconst 0, 1) := by decide +kernel
theorem c99_22 : mc_cd 99 22 = some (.invokevirtual 174, 3) := by decide +kernel
theorem c99_25 : mc_cd 99 25 = some (.istore_n 3, 1) := by decide +kernel
theorem c99_26 : mc_cd 99 26 = some (.iload_n 3, 1) := by decide +kernel
theorem c99_27 : mc_cd 99 27 = some (.ifCond .eq 9, 3) := by decide +kernel
theorem c99_30 : mc_cd 99 30 = some (.aload_n 0, 1) := by decide +kernel
theorem c99_31 : mc_cd 99 31 = some (.iload_n 3, 1) := by decide +kernel
theorem c99_32 : mc_cd 99 32 = some (.invokevirtual 70, 3) := by decide +kernel
theorem c99_35 : mc_cd 99 35 = some (.ireturn, 1) := by decide +kernel
theorem c99_36 : mc_cd 99 36 = some (.aload_n 0, 1) := by decide +kernel
theorem c99_37 : mc_cd 99 37 = some (.aload_n 0, 1) := by decide +kernel
theorem c99_38 : mc_cd 99 38 = some (.getfield 30, 3) := by decide +kernel
theorem c99_41 : mc_cd 99 41 = some (.aload_n 0, 1) := by decide +kernel
theorem c99_42 : mc_cd 99 42 = some (.getfield 51, 3) := by decide +kernel
theorem c99_45 : mc_cd 99 45 = some (.iload_n 1, 1) := by decide +kernel
theorem c99_46 : mc_cd 99 46 = some (.iload_n 2, 1) := by decide +kernel
theorem c99_47 : mc_cd 99 47 = some (.invokevirtual 194, 3) := by decide +kernel
theorem c99_50 : mc_cd 99 50 = some (.invokevirtual 99, 3) := by decide +kernel
theorem c99_53 : mc_cd 99 53 = some (.ireturn, 1) := by decide +kernel
abbrev q_99 (r0 : Nat) (a1 : Int) (a2 : Int) (T : wq_T) (H : wq_H) : Option Value → wq_T → wq_H → Prop := fun r T' H' => T = T' ∧ WT T H' ∧ wfr [(12, 5), (12, 6), (12, 7), (12, 8), (12, 9), (1, 10), (6, 5), (8, 999), (10, 999), (15, 999), (9, 999), (18, 999), (19, 999), (7, 999), (11, 999), (17, 999), (13, 999)] T H H' ∧ ∃ z : Int, some (vI z) = r ∧ ((-2147483648) ≤ z ∧ z ≤ 2147483647)
set_option maxHeartbeats 4000000 in
theorem s_99 {kt : Nat → Option mc_E} {T : wq_T} {H : wq_H} {r0 : Nat} {a1 : Int} {a2 : Int} (hW : WT T H) (g0 : T.2.2.2 r0 = some 1) (i1 : (-2147483648) ≤ a1 ∧ a1 ≤ 2147483647) (i2 : (-2147483648) ≤ a2 ∧ a2 ≤ 2147483647) : wpc kt 6 99 [.ref r0, vI a1, vI a2] T H (q_99 r0 a1 a2 T H) := by
  refine wp_enter e99 (Nat.le_of_ble_eq_true rfl) rfl ?_
  have f0 : wfr [(12, 5), (12, 6), (12, 7), (12, 8), (12, 9), (1, 10), (6, 5), (8, 999), (10, 999), (15, 999), (9, 999), (18, 999), (19, 999), (7, 999), (11, 999), (17, 999), (13, 999)] T H H := wfr.rf
  show wp _ _ 99 0 [(0, .ref r0), (1, vI a1), (2, vI a2)] [] _ H _
  refine wp_of e99 c99_0 (rw_aload_n (pc' := 1) (v := .ref r0) rfl rfl rfl ?_)
  refine wp_of e99 c99_1 (rw_aload_n (pc' := 2) (v := .ref r0) rfl rfl rfl ?_)
  refine wp_of e99 c99_2 (rw_iload_n (pc' := 3) (z := a1) rfl rfl ?_)
  refine wp_of e99 c99_3 (xc_V (pc' := 6) (r := r0) (as := [vI a1]) (st := [.ref r0]) (lm_0_105) rfl rfl (Nat.le_of_ble_eq_true rfl) hW g0 sh_1 (by decide) rfl (by decide) (s_55 hW g0 ⟨by omega, by omega⟩) (fun R28813 T28814 H28815 p28816 => ?_))
  obtain ⟨e28817, e28819, z28821, e28818, b28822, p28820⟩ := p28816
  subst e28817
  subst e28818
  subst e28819
  show wp _ _ 99 6 [(0, .ref r0), (1, vI a1), (2, vI a2)] [vI z28821, .ref r0] _ H _
  refine wp_of e99 c99_6 (rw_if_eq (p1 := 21) (p2 := 9) (by decide) rfl ⟨by omega, by omega⟩ (fun c28823 => ?_) (fun c28823 => ?_))
  · refine wp_of e99 c99_21 (rw_iconst (pc' := 22) rfl ?_)
    refine wp_of e99 c99_22 (xc_V (pc' := 25) (r := r0) (as := [vI 0]) (st := []) (lm_0_174) rfl rfl (Nat.le_of_ble_eq_true rfl) hW g0 sh_1 (by decide) rfl (by decide) (s_83 hW g0 ⟨by omega, by omega⟩) (fun R28824 T28825 H28826 p28827 => ?_))
    obtain ⟨e28828, w28830, f28831, z28833, e28829, b28834, p28832⟩ := p28827
    subst e28828
    subst e28829
    have f28835 := f0.tr f28831 rfl
    show wp _ _ 99 25 [(0, .ref r0), (1, vI a1), (2, vI a2)] [vI z28833] _ H28826 _
    refine wp_of e99 c99_25 (rw_istore_n (pc' := 26) (z := z28833) (L' := [(3, vI z28833), (0, .ref r0), (1, vI a1), (2, vI a2)]) rfl rfl rfl ?_)
    refine wp_of e99 c99_26 (rw_iload_n (pc' := 27) (z := z28833) rfl rfl ?_)
    refine wp_of e99 c99_27 (rw_if_eq (p1 := 36) (p2 := 30) (by decide) rfl ⟨by omega, by omega⟩ (fun c28836 => ?_) (fun c28836 => ?_))
    · exfalso
      omega
    · refine wp_of e99 c99_30 (rw_aload_n (pc' := 31) (v := .ref r0) rfl rfl rfl ?_)
      refine wp_of e99 c99_31 (rw_iload_n (pc' := 32) (z := z28833) rfl rfl ?_)
      refine wp_of e99 c99_32 (xc_V (pc' := 35) (r := r0) (as := [vI z28833]) (st := []) (lm_0_70) rfl rfl (Nat.le_of_ble_eq_true rfl) w28830 g0 sh_1 (by decide) rfl (by decide) (s_12 w28830 g0 ⟨by omega, by omega⟩) (fun R28837 T28838 H28839 p28840 => ?_))
      obtain ⟨e28841, w28843, f28844, z28845, e28842, b28846⟩ := p28840
      subst e28841
      subst e28842
      have f28847 := f28835.tr f28844 rfl
      show wp _ _ 99 35 [(3, vI z28833), (0, .ref r0), (1, vI a1), (2, vI a2)] [vI z28845] _ H28839 _
      exact wp_ireturn e99 c99_35 rfl ⟨rfl, w28843, f28847, z28845, rfl, ⟨by omega, by omega⟩⟩
  · refine wp_of e99 c99_9 (rw_aload_n (pc' := 10) (v := .ref r0) rfl rfl rfl ?_)
    refine wp_of e99 c99_10 (rw_iload_n (pc' := 11) (z := a2) rfl rfl ?_)
    refine wp_of e99 c99_11 (xc_V (pc' := 14) (r := r0) (as := [vI a2]) (st := [.ref r0]) (lm_0_132) rfl rfl (Nat.le_of_ble_eq_true rfl) hW g0 sh_1 (by decide) rfl (by decide) (s_60 hW g0 ⟨by omega, by omega⟩) (fun R28848 T28849 H28850 p28851 => ?_))
    obtain ⟨e28852, e28854, z28856, e28853, b28857, p28855⟩ := p28851
    subst e28852
    subst e28853
    subst e28854
    show wp _ _ 99 14 [(0, .ref r0), (1, vI a1), (2, vI a2)] [vI z28856, .ref r0] _ H _
    refine wp_of e99 c99_14 (rw_if_eq (p1 := 21) (p2 := 17) (by decide) rfl ⟨by omega, by omega⟩ (fun c28858 => ?_) (fun c28858 => ?_))
    · refine wp_of e99 c99_21 (rw_iconst (pc' := 22) rfl ?_)
      refine wp_of e99 c99_22 (xc_V (pc' := 25) (r := r0) (as := [vI 0]) (st := []) (lm_0_174) rfl rfl (Nat.le_of_ble_eq_true rfl) hW g0 sh_1 (by decide) rfl (by decide) (s_83 hW g0 ⟨by omega, by omega⟩) (fun R28859 T28860 H28861 p28862 => ?_))
      obtain ⟨e28863, w28865, f28866, z28868, e28864, b28869, p28867⟩ := p28862
      subst e28863
      subst e28864
      have f28870 := f0.tr f28866 rfl
      show wp _ _ 99 25 [(0, .ref r0), (1, vI a1), (2, vI a2)] [vI z28868] _ H28861 _
      refine wp_of e99 c99_25 (rw_istore_n (pc' := 26) (z := z28868) (L' := [(3, vI z28868), (0, .ref r0), (1, vI a1), (2, vI a2)]) rfl rfl rfl ?_)
      refine wp_of e99 c99_26 (rw_iload_n (pc' := 27) (z := z28868) rfl rfl ?_)
      refine wp_of e99 c99_27 (rw_if_eq (p1 := 36) (p2 := 30) (by decide) rfl ⟨by omega, by omega⟩ (fun c28871 => ?_) (fun c28871 => ?_))
      · exfalso
        omega
      · refine wp_of e99 c99_30 (rw_aload_n (pc' := 31) (v := .ref r0) rfl rfl rfl ?_)
        refine wp_of e99 c99_31 (rw_iload_n (pc' := 32) (z := z28868) rfl rfl ?_)
        refine wp_of e99 c99_32 (xc_V (pc' := 35) (r := r0) (as := [vI z28868]) (st := []) (lm_0_70) rfl rfl (Nat.le_of_ble_eq_true rfl) w28865 g0 sh_1 (by decide) rfl (by decide) (s_12 w28865 g0 ⟨by omega, by omega⟩) (fun R28872 T28873 H28874 p28875 => ?_))
        obtain ⟨e28876, w28878, f28879, z28880, e28877, b28881⟩ := p28875
        subst e28876
        subst e28877
        have f28882 := f28870.tr f28879 rfl
        show wp _ _ 99 35 [(3, vI z28868), (0, .ref r0), (1, vI a1), (2, vI a2)] [vI z28880] _ H28874 _
        exact wp_ireturn e99 c99_35 rfl ⟨rfl, w28878, f28882, z28880, rfl, ⟨by omega, by omega⟩⟩
    · refine wp_of e99 c99_17 (rw_iconst (pc' := 18) rfl ?_)
      refine wp_of e99 c99_18 (rw_goto (p1 := 22) (by decide) ?_)
      refine wp_of e99 c99_22 (xc_V (pc' := 25) (r := r0) (as := [vI 1]) (st := []) (lm_0_174) rfl rfl (Nat.le_of_ble_eq_true rfl) hW g0 sh_1 (by decide) rfl (by decide) (s_83 hW g0 ⟨by omega, by omega⟩) (fun R28883 T28884 H28885 p28886 => ?_))
      obtain ⟨e28887, w28889, f28890, z28892, e28888, b28893, p28891⟩ := p28886
      subst e28887
      subst e28888
      have f28894 := f0.tr f28890 rfl
      show wp _ _ 99 25 [(0, .ref r0), (1, vI a1), (2, vI a2)] [vI z28892] _ H28885 _
      refine wp_of e99 c99_25 (rw_istore_n (pc' := 26) (z := z28892) (L' := [(3, vI z28892), (0, .ref r0), (1, vI a1), (2, vI a2)]) rfl rfl rfl ?_)
      refine wp_of e99 c99_26 (rw_iload_n (pc' := 27) (z := z28892) rfl rfl ?_)
      refine wp_of e99 c99_27 (rw_if_eq (p1 := 36) (p2 := 30) (by decide) rfl ⟨by omega, by omega⟩ (fun c28895 => ?_) (fun c28895 => ?_))
      · refine wp_of e99 c99_36 (rw_aload_n (pc' := 37) (v := .ref r0) rfl rfl rfl ?_)
        refine wp_of e99 c99_37 (rw_aload_n (pc' := 38) (v := .ref r0) rfl rfl rfl ?_)
        refine wp_of e99 c99_38 (xg_R (pc' := 41) lf_0_30 w28889 g0 sh_1 (by decide) (by decide) ty_1_3 rfl rfl (fun r28896 q28897 g28898 => ?_))
        refine wp_of e99 c99_41 (rw_aload_n (pc' := 42) (v := .ref r0) rfl rfl rfl ?_)
        refine wp_of e99 c99_42 (xg_R (pc' := 45) lf_0_51 w28889 g0 sh_1 (by decide) (by decide) ty_1_6 rfl rfl (fun r28899 q28900 g28901 => ?_))
        refine wp_of e99 c99_45 (rw_iload_n (pc' := 46) (z := a1) rfl rfl ?_)
        refine wp_of e99 c99_46 (rw_iload_n (pc' := 47) (z := a2) rfl rfl ?_)
        refine wp_of e99 c99_47 (xc_V (pc' := 50) (r := r28896) (as := [.ref r28899, vI a1, vI a2]) (st := [.ref r0]) (lm_0_194) rfl rfl (Nat.le_of_ble_eq_true rfl) w28889 g28898 sh_12 (by decide) rfl (by decide) (s_100 w28889 g28898 g28901 ⟨by omega, by omega⟩ ⟨by omega, by omega⟩) (fun R28902 T28903 H28904 p28905 => ?_))
        obtain ⟨e28906, e28908, z28909, e28907, b28910⟩ := p28905
        subst e28906
        subst e28907
        subst e28908
        show wp _ _ 99 50 [(3, vI z28892), (0, .ref r0), (1, vI a1), (2, vI a2)] [vI z28909, .ref r0] _ H28885 _
        refine wp_of e99 c99_50 (xc_V (pc' := 53) (r := r0) (as := [vI z28909]) (st := []) (lm_0_99) rfl rfl (Nat.le_of_ble_eq_true rfl) w28889 g0 sh_1 (by decide) rfl (by decide) (s_51 w28889 g0 ⟨by omega, by omega⟩) (fun R28911 T28912 H28913 p28914 => ?_))
        obtain ⟨e28915, w28917, f28918, z28919, e28916, b28920⟩ := p28914
        subst e28915
        subst e28916
        have f28921 := f28894.tr f28918 rfl
        show wp _ _ 99 53 [(3, vI z28892), (0, .ref r0), (1, vI a1), (2, vI a2)] [vI z28919] _ H28913 _
        exact wp_ireturn e99 c99_53 rfl ⟨rfl, w28917, f28921, z28919, rfl, ⟨by omega, by omega⟩⟩
      · refine wp_of e99 c99_30 (rw_aload_n (pc' := 31) (v := .ref r0) rfl rfl rfl ?_)
        refine wp_of e99 c99_31 (rw_iload_n (pc' := 32) (z := z28892) rfl rfl ?_)
        refine wp_of e99 c99_32 (xc_V (pc' := 35) (r := r0) (as := [vI z28892]) (st := []) (lm_0_70) rfl rfl (Nat.le_of_ble_eq_true rfl) w28889 g0 sh_1 (by decide) rfl (by decide) (s_12 w28889 g0 ⟨by omega, by omega⟩) (fun R28922 T28923 H28924 p28925 => ?_))
        obtain ⟨e28926, w28928, f28929, z28930, e28927, b28931⟩ := p28925
        subst e28926
        subst e28927
        have f28932 := f28894.tr f28929 rfl
        show wp _ _ 99 35 [(3, vI z28892), (0, .ref r0), (1, vI a1), (2, vI a2)] [vI z28930] _ H28924 _
        exact wp_ireturn e99 c99_35 rfl ⟨rfl, w28928, f28932, z28930, rfl, ⟨by omega, by omega⟩⟩
/-! StrikeAwake.barOfSome(Z)I -/
theorem e102 : wq_en 102 = some (0, 3, false, some FieldType.int) := rfl
theorem c102_0 : mc_cd 102 0 = some (.aload_n 0, 1) := by decide +kernel
theorem c102_1 : mc_cd 102 1 = some (.iload_n 1, 1) := by decide +kernel
theorem c102_2 : mc_cd 102 2 = some (.invokevirtual 174, 3) := by decide +kernel
theorem c102_5 : mc_cd 102 5 = some (.istore_n 2, 1) := by decide +kernel
theorem c102_6 : mc_cd 102 6 = some (.iload_n 2, 1) := by decide +kernel
theorem c102_7 : mc_cd 102 7 = some (.ifCond .ne 18, 3) := by decide +kernel
theorem c102_10 : mc_cd 102 10 = some (.aload_n 0, 1) := by decide +kernel
theorem c102_11 : mc_cd 102 11 = some (.getfield 30, 3) := by decide +kernel
theorem c102_14 : mc_cd 102 14 = some (.getfield 177, 3) := by decide +kernel
theorem c102_17 : mc_cd 102 17 = some (.ifCond .ne 8, 3) := by decide +kernel
theorem c102_20 : mc_cd 102 20 = some (.bipush 6, 2) := by decide +kernel
theorem c102_22 : mc_cd 102 22 = some (.goto 4, 3) := by decide +kernel
theorem c102_25 : mc_cd 102 25 = some (.iload_n 2, 1) := by decide +kernel
theorem c102_26 : mc_cd 102 26 = some (.ireturn, 1) := by decide +kernel
abbrev q_102 (r0 : Nat) (a1 : Int) (T : wq_T) (H : wq_H) : Option Value → wq_T → wq_H → Prop := fun r T' H' => T = T' ∧ WT T H' ∧ wfr [(12, 5), (12, 6), (12, 7), (12, 8), (12, 9), (6, 5), (8, 999), (10, 999), (15, 999), (9, 999), (18, 999), (19, 999), (7, 999), (11, 999), (17, 999), (13, 999)] T H H' ∧ ∃ z : Int, some (vI z) = r ∧ (0 ≤ z ∧ z ≤ 6) ∧ (z ≠ 0 ∨ a1 = 1)
set_option maxHeartbeats 4000000 in
theorem s_102 {kt : Nat → Option mc_E} {T : wq_T} {H : wq_H} {r0 : Nat} {a1 : Int} (hW : WT T H) (g0 : T.2.2.2 r0 = some 1) (i1 : 0 ≤ a1 ∧ a1 ≤ 1) : wpc kt 6 102 [.ref r0, vI a1] T H (q_102 r0 a1 T H) := by
  refine wp_enter e102 (Nat.le_of_ble_eq_true rfl) rfl ?_
  have f0 : wfr [(12, 5), (12, 6), (12, 7), (12, 8), (12, 9), (6, 5), (8, 999), (10, 999), (15, 999), (9, 999), (18, 999), (19, 999), (7, 999), (11, 999), (17, 999), (13, 999)] T H H := wfr.rf
  show wp _ _ 102 0 [(0, .ref r0), (1, vI a1)] [] _ H _
  refine wp_of e102 c102_0 (rw_aload_n (pc' := 1) (v := .ref r0) rfl rfl rfl ?_)
  refine wp_of e102 c102_1 (rw_iload_n (pc' := 2) (z := a1) rfl rfl ?_)
  refine wp_of e102 c102_2 (xc_V (pc' := 5) (r := r0) (as := [vI a1]) (st := []) (lm_0_174) rfl rfl (Nat.le_of_ble_eq_true rfl) hW g0 sh_1 (by decide) rfl (by decide) (s_83 hW g0 ⟨by omega, by omega⟩) (fun R28952 T28953 H28954 p28955 => ?_))
  obtain ⟨e28956, w28958, f28959, z28961, e28957, b28962, p28960⟩ := p28955
  subst e28956
  subst e28957
  have f28963 := f0.tr f28959 rfl
  show wp _ _ 102 5 [(0, .ref r0), (1, vI a1)] [vI z28961] _ H28954 _
  refine wp_of e102 c102_5 (rw_istore_n (pc' := 6) (z := z28961) (L' := [(2, vI z28961), (0, .ref r0), (1, vI a1)]) rfl rfl rfl ?_)
  refine wp_of e102 c102_6 (rw_iload_n (pc' := 7) (z := z28961) rfl rfl ?_)
  refine wp_of e102 c102_7 (rw_if_ne (p1 := 25) (p2 := 10) (by decide) rfl ⟨by omega, by omega⟩ (fun c28964 => ?_) (fun c28964 => ?_))
  · refine wp_of e102 c102_25 (rw_iload_n (pc' := 26) (z := z28961) rfl rfl ?_)
    exact wp_ireturn e102 c102_26 rfl ⟨rfl, w28958, f28963, z28961, rfl, ⟨by omega, by omega⟩, by omega⟩
  · refine wp_of e102 c102_10 (rw_aload_n (pc' := 11) (v := .ref r0) rfl rfl rfl ?_)
    refine wp_of e102 c102_11 (xg_R (pc' := 14) lf_0_30 w28958 g0 sh_1 (by decide) (by decide) ty_1_3 rfl rfl (fun r28965 q28966 g28967 => ?_))
    refine wp_of e102 c102_14 (xg_I (pc' := 17) lf_0_177 w28958 g28967 sh_12 (by decide) (by decide) ty_12_5 rfl rfl (fun b28968 b28969 => ?_))
    refine wp_of e102 c102_17 (rw_if_ne (p1 := 25) (p2 := 20) (by decide) rfl ⟨by omega, by omega⟩ (fun c28970 => ?_) (fun c28970 => ?_))
    · refine wp_of e102 c102_25 (rw_iload_n (pc' := 26) (z := z28961) rfl rfl ?_)
      exact wp_ireturn e102 c102_26 rfl ⟨rfl, w28958, f28963, z28961, rfl, ⟨by omega, by omega⟩, by omega⟩
    · refine wp_of e102 c102_20 (rw_bipush (pc' := 22) (z := 6) rfl (by decide) ?_)
      refine wp_of e102 c102_22 (rw_goto (p1 := 26) (by decide) ?_)
      exact wp_ireturn e102 c102_26 rfl ⟨rfl, w28958, f28963, 6, rfl, ⟨by omega, by omega⟩, by omega⟩
/-! StrikeAwake$Census.sureness(LStrikeAwake$Parish;II)I -/
theorem e103 : wq_en 103 = some (4, 5, false, some FieldType.int) := rfl
theorem c103_0 : mc_cd 103 0 = some (.aload_n 0, 1) := by decide +kernel
theorem c103_1 : mc_cd 103 1 = some (.aload_n 1, 1) := by decide +kernel
theorem c103_2 : mc_cd 103 2 = some (.iload_n 2, 1) := by decide +kernel
theorem c103_3 : mc_cd 103 3 = some (.iload_n 3, 1) := by decide +kernel
theorem c103_4 : mc_cd 103 4 = some (.invokevirtual 126, 3) := by decide +kernel
theorem c103_7 : mc_cd 103 7 = some (.istore 4, 2) := by decide +kernel
theorem c103_9 : mc_cd 103 9 = some (.iload 4, 2) := by decide +kernel
theorem c103_11 : mc_cd 103 11 = some (.ifCond .ne 5, 3) := by decide +kernel
theorem c103_14 : mc_cd 103 14 = some (.iconst 0, 1) := by decide +kernel
theorem c103_15 : mc_cd 103 15 = some (.ireturn, 1) := by decide +kernel
theorem c103_16 : mc_cd 103 16 = some (.iload 4, 2) := by decide +kernel
theorem c103_18 : mc_cd 103 18 = some (.aload_n 0, 1) := by decide +kernel
theorem c103_19 : mc_cd 103 19 = some (.getfield 62, 3) := by decide +kernel
theorem c103_22 : mc_cd 103 22 = some (.if_icmp .ne 7, 3) := by decide +kernel
theorem c103_25 : mc_cd 103 25 = some (.iconst 2, 1) := by decide +kernel
theorem c103_26 : mc_cd 103 26 = some (.goto 4, 3) := by decide +kernel
theorem c103_29 : mc_cd 103 29 = some (.iconst 1, 1) := by decide +kernel
theorem c103_30 : mc_cd 103 30 = some (.ireturn, 1) := by decide +kernel
abbrev q_103 (r0 : Nat) (r1 : Nat) (a2 : Int) (a3 : Int) (T : wq_T) (H : wq_H) : Option Value → wq_T → wq_H → Prop := fun r T' H' => T = T' ∧ H = H' ∧ ∃ z : Int, some (vI z) = r ∧ (0 ≤ z ∧ z ≤ 2)
set_option maxHeartbeats 4000000 in
theorem s_103 {kt : Nat → Option mc_E} {T : wq_T} {H : wq_H} {r0 : Nat} {r1 : Nat} {a2 : Int} {a3 : Int} (hW : WT T H) (g0 : T.2.2.2 r0 = some 12) (g1 : T.2.2.2 r1 = some 27) (i2 : 0 ≤ a2 ∧ a2 ≤ 5) (i3 : (-2147483648) ≤ a3 ∧ a3 ≤ 2147483647) : wpc kt 3 103 [.ref r0, .ref r1, vI a2, vI a3] T H (q_103 r0 r1 a2 a3 T H) := by
  refine wp_enter e103 (Nat.le_of_ble_eq_true rfl) rfl ?_
  show wp _ _ 103 0 [(0, .ref r0), (1, .ref r1), (2, vI a2), (3, vI a3)] [] _ H _
  refine wp_of e103 c103_0 (rw_aload_n (pc' := 1) (v := .ref r0) rfl rfl rfl ?_)
  refine wp_of e103 c103_1 (rw_aload_n (pc' := 2) (v := .ref r1) rfl rfl rfl ?_)
  refine wp_of e103 c103_2 (rw_iload_n (pc' := 3) (z := a2) rfl rfl ?_)
  refine wp_of e103 c103_3 (rw_iload_n (pc' := 4) (z := a3) rfl rfl ?_)
  refine wp_of e103 c103_4 (xc_V (pc' := 7) (r := r0) (as := [.ref r1, vI a2, vI a3]) (st := []) (lm_4_126) rfl rfl (Nat.le_of_ble_eq_true rfl) hW g0 sh_12 (by decide) rfl (by decide) (s_100 hW g0 g1 ⟨by omega, by omega⟩ ⟨by omega, by omega⟩) (fun R28984 T28985 H28986 p28987 => ?_))
  obtain ⟨e28988, e28990, z28991, e28989, b28992⟩ := p28987
  subst e28988
  subst e28989
  subst e28990
  show wp _ _ 103 7 [(0, .ref r0), (1, .ref r1), (2, vI a2), (3, vI a3)] [vI z28991] _ H _
  refine wp_of e103 c103_7 (rw_istore (pc' := 9) (z := z28991) (L' := [(4, vI z28991), (0, .ref r0), (1, .ref r1), (2, vI a2), (3, vI a3)]) rfl rfl rfl ?_)
  refine wp_of e103 c103_9 (rw_iload (pc' := 11) (z := z28991) rfl rfl ?_)
  refine wp_of e103 c103_11 (rw_if_ne (p1 := 16) (p2 := 14) (by decide) rfl ⟨by omega, by omega⟩ (fun c28993 => ?_) (fun c28993 => ?_))
  · refine wp_of e103 c103_16 (rw_iload (pc' := 18) (z := z28991) rfl rfl ?_)
    refine wp_of e103 c103_18 (rw_aload_n (pc' := 19) (v := .ref r0) rfl rfl rfl ?_)
    refine wp_of e103 c103_19 (xg_I (pc' := 22) lf_4_62 hW g0 sh_12 (by decide) (by decide) ty_12_5 rfl rfl (fun b28994 b28995 => ?_))
    refine wp_of e103 c103_22 (rw_icmp_ne (p1 := 29) (p2 := 25) (by decide) rfl ⟨by omega, by omega⟩ ⟨by omega, by omega⟩ (fun c28996 => ?_) (fun c28996 => ?_))
    · refine wp_of e103 c103_29 (rw_iconst (pc' := 30) rfl ?_)
      exact wp_ireturn e103 c103_30 rfl ⟨rfl, rfl, 1, rfl, ⟨by omega, by omega⟩⟩
    · refine wp_of e103 c103_25 (rw_iconst (pc' := 26) rfl ?_)
      refine wp_of e103 c103_26 (rw_goto (p1 := 30) (by decide) ?_)
      exact wp_ireturn e103 c103_30 rfl ⟨rfl, rfl, 2, rfl, ⟨by omega, by omega⟩⟩
  · refine wp_of e103 c103_14 (rw_iconst (pc' := 15) rfl ?_)
    exact wp_ireturn e103 c103_15 rfl ⟨rfl, rfl, 0, rfl, ⟨by omega, by omega⟩⟩
/-! StrikeAwake.sure(II)I -/
theorem e101 : wq_en 101 = some (0, 4, false, some FieldType.int) := rfl
theorem c101_0 : mc_cd 101 0 = some (.aload_n 0, 1) := by decide +kernel
theorem c101_1 : mc_cd 101 1 = some (.aload_n 0, 1) := by decide +kernel
theorem c101_2 : mc_cd 101 2 = some (.iload_n 1, 1) := by decide +kernel
theorem c101_3 : mc_cd 101 3 = some (.invokevirtual 105, 3) := by decide +kernel
theorem c101_6 : mc_cd 101 6 = some (.ifCond .eq 15, 3) := by decide +kernel
theorem c101_9 : mc_cd 101 9 = some (.aload_n 0, 1) := by decide +kernel
theorem c101_10 : mc_cd 101 10 = some (.iload_n 2, 1) := by decide +kernel
theorem c101_11 : mc_cd 101 11 = some (.invokevirtual 132, 3) := by decide +kernel
theorem c101_14 : mc_cd 101 14 = some (.ifCond .eq 7, 3) := by decide +kernel
theorem c101_17 : mc_cd 101 17 = some (.iconst 1, 1) := by decide +kernel
theorem c101_18 : mc_cd 101 18 = some (.goto 4, 3) := by decide +kernel
theorem c101_21 : mc_cd 101 21 = some (.iconst 0, 1) := by decide +kernel
theorem c101_22 : mc_cd 101 22 = some (.invokevirtual 198, 3) := by decide +kernel
theorem c101_25 : mc_cd 101 25 = some (.istore_n 3, 1) := by decide +kernel
theorem c101_26 : mc_cd 101 26 = some (.iload_n 3, 1) := by decide +kernel
theorem c101_27 : mc_cd 101 27 = some (.ifCond .eq 9, 3) := by decide +kernel
theorem c101_30 : mc_cd 101 30 = some (.aload_n 0, 1) := by decide +kernel
theorem c101_31 : mc_cd 101 31 = some (.iload_n 3, 1) := by decide +kernel
theorem c101_32 : mc_cd 101 32 = some (.invokevirtual 70, 3) := by decide +kernel
theorem c101_35 : mc_cd 101 35 = some (.ireturn, 1) := by decide +kernel
theorem c101_36 : mc_cd 101 36 = some (.aload_n 0, 1) := by decide +kernel
theorem c101_37 : mc_cd 101 37 = some (.aload_n 0, 1) := by decide +kernel
theorem c101_38 : mc_cd 101 38 = some (.getfield 30, 3) := by decide +kernel
theorem c101_41 : mc_cd 101 41 = some (.aload_n 0, 1) := by decide +kernel
theorem c101_42 : mc_cd 101 42 = some (.getfield 51, 3) := by decide +kernel
theorem c101_45 : mc_cd 101 45 = some (.iload_n 1, 1) := by decide +kernel
theorem c101_46 : mc_cd 101 46 = some (.iload_n 2, 1) := by decide +kernel
theorem c101_47 : mc_cd 101 47 = some (.invokevirtual 201, 3) := by decide +kernel
theorem c101_50 : mc_cd 101 50 = some (.invokevirtual 99, 3) := by decide +kernel
theorem c101_53 : mc_cd 101 53 = some (.ireturn, 1) := by decide +kernel
abbrev q_101 (r0 : Nat) (a1 : Int) (a2 : Int) (T : wq_T) (H : wq_H) : Option Value → wq_T → wq_H → Prop := fun r T' H' => T = T' ∧ WT T H' ∧ wfr [(12, 5), (12, 6), (12, 7), (12, 8), (12, 9), (1, 10), (6, 5), (8, 999), (10, 999), (15, 999), (9, 999), (18, 999), (19, 999), (7, 999), (11, 999), (17, 999), (13, 999)] T H H' ∧ ∃ z : Int, some (vI z) = r ∧ ((-2147483648) ≤ z ∧ z ≤ 2147483647)
set_option maxHeartbeats 4000000 in
theorem s_101 {kt : Nat → Option mc_E} {T : wq_T} {H : wq_H} {r0 : Nat} {a1 : Int} {a2 : Int} (hW : WT T H) (g0 : T.2.2.2 r0 = some 1) (i1 : (-2147483648) ≤ a1 ∧ a1 ≤ 2147483647) (i2 : (-2147483648) ≤ a2 ∧ a2 ≤ 2147483647) : wpc kt 7 101 [.ref r0, vI a1, vI a2] T H (q_101 r0 a1 a2 T H) := by
  refine wp_enter e101 (Nat.le_of_ble_eq_true rfl) rfl ?_
  have f0 : wfr [(12, 5), (12, 6), (12, 7), (12, 8), (12, 9), (1, 10), (6, 5), (8, 999), (10, 999), (15, 999), (9, 999), (18, 999), (19, 999), (7, 999), (11, 999), (17, 999), (13, 999)] T H H := wfr.rf
  show wp _ _ 101 0 [(0, .ref r0), (1, vI a1), (2, vI a2)] [] _ H _
  refine wp_of e101 c101_0 (rw_aload_n (pc' := 1) (v := .ref r0) rfl rfl rfl ?_)
  refine wp_of e101 c101_1 (rw_aload_n (pc' := 2) (v := .ref r0) rfl rfl rfl ?_)
  refine wp_of e101 c101_2 (rw_iload_n (pc' := 3) (z := a1) rfl rfl ?_)
  refine wp_of e101 c101_3 (xc_V (pc' := 6) (r := r0) (as := [vI a1]) (st := [.ref r0]) (lm_0_105) rfl rfl (Nat.le_of_ble_eq_true rfl) hW g0 sh_1 (by decide) rfl (by decide) (s_55 hW g0 ⟨by omega, by omega⟩) (fun R29117 T29118 H29119 p29120 => ?_))
  obtain ⟨e29121, e29123, z29125, e29122, b29126, p29124⟩ := p29120
  subst e29121
  subst e29122
  subst e29123
  show wp _ _ 101 6 [(0, .ref r0), (1, vI a1), (2, vI a2)] [vI z29125, .ref r0] _ H _
  refine wp_of e101 c101_6 (rw_if_eq (p1 := 21) (p2 := 9) (by decide) rfl ⟨by omega, by omega⟩ (fun c29127 => ?_) (fun c29127 => ?_))
  · refine wp_of e101 c101_21 (rw_iconst (pc' := 22) rfl ?_)
    refine wp_of e101 c101_22 (xc_V (pc' := 25) (r := r0) (as := [vI 0]) (st := []) (lm_0_198) rfl rfl (Nat.le_of_ble_eq_true rfl) hW g0 sh_1 (by decide) rfl (by decide) (s_102 hW g0 ⟨by omega, by omega⟩) (fun R29128 T29129 H29130 p29131 => ?_))
    obtain ⟨e29132, w29134, f29135, z29137, e29133, b29138, p29136⟩ := p29131
    subst e29132
    subst e29133
    have f29139 := f0.tr f29135 rfl
    show wp _ _ 101 25 [(0, .ref r0), (1, vI a1), (2, vI a2)] [vI z29137] _ H29130 _
    refine wp_of e101 c101_25 (rw_istore_n (pc' := 26) (z := z29137) (L' := [(3, vI z29137), (0, .ref r0), (1, vI a1), (2, vI a2)]) rfl rfl rfl ?_)
    refine wp_of e101 c101_26 (rw_iload_n (pc' := 27) (z := z29137) rfl rfl ?_)
    refine wp_of e101 c101_27 (rw_if_eq (p1 := 36) (p2 := 30) (by decide) rfl ⟨by omega, by omega⟩ (fun c29140 => ?_) (fun c29140 => ?_))
    · exfalso
      omega
    · refine wp_of e101 c101_30 (rw_aload_n (pc' := 31) (v := .ref r0) rfl rfl rfl ?_)
      refine wp_of e101 c101_31 (rw_iload_n (pc' := 32) (z := z29137) rfl rfl ?_)
      refine wp_of e101 c101_32 (xc_V (pc' := 35) (r := r0) (as := [vI z29137]) (st := []) (lm_0_70) rfl rfl (Nat.le_of_ble_eq_true rfl) w29134 g0 sh_1 (by decide) rfl (by decide) (s_12 w29134 g0 ⟨by omega, by omega⟩) (fun R29141 T29142 H29143 p29144 => ?_))
      obtain ⟨e29145, w29147, f29148, z29149, e29146, b29150⟩ := p29144
      subst e29145
      subst e29146
      have f29151 := f29139.tr f29148 rfl
      show wp _ _ 101 35 [(3, vI z29137), (0, .ref r0), (1, vI a1), (2, vI a2)] [vI z29149] _ H29143 _
      exact wp_ireturn e101 c101_35 rfl ⟨rfl, w29147, f29151, z29149, rfl, ⟨by omega, by omega⟩⟩
  · refine wp_of e101 c101_9 (rw_aload_n (pc' := 10) (v := .ref r0) rfl rfl rfl ?_)
    refine wp_of e101 c101_10 (rw_iload_n (pc' := 11) (z := a2) rfl rfl ?_)
    refine wp_of e101 c101_11 (xc_V (pc' := 14) (r := r0) (as := [vI a2]) (st := [.ref r0]) (lm_0_132) rfl rfl (Nat.le_of_ble_eq_true rfl) hW g0 sh_1 (by decide) rfl (by decide) (s_60 hW g0 ⟨by omega, by omega⟩) (fun R29152 T29153 H29154 p29155 => ?_))
    obtain ⟨e29156, e29158, z29160, e29157, b29161, p29159⟩ := p29155
    subst e29156
    subst e29157
    subst e29158
    show wp _ _ 101 14 [(0, .ref r0), (1, vI a1), (2, vI a2)] [vI z29160, .ref r0] _ H _
    refine wp_of e101 c101_14 (rw_if_eq (p1 := 21) (p2 := 17) (by decide) rfl ⟨by omega, by omega⟩ (fun c29162 => ?_) (fun c29162 => ?_))
    · refine wp_of e101 c101_21 (rw_iconst (pc' := 22) rfl ?_)
      refine wp_of e101 c101_22 (xc_V (pc' := 25) (r := r0) (as := [vI 0]) (st := []) (lm_0_198) rfl rfl (Nat.le_of_ble_eq_true rfl) hW g0 sh_1 (by decide) rfl (by decide) (s_102 hW g0 ⟨by omega, by omega⟩) (fun R29163 T29164 H29165 p29166 => ?_))
      obtain ⟨e29167, w29169, f29170, z29172, e29168, b29173, p29171⟩ := p29166
      subst e29167
      subst e29168
      have f29174 := f0.tr f29170 rfl
      show wp _ _ 101 25 [(0, .ref r0), (1, vI a1), (2, vI a2)] [vI z29172] _ H29165 _
      refine wp_of e101 c101_25 (rw_istore_n (pc' := 26) (z := z29172) (L' := [(3, vI z29172), (0, .ref r0), (1, vI a1), (2, vI a2)]) rfl rfl rfl ?_)
      refine wp_of e101 c101_26 (rw_iload_n (pc' := 27) (z := z29172) rfl rfl ?_)
      refine wp_of e101 c101_27 (rw_if_eq (p1 := 36) (p2 := 30) (by decide) rfl ⟨by omega, by omega⟩ (fun c29175 => ?_) (fun c29175 => ?_))
      · exfalso
        omega
      · refine wp_of e101 c101_30 (rw_aload_n (pc' := 31) (v := .ref r0) rfl rfl rfl ?_)
        refine wp_of e101 c101_31 (rw_iload_n (pc' := 32) (z := z29172) rfl rfl ?_)
        refine wp_of e101 c101_32 (xc_V (pc' := 35) (r := r0) (as := [vI z29172]) (st := []) (lm_0_70) rfl rfl (Nat.le_of_ble_eq_true rfl) w29169 g0 sh_1 (by decide) rfl (by decide) (s_12 w29169 g0 ⟨by omega, by omega⟩) (fun R29176 T29177 H29178 p29179 => ?_))
        obtain ⟨e29180, w29182, f29183, z29184, e29181, b29185⟩ := p29179
        subst e29180
        subst e29181
        have f29186 := f29174.tr f29183 rfl
        show wp _ _ 101 35 [(3, vI z29172), (0, .ref r0), (1, vI a1), (2, vI a2)] [vI z29184] _ H29178 _
        exact wp_ireturn e101 c101_35 rfl ⟨rfl, w29182, f29186, z29184, rfl, ⟨by omega, by omega⟩⟩
    · refine wp_of e101 c101_17 (rw_iconst (pc' := 18) rfl ?_)
      refine wp_of e101 c101_18 (rw_goto (p1 := 22) (by decide) ?_)
      refine wp_of e101 c101_22 (xc_V (pc' := 25) (r := r0) (as := [vI 1]) (st := []) (lm_0_198) rfl rfl (Nat.le_of_ble_eq_true rfl) hW g0 sh_1 (by decide) rfl (by decide) (s_102 hW g0 ⟨by omega, by omega⟩) (fun R29187 T29188 H29189 p29190 => ?_))
      obtain ⟨e29191, w29193, f29194, z29196, e29192, b29197, p29195⟩ := p29190
      subst e29191
      subst e29192
      have f29198 := f0.tr f29194 rfl
      show wp _ _ 101 25 [(0, .ref r0), (1, vI a1), (2, vI a2)] [vI z29196] _ H29189 _
      refine wp_of e101 c101_25 (rw_istore_n (pc' := 26) (z := z29196) (L' := [(3, vI z29196), (0, .ref r0), (1, vI a1), (2, vI a2)]) rfl rfl rfl ?_)
      refine wp_of e101 c101_26 (rw_iload_n (pc' := 27) (z := z29196) rfl rfl ?_)
      refine wp_of e101 c101_27 (rw_if_eq (p1 := 36) (p2 := 30) (by decide) rfl ⟨by omega, by omega⟩ (fun c29199 => ?_) (fun c29199 => ?_))
      · refine wp_of e101 c101_36 (rw_aload_n (pc' := 37) (v := .ref r0) rfl rfl rfl ?_)
        refine wp_of e101 c101_37 (rw_aload_n (pc' := 38) (v := .ref r0) rfl rfl rfl ?_)
        refine wp_of e101 c101_38 (xg_R (pc' := 41) lf_0_30 w29193 g0 sh_1 (by decide) (by decide) ty_1_3 rfl rfl (fun r29200 q29201 g29202 => ?_))
        refine wp_of e101 c101_41 (rw_aload_n (pc' := 42) (v := .ref r0) rfl rfl rfl ?_)
        refine wp_of e101 c101_42 (xg_R (pc' := 45) lf_0_51 w29193 g0 sh_1 (by decide) (by decide) ty_1_6 rfl rfl (fun r29203 q29204 g29205 => ?_))
        refine wp_of e101 c101_45 (rw_iload_n (pc' := 46) (z := a1) rfl rfl ?_)
        refine wp_of e101 c101_46 (rw_iload_n (pc' := 47) (z := a2) rfl rfl ?_)
        refine wp_of e101 c101_47 (xc_V (pc' := 50) (r := r29200) (as := [.ref r29203, vI a1, vI a2]) (st := [.ref r0]) (lm_0_201) rfl rfl (Nat.le_of_ble_eq_true rfl) w29193 g29202 sh_12 (by decide) rfl (by decide) (s_103 w29193 g29202 g29205 ⟨by omega, by omega⟩ ⟨by omega, by omega⟩) (fun R29206 T29207 H29208 p29209 => ?_))
        obtain ⟨e29210, e29212, z29213, e29211, b29214⟩ := p29209
        subst e29210
        subst e29211
        subst e29212
        show wp _ _ 101 50 [(3, vI z29196), (0, .ref r0), (1, vI a1), (2, vI a2)] [vI z29213, .ref r0] _ H29189 _
        refine wp_of e101 c101_50 (xc_V (pc' := 53) (r := r0) (as := [vI z29213]) (st := []) (lm_0_99) rfl rfl (Nat.le_of_ble_eq_true rfl) w29193 g0 sh_1 (by decide) rfl (by decide) (s_51 w29193 g0 ⟨by omega, by omega⟩) (fun R29215 T29216 H29217 p29218 => ?_))
        obtain ⟨e29219, w29221, f29222, z29223, e29220, b29224⟩ := p29218
        subst e29219
        subst e29220
        have f29225 := f29198.tr f29222 rfl
        show wp _ _ 101 53 [(3, vI z29196), (0, .ref r0), (1, vI a1), (2, vI a2)] [vI z29223] _ H29217 _
        exact wp_ireturn e101 c101_53 rfl ⟨rfl, w29221, f29225, z29223, rfl, ⟨by omega, by omega⟩⟩
      · refine wp_of e101 c101_30 (rw_aload_n (pc' := 31) (v := .ref r0) rfl rfl rfl ?_)
        refine wp_of e101 c101_31 (rw_iload_n (pc' := 32) (z := z29196) rfl rfl ?_)
        refine wp_of e101 c101_32 (xc_V (pc' := 35) (r := r0) (as := [vI z29196]) (st := []) (lm_0_70) rfl rfl (Nat.le_of_ble_eq_true rfl) w29193 g0 sh_1 (by decide) rfl (by decide) (s_12 w29193 g0 ⟨by omega, by omega⟩) (fun R29226 T29227 H29228 p29229 => ?_))
        obtain ⟨e29230, w29232, f29233, z29234, e29231, b29235⟩ := p29229
        subst e29230
        subst e29231
        have f29236 := f29198.tr f29233 rfl
        show wp _ _ 101 35 [(3, vI z29196), (0, .ref r0), (1, vI a1), (2, vI a2)] [vI z29234] _ H29228 _
        exact wp_ireturn e101 c101_35 rfl ⟨rfl, w29232, f29236, z29234, rfl, ⟨by omega, by omega⟩⟩
/-! StrikeAwake.surely(IZ)I -/
theorem e104 : wq_en 104 = some (0, 7, false, some FieldType.int) := rfl
theorem c104_0 : mc_cd 104 0 = some (.aload_n 0, 1) := by decide +kernel
theorem c104_1 : mc_cd 104 1 = some (.aload_n 0, 1) := by decide +kernel
theorem c104_2 : mc_cd 104 2 = some (.iload_n 1, 1) := by decide +kernel
theorem c104_3 : mc_cd 104 3 = some (.invokevirtual 132, 3) := by decide +kernel
theorem c104_6 : mc_cd 104 6 = some (.invokevirtual 198, 3) := by decide +kernel
theorem c104_9 : mc_cd 104 9 = some (.istore_n 3, 1) := by decide +kernel
theorem c104_10 : mc_cd 104 10 = some (.iload_n 3, 1) := by decide +kernel
theorem c104_11 : mc_cd 104 11 = some (.ifCond .eq 9, 3) := by decide +kernel
theorem c104_14 : mc_cd 104 14 = some (.aload_n 0, 1) := by decide +kernel
theorem c104_15 : mc_cd 104 15 = some (.iload_n 3, 1) := by decide +kernel
theorem c104_16 : mc_cd 104 16 = some (.invokevirtual 70, 3) := by decide +kernel
theorem c104_19 : mc_cd 104 19 = some (.ireturn, 1) := by decide +kernel
theorem c104_20 : mc_cd 104 20 = some (.iload_n 2, 1) := by decide +kernel
theorem c104_21 : mc_cd 104 21 = some (.ifCond .eq 7, 3) := by decide +kernel
theorem c104_24 : mc_cd 104 24 = some (.iconst 2, 1) := by decide +kernel
theorem c104_25 : mc_cd 104 25 = some (.goto 4, 3) := by decide +kernel
theorem c104_28 : mc_cd 104 28 = some (.iconst 0, 1) := by decide +kernel
theorem c104_29 : mc_cd 104 29 = some (.istore 4, 2) := by decide +kernel
theorem c104_31 : mc_cd 104 31 = some (.iconst 0, 1) := by decide +kernel
theorem c104_32 : mc_cd 104 32 = some (.istore 5, 2) := by decide +kernel
theorem c104_34 : mc_cd 104 34 = some (.iconst 0, 1) := by decide +kernel
theorem c104_35 : mc_cd 104 35 = some (.istore 6, 2) := by decide +kernel
theorem c104_37 : mc_cd 104 37 = some (.iload 6, 2) := by decide +kernel
theorem c104_39 : mc_cd 104 39 = some (.aload_n 0, 1) := by decide +kernel
theorem c104_40 : mc_cd 104 40 = some (.getfield 51, 3) := by decide +kernel
theorem c104_43 : mc_cd 104 43 = some (.getfield 96, 3) := by decide +kernel
theorem c104_46 : mc_cd 104 46 = some (.if_icmp .ge 37, 3) := by decide +kernel
theorem c104_49 : mc_cd 104 49 = some (.aload_n 0, 1) := by decide +kernel
theorem c104_50 : mc_cd 104 50 = some (.getfield 30, 3) := by decide +kernel
theorem c104_53 : mc_cd 104 53 = some (.aload_n 0, 1) := by decide +kernel
theorem c104_54 : mc_cd 104 54 = some (.getfield 51, 3) := by decide +kernel
theorem c104_57 : mc_cd 104 57 = some (.iload 6, 2) := by decide +kernel
theorem c104_59 : mc_cd 104 59 = some (.iload_n 1, 1) := by decide +kernel
theorem c104_60 : mc_cd 104 60 = some (.invokevirtual 201, 3) := by decide +kernel
theorem c104_63 : mc_cd 104 63 = some (.iload 4, 2) := by decide +kernel
theorem c104_65 : mc_cd 104 65 = some (.if_icmp .ne 12, 3) := by decide +kernel
theorem c104_68 : mc_cd 104 68 = some (.iload 5, 2) := by decide +kernel
theorem c104_70 : mc_cd 104 70 = some (.iconst 1, 1) := by decide +kernel
theorem c104_71 : mc_cd 104 71 = some (.iload 6, 2) := by decide +kernel
theorem c104_73 : mc_cd 104 73 = some (.ishl, 1) := by decide +kernel
theorem c104_74 : mc_cd 104 74 = some (.ior, 1) := by decide +kernel
theorem c104_75 : mc_cd 104 75 = some (.istore 5, 2) := by decide +kernel
theorem c104_77 : mc_cd 104 77 = some (.iinc 6 1, 3) := by decide +kernel
theorem c104_80 : mc_cd 104 80 = some (.goto (-43), 3) := by decide +kernel
theorem c104_83 : mc_cd 104 83 = some (.aload_n 0, 1) := by decide +kernel
theorem c104_84 : mc_cd 104 84 = some (.iload 5, 2) := by decide +kernel
theorem c104_86 : mc_cd 104 86 = some (.invokevirtual 99, 3) := by decide +kernel
theorem c104_89 : mc_cd 104 89 = some (.ireturn, 1) := by decide +kernel
abbrev q_104 (r0 : Nat) (a1 : Int) (a2 : Int) (T : wq_T) (H : wq_H) : Option Value → wq_T → wq_H → Prop := fun r T' H' => T = T' ∧ WT T H' ∧ wfr [(12, 5), (12, 6), (12, 7), (12, 8), (12, 9), (1, 10), (6, 5), (8, 999), (10, 999), (15, 999), (9, 999), (18, 999), (19, 999), (7, 999), (11, 999), (17, 999), (13, 999)] T H H' ∧ ∃ z : Int, some (vI z) = r ∧ ((-2147483648) ≤ z ∧ z ≤ 2147483647)
set_option maxHeartbeats 4000000 in
theorem s_104 {kt : Nat → Option mc_E} {T : wq_T} {H : wq_H} {r0 : Nat} {a1 : Int} {a2 : Int} (hW : WT T H) (g0 : T.2.2.2 r0 = some 1) (i1 : (-2147483648) ≤ a1 ∧ a1 ≤ 2147483647) (i2 : 0 ≤ a2 ∧ a2 ≤ 1) : wpc kt 7 104 [.ref r0, vI a1, vI a2] T H (q_104 r0 a1 a2 T H) := by
  refine wp_enter e104 (Nat.le_of_ble_eq_true rfl) rfl ?_
  have f0 : wfr [(12, 5), (12, 6), (12, 7), (12, 8), (12, 9), (1, 10), (6, 5), (8, 999), (10, 999), (15, 999), (9, 999), (18, 999), (19, 999), (7, 999), (11, 999), (17, 999), (13, 999)] T H H := wfr.rf
  show wp _ _ 104 0 [(0, .ref r0), (1, vI a1), (2, vI a2)] [] _ H _
  refine wp_of e104 c104_0 (rw_aload_n (pc' := 1) (v := .ref r0) rfl rfl rfl ?_)
  refine wp_of e104 c104_1 (rw_aload_n (pc' := 2) (v := .ref r0) rfl rfl rfl ?_)
  refine wp_of e104 c104_2 (rw_iload_n (pc' := 3) (z := a1) rfl rfl ?_)
  refine wp_of e104 c104_3 (xc_V (pc' := 6) (r := r0) (as := [vI a1]) (st := [.ref r0]) (lm_0_132) rfl rfl (Nat.le_of_ble_eq_true rfl) hW g0 sh_1 (by decide) rfl (by decide) (s_60 hW g0 ⟨by omega, by omega⟩) (fun R29664 T29665 H29666 p29667 => ?_))
  obtain ⟨e29668, e29670, z29672, e29669, b29673, p29671⟩ := p29667
  subst e29668
  subst e29669
  subst e29670
  show wp _ _ 104 6 [(0, .ref r0), (1, vI a1), (2, vI a2)] [vI z29672, .ref r0] _ H _
  refine wp_of e104 c104_6 (xc_V (pc' := 9) (r := r0) (as := [vI z29672]) (st := []) (lm_0_198) rfl rfl (Nat.le_of_ble_eq_true rfl) hW g0 sh_1 (by decide) rfl (by decide) (s_102 hW g0 ⟨by omega, by omega⟩) (fun R29674 T29675 H29676 p29677 => ?_))
  obtain ⟨e29678, w29680, f29681, z29683, e29679, b29684, p29682⟩ := p29677
  subst e29678
  subst e29679
  have f29685 := f0.tr f29681 rfl
  show wp _ _ 104 9 [(0, .ref r0), (1, vI a1), (2, vI a2)] [vI z29683] _ H29676 _
  refine wp_of e104 c104_9 (rw_istore_n (pc' := 10) (z := z29683) (L' := [(3, vI z29683), (0, .ref r0), (1, vI a1), (2, vI a2)]) rfl rfl rfl ?_)
  refine wp_of e104 c104_10 (rw_iload_n (pc' := 11) (z := z29683) rfl rfl ?_)
  refine wp_of e104 c104_11 (rw_if_eq (p1 := 20) (p2 := 14) (by decide) rfl ⟨by omega, by omega⟩ (fun c29686 => ?_) (fun c29686 => ?_))
  · refine wp_of e104 c104_20 (rw_iload_n (pc' := 21) (z := a2) rfl rfl ?_)
    refine wp_of e104 c104_21 (rw_if_eq (p1 := 28) (p2 := 24) (by decide) rfl ⟨by omega, by omega⟩ (fun c29687 => ?_) (fun c29687 => ?_))
    · refine wp_of e104 c104_28 (rw_iconst (pc' := 29) rfl ?_)
      refine wp_of e104 c104_29 (rw_istore (pc' := 31) (z := 0) (L' := [(4, vI 0), (3, vI z29683), (0, .ref r0), (1, vI a1), (2, vI a2)]) rfl rfl rfl ?_)
      refine wp_of e104 c104_31 (rw_iconst (pc' := 32) rfl ?_)
      refine wp_of e104 c104_32 (rw_istore (pc' := 34) (z := 0) (L' := [(5, vI 0), (4, vI 0), (3, vI z29683), (0, .ref r0), (1, vI a1), (2, vI a2)]) rfl rfl rfl ?_)
      refine wp_of e104 c104_34 (rw_iconst (pc' := 35) rfl ?_)
      refine wp_of e104 c104_35 (rw_istore (pc' := 37) (z := 0) (L' := [(6, vI 0), (5, vI 0), (4, vI 0), (3, vI z29683), (0, .ref r0), (1, vI a1), (2, vI a2)]) rfl rfl rfl ?_)
      have lp29849 : ∀ (n29850 : Nat) (v29852 : Int) (v29853 : Int), (0 ≤ v29852 ∧ v29852 ≤ 6) → ((-2147483648) ≤ v29853 ∧ v29853 ≤ 2147483647) → (6 - v29852).toNat = n29850 → wp kt 6 104 37 [(6, vI v29852), (5, vI v29853), (4, vI 0), (0, .ref r0), (1, vI a1)] [] T H29676 (q_104 r0 a1 a2 T H) := by
        intro n29850
        induction n29850 using Nat.strongRecOn with
        | _ n29850 ih29851 =>
          intro v29852 v29853 b29856 b29857 m29858
          refine wp_of e104 c104_37 (rw_iload (pc' := 39) (z := v29852) rfl rfl ?_)
          refine wp_of e104 c104_39 (rw_aload_n (pc' := 40) (v := .ref r0) rfl rfl rfl ?_)
          refine wp_of e104 c104_40 (xg_R (pc' := 43) lf_0_51 w29680 g0 sh_1 (by decide) (by decide) ty_1_6 rfl rfl (fun r29859 q29860 g29861 => ?_))
          refine wp_of e104 c104_43 (xg_I (pc' := 46) lf_0_96 w29680 g29861 sh_27 (by decide) (by decide) ty_27_10 rfl rfl (fun b29862 b29863 => ?_))
          refine wp_of e104 c104_46 (rw_icmp_ge (p1 := 83) (p2 := 49) (by decide) rfl ⟨by omega, by omega⟩ ⟨by omega, by omega⟩ (fun c29864 => ?_) (fun c29864 => ?_))
          · refine wp_of e104 c104_83 (rw_aload_n (pc' := 84) (v := .ref r0) rfl rfl rfl ?_)
            refine wp_of e104 c104_84 (rw_iload (pc' := 86) (z := v29853) rfl rfl ?_)
            refine wp_of e104 c104_86 (xc_V (pc' := 89) (r := r0) (as := [vI v29853]) (st := []) (lm_0_99) rfl rfl (Nat.le_of_ble_eq_true rfl) w29680 g0 sh_1 (by decide) rfl (by decide) (s_51 w29680 g0 ⟨by omega, by omega⟩) (fun R29865 T29866 H29867 p29868 => ?_))
            obtain ⟨e29869, w29871, f29872, z29873, e29870, b29874⟩ := p29868
            subst e29869
            subst e29870
            have f29875 := f29685.tr f29872 rfl
            show wp _ _ 104 89 [(6, vI v29852), (5, vI v29853), (4, vI 0), (0, .ref r0), (1, vI a1)] [vI z29873] _ H29867 _
            exact wp_ireturn e104 c104_89 rfl ⟨rfl, w29871, f29875, z29873, rfl, ⟨by omega, by omega⟩⟩
          · refine wp_of e104 c104_49 (rw_aload_n (pc' := 50) (v := .ref r0) rfl rfl rfl ?_)
            refine wp_of e104 c104_50 (xg_R (pc' := 53) lf_0_30 w29680 g0 sh_1 (by decide) (by decide) ty_1_3 rfl rfl (fun r29876 q29877 g29878 => ?_))
            refine wp_of e104 c104_53 (rw_aload_n (pc' := 54) (v := .ref r0) rfl rfl rfl ?_)
            refine wp_of e104 c104_54 (xg_K (pc' := 57) lf_0_51 w29680 g0 sh_1 (by decide) (by decide) rfl q29860 rfl ?_)
            refine wp_of e104 c104_57 (rw_iload (pc' := 59) (z := v29852) rfl rfl ?_)
            refine wp_of e104 c104_59 (rw_iload_n (pc' := 60) (z := a1) rfl rfl ?_)
            refine wp_of e104 c104_60 (xc_V (pc' := 63) (r := r29876) (as := [.ref r29859, vI v29852, vI a1]) (st := []) (lm_0_201) rfl rfl (Nat.le_of_ble_eq_true rfl) w29680 g29878 sh_12 (by decide) rfl (by decide) (s_103 w29680 g29878 g29861 ⟨by omega, by omega⟩ ⟨by omega, by omega⟩) (fun R29879 T29880 H29881 p29882 => ?_))
            obtain ⟨e29883, e29885, z29886, e29884, b29887⟩ := p29882
            subst e29883
            subst e29884
            subst e29885
            show wp _ _ 104 63 [(6, vI v29852), (5, vI v29853), (4, vI 0), (0, .ref r0), (1, vI a1)] [vI z29886] _ H29676 _
            refine wp_of e104 c104_63 (rw_iload (pc' := 65) (z := 0) rfl rfl ?_)
            refine wp_of e104 c104_65 (rw_icmp_ne (p1 := 77) (p2 := 68) (by decide) rfl ⟨by omega, by omega⟩ ⟨by omega, by omega⟩ (fun c29888 => ?_) (fun c29888 => ?_))
            · refine wp_of e104 c104_77 (rw_iinc (pc' := 80) (z := v29852) (L' := [(6, vI (v29852 + 1)), (5, vI v29853), (4, vI 0), (0, .ref r0), (1, vI a1)]) rfl rfl rfl rfl ?_)
              refine wp_of e104 c104_80 (rw_goto (p1 := 37) (by decide) ?_)
              exact wp_lc (ks := [6, 5, 4, 0, 1]) (wl_c rfl (wl_c rfl (wl_c rfl (wl_c rfl (wl_c rfl wl_n))))) rfl (by decide) (ih29851 _ (by omega) (v29852 + 1) v29853 ⟨by omega, by omega⟩ ⟨by omega, by omega⟩ rfl)
            · refine wp_of e104 c104_68 (rw_iload (pc' := 70) (z := v29853) rfl rfl ?_)
              refine wp_of e104 c104_70 (rw_iconst (pc' := 71) rfl ?_)
              refine wp_of e104 c104_71 (rw_iload (pc' := 73) (z := v29852) rfl rfl ?_)
              refine wp_of e104 c104_73 (rw_ishl (pc' := 74) rfl ?_)
              obtain ⟨v29889, e29890⟩ : ∃ x : Int, x = wq_shl 1 v29852 := ⟨_, rfl⟩
              rw [← e29890]
              have b29891 : -2147483648 ≤ v29889 ∧ v29889 ≤ 2147483647 := by
                rw [e29890]
                exact wI_shl _ _
              refine wp_of e104 c104_74 (rw_ior (pc' := 75) rfl ?_)
              obtain ⟨v29892, e29893⟩ : ∃ x : Int, x = wq_or v29853 v29889 := ⟨_, rfl⟩
              rw [← e29893]
              have b29894 : -2147483648 ≤ v29892 ∧ v29892 ≤ 2147483647 := by
                rw [e29893]
                exact wI_or _ _
              refine wp_of e104 c104_75 (rw_istore (pc' := 77) (z := v29892) (L' := [(5, vI v29892), (6, vI v29852), (4, vI 0), (0, .ref r0), (1, vI a1)]) rfl rfl rfl ?_)
              refine wp_of e104 c104_77 (rw_iinc (pc' := 80) (z := v29852) (L' := [(6, vI (v29852 + 1)), (5, vI v29892), (4, vI 0), (0, .ref r0), (1, vI a1)]) rfl rfl rfl rfl ?_)
              refine wp_of e104 c104_80 (rw_goto (p1 := 37) (by decide) ?_)
              exact wp_lc (ks := [6, 5, 4, 0, 1]) (wl_c rfl (wl_c rfl (wl_c rfl (wl_c rfl (wl_c rfl wl_n))))) rfl (by decide) (ih29851 _ (by omega) (v29852 + 1) v29892 ⟨by omega, by omega⟩ ⟨by omega, by omega⟩ rfl)
      exact wp_lc (ks := [6, 5, 4, 3, 0, 1, 2]) (wl_c rfl (wl_c rfl (wl_c rfl (wl_c rfl (wl_c rfl wl_n))))) rfl (by decide) (lp29849 _ 0 0 ⟨by omega, by omega⟩ ⟨by omega, by omega⟩ rfl)
    · refine wp_of e104 c104_24 (rw_iconst (pc' := 25) rfl ?_)
      refine wp_of e104 c104_25 (rw_goto (p1 := 29) (by decide) ?_)
      refine wp_of e104 c104_29 (rw_istore (pc' := 31) (z := 2) (L' := [(4, vI 2), (3, vI z29683), (0, .ref r0), (1, vI a1), (2, vI a2)]) rfl rfl rfl ?_)
      refine wp_of e104 c104_31 (rw_iconst (pc' := 32) rfl ?_)
      refine wp_of e104 c104_32 (rw_istore (pc' := 34) (z := 0) (L' := [(5, vI 0), (4, vI 2), (3, vI z29683), (0, .ref r0), (1, vI a1), (2, vI a2)]) rfl rfl rfl ?_)
      refine wp_of e104 c104_34 (rw_iconst (pc' := 35) rfl ?_)
      refine wp_of e104 c104_35 (rw_istore (pc' := 37) (z := 0) (L' := [(6, vI 0), (5, vI 0), (4, vI 2), (3, vI z29683), (0, .ref r0), (1, vI a1), (2, vI a2)]) rfl rfl rfl ?_)
      have lp30056 : ∀ (n30057 : Nat) (v30059 : Int) (v30060 : Int), (0 ≤ v30059 ∧ v30059 ≤ 6) → ((-2147483648) ≤ v30060 ∧ v30060 ≤ 2147483647) → (6 - v30059).toNat = n30057 → wp kt 6 104 37 [(6, vI v30059), (5, vI v30060), (4, vI 2), (0, .ref r0), (1, vI a1)] [] T H29676 (q_104 r0 a1 a2 T H) := by
        intro n30057
        induction n30057 using Nat.strongRecOn with
        | _ n30057 ih30058 =>
          intro v30059 v30060 b30063 b30064 m30065
          refine wp_of e104 c104_37 (rw_iload (pc' := 39) (z := v30059) rfl rfl ?_)
          refine wp_of e104 c104_39 (rw_aload_n (pc' := 40) (v := .ref r0) rfl rfl rfl ?_)
          refine wp_of e104 c104_40 (xg_R (pc' := 43) lf_0_51 w29680 g0 sh_1 (by decide) (by decide) ty_1_6 rfl rfl (fun r30066 q30067 g30068 => ?_))
          refine wp_of e104 c104_43 (xg_I (pc' := 46) lf_0_96 w29680 g30068 sh_27 (by decide) (by decide) ty_27_10 rfl rfl (fun b30069 b30070 => ?_))
          refine wp_of e104 c104_46 (rw_icmp_ge (p1 := 83) (p2 := 49) (by decide) rfl ⟨by omega, by omega⟩ ⟨by omega, by omega⟩ (fun c30071 => ?_) (fun c30071 => ?_))
          · refine wp_of e104 c104_83 (rw_aload_n (pc' := 84) (v := .ref r0) rfl rfl rfl ?_)
            refine wp_of e104 c104_84 (rw_iload (pc' := 86) (z := v30060) rfl rfl ?_)
            refine wp_of e104 c104_86 (xc_V (pc' := 89) (r := r0) (as := [vI v30060]) (st := []) (lm_0_99) rfl rfl (Nat.le_of_ble_eq_true rfl) w29680 g0 sh_1 (by decide) rfl (by decide) (s_51 w29680 g0 ⟨by omega, by omega⟩) (fun R30072 T30073 H30074 p30075 => ?_))
            obtain ⟨e30076, w30078, f30079, z30080, e30077, b30081⟩ := p30075
            subst e30076
            subst e30077
            have f30082 := f29685.tr f30079 rfl
            show wp _ _ 104 89 [(6, vI v30059), (5, vI v30060), (4, vI 2), (0, .ref r0), (1, vI a1)] [vI z30080] _ H30074 _
            exact wp_ireturn e104 c104_89 rfl ⟨rfl, w30078, f30082, z30080, rfl, ⟨by omega, by omega⟩⟩
          · refine wp_of e104 c104_49 (rw_aload_n (pc' := 50) (v := .ref r0) rfl rfl rfl ?_)
            refine wp_of e104 c104_50 (xg_R (pc' := 53) lf_0_30 w29680 g0 sh_1 (by decide) (by decide) ty_1_3 rfl rfl (fun r30083 q30084 g30085 => ?_))
            refine wp_of e104 c104_53 (rw_aload_n (pc' := 54) (v := .ref r0) rfl rfl rfl ?_)
            refine wp_of e104 c104_54 (xg_K (pc' := 57) lf_0_51 w29680 g0 sh_1 (by decide) (by decide) rfl q30067 rfl ?_)
            refine wp_of e104 c104_57 (rw_iload (pc' := 59) (z := v30059) rfl rfl ?_)
            refine wp_of e104 c104_59 (rw_iload_n (pc' := 60) (z := a1) rfl rfl ?_)
            refine wp_of e104 c104_60 (xc_V (pc' := 63) (r := r30083) (as := [.ref r30066, vI v30059, vI a1]) (st := []) (lm_0_201) rfl rfl (Nat.le_of_ble_eq_true rfl) w29680 g30085 sh_12 (by decide) rfl (by decide) (s_103 w29680 g30085 g30068 ⟨by omega, by omega⟩ ⟨by omega, by omega⟩) (fun R30086 T30087 H30088 p30089 => ?_))
            obtain ⟨e30090, e30092, z30093, e30091, b30094⟩ := p30089
            subst e30090
            subst e30091
            subst e30092
            show wp _ _ 104 63 [(6, vI v30059), (5, vI v30060), (4, vI 2), (0, .ref r0), (1, vI a1)] [vI z30093] _ H29676 _
            refine wp_of e104 c104_63 (rw_iload (pc' := 65) (z := 2) rfl rfl ?_)
            refine wp_of e104 c104_65 (rw_icmp_ne (p1 := 77) (p2 := 68) (by decide) rfl ⟨by omega, by omega⟩ ⟨by omega, by omega⟩ (fun c30095 => ?_) (fun c30095 => ?_))
            · refine wp_of e104 c104_77 (rw_iinc (pc' := 80) (z := v30059) (L' := [(6, vI (v30059 + 1)), (5, vI v30060), (4, vI 2), (0, .ref r0), (1, vI a1)]) rfl rfl rfl rfl ?_)
              refine wp_of e104 c104_80 (rw_goto (p1 := 37) (by decide) ?_)
              exact wp_lc (ks := [6, 5, 4, 0, 1]) (wl_c rfl (wl_c rfl (wl_c rfl (wl_c rfl (wl_c rfl wl_n))))) rfl (by decide) (ih30058 _ (by omega) (v30059 + 1) v30060 ⟨by omega, by omega⟩ ⟨by omega, by omega⟩ rfl)
            · refine wp_of e104 c104_68 (rw_iload (pc' := 70) (z := v30060) rfl rfl ?_)
              refine wp_of e104 c104_70 (rw_iconst (pc' := 71) rfl ?_)
              refine wp_of e104 c104_71 (rw_iload (pc' := 73) (z := v30059) rfl rfl ?_)
              refine wp_of e104 c104_73 (rw_ishl (pc' := 74) rfl ?_)
              obtain ⟨v30096, e30097⟩ : ∃ x : Int, x = wq_shl 1 v30059 := ⟨_, rfl⟩
              rw [← e30097]
              have b30098 : -2147483648 ≤ v30096 ∧ v30096 ≤ 2147483647 := by
                rw [e30097]
                exact wI_shl _ _
              refine wp_of e104 c104_74 (rw_ior (pc' := 75) rfl ?_)
              obtain ⟨v30099, e30100⟩ : ∃ x : Int, x = wq_or v30060 v30096 := ⟨_, rfl⟩
              rw [← e30100]
              have b30101 : -2147483648 ≤ v30099 ∧ v30099 ≤ 2147483647 := by
                rw [e30100]
                exact wI_or _ _
              refine wp_of e104 c104_75 (rw_istore (pc' := 77) (z := v30099) (L' := [(5, vI v30099), (6, vI v30059), (4, vI 2), (0, .ref r0), (1, vI a1)]) rfl rfl rfl ?_)
              refine wp_of e104 c104_77 (rw_iinc (pc' := 80) (z := v30059) (L' := [(6, vI (v30059 + 1)), (5, vI v30099), (4, vI 2), (0, .ref r0), (1, vI a1)]) rfl rfl rfl rfl ?_)
              refine wp_of e104 c104_80 (rw_goto (p1 := 37) (by decide) ?_)
              exact wp_lc (ks := [6, 5, 4, 0, 1]) (wl_c rfl (wl_c rfl (wl_c rfl (wl_c rfl (wl_c rfl wl_n))))) rfl (by decide) (ih30058 _ (by omega) (v30059 + 1) v30099 ⟨by omega, by omega⟩ ⟨by omega, by omega⟩ rfl)
      exact wp_lc (ks := [6, 5, 4, 3, 0, 1, 2]) (wl_c rfl (wl_c rfl (wl_c rfl (wl_c rfl (wl_c rfl wl_n))))) rfl (by decide) (lp30056 _ 0 0 ⟨by omega, by omega⟩ ⟨by omega, by omega⟩ rfl)
  · refine wp_of e104 c104_14 (rw_aload_n (pc' := 15) (v := .ref r0) rfl rfl rfl ?_)
    refine wp_of e104 c104_15 (rw_iload_n (pc' := 16) (z := z29683) rfl rfl ?_)
    refine wp_of e104 c104_16 (xc_V (pc' := 19) (r := r0) (as := [vI z29683]) (st := []) (lm_0_70) rfl rfl (Nat.le_of_ble_eq_true rfl) w29680 g0 sh_1 (by decide) rfl (by decide) (s_12 w29680 g0 ⟨by omega, by omega⟩) (fun R30102 T30103 H30104 p30105 => ?_))
    obtain ⟨e30106, w30108, f30109, z30110, e30107, b30111⟩ := p30105
    subst e30106
    subst e30107
    have f30112 := f29685.tr f30109 rfl
    show wp _ _ 104 19 [(3, vI z29683), (0, .ref r0), (1, vI a1), (2, vI a2)] [vI z30110] _ H30104 _
    exact wp_ireturn e104 c104_19 rfl ⟨rfl, w30108, f30112, z30110, rfl, ⟨by omega, by omega⟩⟩
/-! StrikeAwake$Census.hundredthsAwake(LStrikeAwake$Parish;II)I -/
theorem e106 : wq_en 106 = some (4, 8, false, some FieldType.int) := rfl
theorem c106_0 : mc_cd 106 0 = some (.aload_n 1, 1) := by decide +kernel
theorem c106_1 : mc_cd 106 1 = some (.getfield 78, 3) := by decide +kernel
theorem c106_4 : mc_cd 106 4 = some (.iload_n 2, 1) := by decide +kernel
theorem c106_5 : mc_cd 106 5 = some (.aaload, 1) := by decide +kernel
theorem c106_6 : mc_cd 106 6 = some (.astore 4, 2) := by decide +kernel
theorem c106_8 : mc_cd 106 8 = some (.lconst 0, 1) := by decide +kernel
theorem c106_9 : mc_cd 106 9 = some (.lstore 5, 2) := by decide +kernel
theorem c106_11 : mc_cd 106 11 = some (.iconst 0, 1) := by decide +kernel
theorem c106_12 : mc_cd 106 12 = some (.istore 7, 2) := by decide +kernel
theorem c106_14 : mc_cd 106 14 = some (.iload 7, 2) := by decide +kernel
theorem c106_16 : mc_cd 106 16 = some (.aload 4, 2) := by decide +kernel
theorem c106_18 : mc_cd 106 18 = some (.getfield 116, 3) := by decide +kernel
theorem c106_21 : mc_cd 106 21 = some (.if_icmp .ge 38, 3) := by decide +kernel
theorem c106_24 : mc_cd 106 24 = some (.aload 4, 2) := by decide +kernel
theorem c106_26 : mc_cd 106 26 = some (.getfield 119, 3) := by decide +kernel
theorem c106_29 : mc_cd 106 29 = some (.iload 7, 2) := by decide +kernel
theorem c106_31 : mc_cd 106 31 = some (.iaload, 1) := by decide +kernel
theorem c106_32 : mc_cd 106 32 = some (.iload_n 3, 1) := by decide +kernel
theorem c106_33 : mc_cd 106 33 = some (.invokestatic 122, 3) := by decide +kernel
theorem c106_36 : mc_cd 106 36 = some (.ifCond .eq 17, 3) := by decide +kernel
theorem c106_39 : mc_cd 106 39 = some (.lload 5, 2) := by decide +kernel
theorem c106_41 : mc_cd 106 41 = some (.aload_n 0, 1) := by decide +kernel
theorem c106_42 : mc_cd 106 42 = some (.getfield 22, 3) := by decide +kernel
theorem c106_45 : mc_cd 106 45 = some (.iload_n 2, 1) := by decide +kernel
theorem c106_46 : mc_cd 106 46 = some (.aaload, 1) := by decide +kernel
theorem c106_47 : mc_cd 106 47 = some (.iload 7, 2) := by decide +kernel
theorem c106_49 : mc_cd 106 49 = some (.laload, 1) := by decide +kernel
theorem c106_50 : mc_cd 106 50 = some (.ladd, 1) := by decide +kernel
theorem c106_51 : mc_cd 106 51 = some (.lstore 5, 2) := by decide +kernel
theorem c106_53 : mc_cd 106 53 = some (.iinc 7 1, 3) := by decide +kernel
theorem c106_56 : mc_cd 106 56 = some (.goto (-42), 3) := by decide +kernel
theorem c106_59 : mc_cd 106 59 = some (.aload_n 0, 1) := by decide +kernel
theorem c106_60 : mc_cd 106 60 = some (.getfield 66, 3) := by decide +kernel
theorem c106_63 : mc_cd 106 63 = some (.lconst 0, 1) := by decide +kernel
theorem c106_64 : mc_cd 106 64 = some (.lcmp, 1) := by decide +kernel
theorem c106_65 : mc_cd 106 65 = some (.ifCond .le 18, 3) := by decide +kernel
theorem c106_68 : mc_cd 106 68 = some (.lload 5, 2) := by decide +kernel
theorem c106_70 : mc_cd 106 70 = some (.ldc2_w 130, 3) := by decide +kernel
theorem c106_73 : mc_cd 106 73 = some (.lmul, 1) := by decide +kernel
theorem c106_74 : mc_cd 106 74 = some (.aload_n 0, 1) := by decide +kernel
theorem c106_75 : mc_cd 106 75 = some (.getfield 66, 3) := by decide +kernel
theorem c106_78 : mc_cd 106 78 = some (.ldiv, 1) := by decide +kernel
theorem c106_79 : mc_cd 106 79 = some (.l2i, 1) := by decide +kernel
theorem c106_80 : mc_cd 106 80 = some (.goto 4, 3) := by decide +kernel
theorem c106_83 : mc_cd 106 83 = some (.iconst 0, 1) := by decide +kernel
theorem c106_84 : mc_cd 106 84 = some (.ireturn, 1) := by decide +kernel
abbrev q_106 (r0 : Nat) (r1 : Nat) (a2 : Int) (a3 : Int) (T : wq_T) (H : wq_H) : Option Value → wq_T → wq_H → Prop := fun r T' H' => T = T' ∧ H = H' ∧ ∃ z : Int, some (vI z) = r ∧ ((-2147483648) ≤ z ∧ z ≤ 2147483647)
set_option maxHeartbeats 4000000 in
theorem s_106 {kt : Nat → Option mc_E} {T : wq_T} {H : wq_H} {r0 : Nat} {r1 : Nat} {a2 : Int} {a3 : Int} (hW : WT T H) (g0 : T.2.2.2 r0 = some 12) (g1 : T.2.2.2 r1 = some 27) (i2 : 0 ≤ a2 ∧ a2 ≤ 5) (i3 : (-2147483648) ≤ a3 ∧ a3 ≤ 2147483647) : wpc kt 2 106 [.ref r0, .ref r1, vI a2, vI a3] T H (q_106 r0 r1 a2 a3 T H) := by
  refine wp_enter e106 (Nat.le_of_ble_eq_true rfl) rfl ?_
  show wp _ _ 106 0 [(0, .ref r0), (1, .ref r1), (2, vI a2), (3, vI a3)] [] _ H _
  refine wp_of e106 c106_0 (rw_aload_n (pc' := 1) (v := .ref r1) rfl rfl rfl ?_)
  refine wp_of e106 c106_1 (xg_R (pc' := 4) lf_4_78 hW g1 sh_27 (by decide) (by decide) ty_27_0 rfl rfl (fun r30382 q30383 g30384 => ?_))
  refine wp_of e106 c106_4 (rw_iload_n (pc' := 5) (z := a2) rfl rfl ?_)
  refine wp_of e106 c106_5 (xa_R (pc' := 6) (by decide) hW g30384 sh_28 (by decide) (ty_28 _) (by omega) (by omega) rfl (fun r30385 q30386 g30387 => ?_))
  refine wp_of e106 c106_6 (rw_astore (pc' := 8) (v := .ref r30385) (L' := [(4, .ref r30385), (0, .ref r0), (1, .ref r1), (2, vI a2), (3, vI a3)]) rfl rfl rfl rfl ?_)
  refine wp_of e106 c106_8 (rw_lconst (pc' := 9) (z := 0) rfl rfl ?_)
  refine wp_of e106 c106_9 (rw_lstore (pc' := 11) (z := 0) (L' := [(5, vL 0), (4, .ref r30385), (0, .ref r0), (1, .ref r1), (2, vI a2), (3, vI a3)]) rfl rfl rfl ?_)
  refine wp_of e106 c106_11 (rw_iconst (pc' := 12) rfl ?_)
  refine wp_of e106 c106_12 (rw_istore (pc' := 14) (z := 0) (L' := [(7, vI 0), (5, vL 0), (4, .ref r30385), (0, .ref r0), (1, .ref r1), (2, vI a2), (3, vI a3)]) rfl rfl rfl ?_)
  have lp30610 : ∀ (n30611 : Nat) (v30613 : Int) (v30614 : Int), (0 ≤ v30613 ∧ v30613 ≤ 40) → ((-9223372036854775808) ≤ v30614 ∧ v30614 ≤ 9223372036854775807) → (40 - v30613).toNat = n30611 → wp kt 1 106 14 [(7, vI v30613), (5, vL v30614), (4, .ref r30385), (0, .ref r0), (2, vI a2), (3, vI a3)] [] T H (q_106 r0 r1 a2 a3 T H) := by
    intro n30611
    induction n30611 using Nat.strongRecOn with
    | _ n30611 ih30612 =>
      intro v30613 v30614 b30617 b30618 m30619
      refine wp_of e106 c106_14 (rw_iload (pc' := 16) (z := v30613) rfl rfl ?_)
      refine wp_of e106 c106_16 (rw_aload (pc' := 18) (v := .ref r30385) rfl rfl rfl ?_)
      refine wp_of e106 c106_18 (xg_I (pc' := 21) lf_4_116 hW g30387 sh_35 (by decide) (by decide) ty_35_15 rfl rfl (fun b30620 b30621 => ?_))
      refine wp_of e106 c106_21 (rw_icmp_ge (p1 := 59) (p2 := 24) (by decide) rfl ⟨by omega, by omega⟩ ⟨by omega, by omega⟩ (fun c30622 => ?_) (fun c30622 => ?_))
      · refine wp_of e106 c106_59 (rw_aload_n (pc' := 60) (v := .ref r0) rfl rfl rfl ?_)
        refine wp_of e106 c106_60 (xg_L (pc' := 63) lf_4_66 hW g0 sh_12 (by decide) (by decide) ty_12_6 rfl rfl (fun b30623 b30624 => ?_))
        refine wp_of e106 c106_63 (rw_lconst (pc' := 64) (z := 0) rfl rfl ?_)
        refine wp_of e106 c106_64 (rw_lcmp (pc' := 65) rfl ⟨by omega, by omega⟩ ⟨by omega, by omega⟩ ?_)
        have b30625 := wq_cmp_b (H r0 6) 0
        refine wp_of e106 c106_65 (rw_if_le (p1 := 83) (p2 := 68) (by decide) rfl ⟨by omega, by omega⟩ (fun c30626 => ?_) (fun c30626 => ?_))
        · refine wp_of e106 c106_83 (rw_iconst (pc' := 84) rfl ?_)
          exact wp_ireturn e106 c106_84 rfl ⟨rfl, rfl, 0, rfl, ⟨by omega, by omega⟩⟩
        · refine wp_of e106 c106_68 (rw_lload (pc' := 70) (z := v30614) rfl rfl ?_)
          refine wp_of e106 c106_70 (rw_ldc2 (pc' := 73) (z := 100) rfl rfl rfl ?_)
          refine wp_of e106 c106_73 (rw_lmulw (pc' := 74) rfl ?_)
          obtain ⟨v30627, e30628⟩ : ∃ x : Int, x = wl_w (v30614 * 100) := ⟨_, rfl⟩
          rw [← e30628]
          have b30629 : -9223372036854775808 ≤ v30627 ∧ v30627 ≤ 9223372036854775807 := by
            rw [e30628]
            exact wL_w _
          refine wp_of e106 c106_74 (rw_aload_n (pc' := 75) (v := .ref r0) rfl rfl rfl ?_)
          refine wp_of e106 c106_75 (xg_L (pc' := 78) lf_4_66 hW g0 sh_12 (by decide) (by decide) ty_12_6 rfl rfl (fun b30630 b30631 => ?_))
          refine wp_of e106 c106_78 (rw_ldiv (pc' := 79) rfl ⟨by omega, by omega⟩ (by omega) ?_)
          obtain ⟨v30632, e30633⟩ : ∃ x : Int, x = wl_div v30627 (H r0 6) := ⟨_, rfl⟩
          rw [← e30633]
          have b30634 : -9223372036854775808 ≤ v30632 ∧ v30632 ≤ 9223372036854775807 := by
            rw [e30633]
            exact wL_div _ _
          refine wp_of e106 c106_79 (rw_l2i (pc' := 80) rfl ?_)
          obtain ⟨v30635, e30636⟩ : ∃ x : Int, x = wq_w v30632 := ⟨_, rfl⟩
          rw [← e30636]
          have b30637 : -2147483648 ≤ v30635 ∧ v30635 ≤ 2147483647 := by
            rw [e30636]
            exact wI_w _
          have b30638 : (-2147483648 ≤ v30632 ∧ v30632 ≤ 2147483647) → v30635 = v30632 := by
            rw [e30636]
            exact fun h => wq_w_id h
          refine wp_of e106 c106_80 (rw_goto (p1 := 84) (by decide) ?_)
          exact wp_ireturn e106 c106_84 rfl ⟨rfl, rfl, v30635, rfl, ⟨by omega, by omega⟩⟩
      · refine wp_of e106 c106_24 (rw_aload (pc' := 26) (v := .ref r30385) rfl rfl rfl ?_)
        refine wp_of e106 c106_26 (xg_R (pc' := 29) lf_4_119 hW g30387 sh_35 (by decide) (by decide) ty_35_3 rfl rfl (fun r30639 q30640 g30641 => ?_))
        refine wp_of e106 c106_29 (rw_iload (pc' := 31) (z := v30613) rfl rfl ?_)
        refine wp_of e106 c106_31 (xa_I (so := 0) (pc' := 32) hW g30641 sh_39 (by decide) (ty_39 _) (by omega) (by omega) rfl (fun b30642 b30643 => ?_))
        refine wp_of e106 c106_32 (rw_iload_n (pc' := 33) (z := a3) rfl rfl ?_)
        refine wp_of e106 c106_33 (xc_S (pc' := 36) (as := [vI (H r30639 (v30613.toNat)), vI a3]) (st := []) (lm_4_122) rfl rfl (Nat.le_of_ble_eq_true rfl) rfl (by decide) (s_36 hW ⟨by omega, by omega⟩ ⟨by omega, by omega⟩) (fun R30644 T30645 H30646 p30647 => ?_))
        obtain ⟨e30648, e30650, z30651, e30649, b30652⟩ := p30647
        subst e30648
        subst e30649
        subst e30650
        show wp _ _ 106 36 [(7, vI v30613), (5, vL v30614), (4, .ref r30385), (0, .ref r0), (2, vI a2), (3, vI a3)] [vI z30651] _ H _
        refine wp_of e106 c106_36 (rw_if_eq (p1 := 53) (p2 := 39) (by decide) rfl ⟨by omega, by omega⟩ (fun c30653 => ?_) (fun c30653 => ?_))
        · refine wp_of e106 c106_53 (rw_iinc (pc' := 56) (z := v30613) (L' := [(7, vI (v30613 + 1)), (5, vL v30614), (4, .ref r30385), (0, .ref r0), (2, vI a2), (3, vI a3)]) rfl rfl rfl rfl ?_)
          refine wp_of e106 c106_56 (rw_goto (p1 := 14) (by decide) ?_)
          exact wp_lc (ks := [7, 5, 4, 0, 2, 3]) (wl_c rfl (wl_c rfl (wl_c rfl (wl_c rfl (wl_c rfl (wl_c rfl wl_n)))))) rfl (by decide) (ih30612 _ (by omega) (v30613 + 1) v30614 ⟨by omega, by omega⟩ ⟨by omega, by omega⟩ rfl)
        · refine wp_of e106 c106_39 (rw_lload (pc' := 41) (z := v30614) rfl rfl ?_)
          refine wp_of e106 c106_41 (rw_aload_n (pc' := 42) (v := .ref r0) rfl rfl rfl ?_)
          refine wp_of e106 c106_42 (xg_R (pc' := 45) lf_4_22 hW g0 sh_12 (by decide) (by decide) ty_12_2 rfl rfl (fun r30654 q30655 g30656 => ?_))
          refine wp_of e106 c106_45 (rw_iload_n (pc' := 46) (z := a2) rfl rfl ?_)
          refine wp_of e106 c106_46 (xa_R (pc' := 47) (by decide) hW g30656 sh_16 (by decide) (ty_16 _) (by omega) (by omega) rfl (fun r30657 q30658 g30659 => ?_))
          refine wp_of e106 c106_47 (rw_iload (pc' := 49) (z := v30613) rfl rfl ?_)
          refine wp_of e106 c106_49 (xa_L (pc' := 50) hW g30659 sh_17 (by decide) (ty_17 _) (by omega) (by omega) rfl (fun b30660 b30661 => ?_))
          refine wp_of e106 c106_50 (rw_laddw (pc' := 51) rfl ?_)
          obtain ⟨v30662, e30663⟩ : ∃ x : Int, x = wl_w (v30614 + (H r30657 (v30613.toNat))) := ⟨_, rfl⟩
          rw [← e30663]
          have b30664 : -9223372036854775808 ≤ v30662 ∧ v30662 ≤ 9223372036854775807 := by
            rw [e30663]
            exact wL_w _
          refine wp_of e106 c106_51 (rw_lstore (pc' := 53) (z := v30662) (L' := [(5, vL v30662), (7, vI v30613), (4, .ref r30385), (0, .ref r0), (2, vI a2), (3, vI a3)]) rfl rfl rfl ?_)
          refine wp_of e106 c106_53 (rw_iinc (pc' := 56) (z := v30613) (L' := [(7, vI (v30613 + 1)), (5, vL v30662), (4, .ref r30385), (0, .ref r0), (2, vI a2), (3, vI a3)]) rfl rfl rfl rfl ?_)
          refine wp_of e106 c106_56 (rw_goto (p1 := 14) (by decide) ?_)
          exact wp_lc (ks := [7, 5, 4, 0, 2, 3]) (wl_c rfl (wl_c rfl (wl_c rfl (wl_c rfl (wl_c rfl (wl_c rfl wl_n)))))) rfl (by decide) (ih30612 _ (by omega) (v30613 + 1) v30662 ⟨by omega, by omega⟩ ⟨by omega, by omega⟩ rfl)
  exact wp_lc (ks := [7, 5, 4, 0, 1, 2, 3]) (wl_c rfl (wl_c rfl (wl_c rfl (wl_c rfl (wl_c rfl (wl_c rfl wl_n)))))) rfl (by decide) (lp30610 _ 0 0 ⟨by omega, by omega⟩ ⟨by omega, by omega⟩ rfl)
/-! StrikeAwake.chance(II)I -/
theorem e105 : wq_en 105 = some (0, 4, false, some FieldType.int) := rfl
theorem c105_0 : mc_cd 105 0 = some (.aload_n 0, 1) := by decide +kernel
theorem c105_1 : mc_cd 105 1 = some (.aload_n 0, 1) := by decide +kernel
theorem c105_2 : mc_cd 105 2 = some (.iload_n 1, 1) := by decide +kernel
theorem c105_3 : mc_cd 105 3 = some (.invokevirtual 105, 3) := by decide +kernel
theorem c105_6 : mc_cd 105 6 = some (.ifCond .eq 15, 3) := by decide +kernel
theorem c105_9 : mc_cd 105 9 = some (.aload_n 0, 1) := by decide +kernel
theorem c105_10 : mc_cd 105 10 = some (.iload_n 2, 1) := by decide +kernel
theorem c105_11 : mc_cd 105 11 = some (.invokevirtual 132, 3) := by decide +kernel
theorem c105_14 : mc_cd 105 14 = some (.ifCond .eq 7, 3) := by decide +kernel
theorem c105_17 : mc_cd 105 17 = some (.iconst 1, 1) := by decide +kernel
theorem c105_18 : mc_cd 105 18 = some (.goto 4, 3) := by decide +kernel
theorem c105_21 : mc_cd 105 21 = some (.iconst 0, 1) := by decide +kernel
theorem c105_22 : mc_cd 105 22 = some (.invokevirtual 198, 3) := by decide +kernel
theorem c105_25 : mc_cd 105 25 = some (.istore_n 3, 1) := by decide +kernel
theorem c105_26 : mc_cd 105 26 = some (.iload_n 3, 1) := by decide +kernel
theorem c105_27 : mc_cd 105 27 = some (.ifCond .eq 9, 3) := by decide +kernel
theorem c105_30 : mc_cd 105 30 = some (.aload_n 0, 1) := by decide +kernel
theorem c105_31 : mc_cd 105 31 = some (.iload_n 3, 1) := by decide +kernel
theorem c105_32 : mc_cd 105 32 = some (.invokevirtual 70, 3) := by decide +kernel
theorem c105_35 : mc_cd 105 35 = some (.ireturn, 1) := by decide +kernel
theorem c105_36 : mc_cd 105 36 = some (.aload_n 0, 1) := by decide +kernel
theorem c105_37 : mc_cd 105 37 = some (.aload_n 0, 1) := by decide +kernel
theorem c105_38 : mc_cd 105 38 = some (.getfield 30, 3) := by decide +kernel
theorem c105_41 : mc_cd 105 41 = some (.aload_n 0, 1) := by decide +kernel
theorem c105_42 : mc_cd 105 42 = some (.getfield 51, 3) := by decide +kernel
theorem c105_45 : mc_cd 105 45 = some (.iload_n 1, 1) := by decide +kernel
theorem c105_46 : mc_cd 105 46 = some (.iload_n 2, 1) := by decide +kernel
theorem c105_47 : mc_cd 105 47 = some (.invokevirtual 204, 3) := by decide +kernel
theorem c105_50 : mc_cd 105 50 = some (.invokevirtual 99, 3) := by decide +kernel
theorem c105_53 : mc_cd 105 53 = some (.ireturn, 1) := by decide +kernel
abbrev q_105 (r0 : Nat) (a1 : Int) (a2 : Int) (T : wq_T) (H : wq_H) : Option Value → wq_T → wq_H → Prop := fun r T' H' => T = T' ∧ WT T H' ∧ wfr [(12, 5), (12, 6), (12, 7), (12, 8), (12, 9), (1, 10), (6, 5), (8, 999), (10, 999), (15, 999), (9, 999), (18, 999), (19, 999), (7, 999), (11, 999), (17, 999), (13, 999)] T H H' ∧ ∃ z : Int, some (vI z) = r ∧ ((-2147483648) ≤ z ∧ z ≤ 2147483647)
set_option maxHeartbeats 4000000 in
theorem s_105 {kt : Nat → Option mc_E} {T : wq_T} {H : wq_H} {r0 : Nat} {a1 : Int} {a2 : Int} (hW : WT T H) (g0 : T.2.2.2 r0 = some 1) (i1 : (-2147483648) ≤ a1 ∧ a1 ≤ 2147483647) (i2 : (-2147483648) ≤ a2 ∧ a2 ≤ 2147483647) : wpc kt 7 105 [.ref r0, vI a1, vI a2] T H (q_105 r0 a1 a2 T H) := by
  refine wp_enter e105 (Nat.le_of_ble_eq_true rfl) rfl ?_
  have f0 : wfr [(12, 5), (12, 6), (12, 7), (12, 8), (12, 9), (1, 10), (6, 5), (8, 999), (10, 999), (15, 999), (9, 999), (18, 999), (19, 999), (7, 999), (11, 999), (17, 999), (13, 999)] T H H := wfr.rf
  show wp _ _ 105 0 [(0, .ref r0), (1, vI a1), (2, vI a2)] [] _ H _
  refine wp_of e105 c105_0 (rw_aload_n (pc' := 1) (v := .ref r0) rfl rfl rfl ?_)
  refine wp_of e105 c105_1 (rw_aload_n (pc' := 2) (v := .ref r0) rfl rfl rfl ?_)
  refine wp_of e105 c105_2 (rw_iload_n (pc' := 3) (z := a1) rfl rfl ?_)
  refine wp_of e105 c105_3 (xc_V (pc' := 6) (r := r0) (as := [vI a1]) (st := [.ref r0]) (lm_0_105) rfl rfl (Nat.le_of_ble_eq_true rfl) hW g0 sh_1 (by decide) rfl (by decide) (s_55 hW g0 ⟨by omega, by omega⟩) (fun R30785 T30786 H30787 p30788 => ?_))
  obtain ⟨e30789, e30791, z30793, e30790, b30794, p30792⟩ := p30788
  subst e30789
  subst e30790
  subst e30791
  show wp _ _ 105 6 [(0, .ref r0), (1, vI a1), (2, vI a2)] [vI z30793, .ref r0] _ H _
  refine wp_of e105 c105_6 (rw_if_eq (p1 := 21) (p2 := 9) (by decide) rfl ⟨by omega, by omega⟩ (fun c30795 => ?_) (fun c30795 => ?_))
  · refine wp_of e105 c105_21 (rw_iconst (pc' := 22) rfl ?_)
    refine wp_of e105 c105_22 (xc_V (pc' := 25) (r := r0) (as := [vI 0]) (st := []) (lm_0_198) rfl rfl (Nat.le_of_ble_eq_true rfl) hW g0 sh_1 (by decide) rfl (by decide) (s_102 hW g0 ⟨by omega, by omega⟩) (fun R30796 T30797 H30798 p30799 => ?_))
    obtain ⟨e30800, w30802, f30803, z30805, e30801, b30806, p30804⟩ := p30799
    subst e30800
    subst e30801
    have f30807 := f0.tr f30803 rfl
    show wp _ _ 105 25 [(0, .ref r0), (1, vI a1), (2, vI a2)] [vI z30805] _ H30798 _
    refine wp_of e105 c105_25 (rw_istore_n (pc' := 26) (z := z30805) (L' := [(3, vI z30805), (0, .ref r0), (1, vI a1), (2, vI a2)]) rfl rfl rfl ?_)
    refine wp_of e105 c105_26 (rw_iload_n (pc' := 27) (z := z30805) rfl rfl ?_)
    refine wp_of e105 c105_27 (rw_if_eq (p1 := 36) (p2 := 30) (by decide) rfl ⟨by omega, by omega⟩ (fun c30808 => ?_) (fun c30808 => ?_))
    · exfalso
      omega
    · refine wp_of e105 c105_30 (rw_aload_n (pc' := 31) (v := .ref r0) rfl rfl rfl ?_)
      refine wp_of e105 c105_31 (rw_iload_n (pc' := 32) (z := z30805) rfl rfl ?_)
      refine wp_of e105 c105_32 (xc_V (pc' := 35) (r := r0) (as := [vI z30805]) (st := []) (lm_0_70) rfl rfl (Nat.le_of_ble_eq_true rfl) w30802 g0 sh_1 (by decide) rfl (by decide) (s_12 w30802 g0 ⟨by omega, by omega⟩) (fun R30809 T30810 H30811 p30812 => ?_))
      obtain ⟨e30813, w30815, f30816, z30817, e30814, b30818⟩ := p30812
      subst e30813
      subst e30814
      have f30819 := f30807.tr f30816 rfl
      show wp _ _ 105 35 [(3, vI z30805), (0, .ref r0), (1, vI a1), (2, vI a2)] [vI z30817] _ H30811 _
      exact wp_ireturn e105 c105_35 rfl ⟨rfl, w30815, f30819, z30817, rfl, ⟨by omega, by omega⟩⟩
  · refine wp_of e105 c105_9 (rw_aload_n (pc' := 10) (v := .ref r0) rfl rfl rfl ?_)
    refine wp_of e105 c105_10 (rw_iload_n (pc' := 11) (z := a2) rfl rfl ?_)
    refine wp_of e105 c105_11 (xc_V (pc' := 14) (r := r0) (as := [vI a2]) (st := [.ref r0]) (lm_0_132) rfl rfl (Nat.le_of_ble_eq_true rfl) hW g0 sh_1 (by decide) rfl (by decide) (s_60 hW g0 ⟨by omega, by omega⟩) (fun R30820 T30821 H30822 p30823 => ?_))
    obtain ⟨e30824, e30826, z30828, e30825, b30829, p30827⟩ := p30823
    subst e30824
    subst e30825
    subst e30826
    show wp _ _ 105 14 [(0, .ref r0), (1, vI a1), (2, vI a2)] [vI z30828, .ref r0] _ H _
    refine wp_of e105 c105_14 (rw_if_eq (p1 := 21) (p2 := 17) (by decide) rfl ⟨by omega, by omega⟩ (fun c30830 => ?_) (fun c30830 => ?_))
    · refine wp_of e105 c105_21 (rw_iconst (pc' := 22) rfl ?_)
      refine wp_of e105 c105_22 (xc_V (pc' := 25) (r := r0) (as := [vI 0]) (st := []) (lm_0_198) rfl rfl (Nat.le_of_ble_eq_true rfl) hW g0 sh_1 (by decide) rfl (by decide) (s_102 hW g0 ⟨by omega, by omega⟩) (fun R30831 T30832 H30833 p30834 => ?_))
      obtain ⟨e30835, w30837, f30838, z30840, e30836, b30841, p30839⟩ := p30834
      subst e30835
      subst e30836
      have f30842 := f0.tr f30838 rfl
      show wp _ _ 105 25 [(0, .ref r0), (1, vI a1), (2, vI a2)] [vI z30840] _ H30833 _
      refine wp_of e105 c105_25 (rw_istore_n (pc' := 26) (z := z30840) (L' := [(3, vI z30840), (0, .ref r0), (1, vI a1), (2, vI a2)]) rfl rfl rfl ?_)
      refine wp_of e105 c105_26 (rw_iload_n (pc' := 27) (z := z30840) rfl rfl ?_)
      refine wp_of e105 c105_27 (rw_if_eq (p1 := 36) (p2 := 30) (by decide) rfl ⟨by omega, by omega⟩ (fun c30843 => ?_) (fun c30843 => ?_))
      · exfalso
        omega
      · refine wp_of e105 c105_30 (rw_aload_n (pc' := 31) (v := .ref r0) rfl rfl rfl ?_)
        refine wp_of e105 c105_31 (rw_iload_n (pc' := 32) (z := z30840) rfl rfl ?_)
        refine wp_of e105 c105_32 (xc_V (pc' := 35) (r := r0) (as := [vI z30840]) (st := []) (lm_0_70) rfl rfl (Nat.le_of_ble_eq_true rfl) w30837 g0 sh_1 (by decide) rfl (by decide) (s_12 w30837 g0 ⟨by omega, by omega⟩) (fun R30844 T30845 H30846 p30847 => ?_))
        obtain ⟨e30848, w30850, f30851, z30852, e30849, b30853⟩ := p30847
        subst e30848
        subst e30849
        have f30854 := f30842.tr f30851 rfl
        show wp _ _ 105 35 [(3, vI z30840), (0, .ref r0), (1, vI a1), (2, vI a2)] [vI z30852] _ H30846 _
        exact wp_ireturn e105 c105_35 rfl ⟨rfl, w30850, f30854, z30852, rfl, ⟨by omega, by omega⟩⟩
    · refine wp_of e105 c105_17 (rw_iconst (pc' := 18) rfl ?_)
      refine wp_of e105 c105_18 (rw_goto (p1 := 22) (by decide) ?_)
      refine wp_of e105 c105_22 (xc_V (pc' := 25) (r := r0) (as := [vI 1]) (st := []) (lm_0_198) rfl rfl (Nat.le_of_ble_eq_true rfl) hW g0 sh_1 (by decide) rfl (by decide) (s_102 hW g0 ⟨by omega, by omega⟩) (fun R30855 T30856 H30857 p30858 => ?_))
      obtain ⟨e30859, w30861, f30862, z30864, e30860, b30865, p30863⟩ := p30858
      subst e30859
      subst e30860
      have f30866 := f0.tr f30862 rfl
      show wp _ _ 105 25 [(0, .ref r0), (1, vI a1), (2, vI a2)] [vI z30864] _ H30857 _
      refine wp_of e105 c105_25 (rw_istore_n (pc' := 26) (z := z30864) (L' := [(3, vI z30864), (0, .ref r0), (1, vI a1), (2, vI a2)]) rfl rfl rfl ?_)
      refine wp_of e105 c105_26 (rw_iload_n (pc' := 27) (z := z30864) rfl rfl ?_)
      refine wp_of e105 c105_27 (rw_if_eq (p1 := 36) (p2 := 30) (by decide) rfl ⟨by omega, by omega⟩ (fun c30867 => ?_) (fun c30867 => ?_))
      · refine wp_of e105 c105_36 (rw_aload_n (pc' := 37) (v := .ref r0) rfl rfl rfl ?_)
        refine wp_of e105 c105_37 (rw_aload_n (pc' := 38) (v := .ref r0) rfl rfl rfl ?_)
        refine wp_of e105 c105_38 (xg_R (pc' := 41) lf_0_30 w30861 g0 sh_1 (by decide) (by decide) ty_1_3 rfl rfl (fun r30868 q30869 g30870 => ?_))
        refine wp_of e105 c105_41 (rw_aload_n (pc' := 42) (v := .ref r0) rfl rfl rfl ?_)
        refine wp_of e105 c105_42 (xg_R (pc' := 45) lf_0_51 w30861 g0 sh_1 (by decide) (by decide) ty_1_6 rfl rfl (fun r30871 q30872 g30873 => ?_))
        refine wp_of e105 c105_45 (rw_iload_n (pc' := 46) (z := a1) rfl rfl ?_)
        refine wp_of e105 c105_46 (rw_iload_n (pc' := 47) (z := a2) rfl rfl ?_)
        refine wp_of e105 c105_47 (xc_V (pc' := 50) (r := r30868) (as := [.ref r30871, vI a1, vI a2]) (st := [.ref r0]) (lm_0_204) rfl rfl (Nat.le_of_ble_eq_true rfl) w30861 g30870 sh_12 (by decide) rfl (by decide) (s_106 w30861 g30870 g30873 ⟨by omega, by omega⟩ ⟨by omega, by omega⟩) (fun R30874 T30875 H30876 p30877 => ?_))
        obtain ⟨e30878, e30880, z30881, e30879, b30882⟩ := p30877
        subst e30878
        subst e30879
        subst e30880
        show wp _ _ 105 50 [(3, vI z30864), (0, .ref r0), (1, vI a1), (2, vI a2)] [vI z30881, .ref r0] _ H30857 _
        refine wp_of e105 c105_50 (xc_V (pc' := 53) (r := r0) (as := [vI z30881]) (st := []) (lm_0_99) rfl rfl (Nat.le_of_ble_eq_true rfl) w30861 g0 sh_1 (by decide) rfl (by decide) (s_51 w30861 g0 ⟨by omega, by omega⟩) (fun R30883 T30884 H30885 p30886 => ?_))
        obtain ⟨e30887, w30889, f30890, z30891, e30888, b30892⟩ := p30886
        subst e30887
        subst e30888
        have f30893 := f30866.tr f30890 rfl
        show wp _ _ 105 53 [(3, vI z30864), (0, .ref r0), (1, vI a1), (2, vI a2)] [vI z30891] _ H30885 _
        exact wp_ireturn e105 c105_53 rfl ⟨rfl, w30889, f30893, z30891, rfl, ⟨by omega, by omega⟩⟩
      · refine wp_of e105 c105_30 (rw_aload_n (pc' := 31) (v := .ref r0) rfl rfl rfl ?_)
        refine wp_of e105 c105_31 (rw_iload_n (pc' := 32) (z := z30864) rfl rfl ?_)
        refine wp_of e105 c105_32 (xc_V (pc' := 35) (r := r0) (as := [vI z30864]) (st := []) (lm_0_70) rfl rfl (Nat.le_of_ble_eq_true rfl) w30861 g0 sh_1 (by decide) rfl (by decide) (s_12 w30861 g0 ⟨by omega, by omega⟩) (fun R30894 T30895 H30896 p30897 => ?_))
        obtain ⟨e30898, w30900, f30901, z30902, e30899, b30903⟩ := p30897
        subst e30898
        subst e30899
        have f30904 := f30866.tr f30901 rfl
        show wp _ _ 105 35 [(3, vI z30864), (0, .ref r0), (1, vI a1), (2, vI a2)] [vI z30902] _ H30896 _
        exact wp_ireturn e105 c105_35 rfl ⟨rfl, w30900, f30904, z30902, rfl, ⟨by omega, by omega⟩⟩
/-! StrikeAwake.likeliest(I)I -/
theorem e107 : wq_en 107 = some (0, 3, false, some FieldType.int) := rfl
theorem c107_0 : mc_cd 107 0 = some (.aload_n 0, 1) := by decide +kernel
theorem c107_1 : mc_cd 107 1 = some (.aload_n 0, 1) := by decide +kernel
theorem c107_2 : mc_cd 107 2 = some (.iload_n 1, 1) := by decide +kernel
theorem c107_3 : mc_cd 107 3 = some (.invokevirtual 105, 3) := by decide +kernel
theorem c107_6 : mc_cd 107 6 = some (.invokevirtual 198, 3) := by decide +kernel
theorem c107_9 : mc_cd 107 9 = some (.istore_n 2, 1) := by decide +kernel
theorem c107_10 : mc_cd 107 10 = some (.iload_n 2, 1) := by decide +kernel
theorem c107_11 : mc_cd 107 11 = some (.ifCond .eq 9, 3) := by decide +kernel
theorem c107_14 : mc_cd 107 14 = some (.aload_n 0, 1) := by decide +kernel
theorem c107_15 : mc_cd 107 15 = some (.iload_n 2, 1) := by decide +kernel
theorem c107_16 : mc_cd 107 16 = some (.invokevirtual 70, 3) := by decide +kernel
theorem c107_19 : mc_cd 107 19 = some (.ireturn, 1) := by decide +kernel
theorem c107_20 : mc_cd 107 20 = some (.aload_n 0, 1) := by decide +kernel
theorem c107_21 : mc_cd 107 21 = some (.aload_n 0, 1) := by decide +kernel
theorem c107_22 : mc_cd 107 22 = some (.getfield 51, 3) := by decide +kernel
theorem c107_25 : mc_cd 107 25 = some (.aload_n 0, 1) := by decide +kernel
theorem c107_26 : mc_cd 107 26 = some (.getfield 30, 3) := by decide +kernel
theorem c107_29 : mc_cd 107 29 = some (.getfield 207, 3) := by decide +kernel
theorem c107_32 : mc_cd 107 32 = some (.iload_n 1, 1) := by decide +kernel
theorem c107_33 : mc_cd 107 33 = some (.invokevirtual 183, 3) := by decide +kernel
theorem c107_36 : mc_cd 107 36 = some (.invokevirtual 99, 3) := by decide +kernel
theorem c107_39 : mc_cd 107 39 = some (.ireturn, 1) := by decide +kernel
abbrev q_107 (r0 : Nat) (a1 : Int) (T : wq_T) (H : wq_H) : Option Value → wq_T → wq_H → Prop := fun r T' H' => T = T' ∧ WT T H' ∧ wfr [(12, 5), (12, 6), (12, 7), (12, 8), (12, 9), (1, 10), (6, 5), (8, 999), (10, 999), (15, 999), (9, 999), (18, 999), (19, 999), (7, 999), (11, 999), (17, 999), (13, 999)] T H H' ∧ ∃ z : Int, some (vI z) = r ∧ ((-2147483648) ≤ z ∧ z ≤ 2147483647)
set_option maxHeartbeats 4000000 in
theorem s_107 {kt : Nat → Option mc_E} {T : wq_T} {H : wq_H} {r0 : Nat} {a1 : Int} (hW : WT T H) (g0 : T.2.2.2 r0 = some 1) (i1 : (-2147483648) ≤ a1 ∧ a1 ≤ 2147483647) : wpc kt 7 107 [.ref r0, vI a1] T H (q_107 r0 a1 T H) := by
  refine wp_enter e107 (Nat.le_of_ble_eq_true rfl) rfl ?_
  have f0 : wfr [(12, 5), (12, 6), (12, 7), (12, 8), (12, 9), (1, 10), (6, 5), (8, 999), (10, 999), (15, 999), (9, 999), (18, 999), (19, 999), (7, 999), (11, 999), (17, 999), (13, 999)] T H H := wfr.rf
  show wp _ _ 107 0 [(0, .ref r0), (1, vI a1)] [] _ H _
  refine wp_of e107 c107_0 (rw_aload_n (pc' := 1) (v := .ref r0) rfl rfl rfl ?_)
  refine wp_of e107 c107_1 (rw_aload_n (pc' := 2) (v := .ref r0) rfl rfl rfl ?_)
  refine wp_of e107 c107_2 (rw_iload_n (pc' := 3) (z := a1) rfl rfl ?_)
  refine wp_of e107 c107_3 (xc_V (pc' := 6) (r := r0) (as := [vI a1]) (st := [.ref r0]) (lm_0_105) rfl rfl (Nat.le_of_ble_eq_true rfl) hW g0 sh_1 (by decide) rfl (by decide) (s_55 hW g0 ⟨by omega, by omega⟩) (fun R30967 T30968 H30969 p30970 => ?_))
  obtain ⟨e30971, e30973, z30975, e30972, b30976, p30974⟩ := p30970
  subst e30971
  subst e30972
  subst e30973
  show wp _ _ 107 6 [(0, .ref r0), (1, vI a1)] [vI z30975, .ref r0] _ H _
  refine wp_of e107 c107_6 (xc_V (pc' := 9) (r := r0) (as := [vI z30975]) (st := []) (lm_0_198) rfl rfl (Nat.le_of_ble_eq_true rfl) hW g0 sh_1 (by decide) rfl (by decide) (s_102 hW g0 ⟨by omega, by omega⟩) (fun R30977 T30978 H30979 p30980 => ?_))
  obtain ⟨e30981, w30983, f30984, z30986, e30982, b30987, p30985⟩ := p30980
  subst e30981
  subst e30982
  have f30988 := f0.tr f30984 rfl
  show wp _ _ 107 9 [(0, .ref r0), (1, vI a1)] [vI z30986] _ H30979 _
  refine wp_of e107 c107_9 (rw_istore_n (pc' := 10) (z := z30986) (L' := [(2, vI z30986), (0, .ref r0), (1, vI a1)]) rfl rfl rfl ?_)
  refine wp_of e107 c107_10 (rw_iload_n (pc' := 11) (z := z30986) rfl rfl ?_)
  refine wp_of e107 c107_11 (rw_if_eq (p1 := 20) (p2 := 14) (by decide) rfl ⟨by omega, by omega⟩ (fun c30989 => ?_) (fun c30989 => ?_))
  · refine wp_of e107 c107_20 (rw_aload_n (pc' := 21) (v := .ref r0) rfl rfl rfl ?_)
    refine wp_of e107 c107_21 (rw_aload_n (pc' := 22) (v := .ref r0) rfl rfl rfl ?_)
    refine wp_of e107 c107_22 (xg_R (pc' := 25) lf_0_51 w30983 g0 sh_1 (by decide) (by decide) ty_1_6 rfl rfl (fun r30990 q30991 g30992 => ?_))
    refine wp_of e107 c107_25 (rw_aload_n (pc' := 26) (v := .ref r0) rfl rfl rfl ?_)
    refine wp_of e107 c107_26 (xg_R (pc' := 29) lf_0_30 w30983 g0 sh_1 (by decide) (by decide) ty_1_3 rfl rfl (fun r30993 q30994 g30995 => ?_))
    refine wp_of e107 c107_29 (xg_I (pc' := 32) lf_0_207 w30983 g30995 sh_12 (by decide) (by decide) ty_12_7 rfl rfl (fun b30996 b30997 => ?_))
    refine wp_of e107 c107_32 (rw_iload_n (pc' := 33) (z := a1) rfl rfl ?_)
    refine wp_of e107 c107_33 (xc_V (pc' := 36) (r := r30990) (as := [vI (H30979 r30993 7), vI a1]) (st := [.ref r0]) (lm_0_183) rfl rfl (Nat.le_of_ble_eq_true rfl) w30983 g30992 sh_27 (by decide) rfl (by decide) (s_96 w30983 g30992 ⟨by omega, by omega⟩ ⟨by omega, by omega⟩) (fun R30998 T30999 H31000 p31001 => ?_))
    obtain ⟨e31002, e31004, z31005, e31003, b31006⟩ := p31001
    subst e31002
    subst e31003
    subst e31004
    show wp _ _ 107 36 [(2, vI z30986), (0, .ref r0), (1, vI a1)] [vI z31005, .ref r0] _ H30979 _
    refine wp_of e107 c107_36 (xc_V (pc' := 39) (r := r0) (as := [vI z31005]) (st := []) (lm_0_99) rfl rfl (Nat.le_of_ble_eq_true rfl) w30983 g0 sh_1 (by decide) rfl (by decide) (s_51 w30983 g0 ⟨by omega, by omega⟩) (fun R31007 T31008 H31009 p31010 => ?_))
    obtain ⟨e31011, w31013, f31014, z31015, e31012, b31016⟩ := p31010
    subst e31011
    subst e31012
    have f31017 := f30988.tr f31014 rfl
    show wp _ _ 107 39 [(2, vI z30986), (0, .ref r0), (1, vI a1)] [vI z31015] _ H31009 _
    exact wp_ireturn e107 c107_39 rfl ⟨rfl, w31013, f31017, z31015, rfl, ⟨by omega, by omega⟩⟩
  · refine wp_of e107 c107_14 (rw_aload_n (pc' := 15) (v := .ref r0) rfl rfl rfl ?_)
    refine wp_of e107 c107_15 (rw_iload_n (pc' := 16) (z := z30986) rfl rfl ?_)
    refine wp_of e107 c107_16 (xc_V (pc' := 19) (r := r0) (as := [vI z30986]) (st := []) (lm_0_70) rfl rfl (Nat.le_of_ble_eq_true rfl) w30983 g0 sh_1 (by decide) rfl (by decide) (s_12 w30983 g0 ⟨by omega, by omega⟩) (fun R31018 T31019 H31020 p31021 => ?_))
    obtain ⟨e31022, w31024, f31025, z31026, e31023, b31027⟩ := p31021
    subst e31022
    subst e31023
    have f31028 := f30988.tr f31025 rfl
    show wp _ _ 107 19 [(2, vI z30986), (0, .ref r0), (1, vI a1)] [vI z31026] _ H31020 _
    exact wp_ireturn e107 c107_19 rfl ⟨rfl, w31024, f31028, z31026, rfl, ⟨by omega, by omega⟩⟩
/-! StrikeAwake.greatest()J -/
theorem e108 : wq_en 108 = some (0, 2, false, some FieldType.long) := rfl
theorem c108_0 : mc_cd 108 0 = some (.aload_n 0, 1) := by decide +kernel
theorem c108_1 : mc_cd 108 1 = some (.aload_n 0, 1) := by decide +kernel
theorem c108_2 : mc_cd 108 2 = some (.getfield 58, 3) := by decide +kernel
theorem c108_5 : mc_cd 108 5 = some (.invokevirtual 198, 3) := by decide +kernel
theorem c108_8 : mc_cd 108 8 = some (.istore_n 1, 1) := by decide +kernel
theorem c108_9 : mc_cd 108 9 = some (.iload_n 1, 1) := by decide +kernel
theorem c108_10 : mc_cd 108 10 = some (.ifCond .eq 10, 3) := by decide +kernel
theorem c108_13 : mc_cd 108 13 = some (.aload_n 0, 1) := by decide +kernel
theorem c108_14 : mc_cd 108 14 = some (.iload_n 1, 1) := by decide +kernel
theorem c108_15 : mc_cd 108 15 = some (.invokevirtual 70, 3) := by decide +kernel
theorem c108_18 : mc_cd 108 18 = some (.i2l, 1) := by decide +kernel
theorem c108_19 : mc_cd 108 19 = some (.lreturn, 1) := by decide +kernel
theorem c108_20 : mc_cd 108 20 = some (.aload_n 0, 1) := by decide +kernel
theorem c108_21 : mc_cd 108 21 = some (.iconst 0, 1) := by decide +kernel
theorem c108_22 : mc_cd 108 22 = some (.putfield 102, 3) := by decide +kernel
theorem c108_25 : mc_cd 108 25 = some (.aload_n 0, 1) := by decide +kernel
theorem c108_26 : mc_cd 108 26 = some (.getfield 30, 3) := by decide +kernel
theorem c108_29 : mc_cd 108 29 = some (.getfield 210, 3) := by decide +kernel
theorem c108_32 : mc_cd 108 32 = some (.lreturn, 1) := by decide +kernel
abbrev q_108 (r0 : Nat) (T : wq_T) (H : wq_H) : Option Value → wq_T → wq_H → Prop := fun r T' H' => T = T' ∧ WT T H' ∧ wfr [(12, 5), (12, 6), (12, 7), (12, 8), (12, 9), (1, 10), (6, 5), (8, 999), (10, 999), (15, 999), (9, 999), (18, 999), (19, 999), (7, 999), (11, 999), (17, 999), (13, 999)] T H H' ∧ ∃ z : Int, some (vL z) = r ∧ ((-9223372036854775808) ≤ z ∧ z ≤ 9223372036854775807)
set_option maxHeartbeats 4000000 in
theorem s_108 {kt : Nat → Option mc_E} {T : wq_T} {H : wq_H} {r0 : Nat} (hW : WT T H) (g0 : T.2.2.2 r0 = some 1) : wpc kt 7 108 [.ref r0] T H (q_108 r0 T H) := by
  refine wp_enter e108 (Nat.le_of_ble_eq_true rfl) rfl ?_
  have f0 : wfr [(12, 5), (12, 6), (12, 7), (12, 8), (12, 9), (1, 10), (6, 5), (8, 999), (10, 999), (15, 999), (9, 999), (18, 999), (19, 999), (7, 999), (11, 999), (17, 999), (13, 999)] T H H := wfr.rf
  show wp _ _ 108 0 [(0, .ref r0)] [] _ H _
  refine wp_of e108 c108_0 (rw_aload_n (pc' := 1) (v := .ref r0) rfl rfl rfl ?_)
  refine wp_of e108 c108_1 (rw_aload_n (pc' := 2) (v := .ref r0) rfl rfl rfl ?_)
  refine wp_of e108 c108_2 (xg_I (pc' := 5) lf_0_58 hW g0 sh_1 (by decide) (by decide) ty_1_8 rfl rfl (fun b31065 b31066 => ?_))
  refine wp_of e108 c108_5 (xc_V (pc' := 8) (r := r0) (as := [vI (H r0 8)]) (st := []) (lm_0_198) rfl rfl (Nat.le_of_ble_eq_true rfl) hW g0 sh_1 (by decide) rfl (by decide) (s_102 hW g0 ⟨by omega, by omega⟩) (fun R31067 T31068 H31069 p31070 => ?_))
  obtain ⟨e31071, w31073, f31074, z31076, e31072, b31077, p31075⟩ := p31070
  subst e31071
  subst e31072
  have f31078 := f0.tr f31074 rfl
  show wp _ _ 108 8 [(0, .ref r0)] [vI z31076] _ H31069 _
  refine wp_of e108 c108_8 (rw_istore_n (pc' := 9) (z := z31076) (L' := [(1, vI z31076), (0, .ref r0)]) rfl rfl rfl ?_)
  refine wp_of e108 c108_9 (rw_iload_n (pc' := 10) (z := z31076) rfl rfl ?_)
  refine wp_of e108 c108_10 (rw_if_eq (p1 := 20) (p2 := 13) (by decide) rfl ⟨by omega, by omega⟩ (fun c31079 => ?_) (fun c31079 => ?_))
  · refine wp_of e108 c108_20 (rw_aload_n (pc' := 21) (v := .ref r0) rfl rfl rfl ?_)
    refine wp_of e108 c108_21 (rw_iconst (pc' := 22) rfl ?_)
    refine wp_of e108 c108_22 (xp_I (pc' := 25) lf_0_102 w31073 g0 sh_1 (by decide) (by decide) ty_1_10 rfl rfl (by omega) (by omega) ⟨by omega, by omega⟩ rfl (fun H31080 e31081 w31082 => ?_))
    have f31083 := f31078.put' e31081 g0 rfl
    have k31084 : H31080 r0 10 = 0 := wq_u_s e31081
    refine wp_of e108 c108_25 (rw_aload_n (pc' := 26) (v := .ref r0) rfl rfl rfl ?_)
    refine wp_of e108 c108_26 (xg_R (pc' := 29) lf_0_30 w31082 g0 sh_1 (by decide) (by decide) ty_1_3 rfl rfl (fun r31085 q31086 g31087 => ?_))
    refine wp_of e108 c108_29 (xg_L (pc' := 32) lf_0_210 w31082 g31087 sh_12 (by decide) (by decide) ty_12_8 rfl rfl (fun b31088 b31089 => ?_))
    exact wp_lreturn e108 c108_32 rfl ⟨rfl, w31082, f31083, H31080 r31085 8, rfl, ⟨by omega, by omega⟩⟩
  · refine wp_of e108 c108_13 (rw_aload_n (pc' := 14) (v := .ref r0) rfl rfl rfl ?_)
    refine wp_of e108 c108_14 (rw_iload_n (pc' := 15) (z := z31076) rfl rfl ?_)
    refine wp_of e108 c108_15 (xc_V (pc' := 18) (r := r0) (as := [vI z31076]) (st := []) (lm_0_70) rfl rfl (Nat.le_of_ble_eq_true rfl) w31073 g0 sh_1 (by decide) rfl (by decide) (s_12 w31073 g0 ⟨by omega, by omega⟩) (fun R31090 T31091 H31092 p31093 => ?_))
    obtain ⟨e31094, w31096, f31097, z31098, e31095, b31099⟩ := p31093
    subst e31094
    subst e31095
    have f31100 := f31078.tr f31097 rfl
    show wp _ _ 108 18 [(1, vI z31076), (0, .ref r0)] [vI z31098] _ H31092 _
    refine wp_of e108 c108_18 (rw_i2l (pc' := 19) rfl ⟨by omega, by omega⟩ ?_)
    exact wp_lreturn e108 c108_19 rfl ⟨rfl, w31096, f31100, z31098, rfl, ⟨by omega, by omega⟩⟩
/-! StrikeAwake$Census.awakeHours(LStrikeAwake$Parish;II)I -/
theorem e111 : wq_en 111 = some (4, 4, false, some FieldType.int) := rfl
theorem c111_0 : mc_cd 111 0 = some (.aload_n 0, 1) := by decide +kernel
theorem c111_1 : mc_cd 111 1 = some (.iload_n 1, 1) := by decide +kernel
theorem c111_2 : mc_cd 111 2 = some (.iload_n 2, 1) := by decide +kernel
theorem c111_3 : mc_cd 111 3 = some (.invokevirtual 135, 3) := by decide +kernel
theorem c111_6 : mc_cd 111 6 = some (.istore_n 3, 1) := by decide +kernel
theorem c111_7 : mc_cd 111 7 = some (.iload_n 3, 1) := by decide +kernel
theorem c111_8 : mc_cd 111 8 = some (.ifCond .ge 7, 3) := by decide +kernel
theorem c111_11 : mc_cd 111 11 = some (.iconst 0, 1) := by decide +kernel
theorem c111_12 : mc_cd 111 12 = some (.goto 14, 3) := by decide +kernel
theorem c111_15 : mc_cd 111 15 = some (.aload_n 0, 1) := by decide +kernel
theorem c111_16 : mc_cd 111 16 = some (.getfield 78, 3) := by decide +kernel
theorem c111_19 : mc_cd 111 19 = some (.iload_n 2, 1) := by decide +kernel
theorem c111_20 : mc_cd 111 20 = some (.aaload, 1) := by decide +kernel
theorem c111_21 : mc_cd 111 21 = some (.getfield 119, 3) := by decide +kernel
theorem c111_24 : mc_cd 111 24 = some (.iload_n 3, 1) := by decide +kernel
theorem c111_25 : mc_cd 111 25 = some (.iaload, 1) := by decide +kernel
theorem c111_26 : mc_cd 111 26 = some (.ireturn, 1) := by decide +kernel
abbrev q_111 (r0 : Nat) (a1 : Int) (a2 : Int) (T : wq_T) (H : wq_H) : Option Value → wq_T → wq_H → Prop := fun r T' H' => T = T' ∧ H = H' ∧ ∃ z : Int, some (vI z) = r ∧ ((-2147483648) ≤ z ∧ z ≤ 2147483647)
set_option maxHeartbeats 4000000 in
theorem s_111 {kt : Nat → Option mc_E} {T : wq_T} {H : wq_H} {r0 : Nat} {a1 : Int} {a2 : Int} (hW : WT T H) (g0 : T.2.2.2 r0 = some 27) (i1 : 0 ≤ a1 ∧ a1 ≤ 19999) (i2 : 0 ≤ a2 ∧ a2 ≤ 5) : wpc kt 2 111 [.ref r0, vI a1, vI a2] T H (q_111 r0 a1 a2 T H) := by
  refine wp_enter e111 (Nat.le_of_ble_eq_true rfl) rfl ?_
  show wp _ _ 111 0 [(0, .ref r0), (1, vI a1), (2, vI a2)] [] _ H _
  refine wp_of e111 c111_0 (rw_aload_n (pc' := 1) (v := .ref r0) rfl rfl rfl ?_)
  refine wp_of e111 c111_1 (rw_iload_n (pc' := 2) (z := a1) rfl rfl ?_)
  refine wp_of e111 c111_2 (rw_iload_n (pc' := 3) (z := a2) rfl rfl ?_)
  refine wp_of e111 c111_3 (xc_V (pc' := 6) (r := r0) (as := [vI a1, vI a2]) (st := []) (lm_4_135) rfl rfl (Nat.le_of_ble_eq_true rfl) hW g0 sh_27 (by decide) rfl (by decide) (s_96 hW g0 ⟨by omega, by omega⟩ ⟨by omega, by omega⟩) (fun R31122 T31123 H31124 p31125 => ?_))
  obtain ⟨e31126, e31128, z31129, e31127, b31130⟩ := p31125
  subst e31126
  subst e31127
  subst e31128
  show wp _ _ 111 6 [(0, .ref r0), (1, vI a1), (2, vI a2)] [vI z31129] _ H _
  refine wp_of e111 c111_6 (rw_istore_n (pc' := 7) (z := z31129) (L' := [(3, vI z31129), (0, .ref r0), (1, vI a1), (2, vI a2)]) rfl rfl rfl ?_)
  refine wp_of e111 c111_7 (rw_iload_n (pc' := 8) (z := z31129) rfl rfl ?_)
  refine wp_of e111 c111_8 (rw_if_ge (p1 := 15) (p2 := 11) (by decide) rfl ⟨by omega, by omega⟩ (fun c31131 => ?_) (fun c31131 => ?_))
  · refine wp_of e111 c111_15 (rw_aload_n (pc' := 16) (v := .ref r0) rfl rfl rfl ?_)
    refine wp_of e111 c111_16 (xg_R (pc' := 19) lf_4_78 hW g0 sh_27 (by decide) (by decide) ty_27_0 rfl rfl (fun r31132 q31133 g31134 => ?_))
    refine wp_of e111 c111_19 (rw_iload_n (pc' := 20) (z := a2) rfl rfl ?_)
    refine wp_of e111 c111_20 (xa_R (pc' := 21) (by decide) hW g31134 sh_28 (by decide) (ty_28 _) (by omega) (by omega) rfl (fun r31135 q31136 g31137 => ?_))
    refine wp_of e111 c111_21 (xg_R (pc' := 24) lf_4_119 hW g31137 sh_35 (by decide) (by decide) ty_35_3 rfl rfl (fun r31138 q31139 g31140 => ?_))
    refine wp_of e111 c111_24 (rw_iload_n (pc' := 25) (z := z31129) rfl rfl ?_)
    refine wp_of e111 c111_25 (xa_I (so := 0) (pc' := 26) hW g31140 sh_39 (by decide) (ty_39 _) (by omega) (by omega) rfl (fun b31141 b31142 => ?_))
    exact wp_ireturn e111 c111_26 rfl ⟨rfl, rfl, H r31138 (z31129.toNat), rfl, ⟨by omega, by omega⟩⟩
  · refine wp_of e111 c111_11 (rw_iconst (pc' := 12) rfl ?_)
    refine wp_of e111 c111_12 (rw_goto (p1 := 26) (by decide) ?_)
    exact wp_ireturn e111 c111_26 rfl ⟨rfl, rfl, 0, rfl, ⟨by omega, by omega⟩⟩
/-! StrikeAwake$Census.bothAwake(LStrikeAwake$Parish;II)I -/
theorem e110 : wq_en 110 = some (4, 6, false, some FieldType.int) := rfl
theorem c110_0 : mc_cd 110 0 = some (.iconst 0, 1) := by decide +kernel
theorem c110_1 : mc_cd 110 1 = some (.istore 4, 2) := by decide +kernel
theorem c110_3 : mc_cd 110 3 = some (.iconst 0, 1) := by decide +kernel
theorem c110_4 : mc_cd 110 4 = some (.istore 5, 2) := by decide +kernel
theorem c110_6 : mc_cd 110 6 = some (.iload 5, 2) := by decide +kernel
theorem c110_8 : mc_cd 110 8 = some (.i2l, 1) := by decide +kernel
theorem c110_9 : mc_cd 110 9 = some (.aload_n 1, 1) := by decide +kernel
theorem c110_10 : mc_cd 110 10 = some (.getfield 45, 3) := by decide +kernel
theorem c110_13 : mc_cd 110 13 = some (.lcmp, 1) := by decide +kernel
theorem c110_14 : mc_cd 110 14 = some (.ifCond .ge 46, 3) := by decide +kernel
theorem c110_17 : mc_cd 110 17 = some (.iload 5, 2) := by decide +kernel
theorem c110_19 : mc_cd 110 19 = some (.sipush 20000, 3) := by decide +kernel
theorem c110_22 : mc_cd 110 22 = some (.if_icmp .ge 38, 3) := by decide +kernel
theorem c110_25 : mc_cd 110 25 = some (.aload_n 0, 1) := by decide +kernel
theorem c110_26 : mc_cd 110 26 = some (.iload 5, 2) := by decide +kernel
theorem c110_28 : mc_cd 110 28 = some (.invokevirtual 113, 3) := by decide +kernel
theorem c110_31 : mc_cd 110 31 = some (.ifCond .eq 23, 3) := by decide +kernel
theorem c110_34 : mc_cd 110 34 = some (.iload 4, 2) := by decide +kernel
theorem c110_36 : mc_cd 110 36 = some (.aload_n 1, 1) := by decide +kernel
theorem c110_37 : mc_cd 110 37 = some (.iload 5, 2) := by decide +kernel
theorem c110_39 : mc_cd 110 39 = some (.iload_n 2, 1) := by decide +kernel
theorem c110_40 : mc_cd 110 40 = some (.invokestatic 132, 3) := by decide +kernel
theorem c110_43 : mc_cd 110 43 = some (.aload_n 1, 1) := by decide +kernel
theorem c110_44 : mc_cd 110 44 = some (.iload 5, 2) := by decide +kernel
theorem c110_46 : mc_cd 110 46 = some (.iload_n 3, 1) := by decide +kernel
theorem c110_47 : mc_cd 110 47 = some (.invokestatic 132, 3) := by decide +kernel
theorem c110_50 : mc_cd 110 50 = some (.iand, 1) := by decide +kernel
theorem c110_51 : mc_cd 110 51 = some (.ior, 1) := by decide +kernel
theorem c110_52 : mc_cd 110 52 = some (.istore 4, 2) := by decide +kernel
theorem c110_54 : mc_cd 110 54 = some (.iinc 5 1, 3) := by decide +kernel
theorem c110_57 : mc_cd 110 57 = some (.goto (-51), 3) := by decide +kernel
theorem c110_60 : mc_cd 110 60 = some (.iload 4, 2) := by decide +kernel
theorem c110_62 : mc_cd 110 62 = some (.ireturn, 1) := by decide +kernel
abbrev q_110 (r0 : Nat) (r1 : Nat) (a2 : Int) (a3 : Int) (T : wq_T) (H : wq_H) : Option Value → wq_T → wq_H → Prop := fun r T' H' => T = T' ∧ H = H' ∧ ∃ z : Int, some (vI z) = r ∧ ((-2147483648) ≤ z ∧ z ≤ 2147483647)
set_option maxHeartbeats 4000000 in
theorem s_110 {kt : Nat → Option mc_E} {T : wq_T} {H : wq_H} {r0 : Nat} {r1 : Nat} {a2 : Int} {a3 : Int} (hW : WT T H) (g0 : T.2.2.2 r0 = some 12) (g1 : T.2.2.2 r1 = some 27) (i2 : 0 ≤ a2 ∧ a2 ≤ 5) (i3 : 0 ≤ a3 ∧ a3 ≤ 5) : wpc kt 3 110 [.ref r0, .ref r1, vI a2, vI a3] T H (q_110 r0 r1 a2 a3 T H) := by
  refine wp_enter e110 (Nat.le_of_ble_eq_true rfl) rfl ?_
  show wp _ _ 110 0 [(0, .ref r0), (1, .ref r1), (2, vI a2), (3, vI a3)] [] _ H _
  refine wp_of e110 c110_0 (rw_iconst (pc' := 1) rfl ?_)
  refine wp_of e110 c110_1 (rw_istore (pc' := 3) (z := 0) (L' := [(4, vI 0), (0, .ref r0), (1, .ref r1), (2, vI a2), (3, vI a3)]) rfl rfl rfl ?_)
  refine wp_of e110 c110_3 (rw_iconst (pc' := 4) rfl ?_)
  refine wp_of e110 c110_4 (rw_istore (pc' := 6) (z := 0) (L' := [(5, vI 0), (4, vI 0), (0, .ref r0), (1, .ref r1), (2, vI a2), (3, vI a3)]) rfl rfl rfl ?_)
  have lp31773 : ∀ (n31774 : Nat) (v31776 : Int) (v31777 : Int), (0 ≤ v31776 ∧ v31776 ≤ 20000) → ((-2147483648) ≤ v31777 ∧ v31777 ≤ 2147483647) → (20000 - v31776).toNat = n31774 → wp kt 2 110 6 [(5, vI v31776), (4, vI v31777), (0, .ref r0), (1, .ref r1), (2, vI a2), (3, vI a3)] [] T H (q_110 r0 r1 a2 a3 T H) := by
    intro n31774
    induction n31774 using Nat.strongRecOn with
    | _ n31774 ih31775 =>
      intro v31776 v31777 b31780 b31781 m31782
      refine wp_of e110 c110_6 (rw_iload (pc' := 8) (z := v31776) rfl rfl ?_)
      refine wp_of e110 c110_8 (rw_i2l (pc' := 9) rfl ⟨by omega, by omega⟩ ?_)
      refine wp_of e110 c110_9 (rw_aload_n (pc' := 10) (v := .ref r1) rfl rfl rfl ?_)
      refine wp_of e110 c110_10 (xg_L (pc' := 13) lf_4_45 hW g1 sh_27 (by decide) (by decide) ty_27_18 rfl rfl (fun b31783 b31784 => ?_))
      refine wp_of e110 c110_13 (rw_lcmp (pc' := 14) rfl ⟨by omega, by omega⟩ ⟨by omega, by omega⟩ ?_)
      have b31785 := wq_cmp_b v31776 (H r1 18)
      refine wp_of e110 c110_14 (rw_if_ge (p1 := 60) (p2 := 17) (by decide) rfl ⟨by omega, by omega⟩ (fun c31786 => ?_) (fun c31786 => ?_))
      · refine wp_of e110 c110_60 (rw_iload (pc' := 62) (z := v31777) rfl rfl ?_)
        exact wp_ireturn e110 c110_62 rfl ⟨rfl, rfl, v31777, rfl, ⟨by omega, by omega⟩⟩
      · refine wp_of e110 c110_17 (rw_iload (pc' := 19) (z := v31776) rfl rfl ?_)
        refine wp_of e110 c110_19 (rw_sipush (pc' := 22) (z := 20000) rfl (by decide) ?_)
        refine wp_of e110 c110_22 (rw_icmp_ge (p1 := 60) (p2 := 25) (by decide) rfl ⟨by omega, by omega⟩ ⟨by omega, by omega⟩ (fun c31787 => ?_) (fun c31787 => ?_))
        · refine wp_of e110 c110_60 (rw_iload (pc' := 62) (z := v31777) rfl rfl ?_)
          exact wp_ireturn e110 c110_62 rfl ⟨rfl, rfl, v31777, rfl, ⟨by omega, by omega⟩⟩
        · refine wp_of e110 c110_25 (rw_aload_n (pc' := 26) (v := .ref r0) rfl rfl rfl ?_)
          refine wp_of e110 c110_26 (rw_iload (pc' := 28) (z := v31776) rfl rfl ?_)
          refine wp_of e110 c110_28 (xc_V (pc' := 31) (r := r0) (as := [vI v31776]) (st := []) (lm_4_113) rfl rfl (Nat.le_of_ble_eq_true rfl) hW g0 sh_12 (by decide) rfl (by decide) (s_95 hW g0 ⟨by omega, by omega⟩) (fun R31788 T31789 H31790 p31791 => ?_))
          obtain ⟨e31792, e31794, z31795, e31793, b31796⟩ := p31791
          subst e31792
          subst e31793
          subst e31794
          show wp _ _ 110 31 [(5, vI v31776), (4, vI v31777), (0, .ref r0), (1, .ref r1), (2, vI a2), (3, vI a3)] [vI z31795] _ H _
          refine wp_of e110 c110_31 (rw_if_eq (p1 := 54) (p2 := 34) (by decide) rfl ⟨by omega, by omega⟩ (fun c31797 => ?_) (fun c31797 => ?_))
          · refine wp_of e110 c110_54 (rw_iinc (pc' := 57) (z := v31776) (L' := [(5, vI (v31776 + 1)), (4, vI v31777), (0, .ref r0), (1, .ref r1), (2, vI a2), (3, vI a3)]) rfl rfl rfl rfl ?_)
            refine wp_of e110 c110_57 (rw_goto (p1 := 6) (by decide) ?_)
            exact wp_lc (ks := [5, 4, 0, 1, 2, 3]) (wl_c rfl (wl_c rfl (wl_c rfl (wl_c rfl (wl_c rfl (wl_c rfl wl_n)))))) rfl (by decide) (ih31775 _ (by omega) (v31776 + 1) v31777 ⟨by omega, by omega⟩ ⟨by omega, by omega⟩ rfl)
          · refine wp_of e110 c110_34 (rw_iload (pc' := 36) (z := v31777) rfl rfl ?_)
            refine wp_of e110 c110_36 (rw_aload_n (pc' := 37) (v := .ref r1) rfl rfl rfl ?_)
            refine wp_of e110 c110_37 (rw_iload (pc' := 39) (z := v31776) rfl rfl ?_)
            refine wp_of e110 c110_39 (rw_iload_n (pc' := 40) (z := a2) rfl rfl ?_)
            refine wp_of e110 c110_40 (xc_S (pc' := 43) (as := [.ref r1, vI v31776, vI a2]) (st := [vI v31777]) (lm_4_132) rfl rfl (Nat.le_of_ble_eq_true rfl) rfl (by decide) (s_111 hW g1 ⟨by omega, by omega⟩ ⟨by omega, by omega⟩) (fun R31798 T31799 H31800 p31801 => ?_))
            obtain ⟨e31802, e31804, z31805, e31803, b31806⟩ := p31801
            subst e31802
            subst e31803
            subst e31804
            show wp _ _ 110 43 [(5, vI v31776), (4, vI v31777), (0, .ref r0), (1, .ref r1), (2, vI a2), (3, vI a3)] [vI z31805, vI v31777] _ H _
            refine wp_of e110 c110_43 (rw_aload_n (pc' := 44) (v := .ref r1) rfl rfl rfl ?_)
            refine wp_of e110 c110_44 (rw_iload (pc' := 46) (z := v31776) rfl rfl ?_)
            refine wp_of e110 c110_46 (rw_iload_n (pc' := 47) (z := a3) rfl rfl ?_)
            refine wp_of e110 c110_47 (xc_S (pc' := 50) (as := [.ref r1, vI v31776, vI a3]) (st := [vI z31805, vI v31777]) (lm_4_132) rfl rfl (Nat.le_of_ble_eq_true rfl) rfl (by decide) (s_111 hW g1 ⟨by omega, by omega⟩ ⟨by omega, by omega⟩) (fun R31807 T31808 H31809 p31810 => ?_))
            obtain ⟨e31811, e31813, z31814, e31812, b31815⟩ := p31810
            subst e31811
            subst e31812
            subst e31813
            show wp _ _ 110 50 [(5, vI v31776), (4, vI v31777), (0, .ref r0), (1, .ref r1), (2, vI a2), (3, vI a3)] [vI z31814, vI z31805, vI v31777] _ H _
            refine wp_of e110 c110_50 (rw_iand (pc' := 51) rfl ?_)
            obtain ⟨v31816, e31817⟩ : ∃ x : Int, x = wq_and z31805 z31814 := ⟨_, rfl⟩
            rw [← e31817]
            have b31818 : -2147483648 ≤ v31816 ∧ v31816 ≤ 2147483647 := by
              rw [e31817]
              exact wI_and _ _
            refine wp_of e110 c110_51 (rw_ior (pc' := 52) rfl ?_)
            obtain ⟨v31819, e31820⟩ : ∃ x : Int, x = wq_or v31777 v31816 := ⟨_, rfl⟩
            rw [← e31820]
            have b31821 : -2147483648 ≤ v31819 ∧ v31819 ≤ 2147483647 := by
              rw [e31820]
              exact wI_or _ _
            refine wp_of e110 c110_52 (rw_istore (pc' := 54) (z := v31819) (L' := [(4, vI v31819), (5, vI v31776), (0, .ref r0), (1, .ref r1), (2, vI a2), (3, vI a3)]) rfl rfl rfl ?_)
            refine wp_of e110 c110_54 (rw_iinc (pc' := 57) (z := v31776) (L' := [(5, vI (v31776 + 1)), (4, vI v31819), (0, .ref r0), (1, .ref r1), (2, vI a2), (3, vI a3)]) rfl rfl rfl rfl ?_)
            refine wp_of e110 c110_57 (rw_goto (p1 := 6) (by decide) ?_)
            exact wp_lc (ks := [5, 4, 0, 1, 2, 3]) (wl_c rfl (wl_c rfl (wl_c rfl (wl_c rfl (wl_c rfl (wl_c rfl wl_n)))))) rfl (by decide) (ih31775 _ (by omega) (v31776 + 1) v31819 ⟨by omega, by omega⟩ ⟨by omega, by omega⟩ rfl)
  exact wp_lc (ks := [5, 4, 0, 1, 2, 3]) (wl_c rfl (wl_c rfl (wl_c rfl (wl_c rfl (wl_c rfl (wl_c rfl wl_n)))))) rfl (by decide) (lp31773 _ 0 0 ⟨by omega, by omega⟩ ⟨by omega, by omega⟩ rfl)
/-! StrikeAwake.together(II)I -/
theorem e109 : wq_en 109 = some (0, 4, false, some FieldType.int) := rfl
theorem c109_0 : mc_cd 109 0 = some (.aload_n 0, 1) := by decide +kernel
theorem c109_1 : mc_cd 109 1 = some (.aload_n 0, 1) := by decide +kernel
theorem c109_2 : mc_cd 109 2 = some (.iload_n 1, 1) := by decide +kernel
theorem c109_3 : mc_cd 109 3 = some (.invokevirtual 105, 3) := by decide +kernel
theorem c109_6 : mc_cd 109 6 = some (.ifCond .eq 20, 3) := by decide +kernel
theorem c109_9 : mc_cd 109 9 = some (.aload_n 0, 1) := by decide +kernel
theorem c109_10 : mc_cd 109 10 = some (.iload_n 2, 1) := by decide +kernel
theorem c109_11 : mc_cd 109 11 = some (.invokevirtual 105, 3) := by decide +kernel
theorem c109_14 : mc_cd 109 14 = some (.ifCond .eq 12, 3) := by decide +kernel
theorem c109_17 : mc_cd 109 17 = some (.iload_n 1, 1) := by decide +kernel
theorem c109_18 : mc_cd 109 18 = some (.iload_n 2, 1) := by decide +kernel
theorem c109_19 : mc_cd 109 19 = some (.if_icmp .eq 7, 3) := by decide +kernel
theorem c109_22 : mc_cd 109 22 = some (.iconst 1, 1) := by decide +kernel
theorem c109_23 : mc_cd 109 23 = some (.goto 4, 3) := by decide +kernel
theorem c109_26 : mc_cd 109 26 = some (.iconst 0, 1) := by decide +kernel
theorem c109_27 : mc_cd 109 27 = some (.invokevirtual 174, 3) := by decide +kernel
theorem c109_30 : mc_cd 109 30 = some (.istore_n 3, 1) := by decide +kernel
theorem c109_31 : mc_cd 109 31 = some (.iload_n 3, 1) := by decide +kernel
theorem c109_32 : mc_cd 109 32 = some (.ifCond .eq 9, 3) := by decide +kernel
theorem c109_35 : mc_cd 109 35 = some (.aload_n 0, 1) := by decide +kernel
theorem c109_36 : mc_cd 109 36 = some (.iload_n 3, 1) := by decide +kernel
theorem c109_37 : mc_cd 109 37 = some (.invokevirtual 70, 3) := by decide +kernel
theorem c109_40 : mc_cd 109 40 = some (.ireturn, 1) := by decide +kernel
theorem c109_41 : mc_cd 109 41 = some (.aload_n 0, 1) := by decide +kernel
theorem c109_42 : mc_cd 109 42 = some (.aload_n 0, 1) := by decide +kernel
theorem c109_43 : mc_cd 109 43 = some (.getfield 30, 3) := by decide +kernel
theorem c109_46 : mc_cd 109 46 = some (.aload_n 0, 1) := by decide +kernel
theorem c109_47 : mc_cd 109 47 = some (.getfield 51, 3) := by decide +kernel
theorem c109_50 : mc_cd 109 50 = some (.iload_n 1, 1) := by decide +kernel
theorem c109_51 : mc_cd 109 51 = some (.iload_n 2, 1) := by decide +kernel
theorem c109_52 : mc_cd 109 52 = some (.invokevirtual 213, 3) := by decide +kernel
theorem c109_55 : mc_cd 109 55 = some (.invokevirtual 99, 3) := by decide +kernel
theorem c109_58 : mc_cd 109 58 = some (.ireturn, 1) := by decide +kernel
abbrev q_109 (r0 : Nat) (a1 : Int) (a2 : Int) (T : wq_T) (H : wq_H) : Option Value → wq_T → wq_H → Prop := fun r T' H' => T = T' ∧ WT T H' ∧ wfr [(12, 5), (12, 6), (12, 7), (12, 8), (12, 9), (1, 10), (6, 5), (8, 999), (10, 999), (15, 999), (9, 999), (18, 999), (19, 999), (7, 999), (11, 999), (17, 999), (13, 999)] T H H' ∧ ∃ z : Int, some (vI z) = r ∧ ((-2147483648) ≤ z ∧ z ≤ 2147483647)
set_option maxHeartbeats 4000000 in
theorem s_109 {kt : Nat → Option mc_E} {T : wq_T} {H : wq_H} {r0 : Nat} {a1 : Int} {a2 : Int} (hW : WT T H) (g0 : T.2.2.2 r0 = some 1) (i1 : (-2147483648) ≤ a1 ∧ a1 ≤ 2147483647) (i2 : (-2147483648) ≤ a2 ∧ a2 ≤ 2147483647) : wpc kt 6 109 [.ref r0, vI a1, vI a2] T H (q_109 r0 a1 a2 T H) := by
  refine wp_enter e109 (Nat.le_of_ble_eq_true rfl) rfl ?_
  have f0 : wfr [(12, 5), (12, 6), (12, 7), (12, 8), (12, 9), (1, 10), (6, 5), (8, 999), (10, 999), (15, 999), (9, 999), (18, 999), (19, 999), (7, 999), (11, 999), (17, 999), (13, 999)] T H H := wfr.rf
  show wp _ _ 109 0 [(0, .ref r0), (1, vI a1), (2, vI a2)] [] _ H _
  refine wp_of e109 c109_0 (rw_aload_n (pc' := 1) (v := .ref r0) rfl rfl rfl ?_)
  refine wp_of e109 c109_1 (rw_aload_n (pc' := 2) (v := .ref r0) rfl rfl rfl ?_)
  refine wp_of e109 c109_2 (rw_iload_n (pc' := 3) (z := a1) rfl rfl ?_)
  refine wp_of e109 c109_3 (xc_V (pc' := 6) (r := r0) (as := [vI a1]) (st := [.ref r0]) (lm_0_105) rfl rfl (Nat.le_of_ble_eq_true rfl) hW g0 sh_1 (by decide) rfl (by decide) (s_55 hW g0 ⟨by omega, by omega⟩) (fun R31967 T31968 H31969 p31970 => ?_))
  obtain ⟨e31971, e31973, z31975, e31972, b31976, p31974⟩ := p31970
  subst e31971
  subst e31972
  subst e31973
  show wp _ _ 109 6 [(0, .ref r0), (1, vI a1), (2, vI a2)] [vI z31975, .ref r0] _ H _
  refine wp_of e109 c109_6 (rw_if_eq (p1 := 26) (p2 := 9) (by decide) rfl ⟨by omega, by omega⟩ (fun c31977 => ?_) (fun c31977 => ?_))
  · refine wp_of e109 c109_26 (rw_iconst (pc' := 27) rfl ?_)
    refine wp_of e109 c109_27 (xc_V (pc' := 30) (r := r0) (as := [vI 0]) (st := []) (lm_0_174) rfl rfl (Nat.le_of_ble_eq_true rfl) hW g0 sh_1 (by decide) rfl (by decide) (s_83 hW g0 ⟨by omega, by omega⟩) (fun R31978 T31979 H31980 p31981 => ?_))
    obtain ⟨e31982, w31984, f31985, z31987, e31983, b31988, p31986⟩ := p31981
    subst e31982
    subst e31983
    have f31989 := f0.tr f31985 rfl
    show wp _ _ 109 30 [(0, .ref r0), (1, vI a1), (2, vI a2)] [vI z31987] _ H31980 _
    refine wp_of e109 c109_30 (rw_istore_n (pc' := 31) (z := z31987) (L' := [(3, vI z31987), (0, .ref r0), (1, vI a1), (2, vI a2)]) rfl rfl rfl ?_)
    refine wp_of e109 c109_31 (rw_iload_n (pc' := 32) (z := z31987) rfl rfl ?_)
    refine wp_of e109 c109_32 (rw_if_eq (p1 := 41) (p2 := 35) (by decide) rfl ⟨by omega, by omega⟩ (fun c31990 => ?_) (fun c31990 => ?_))
    · exfalso
      omega
    · refine wp_of e109 c109_35 (rw_aload_n (pc' := 36) (v := .ref r0) rfl rfl rfl ?_)
      refine wp_of e109 c109_36 (rw_iload_n (pc' := 37) (z := z31987) rfl rfl ?_)
      refine wp_of e109 c109_37 (xc_V (pc' := 40) (r := r0) (as := [vI z31987]) (st := []) (lm_0_70) rfl rfl (Nat.le_of_ble_eq_true rfl) w31984 g0 sh_1 (by decide) rfl (by decide) (s_12 w31984 g0 ⟨by omega, by omega⟩) (fun R31991 T31992 H31993 p31994 => ?_))
      obtain ⟨e31995, w31997, f31998, z31999, e31996, b32000⟩ := p31994
      subst e31995
      subst e31996
      have f32001 := f31989.tr f31998 rfl
      show wp _ _ 109 40 [(3, vI z31987), (0, .ref r0), (1, vI a1), (2, vI a2)] [vI z31999] _ H31993 _
      exact wp_ireturn e109 c109_40 rfl ⟨rfl, w31997, f32001, z31999, rfl, ⟨by omega, by omega⟩⟩
  · refine wp_of e109 c109_9 (rw_aload_n (pc' := 10) (v := .ref r0) rfl rfl rfl ?_)
    refine wp_of e109 c109_10 (rw_iload_n (pc' := 11) (z := a2) rfl rfl ?_)
    refine wp_of e109 c109_11 (xc_V (pc' := 14) (r := r0) (as := [vI a2]) (st := [.ref r0]) (lm_0_105) rfl rfl (Nat.le_of_ble_eq_true rfl) hW g0 sh_1 (by decide) rfl (by decide) (s_55 hW g0 ⟨by omega, by omega⟩) (fun R32002 T32003 H32004 p32005 => ?_))
    obtain ⟨e32006, e32008, z32010, e32007, b32011, p32009⟩ := p32005
    subst e32006
    subst e32007
    subst e32008
    show wp _ _ 109 14 [(0, .ref r0), (1, vI a1), (2, vI a2)] [vI z32010, .ref r0] _ H _
    refine wp_of e109 c109_14 (rw_if_eq (p1 := 26) (p2 := 17) (by decide) rfl ⟨by omega, by omega⟩ (fun c32012 => ?_) (fun c32012 => ?_))
    · refine wp_of e109 c109_26 (rw_iconst (pc' := 27) rfl ?_)
      refine wp_of e109 c109_27 (xc_V (pc' := 30) (r := r0) (as := [vI 0]) (st := []) (lm_0_174) rfl rfl (Nat.le_of_ble_eq_true rfl) hW g0 sh_1 (by decide) rfl (by decide) (s_83 hW g0 ⟨by omega, by omega⟩) (fun R32013 T32014 H32015 p32016 => ?_))
      obtain ⟨e32017, w32019, f32020, z32022, e32018, b32023, p32021⟩ := p32016
      subst e32017
      subst e32018
      have f32024 := f0.tr f32020 rfl
      show wp _ _ 109 30 [(0, .ref r0), (1, vI a1), (2, vI a2)] [vI z32022] _ H32015 _
      refine wp_of e109 c109_30 (rw_istore_n (pc' := 31) (z := z32022) (L' := [(3, vI z32022), (0, .ref r0), (1, vI a1), (2, vI a2)]) rfl rfl rfl ?_)
      refine wp_of e109 c109_31 (rw_iload_n (pc' := 32) (z := z32022) rfl rfl ?_)
      refine wp_of e109 c109_32 (rw_if_eq (p1 := 41) (p2 := 35) (by decide) rfl ⟨by omega, by omega⟩ (fun c32025 => ?_) (fun c32025 => ?_))
      · exfalso
        omega
      · refine wp_of e109 c109_35 (rw_aload_n (pc' := 36) (v := .ref r0) rfl rfl rfl ?_)
        refine wp_of e109 c109_36 (rw_iload_n (pc' := 37) (z := z32022) rfl rfl ?_)
        refine wp_of e109 c109_37 (xc_V (pc' := 40) (r := r0) (as := [vI z32022]) (st := []) (lm_0_70) rfl rfl (Nat.le_of_ble_eq_true rfl) w32019 g0 sh_1 (by decide) rfl (by decide) (s_12 w32019 g0 ⟨by omega, by omega⟩) (fun R32026 T32027 H32028 p32029 => ?_))
        obtain ⟨e32030, w32032, f32033, z32034, e32031, b32035⟩ := p32029
        subst e32030
        subst e32031
        have f32036 := f32024.tr f32033 rfl
        show wp _ _ 109 40 [(3, vI z32022), (0, .ref r0), (1, vI a1), (2, vI a2)] [vI z32034] _ H32028 _
        exact wp_ireturn e109 c109_40 rfl ⟨rfl, w32032, f32036, z32034, rfl, ⟨by omega, by omega⟩⟩
    · refine wp_of e109 c109_17 (rw_iload_n (pc' := 18) (z := a1) rfl rfl ?_)
      refine wp_of e109 c109_18 (rw_iload_n (pc' := 19) (z := a2) rfl rfl ?_)
      refine wp_of e109 c109_19 (rw_icmp_eq (p1 := 26) (p2 := 22) (by decide) rfl ⟨by omega, by omega⟩ ⟨by omega, by omega⟩ (fun c32037 => ?_) (fun c32037 => ?_))
      · refine wp_of e109 c109_26 (rw_iconst (pc' := 27) rfl ?_)
        refine wp_of e109 c109_27 (xc_V (pc' := 30) (r := r0) (as := [vI 0]) (st := []) (lm_0_174) rfl rfl (Nat.le_of_ble_eq_true rfl) hW g0 sh_1 (by decide) rfl (by decide) (s_83 hW g0 ⟨by omega, by omega⟩) (fun R32038 T32039 H32040 p32041 => ?_))
        obtain ⟨e32042, w32044, f32045, z32047, e32043, b32048, p32046⟩ := p32041
        subst e32042
        subst e32043
        have f32049 := f0.tr f32045 rfl
        show wp _ _ 109 30 [(0, .ref r0), (1, vI a1), (2, vI a2)] [vI z32047] _ H32040 _
        refine wp_of e109 c109_30 (rw_istore_n (pc' := 31) (z := z32047) (L' := [(3, vI z32047), (0, .ref r0), (1, vI a1), (2, vI a2)]) rfl rfl rfl ?_)
        refine wp_of e109 c109_31 (rw_iload_n (pc' := 32) (z := z32047) rfl rfl ?_)
        refine wp_of e109 c109_32 (rw_if_eq (p1 := 41) (p2 := 35) (by decide) rfl ⟨by omega, by omega⟩ (fun c32050 => ?_) (fun c32050 => ?_))
        · exfalso
          omega
        · refine wp_of e109 c109_35 (rw_aload_n (pc' := 36) (v := .ref r0) rfl rfl rfl ?_)
          refine wp_of e109 c109_36 (rw_iload_n (pc' := 37) (z := z32047) rfl rfl ?_)
          refine wp_of e109 c109_37 (xc_V (pc' := 40) (r := r0) (as := [vI z32047]) (st := []) (lm_0_70) rfl rfl (Nat.le_of_ble_eq_true rfl) w32044 g0 sh_1 (by decide) rfl (by decide) (s_12 w32044 g0 ⟨by omega, by omega⟩) (fun R32051 T32052 H32053 p32054 => ?_))
          obtain ⟨e32055, w32057, f32058, z32059, e32056, b32060⟩ := p32054
          subst e32055
          subst e32056
          have f32061 := f32049.tr f32058 rfl
          show wp _ _ 109 40 [(3, vI z32047), (0, .ref r0), (1, vI a1), (2, vI a2)] [vI z32059] _ H32053 _
          exact wp_ireturn e109 c109_40 rfl ⟨rfl, w32057, f32061, z32059, rfl, ⟨by omega, by omega⟩⟩
      · refine wp_of e109 c109_22 (rw_iconst (pc' := 23) rfl ?_)
        refine wp_of e109 c109_23 (rw_goto (p1 := 27) (by decide) ?_)
        refine wp_of e109 c109_27 (xc_V (pc' := 30) (r := r0) (as := [vI 1]) (st := []) (lm_0_174) rfl rfl (Nat.le_of_ble_eq_true rfl) hW g0 sh_1 (by decide) rfl (by decide) (s_83 hW g0 ⟨by omega, by omega⟩) (fun R32062 T32063 H32064 p32065 => ?_))
        obtain ⟨e32066, w32068, f32069, z32071, e32067, b32072, p32070⟩ := p32065
        subst e32066
        subst e32067
        have f32073 := f0.tr f32069 rfl
        show wp _ _ 109 30 [(0, .ref r0), (1, vI a1), (2, vI a2)] [vI z32071] _ H32064 _
        refine wp_of e109 c109_30 (rw_istore_n (pc' := 31) (z := z32071) (L' := [(3, vI z32071), (0, .ref r0), (1, vI a1), (2, vI a2)]) rfl rfl rfl ?_)
        refine wp_of e109 c109_31 (rw_iload_n (pc' := 32) (z := z32071) rfl rfl ?_)
        refine wp_of e109 c109_32 (rw_if_eq (p1 := 41) (p2 := 35) (by decide) rfl ⟨by omega, by omega⟩ (fun c32074 => ?_) (fun c32074 => ?_))
        · refine wp_of e109 c109_41 (rw_aload_n (pc' := 42) (v := .ref r0) rfl rfl rfl ?_)
          refine wp_of e109 c109_42 (rw_aload_n (pc' := 43) (v := .ref r0) rfl rfl rfl ?_)
          refine wp_of e109 c109_43 (xg_R (pc' := 46) lf_0_30 w32068 g0 sh_1 (by decide) (by decide) ty_1_3 rfl rfl (fun r32075 q32076 g32077 => ?_))
          refine wp_of e109 c109_46 (rw_aload_n (pc' := 47) (v := .ref r0) rfl rfl rfl ?_)
          refine wp_of e109 c109_47 (xg_R (pc' := 50) lf_0_51 w32068 g0 sh_1 (by decide) (by decide) ty_1_6 rfl rfl (fun r32078 q32079 g32080 => ?_))
          refine wp_of e109 c109_50 (rw_iload_n (pc' := 51) (z := a1) rfl rfl ?_)
          refine wp_of e109 c109_51 (rw_iload_n (pc' := 52) (z := a2) rfl rfl ?_)
          refine wp_of e109 c109_52 (xc_V (pc' := 55) (r := r32075) (as := [.ref r32078, vI a1, vI a2]) (st := [.ref r0]) (lm_0_213) rfl rfl (Nat.le_of_ble_eq_true rfl) w32068 g32077 sh_12 (by decide) rfl (by decide) (s_110 w32068 g32077 g32080 ⟨by omega, by omega⟩ ⟨by omega, by omega⟩) (fun R32081 T32082 H32083 p32084 => ?_))
          obtain ⟨e32085, e32087, z32088, e32086, b32089⟩ := p32084
          subst e32085
          subst e32086
          subst e32087
          show wp _ _ 109 55 [(3, vI z32071), (0, .ref r0), (1, vI a1), (2, vI a2)] [vI z32088, .ref r0] _ H32064 _
          refine wp_of e109 c109_55 (xc_V (pc' := 58) (r := r0) (as := [vI z32088]) (st := []) (lm_0_99) rfl rfl (Nat.le_of_ble_eq_true rfl) w32068 g0 sh_1 (by decide) rfl (by decide) (s_51 w32068 g0 ⟨by omega, by omega⟩) (fun R32090 T32091 H32092 p32093 => ?_))
          obtain ⟨e32094, w32096, f32097, z32098, e32095, b32099⟩ := p32093
          subst e32094
          subst e32095
          have f32100 := f32073.tr f32097 rfl
          show wp _ _ 109 58 [(3, vI z32071), (0, .ref r0), (1, vI a1), (2, vI a2)] [vI z32098] _ H32092 _
          exact wp_ireturn e109 c109_58 rfl ⟨rfl, w32096, f32100, z32098, rfl, ⟨by omega, by omega⟩⟩
        · refine wp_of e109 c109_35 (rw_aload_n (pc' := 36) (v := .ref r0) rfl rfl rfl ?_)
          refine wp_of e109 c109_36 (rw_iload_n (pc' := 37) (z := z32071) rfl rfl ?_)
          refine wp_of e109 c109_37 (xc_V (pc' := 40) (r := r0) (as := [vI z32071]) (st := []) (lm_0_70) rfl rfl (Nat.le_of_ble_eq_true rfl) w32068 g0 sh_1 (by decide) rfl (by decide) (s_12 w32068 g0 ⟨by omega, by omega⟩) (fun R32101 T32102 H32103 p32104 => ?_))
          obtain ⟨e32105, w32107, f32108, z32109, e32106, b32110⟩ := p32104
          subst e32105
          subst e32106
          have f32111 := f32073.tr f32108 rfl
          show wp _ _ 109 40 [(3, vI z32071), (0, .ref r0), (1, vI a1), (2, vI a2)] [vI z32109] _ H32103 _
          exact wp_ireturn e109 c109_40 rfl ⟨rfl, w32107, f32111, z32109, rfl, ⟨by omega, by omega⟩⟩
/-! StrikeAwake$Census.spansHeld(LStrikeAwake$Parish;I)J -/
theorem e113 : wq_en 113 = some (4, 6, false, some FieldType.long) := rfl
theorem c113_0 : mc_cd 113 0 = some (.lconst 0, 1) := by decide +kernel
theorem c113_1 : mc_cd 113 1 = some (.lstore_n 3, 1) := by decide +kernel
theorem c113_2 : mc_cd 113 2 = some (.iconst 0, 1) := by decide +kernel
theorem c113_3 : mc_cd 113 3 = some (.istore 5, 2) := by decide +kernel
theorem c113_5 : mc_cd 113 5 = some (.iload 5, 2) := by decide +kernel
theorem c113_7 : mc_cd 113 7 = some (.aload_n 1, 1) := by decide +kernel
theorem c113_8 : mc_cd 113 8 = some (.getfield 78, 3) := by decide +kernel
theorem c113_11 : mc_cd 113 11 = some (.iload_n 2, 1) := by decide +kernel
theorem c113_12 : mc_cd 113 12 = some (.aaload, 1) := by decide +kernel
theorem c113_13 : mc_cd 113 13 = some (.getfield 116, 3) := by decide +kernel
theorem c113_16 : mc_cd 113 16 = some (.if_icmp .ge 28, 3) := by decide +kernel
theorem c113_19 : mc_cd 113 19 = some (.aload_n 0, 1) := by decide +kernel
theorem c113_20 : mc_cd 113 20 = some (.getfield 17, 3) := by decide +kernel
theorem c113_23 : mc_cd 113 23 = some (.iload_n 2, 1) := by decide +kernel
theorem c113_24 : mc_cd 113 24 = some (.aaload, 1) := by decide +kernel
theorem c113_25 : mc_cd 113 25 = some (.iload 5, 2) := by decide +kernel
theorem c113_27 : mc_cd 113 27 = some (.iaload, 1) := by decide +kernel
theorem c113_28 : mc_cd 113 28 = some (.ifCond .le 10, 3) := by decide +kernel
theorem c113_31 : mc_cd 113 31 = some (.lload_n 3, 1) := by decide +kernel
theorem c113_32 : mc_cd 113 32 = some (.lconst 1, 1) := by decide +kernel
theorem c113_33 : mc_cd 113 33 = some (.iload 5, 2) := by decide +kernel
theorem c113_35 : mc_cd 113 35 = some (.lshl, 1) := by decide +kernel
theorem c113_36 : mc_cd 113 36 = some (.lor, 1) := by decide +kernel
theorem c113_37 : mc_cd 113 37 = some (.lstore_n 3, 1) := by decide +kernel
theorem c113_38 : mc_cd 113 38 = some (.iinc 5 1, 3) := by decide +kernel
theorem c113_41 : mc_cd 113 41 = some (.goto (-36), 3) := by decide +kernel
theorem c113_44 : mc_cd 113 44 = some (.lload_n 3, 1) := by decide +kernel
theorem c113_45 : mc_cd 113 45 = some (.lreturn, 1) := by decide +kernel
abbrev q_113 (r0 : Nat) (r1 : Nat) (a2 : Int) (T : wq_T) (H : wq_H) : Option Value → wq_T → wq_H → Prop := fun r T' H' => T = T' ∧ H = H' ∧ ∃ z : Int, some (vL z) = r ∧ ((-9223372036854775808) ≤ z ∧ z ≤ 9223372036854775807)
set_option maxHeartbeats 4000000 in
theorem s_113 {kt : Nat → Option mc_E} {T : wq_T} {H : wq_H} {r0 : Nat} {r1 : Nat} {a2 : Int} (hW : WT T H) (g0 : T.2.2.2 r0 = some 12) (g1 : T.2.2.2 r1 = some 27) (i2 : 0 ≤ a2 ∧ a2 ≤ 5) : wpc kt 1 113 [.ref r0, .ref r1, vI a2] T H (q_113 r0 r1 a2 T H) := by
  refine wp_enter e113 (Nat.le_of_ble_eq_true rfl) rfl ?_
  show wp _ _ 113 0 [(0, .ref r0), (1, .ref r1), (2, vI a2)] [] _ H _
  refine wp_of e113 c113_0 (rw_lconst (pc' := 1) (z := 0) rfl rfl ?_)
  refine wp_of e113 c113_1 (rw_lstore_n (pc' := 2) (z := 0) (L' := [(3, vL 0), (0, .ref r0), (1, .ref r1), (2, vI a2)]) rfl rfl rfl ?_)
  refine wp_of e113 c113_2 (rw_iconst (pc' := 3) rfl ?_)
  refine wp_of e113 c113_3 (rw_istore (pc' := 5) (z := 0) (L' := [(5, vI 0), (3, vL 0), (0, .ref r0), (1, .ref r1), (2, vI a2)]) rfl rfl rfl ?_)
  have lp32487 : ∀ (n32488 : Nat) (v32490 : Int) (v32491 : Int), (0 ≤ v32490 ∧ v32490 ≤ 40) → ((-9223372036854775808) ≤ v32491 ∧ v32491 ≤ 9223372036854775807) → (40 - v32490).toNat = n32488 → wp kt 0 113 5 [(5, vI v32490), (3, vL v32491), (0, .ref r0), (1, .ref r1), (2, vI a2)] [] T H (q_113 r0 r1 a2 T H) := by
    intro n32488
    induction n32488 using Nat.strongRecOn with
    | _ n32488 ih32489 =>
      intro v32490 v32491 b32494 b32495 m32496
      refine wp_of e113 c113_5 (rw_iload (pc' := 7) (z := v32490) rfl rfl ?_)
      refine wp_of e113 c113_7 (rw_aload_n (pc' := 8) (v := .ref r1) rfl rfl rfl ?_)
      refine wp_of e113 c113_8 (xg_R (pc' := 11) lf_4_78 hW g1 sh_27 (by decide) (by decide) ty_27_0 rfl rfl (fun r32497 q32498 g32499 => ?_))
      refine wp_of e113 c113_11 (rw_iload_n (pc' := 12) (z := a2) rfl rfl ?_)
      refine wp_of e113 c113_12 (xa_R (pc' := 13) (by decide) hW g32499 sh_28 (by decide) (ty_28 _) (by omega) (by omega) rfl (fun r32500 q32501 g32502 => ?_))
      refine wp_of e113 c113_13 (xg_I (pc' := 16) lf_4_116 hW g32502 sh_35 (by decide) (by decide) ty_35_15 rfl rfl (fun b32503 b32504 => ?_))
      refine wp_of e113 c113_16 (rw_icmp_ge (p1 := 44) (p2 := 19) (by decide) rfl ⟨by omega, by omega⟩ ⟨by omega, by omega⟩ (fun c32505 => ?_) (fun c32505 => ?_))
      · refine wp_of e113 c113_44 (rw_lload_n (pc' := 45) (z := v32491) rfl rfl ?_)
        exact wp_lreturn e113 c113_45 rfl ⟨rfl, rfl, v32491, rfl, ⟨by omega, by omega⟩⟩
      · refine wp_of e113 c113_19 (rw_aload_n (pc' := 20) (v := .ref r0) rfl rfl rfl ?_)
        refine wp_of e113 c113_20 (xg_R (pc' := 23) lf_4_17 hW g0 sh_12 (by decide) (by decide) ty_12_1 rfl rfl (fun r32506 q32507 g32508 => ?_))
        refine wp_of e113 c113_23 (rw_iload_n (pc' := 24) (z := a2) rfl rfl ?_)
        refine wp_of e113 c113_24 (xa_R (pc' := 25) (by decide) hW g32508 sh_14 (by decide) (ty_14 _) (by omega) (by omega) rfl (fun r32509 q32510 g32511 => ?_))
        refine wp_of e113 c113_25 (rw_iload (pc' := 27) (z := v32490) rfl rfl ?_)
        refine wp_of e113 c113_27 (xa_I (so := 0) (pc' := 28) hW g32511 sh_15 (by decide) (ty_15 _) (by omega) (by omega) rfl (fun b32512 b32513 => ?_))
        refine wp_of e113 c113_28 (rw_if_le (p1 := 38) (p2 := 31) (by decide) rfl ⟨by omega, by omega⟩ (fun c32514 => ?_) (fun c32514 => ?_))
        · refine wp_of e113 c113_38 (rw_iinc (pc' := 41) (z := v32490) (L' := [(5, vI (v32490 + 1)), (3, vL v32491), (0, .ref r0), (1, .ref r1), (2, vI a2)]) rfl rfl rfl rfl ?_)
          refine wp_of e113 c113_41 (rw_goto (p1 := 5) (by decide) ?_)
          exact wp_lc (ks := [5, 3, 0, 1, 2]) (wl_c rfl (wl_c rfl (wl_c rfl (wl_c rfl (wl_c rfl wl_n))))) rfl (by decide) (ih32489 _ (by omega) (v32490 + 1) v32491 ⟨by omega, by omega⟩ ⟨by omega, by omega⟩ rfl)
        · refine wp_of e113 c113_31 (rw_lload_n (pc' := 32) (z := v32491) rfl rfl ?_)
          refine wp_of e113 c113_32 (rw_lconst (pc' := 33) (z := 1) rfl rfl ?_)
          refine wp_of e113 c113_33 (rw_iload (pc' := 35) (z := v32490) rfl rfl ?_)
          refine wp_of e113 c113_35 (rw_lshl (pc' := 36) rfl ?_)
          obtain ⟨v32515, e32516⟩ : ∃ x : Int, x = wl_shl 1 v32490 := ⟨_, rfl⟩
          rw [← e32516]
          have b32517 : -9223372036854775808 ≤ v32515 ∧ v32515 ≤ 9223372036854775807 := by
            rw [e32516]
            exact wL_shl _ _
          refine wp_of e113 c113_36 (rw_lor (pc' := 37) rfl ?_)
          obtain ⟨v32518, e32519⟩ : ∃ x : Int, x = wl_or v32491 v32515 := ⟨_, rfl⟩
          rw [← e32519]
          have b32520 : -9223372036854775808 ≤ v32518 ∧ v32518 ≤ 9223372036854775807 := by
            rw [e32519]
            exact wL_or _ _
          refine wp_of e113 c113_37 (rw_lstore_n (pc' := 38) (z := v32518) (L' := [(3, vL v32518), (5, vI v32490), (0, .ref r0), (1, .ref r1), (2, vI a2)]) rfl rfl rfl ?_)
          refine wp_of e113 c113_38 (rw_iinc (pc' := 41) (z := v32490) (L' := [(5, vI (v32490 + 1)), (3, vL v32518), (0, .ref r0), (1, .ref r1), (2, vI a2)]) rfl rfl rfl rfl ?_)
          refine wp_of e113 c113_41 (rw_goto (p1 := 5) (by decide) ?_)
          exact wp_lc (ks := [5, 3, 0, 1, 2]) (wl_c rfl (wl_c rfl (wl_c rfl (wl_c rfl (wl_c rfl wl_n))))) rfl (by decide) (ih32489 _ (by omega) (v32490 + 1) v32518 ⟨by omega, by omega⟩ ⟨by omega, by omega⟩ rfl)
  exact wp_lc (ks := [5, 3, 0, 1, 2]) (wl_c rfl (wl_c rfl (wl_c rfl (wl_c rfl (wl_c rfl wl_n))))) rfl (by decide) (lp32487 _ 0 0 ⟨by omega, by omega⟩ ⟨by omega, by omega⟩ rfl)
/-! StrikeAwake.possible(I)J -/
theorem e112 : wq_en 112 = some (0, 3, false, some FieldType.long) := rfl
theorem c112_0 : mc_cd 112 0 = some (.aload_n 0, 1) := by decide +kernel
theorem c112_1 : mc_cd 112 1 = some (.aload_n 0, 1) := by decide +kernel
theorem c112_2 : mc_cd 112 2 = some (.iload_n 1, 1) := by decide +kernel
theorem c112_3 : mc_cd 112 3 = some (.invokevirtual 105, 3) := by decide +kernel
theorem c112_6 : mc_cd 112 6 = some (.invokevirtual 174, 3) := by decide +kernel
theorem c112_9 : mc_cd 112 9 = some (.istore_n 2, 1) := by decide +kernel
theorem c112_10 : mc_cd 112 10 = some (.iload_n 2, 1) := by decide +kernel
theorem c112_11 : mc_cd 112 11 = some (.ifCond .eq 10, 3) := by decide +kernel
theorem c112_14 : mc_cd 112 14 = some (.aload_n 0, 1) := by decide +kernel
theorem c112_15 : mc_cd 112 15 = some (.iload_n 2, 1) := by decide +kernel
theorem c112_16 : mc_cd 112 16 = some (.invokevirtual 70, 3) := by decide +kernel
theorem c112_19 : mc_cd 112 19 = some (.i2l, 1) := by decide +kernel
theorem c112_20 : mc_cd 112 20 = some (.lreturn, 1) := by decide +kernel
theorem c112_21 : mc_cd 112 21 = some (.aload_n 0, 1) := by decide +kernel
theorem c112_22 : mc_cd 112 22 = some (.iconst 0, 1) := by decide +kernel
theorem c112_23 : mc_cd 112 23 = some (.putfield 102, 3) := by decide +kernel
theorem c112_26 : mc_cd 112 26 = some (.aload_n 0, 1) := by decide +kernel
theorem c112_27 : mc_cd 112 27 = some (.getfield 30, 3) := by decide +kernel
theorem c112_30 : mc_cd 112 30 = some (.aload_n 0, 1) := by decide +kernel
theorem c112_31 : mc_cd 112 31 = some (.getfield 51, 3) := by decide +kernel
theorem c112_34 : mc_cd 112 34 = some (.iload_n 1, 1) := by decide +kernel
theorem c112_35 : mc_cd 112 35 = some (.invokevirtual 216, 3) := by decide +kernel
theorem c112_38 : mc_cd 112 38 = some (.lreturn, 1) := by decide +kernel
abbrev q_112 (r0 : Nat) (a1 : Int) (T : wq_T) (H : wq_H) : Option Value → wq_T → wq_H → Prop := fun r T' H' => T = T' ∧ WT T H' ∧ wfr [(12, 5), (12, 6), (12, 7), (12, 8), (12, 9), (1, 10), (6, 5), (8, 999), (10, 999), (15, 999), (9, 999), (18, 999), (19, 999), (7, 999), (11, 999), (17, 999), (13, 999)] T H H' ∧ ∃ z : Int, some (vL z) = r ∧ ((-9223372036854775808) ≤ z ∧ z ≤ 9223372036854775807)
set_option maxHeartbeats 4000000 in
theorem s_112 {kt : Nat → Option mc_E} {T : wq_T} {H : wq_H} {r0 : Nat} {a1 : Int} (hW : WT T H) (g0 : T.2.2.2 r0 = some 1) (i1 : (-2147483648) ≤ a1 ∧ a1 ≤ 2147483647) : wpc kt 6 112 [.ref r0, vI a1] T H (q_112 r0 a1 T H) := by
  refine wp_enter e112 (Nat.le_of_ble_eq_true rfl) rfl ?_
  have f0 : wfr [(12, 5), (12, 6), (12, 7), (12, 8), (12, 9), (1, 10), (6, 5), (8, 999), (10, 999), (15, 999), (9, 999), (18, 999), (19, 999), (7, 999), (11, 999), (17, 999), (13, 999)] T H H := wfr.rf
  show wp _ _ 112 0 [(0, .ref r0), (1, vI a1)] [] _ H _
  refine wp_of e112 c112_0 (rw_aload_n (pc' := 1) (v := .ref r0) rfl rfl rfl ?_)
  refine wp_of e112 c112_1 (rw_aload_n (pc' := 2) (v := .ref r0) rfl rfl rfl ?_)
  refine wp_of e112 c112_2 (rw_iload_n (pc' := 3) (z := a1) rfl rfl ?_)
  refine wp_of e112 c112_3 (xc_V (pc' := 6) (r := r0) (as := [vI a1]) (st := [.ref r0]) (lm_0_105) rfl rfl (Nat.le_of_ble_eq_true rfl) hW g0 sh_1 (by decide) rfl (by decide) (s_55 hW g0 ⟨by omega, by omega⟩) (fun R32575 T32576 H32577 p32578 => ?_))
  obtain ⟨e32579, e32581, z32583, e32580, b32584, p32582⟩ := p32578
  subst e32579
  subst e32580
  subst e32581
  show wp _ _ 112 6 [(0, .ref r0), (1, vI a1)] [vI z32583, .ref r0] _ H _
  refine wp_of e112 c112_6 (xc_V (pc' := 9) (r := r0) (as := [vI z32583]) (st := []) (lm_0_174) rfl rfl (Nat.le_of_ble_eq_true rfl) hW g0 sh_1 (by decide) rfl (by decide) (s_83 hW g0 ⟨by omega, by omega⟩) (fun R32585 T32586 H32587 p32588 => ?_))
  obtain ⟨e32589, w32591, f32592, z32594, e32590, b32595, p32593⟩ := p32588
  subst e32589
  subst e32590
  have f32596 := f0.tr f32592 rfl
  show wp _ _ 112 9 [(0, .ref r0), (1, vI a1)] [vI z32594] _ H32587 _
  refine wp_of e112 c112_9 (rw_istore_n (pc' := 10) (z := z32594) (L' := [(2, vI z32594), (0, .ref r0), (1, vI a1)]) rfl rfl rfl ?_)
  refine wp_of e112 c112_10 (rw_iload_n (pc' := 11) (z := z32594) rfl rfl ?_)
  refine wp_of e112 c112_11 (rw_if_eq (p1 := 21) (p2 := 14) (by decide) rfl ⟨by omega, by omega⟩ (fun c32597 => ?_) (fun c32597 => ?_))
  · refine wp_of e112 c112_21 (rw_aload_n (pc' := 22) (v := .ref r0) rfl rfl rfl ?_)
    refine wp_of e112 c112_22 (rw_iconst (pc' := 23) rfl ?_)
    refine wp_of e112 c112_23 (xp_I (pc' := 26) lf_0_102 w32591 g0 sh_1 (by decide) (by decide) ty_1_10 rfl rfl (by omega) (by omega) ⟨by omega, by omega⟩ rfl (fun H32598 e32599 w32600 => ?_))
    have f32601 := f32596.put' e32599 g0 rfl
    have k32602 : H32598 r0 10 = 0 := wq_u_s e32599
    refine wp_of e112 c112_26 (rw_aload_n (pc' := 27) (v := .ref r0) rfl rfl rfl ?_)
    refine wp_of e112 c112_27 (xg_R (pc' := 30) lf_0_30 w32600 g0 sh_1 (by decide) (by decide) ty_1_3 rfl rfl (fun r32603 q32604 g32605 => ?_))
    refine wp_of e112 c112_30 (rw_aload_n (pc' := 31) (v := .ref r0) rfl rfl rfl ?_)
    refine wp_of e112 c112_31 (xg_R (pc' := 34) lf_0_51 w32600 g0 sh_1 (by decide) (by decide) ty_1_6 rfl rfl (fun r32606 q32607 g32608 => ?_))
    refine wp_of e112 c112_34 (rw_iload_n (pc' := 35) (z := a1) rfl rfl ?_)
    refine wp_of e112 c112_35 (xc_V (pc' := 38) (r := r32603) (as := [.ref r32606, vI a1]) (st := []) (lm_0_216) rfl rfl (Nat.le_of_ble_eq_true rfl) w32600 g32605 sh_12 (by decide) rfl (by decide) (s_113 w32600 g32605 g32608 ⟨by omega, by omega⟩) (fun R32609 T32610 H32611 p32612 => ?_))
    obtain ⟨e32613, e32615, z32616, e32614, b32617⟩ := p32612
    subst e32613
    subst e32614
    subst e32615
    show wp _ _ 112 38 [(2, vI z32594), (0, .ref r0), (1, vI a1)] [vL z32616] _ H32598 _
    exact wp_lreturn e112 c112_38 rfl ⟨rfl, w32600, f32601, z32616, rfl, ⟨by omega, by omega⟩⟩
  · refine wp_of e112 c112_14 (rw_aload_n (pc' := 15) (v := .ref r0) rfl rfl rfl ?_)
    refine wp_of e112 c112_15 (rw_iload_n (pc' := 16) (z := z32594) rfl rfl ?_)
    refine wp_of e112 c112_16 (xc_V (pc' := 19) (r := r0) (as := [vI z32594]) (st := []) (lm_0_70) rfl rfl (Nat.le_of_ble_eq_true rfl) w32591 g0 sh_1 (by decide) rfl (by decide) (s_12 w32591 g0 ⟨by omega, by omega⟩) (fun R32618 T32619 H32620 p32621 => ?_))
    obtain ⟨e32622, w32624, f32625, z32626, e32623, b32627⟩ := p32621
    subst e32622
    subst e32623
    have f32628 := f32596.tr f32625 rfl
    show wp _ _ 112 19 [(2, vI z32594), (0, .ref r0), (1, vI a1)] [vI z32626] _ H32620 _
    refine wp_of e112 c112_19 (rw_i2l (pc' := 20) rfl ⟨by omega, by omega⟩ ?_)
    exact wp_lreturn e112 c112_20 rfl ⟨rfl, w32624, f32628, z32626, rfl, ⟨by omega, by omega⟩⟩
/-! StrikeAwake$Census.peopleAwake(LStrikeAwake$Parish;II)I -/
theorem e116 : wq_en 116 = some (4, 5, false, some FieldType.int) := rfl
theorem c116_0 : mc_cd 116 0 = some (.iconst 0, 1) := by decide +kernel
theorem c116_1 : mc_cd 116 1 = some (.istore_n 3, 1) := by decide +kernel
theorem c116_2 : mc_cd 116 2 = some (.iconst 0, 1) := by decide +kernel
theorem c116_3 : mc_cd 116 3 = some (.istore 4, 2) := by decide +kernel
theorem c116_5 : mc_cd 116 5 = some (.iload 4, 2) := by decide +kernel
theorem c116_7 : mc_cd 116 7 = some (.aload_n 0, 1) := by decide +kernel
theorem c116_8 : mc_cd 116 8 = some (.getfield 75, 3) := by decide +kernel
theorem c116_11 : mc_cd 116 11 = some (.if_icmp .ge 30, 3) := by decide +kernel
theorem c116_14 : mc_cd 116 14 = some (.aload_n 0, 1) := by decide +kernel
theorem c116_15 : mc_cd 116 15 = some (.iload_n 1, 1) := by decide +kernel
theorem c116_16 : mc_cd 116 16 = some (.iload 4, 2) := by decide +kernel
theorem c116_18 : mc_cd 116 18 = some (.invokestatic 132, 3) := by decide +kernel
theorem c116_21 : mc_cd 116 21 = some (.iload_n 2, 1) := by decide +kernel
theorem c116_22 : mc_cd 116 22 = some (.invokestatic 122, 3) := by decide +kernel
theorem c116_25 : mc_cd 116 25 = some (.ifCond .eq 10, 3) := by decide +kernel
theorem c116_28 : mc_cd 116 28 = some (.iload_n 3, 1) := by decide +kernel
theorem c116_29 : mc_cd 116 29 = some (.iconst 1, 1) := by decide +kernel
theorem c116_30 : mc_cd 116 30 = some (.iload 4, 2) := by decide +kernel
theorem c116_32 : mc_cd 116 32 = some (.ishl, 1) := by decide +kernel
theorem c116_33 : mc_cd 116 33 = some (.ior, 1) := by decide +kernel
theorem c116_34 : mc_cd 116 34 = some (.istore_n 3, 1) := by decide +kernel
theorem c116_35 : mc_cd 116 35 = some (.iinc 4 1, 3) := by decide +kernel
theorem c116_38 : mc_cd 116 38 = some (.goto (-33), 3) := by decide +kernel
theorem c116_41 : mc_cd 116 41 = some (.iload_n 3, 1) := by decide +kernel
theorem c116_42 : mc_cd 116 42 = some (.ireturn, 1) := by decide +kernel
abbrev q_116 (r0 : Nat) (a1 : Int) (a2 : Int) (T : wq_T) (H : wq_H) : Option Value → wq_T → wq_H → Prop := fun r T' H' => T = T' ∧ H = H' ∧ ∃ z : Int, some (vI z) = r ∧ ((-2147483648) ≤ z ∧ z ≤ 2147483647)
set_option maxHeartbeats 4000000 in
theorem s_116 {kt : Nat → Option mc_E} {T : wq_T} {H : wq_H} {r0 : Nat} {a1 : Int} {a2 : Int} (hW : WT T H) (g0 : T.2.2.2 r0 = some 27) (i1 : 0 ≤ a1 ∧ a1 ≤ 19999) (i2 : (-2147483648) ≤ a2 ∧ a2 ≤ 2147483647) : wpc kt 3 116 [.ref r0, vI a1, vI a2] T H (q_116 r0 a1 a2 T H) := by
  refine wp_enter e116 (Nat.le_of_ble_eq_true rfl) rfl ?_
  show wp _ _ 116 0 [(0, .ref r0), (1, vI a1), (2, vI a2)] [] _ H _
  refine wp_of e116 c116_0 (rw_iconst (pc' := 1) rfl ?_)
  refine wp_of e116 c116_1 (rw_istore_n (pc' := 2) (z := 0) (L' := [(3, vI 0), (0, .ref r0), (1, vI a1), (2, vI a2)]) rfl rfl rfl ?_)
  refine wp_of e116 c116_2 (rw_iconst (pc' := 3) rfl ?_)
  refine wp_of e116 c116_3 (rw_istore (pc' := 5) (z := 0) (L' := [(4, vI 0), (3, vI 0), (0, .ref r0), (1, vI a1), (2, vI a2)]) rfl rfl rfl ?_)
  have lp33020 : ∀ (n33021 : Nat) (v33023 : Int) (v33024 : Int), (0 ≤ v33023 ∧ v33023 ≤ 6) → ((-2147483648) ≤ v33024 ∧ v33024 ≤ 2147483647) → (6 - v33023).toNat = n33021 → wp kt 2 116 5 [(4, vI v33023), (3, vI v33024), (0, .ref r0), (1, vI a1), (2, vI a2)] [] T H (q_116 r0 a1 a2 T H) := by
    intro n33021
    induction n33021 using Nat.strongRecOn with
    | _ n33021 ih33022 =>
      intro v33023 v33024 b33027 b33028 m33029
      refine wp_of e116 c116_5 (rw_iload (pc' := 7) (z := v33023) rfl rfl ?_)
      refine wp_of e116 c116_7 (rw_aload_n (pc' := 8) (v := .ref r0) rfl rfl rfl ?_)
      refine wp_of e116 c116_8 (xg_I (pc' := 11) lf_4_75 hW g0 sh_27 (by decide) (by decide) ty_27_10 rfl rfl (fun b33030 b33031 => ?_))
      refine wp_of e116 c116_11 (rw_icmp_ge (p1 := 41) (p2 := 14) (by decide) rfl ⟨by omega, by omega⟩ ⟨by omega, by omega⟩ (fun c33032 => ?_) (fun c33032 => ?_))
      · refine wp_of e116 c116_41 (rw_iload_n (pc' := 42) (z := v33024) rfl rfl ?_)
        exact wp_ireturn e116 c116_42 rfl ⟨rfl, rfl, v33024, rfl, ⟨by omega, by omega⟩⟩
      · refine wp_of e116 c116_14 (rw_aload_n (pc' := 15) (v := .ref r0) rfl rfl rfl ?_)
        refine wp_of e116 c116_15 (rw_iload_n (pc' := 16) (z := a1) rfl rfl ?_)
        refine wp_of e116 c116_16 (rw_iload (pc' := 18) (z := v33023) rfl rfl ?_)
        refine wp_of e116 c116_18 (xc_S (pc' := 21) (as := [.ref r0, vI a1, vI v33023]) (st := []) (lm_4_132) rfl rfl (Nat.le_of_ble_eq_true rfl) rfl (by decide) (s_111 hW g0 ⟨by omega, by omega⟩ ⟨by omega, by omega⟩) (fun R33033 T33034 H33035 p33036 => ?_))
        obtain ⟨e33037, e33039, z33040, e33038, b33041⟩ := p33036
        subst e33037
        subst e33038
        subst e33039
        show wp _ _ 116 21 [(4, vI v33023), (3, vI v33024), (0, .ref r0), (1, vI a1), (2, vI a2)] [vI z33040] _ H _
        refine wp_of e116 c116_21 (rw_iload_n (pc' := 22) (z := a2) rfl rfl ?_)
        refine wp_of e116 c116_22 (xc_S (pc' := 25) (as := [vI z33040, vI a2]) (st := []) (lm_4_122) rfl rfl (Nat.le_of_ble_eq_true rfl) rfl (by decide) (s_36 hW ⟨by omega, by omega⟩ ⟨by omega, by omega⟩) (fun R33042 T33043 H33044 p33045 => ?_))
        obtain ⟨e33046, e33048, z33049, e33047, b33050⟩ := p33045
        subst e33046
        subst e33047
        subst e33048
        show wp _ _ 116 25 [(4, vI v33023), (3, vI v33024), (0, .ref r0), (1, vI a1), (2, vI a2)] [vI z33049] _ H _
        refine wp_of e116 c116_25 (rw_if_eq (p1 := 35) (p2 := 28) (by decide) rfl ⟨by omega, by omega⟩ (fun c33051 => ?_) (fun c33051 => ?_))
        · refine wp_of e116 c116_35 (rw_iinc (pc' := 38) (z := v33023) (L' := [(4, vI (v33023 + 1)), (3, vI v33024), (0, .ref r0), (1, vI a1), (2, vI a2)]) rfl rfl rfl rfl ?_)
          refine wp_of e116 c116_38 (rw_goto (p1 := 5) (by decide) ?_)
          exact wp_lc (ks := [4, 3, 0, 1, 2]) (wl_c rfl (wl_c rfl (wl_c rfl (wl_c rfl (wl_c rfl wl_n))))) rfl (by decide) (ih33022 _ (by omega) (v33023 + 1) v33024 ⟨by omega, by omega⟩ ⟨by omega, by omega⟩ rfl)
        · refine wp_of e116 c116_28 (rw_iload_n (pc' := 29) (z := v33024) rfl rfl ?_)
          refine wp_of e116 c116_29 (rw_iconst (pc' := 30) rfl ?_)
          refine wp_of e116 c116_30 (rw_iload (pc' := 32) (z := v33023) rfl rfl ?_)
          refine wp_of e116 c116_32 (rw_ishl (pc' := 33) rfl ?_)
          obtain ⟨v33052, e33053⟩ : ∃ x : Int, x = wq_shl 1 v33023 := ⟨_, rfl⟩
          rw [← e33053]
          have b33054 : -2147483648 ≤ v33052 ∧ v33052 ≤ 2147483647 := by
            rw [e33053]
            exact wI_shl _ _
          refine wp_of e116 c116_33 (rw_ior (pc' := 34) rfl ?_)
          obtain ⟨v33055, e33056⟩ : ∃ x : Int, x = wq_or v33024 v33052 := ⟨_, rfl⟩
          rw [← e33056]
          have b33057 : -2147483648 ≤ v33055 ∧ v33055 ≤ 2147483647 := by
            rw [e33056]
            exact wI_or _ _
          refine wp_of e116 c116_34 (rw_istore_n (pc' := 35) (z := v33055) (L' := [(3, vI v33055), (4, vI v33023), (0, .ref r0), (1, vI a1), (2, vI a2)]) rfl rfl rfl ?_)
          refine wp_of e116 c116_35 (rw_iinc (pc' := 38) (z := v33023) (L' := [(4, vI (v33023 + 1)), (3, vI v33055), (0, .ref r0), (1, vI a1), (2, vI a2)]) rfl rfl rfl rfl ?_)
          refine wp_of e116 c116_38 (rw_goto (p1 := 5) (by decide) ?_)
          exact wp_lc (ks := [4, 3, 0, 1, 2]) (wl_c rfl (wl_c rfl (wl_c rfl (wl_c rfl (wl_c rfl wl_n))))) rfl (by decide) (ih33022 _ (by omega) (v33023 + 1) v33055 ⟨by omega, by omega⟩ ⟨by omega, by omega⟩ rfl)
  exact wp_lc (ks := [4, 3, 0, 1, 2]) (wl_c rfl (wl_c rfl (wl_c rfl (wl_c rfl (wl_c rfl wl_n))))) rfl (by decide) (lp33020 _ 0 0 ⟨by omega, by omega⟩ ⟨by omega, by omega⟩ rfl)
