/-! methods (own work, written by wip/gen2/sx.py) -/
/-! StrikeAwake.having(II)I -/
theorem e98 : wq_en 98 = some (0, 4, false, some FieldType.int) := rfl
theorem c98_0 : mc_cd 98 0 = some (.aload_n 0, 1) := by decide +kernel
theorem c98_1 : mc_cd 98 1 = some (.aload_n 0, 1) := by decide +kernel
theorem c98_2 : mc_cd 98 2 = some (.iload_n 1, 1) := by decide +kernel
theorem c98_3 : mc_cd 98 3 = some (.iload_n 2, 1) := by decide +kernel
theorem c98_4 : mc_cd 98 4 = some (.invokevirtual 118, 3) := by decide +kernel
theorem c98_7 : mc_cd 98 7 = some (.invokevirtual 174, 3) := by decide +kernel
theorem c98_10 : mc_cd 98 10 = some (.istore_n 3, 1) := by decide +kernel
theorem c98_11 : mc_cd 98 11 = some (.iload_n 3, 1) := by decide +kernel
theorem c98_12 : mc_cd 98 12 = some (.ifCond .eq 9, 3) := by decide +kernel
theorem c98_15 : mc_cd 98 15 = some (.aload_n 0, 1) := by decide +kernel
theorem c98_16 : mc_cd 98 16 = some (.iload_n 3, 1) := by decide +kernel
theorem c98_17 : mc_cd 98 17 = some (.invokevirtual 70, 3) := by decide +kernel
theorem c98_20 : mc_cd 98 20 = some (.ireturn, 1) := by decide +kernel
theorem c98_21 : mc_cd 98 21 = some (.aload_n 0, 1) := by decide +kernel
theorem c98_22 : mc_cd 98 22 = some (.aload_n 0, 1) := by decide +kernel
theorem c98_23 : mc_cd 98 23 = some (.getfield 30, 3) := by decide +kernel
theorem c98_26 : mc_cd 98 26 = some (.getfield 190, 3) := by decide +kernel
theorem c98_29 : mc_cd 98 29 = some (.iload_n 1, 1) := by decide +kernel
theorem c98_30 : mc_cd 98 30 = some (.aaload, 1) := by decide +kernel
theorem c98_31 : mc_cd 98 31 = some (.iload_n 2, 1) := by decide +kernel
theorem c98_32 : mc_cd 98 32 = some (.iaload, 1) := by decide +kernel
theorem c98_33 : mc_cd 98 33 = some (.invokevirtual 99, 3) := by decide +kernel
theorem c98_36 : mc_cd 98 36 = some (.ireturn, 1) := by decide +kernel
abbrev q_98 (r0 : Nat) (a1 : Int) (a2 : Int) (T : wq_T) (H : wq_H) : Option Value → wq_T → wq_H → Prop := fun r T' H' => T = T' ∧ WT T H' ∧ wfr [(12, 5), (12, 6), (12, 7), (12, 8), (12, 9), (1, 10), (6, 5), (8, 999), (10, 999), (15, 999), (9, 999), (18, 999), (19, 999), (7, 999), (11, 999), (17, 999), (13, 999)] T H H' ∧ ∃ z : Int, some (vI z) = r ∧ ((-2147483648) ≤ z ∧ z ≤ 2147483647) ∧ (H' r0 10 ≠ 4)
set_option maxHeartbeats 4000000 in
theorem s_98 {kt : Nat → Option mc_E} {T : wq_T} {H : wq_H} {r0 : Nat} {a1 : Int} {a2 : Int} (hW : WT T H) (g0 : T.2.2.2 r0 = some 1) (i1 : (-2147483648) ≤ a1 ∧ a1 ≤ 2147483647) (i2 : (-2147483648) ≤ a2 ∧ a2 ≤ 2147483647) : wpc kt 6 98 [.ref r0, vI a1, vI a2] T H (q_98 r0 a1 a2 T H) := by
  refine wp_enter e98 (Nat.le_of_ble_eq_true rfl) rfl ?_
  have f0 : wfr [(12, 5), (12, 6), (12, 7), (12, 8), (12, 9), (1, 10), (6, 5), (8, 999), (10, 999), (15, 999), (9, 999), (18, 999), (19, 999), (7, 999), (11, 999), (17, 999), (13, 999)] T H H := wfr.rf
  show wp _ _ 98 0 [(0, .ref r0), (1, vI a1), (2, vI a2)] [] _ H _
  refine wp_of e98 c98_0 (rw_aload_n (pc' := 1) (v := .ref r0) rfl rfl rfl ?_)
  refine wp_of e98 c98_1 (rw_aload_n (pc' := 2) (v := .ref r0) rfl rfl rfl ?_)
  refine wp_of e98 c98_2 (rw_iload_n (pc' := 3) (z := a1) rfl rfl ?_)
  refine wp_of e98 c98_3 (rw_iload_n (pc' := 4) (z := a2) rfl rfl ?_)
  refine wp_of e98 c98_4 (xc_V (pc' := 7) (r := r0) (as := [vI a1, vI a2]) (st := [.ref r0]) (lm_0_118) rfl rfl (Nat.le_of_ble_eq_true rfl) hW g0 sh_1 (by decide) rfl (by decide) (s_57 hW g0 ⟨by omega, by omega⟩ ⟨by omega, by omega⟩) (fun R28307 T28308 H28309 p28310 => ?_))
  obtain ⟨e28311, e28313, z28315, e28312, b28316, p28314⟩ := p28310
  subst e28311
  subst e28312
  subst e28313
  show wp _ _ 98 7 [(0, .ref r0), (1, vI a1), (2, vI a2)] [vI z28315, .ref r0] _ H _
  refine wp_of e98 c98_7 (xc_V (pc' := 10) (r := r0) (as := [vI z28315]) (st := []) (lm_0_174) rfl rfl (Nat.le_of_ble_eq_true rfl) hW g0 sh_1 (by decide) rfl (by decide) (s_83 hW g0 ⟨by omega, by omega⟩) (fun R28317 T28318 H28319 p28320 => ?_))
  obtain ⟨e28321, w28323, f28324, z28327, e28322, b28328, p28325, p28326⟩ := p28320
  subst e28321
  subst e28322
  have f28329 := f0.tr f28324 rfl
  show wp _ _ 98 10 [(0, .ref r0), (1, vI a1), (2, vI a2)] [vI z28327] _ H28319 _
  refine wp_of e98 c98_10 (rw_istore_n (pc' := 11) (z := z28327) (L' := [(3, vI z28327), (0, .ref r0), (1, vI a1), (2, vI a2)]) rfl rfl rfl ?_)
  refine wp_of e98 c98_11 (rw_iload_n (pc' := 12) (z := z28327) rfl rfl ?_)
  refine wp_of e98 c98_12 (rw_if_eq (p1 := 21) (p2 := 15) (by decide) rfl ⟨by omega, by omega⟩ (fun c28330 => ?_) (fun c28330 => ?_))
  · refine wp_of e98 c98_21 (rw_aload_n (pc' := 22) (v := .ref r0) rfl rfl rfl ?_)
    refine wp_of e98 c98_22 (rw_aload_n (pc' := 23) (v := .ref r0) rfl rfl rfl ?_)
    refine wp_of e98 c98_23 (xg_R (pc' := 26) lf_0_30 w28323 g0 sh_1 (by decide) (by decide) ty_1_3 rfl rfl (fun r28331 q28332 g28333 => ?_))
    refine wp_of e98 c98_26 (xg_R (pc' := 29) lf_0_190 w28323 g28333 sh_12 (by decide) (by decide) ty_12_1 rfl rfl (fun r28334 q28335 g28336 => ?_))
    refine wp_of e98 c98_29 (rw_iload_n (pc' := 30) (z := a1) rfl rfl ?_)
    refine wp_of e98 c98_30 (xa_R (pc' := 31) (by decide) w28323 g28336 sh_14 (by decide) (ty_14 _) (by omega) (by omega) rfl (fun r28337 q28338 g28339 => ?_))
    refine wp_of e98 c98_31 (rw_iload_n (pc' := 32) (z := a2) rfl rfl ?_)
    refine wp_of e98 c98_32 (xa_I (so := 0) (pc' := 33) w28323 g28339 sh_15 (by decide) (ty_15 _) (by omega) (by omega) rfl (fun b28340 b28341 => ?_))
    refine wp_of e98 c98_33 (xc_V (pc' := 36) (r := r0) (as := [vI (H28319 r28337 (a2.toNat))]) (st := []) (lm_0_99) rfl rfl (Nat.le_of_ble_eq_true rfl) w28323 g0 sh_1 (by decide) rfl (by decide) (s_51 w28323 g0 ⟨by omega, by omega⟩) (fun R28342 T28343 H28344 p28345 => ?_))
    obtain ⟨e28346, w28348, f28349, z28351, e28347, b28352, p28350⟩ := p28345
    subst e28346
    subst e28347
    have f28353 := f28329.tr f28349 rfl
    show wp _ _ 98 36 [(3, vI z28327), (0, .ref r0), (1, vI a1), (2, vI a2)] [vI z28351] _ H28344 _
    exact wp_ireturn e98 c98_36 rfl ⟨rfl, w28348, f28353, z28351, rfl, ⟨by omega, by omega⟩, by omega⟩
  · refine wp_of e98 c98_15 (rw_aload_n (pc' := 16) (v := .ref r0) rfl rfl rfl ?_)
    refine wp_of e98 c98_16 (rw_iload_n (pc' := 17) (z := z28327) rfl rfl ?_)
    refine wp_of e98 c98_17 (xc_V (pc' := 20) (r := r0) (as := [vI z28327]) (st := []) (lm_0_70) rfl rfl (Nat.le_of_ble_eq_true rfl) w28323 g0 sh_1 (by decide) rfl (by decide) (s_12 w28323 g0 ⟨by omega, by omega⟩) (fun R28354 T28355 H28356 p28357 => ?_))
    obtain ⟨e28358, w28360, f28361, z28363, e28359, b28364, p28362⟩ := p28357
    subst e28358
    subst e28359
    have f28365 := f28329.tr f28361 rfl
    show wp _ _ 98 20 [(3, vI z28327), (0, .ref r0), (1, vI a1), (2, vI a2)] [vI z28363] _ H28356 _
    exact wp_ireturn e98 c98_20 rfl ⟨rfl, w28360, f28365, z28363, rfl, ⟨by omega, by omega⟩, by omega⟩
/-! StrikeAwake$Census.countAwake(LStrikeAwake$Parish;II)I -/
theorem e100 : wq_en 100 = some (4, 7, false, some FieldType.int) := rfl
theorem c100_0 : mc_cd 100 0 = some (.aload_n 1, 1) := by decide +kernel
theorem c100_1 : mc_cd 100 1 = some (.getfield 78, 3) := by decide +kernel
theorem c100_4 : mc_cd 100 4 = some (.iload_n 2, 1) := by decide +kernel
theorem c100_5 : mc_cd 100 5 = some (.aaload, 1) := by decide +kernel
theorem c100_6 : mc_cd 100 6 = some (.astore 4, 2) := by decide +kernel
theorem c100_8 : mc_cd 100 8 = some (.iconst 0, 1) := by decide +kernel
theorem c100_9 : mc_cd 100 9 = some (.istore 5, 2) := by decide +kernel
theorem c100_11 : mc_cd 100 11 = some (.iconst 0, 1) := by decide +kernel
theorem c100_12 : mc_cd 100 12 = some (.istore 6, 2) := by decide +kernel
theorem c100_14 : mc_cd 100 14 = some (.iload 6, 2) := by decide +kernel
theorem c100_16 : mc_cd 100 16 = some (.aload 4, 2) := by decide +kernel
theorem c100_18 : mc_cd 100 18 = some (.getfield 116, 3) := by decide +kernel
theorem c100_21 : mc_cd 100 21 = some (.if_icmp .ge 38, 3) := by decide +kernel
theorem c100_24 : mc_cd 100 24 = some (.aload 4, 2) := by decide +kernel
theorem c100_26 : mc_cd 100 26 = some (.getfield 119, 3) := by decide +kernel
theorem c100_29 : mc_cd 100 29 = some (.iload 6, 2) := by decide +kernel
theorem c100_31 : mc_cd 100 31 = some (.iaload, 1) := by decide +kernel
theorem c100_32 : mc_cd 100 32 = some (.iload_n 3, 1) := by decide +kernel
theorem c100_33 : mc_cd 100 33 = some (.invokestatic 122, 3) := by decide +kernel
theorem c100_36 : mc_cd 100 36 = some (.ifCond .eq 17, 3) := by decide +kernel
theorem c100_39 : mc_cd 100 39 = some (.iload 5, 2) := by decide +kernel
theorem c100_41 : mc_cd 100 41 = some (.aload_n 0, 1) := by decide +kernel
theorem c100_42 : mc_cd 100 42 = some (.getfield 17, 3) := by decide +kernel
theorem c100_45 : mc_cd 100 45 = some (.iload_n 2, 1) := by decide +kernel
theorem c100_46 : mc_cd 100 46 = some (.aaload, 1) := by decide +kernel
theorem c100_47 : mc_cd 100 47 = some (.iload 6, 2) := by decide +kernel
theorem c100_49 : mc_cd 100 49 = some (.iaload, 1) := by decide +kernel
theorem c100_50 : mc_cd 100 50 = some (.iadd, 1) := by decide +kernel
theorem c100_51 : mc_cd 100 51 = some (.istore 5, 2) := by decide +kernel
theorem c100_53 : mc_cd 100 53 = some (.iinc 6 1, 3) := by decide +kernel
theorem c100_56 : mc_cd 100 56 = some (.goto (-42), 3) := by decide +kernel
theorem c100_59 : mc_cd 100 59 = some (.iload 5, 2) := by decide +kernel
theorem c100_61 : mc_cd 100 61 = some (.ireturn, 1) := by decide +kernel
abbrev q_100 (r0 : Nat) (r1 : Nat) (a2 : Int) (a3 : Int) (T : wq_T) (H : wq_H) : Option Value → wq_T → wq_H → Prop := fun r T' H' => T = T' ∧ H = H' ∧ ∃ z : Int, some (vI z) = r ∧ ((-2147483648) ≤ z ∧ z ≤ 2147483647)
set_option maxHeartbeats 4000000 in
theorem s_100 {kt : Nat → Option mc_E} {T : wq_T} {H : wq_H} {r0 : Nat} {r1 : Nat} {a2 : Int} {a3 : Int} (hW : WT T H) (g0 : T.2.2.2 r0 = some 12) (g1 : T.2.2.2 r1 = some 27) (i2 : 0 ≤ a2 ∧ a2 ≤ 5) (i3 : (-2147483648) ≤ a3 ∧ a3 ≤ 2147483647) : wpc kt 2 100 [.ref r0, .ref r1, vI a2, vI a3] T H (q_100 r0 r1 a2 a3 T H) := by
  refine wp_enter e100 (Nat.le_of_ble_eq_true rfl) rfl ?_
  show wp _ _ 100 0 [(0, .ref r0), (1, .ref r1), (2, vI a2), (3, vI a3)] [] _ H _
  refine wp_of e100 c100_0 (rw_aload_n (pc' := 1) (v := .ref r1) rfl rfl rfl ?_)
  refine wp_of e100 c100_1 (xg_R (pc' := 4) lf_4_78 hW g1 sh_27 (by decide) (by decide) ty_27_0 rfl rfl (fun r28623 q28624 g28625 => ?_))
  refine wp_of e100 c100_4 (rw_iload_n (pc' := 5) (z := a2) rfl rfl ?_)
  refine wp_of e100 c100_5 (xa_R (pc' := 6) (by decide) hW g28625 sh_28 (by decide) (ty_28 _) (by omega) (by omega) rfl (fun r28626 q28627 g28628 => ?_))
  refine wp_of e100 c100_6 (rw_astore (pc' := 8) (v := .ref r28626) (L' := [(4, .ref r28626), (0, .ref r0), (1, .ref r1), (2, vI a2), (3, vI a3)]) rfl rfl rfl rfl ?_)
  refine wp_of e100 c100_8 (rw_iconst (pc' := 9) rfl ?_)
  refine wp_of e100 c100_9 (rw_istore (pc' := 11) (z := 0) (L' := [(5, vI 0), (4, .ref r28626), (0, .ref r0), (1, .ref r1), (2, vI a2), (3, vI a3)]) rfl rfl rfl ?_)
  refine wp_of e100 c100_11 (rw_iconst (pc' := 12) rfl ?_)
  refine wp_of e100 c100_12 (rw_istore (pc' := 14) (z := 0) (L' := [(6, vI 0), (5, vI 0), (4, .ref r28626), (0, .ref r0), (1, .ref r1), (2, vI a2), (3, vI a3)]) rfl rfl rfl ?_)
  have lp28851 : ∀ (n28852 : Nat) (v28854 : Int) (v28855 : Int), (0 ≤ v28854 ∧ v28854 ≤ 40) → ((-2147483648) ≤ v28855 ∧ v28855 ≤ 2147483647) → (40 - v28854).toNat = n28852 → wp kt 1 100 14 [(6, vI v28854), (5, vI v28855), (4, .ref r28626), (0, .ref r0), (2, vI a2), (3, vI a3)] [] T H (q_100 r0 r1 a2 a3 T H) := by
    intro n28852
    induction n28852 using Nat.strongRecOn with
    | _ n28852 ih28853 =>
      intro v28854 v28855 b28858 b28859 m28860
      refine wp_of e100 c100_14 (rw_iload (pc' := 16) (z := v28854) rfl rfl ?_)
      refine wp_of e100 c100_16 (rw_aload (pc' := 18) (v := .ref r28626) rfl rfl rfl ?_)
      refine wp_of e100 c100_18 (xg_I (pc' := 21) lf_4_116 hW g28628 sh_35 (by decide) (by decide) ty_35_15 rfl rfl (fun b28861 b28862 => ?_))
      refine wp_of e100 c100_21 (rw_icmp_ge (p1 := 59) (p2 := 24) (by decide) rfl ⟨by omega, by omega⟩ ⟨by omega, by omega⟩ (fun c28863 => ?_) (fun c28863 => ?_))
      · refine wp_of e100 c100_59 (rw_iload (pc' := 61) (z := v28855) rfl rfl ?_)
        exact wp_ireturn e100 c100_61 rfl ⟨rfl, rfl, v28855, rfl, ⟨by omega, by omega⟩⟩
      · refine wp_of e100 c100_24 (rw_aload (pc' := 26) (v := .ref r28626) rfl rfl rfl ?_)
        refine wp_of e100 c100_26 (xg_R (pc' := 29) lf_4_119 hW g28628 sh_35 (by decide) (by decide) ty_35_3 rfl rfl (fun r28864 q28865 g28866 => ?_))
        refine wp_of e100 c100_29 (rw_iload (pc' := 31) (z := v28854) rfl rfl ?_)
        refine wp_of e100 c100_31 (xa_I (so := 0) (pc' := 32) hW g28866 sh_39 (by decide) (ty_39 _) (by omega) (by omega) rfl (fun b28867 b28868 => ?_))
        refine wp_of e100 c100_32 (rw_iload_n (pc' := 33) (z := a3) rfl rfl ?_)
        refine wp_of e100 c100_33 (xc_S (pc' := 36) (as := [vI (H r28864 (v28854.toNat)), vI a3]) (st := []) (lm_4_122) rfl rfl (Nat.le_of_ble_eq_true rfl) rfl (by decide) (s_36 hW ⟨by omega, by omega⟩ ⟨by omega, by omega⟩) (fun R28869 T28870 H28871 p28872 => ?_))
        obtain ⟨e28873, e28875, z28876, e28874, b28877⟩ := p28872
        subst e28873
        subst e28874
        subst e28875
        show wp _ _ 100 36 [(6, vI v28854), (5, vI v28855), (4, .ref r28626), (0, .ref r0), (2, vI a2), (3, vI a3)] [vI z28876] _ H _
        refine wp_of e100 c100_36 (rw_if_eq (p1 := 53) (p2 := 39) (by decide) rfl ⟨by omega, by omega⟩ (fun c28878 => ?_) (fun c28878 => ?_))
        · refine wp_of e100 c100_53 (rw_iinc (pc' := 56) (z := v28854) (L' := [(6, vI (v28854 + 1)), (5, vI v28855), (4, .ref r28626), (0, .ref r0), (2, vI a2), (3, vI a3)]) rfl rfl rfl rfl ?_)
          refine wp_of e100 c100_56 (rw_goto (p1 := 14) (by decide) ?_)
          exact wp_lc (ks := [6, 5, 4, 0, 2, 3]) (wl_c rfl (wl_c rfl (wl_c rfl (wl_c rfl (wl_c rfl (wl_c rfl wl_n)))))) rfl (by decide) (ih28853 _ (by omega) (v28854 + 1) v28855 ⟨by omega, by omega⟩ ⟨by omega, by omega⟩ rfl)
        · refine wp_of e100 c100_39 (rw_iload (pc' := 41) (z := v28855) rfl rfl ?_)
          refine wp_of e100 c100_41 (rw_aload_n (pc' := 42) (v := .ref r0) rfl rfl rfl ?_)
          refine wp_of e100 c100_42 (xg_R (pc' := 45) lf_4_17 hW g0 sh_12 (by decide) (by decide) ty_12_1 rfl rfl (fun r28879 q28880 g28881 => ?_))
          refine wp_of e100 c100_45 (rw_iload_n (pc' := 46) (z := a2) rfl rfl ?_)
          refine wp_of e100 c100_46 (xa_R (pc' := 47) (by decide) hW g28881 sh_14 (by decide) (ty_14 _) (by omega) (by omega) rfl (fun r28882 q28883 g28884 => ?_))
          refine wp_of e100 c100_47 (rw_iload (pc' := 49) (z := v28854) rfl rfl ?_)
          refine wp_of e100 c100_49 (xa_I (so := 0) (pc' := 50) hW g28884 sh_15 (by decide) (ty_15 _) (by omega) (by omega) rfl (fun b28885 b28886 => ?_))
          refine wp_of e100 c100_50 (rw_iaddw (pc' := 51) rfl ?_)
          obtain ⟨v28887, e28888⟩ : ∃ x : Int, x = wq_w (v28855 + (H r28882 (v28854.toNat))) := ⟨_, rfl⟩
          rw [← e28888]
          have b28889 : -2147483648 ≤ v28887 ∧ v28887 ≤ 2147483647 := by
            rw [e28888]
            exact wI_w _
          refine wp_of e100 c100_51 (rw_istore (pc' := 53) (z := v28887) (L' := [(5, vI v28887), (6, vI v28854), (4, .ref r28626), (0, .ref r0), (2, vI a2), (3, vI a3)]) rfl rfl rfl ?_)
          refine wp_of e100 c100_53 (rw_iinc (pc' := 56) (z := v28854) (L' := [(6, vI (v28854 + 1)), (5, vI v28887), (4, .ref r28626), (0, .ref r0), (2, vI a2), (3, vI a3)]) rfl rfl rfl rfl ?_)
          refine wp_of e100 c100_56 (rw_goto (p1 := 14) (by decide) ?_)
          exact wp_lc (ks := [6, 5, 4, 0, 2, 3]) (wl_c rfl (wl_c rfl (wl_c rfl (wl_c rfl (wl_c rfl (wl_c rfl wl_n)))))) rfl (by decide) (ih28853 _ (by omega) (v28854 + 1) v28887 ⟨by omega, by omega⟩ ⟨by omega, by omega⟩ rfl)
  exact wp_lc (ks := [6, 5, 4, 0, 1, 2, 3]) (wl_c rfl (wl_c rfl (wl_c rfl (wl_c rfl (wl_c rfl (wl_c rfl wl_n)))))) rfl (by decide) (lp28851 _ 0 0 ⟨by omega, by omega⟩ ⟨by omega, by omega⟩ rfl)
/-! StrikeAwake.times(II)I -/
theorem e99 : wq_en 99 = some (0, 4, false, some FieldType.int) := rfl
theorem c99_0 : mc_cd 99 0 = some (.aload_n 0, 1) := by decide +kernel
theorem c99_1 : mc_cd 99 1 = some (.aload_n 0, 1) := by decide +kernel
theorem c99_2 : mc_cd 99 2 = some (.iload_n 1, 1) := by decide +kernel
theorem c99_3 : mc_cd 99 3 = some (.invokevirtual 105, 3) := by decide +kernel
theorem c99_6 : mc_cd 99 6 = some (.ifCond .eq 15, 3) := by decide +kernel
theorem c99_9 : mc_cd 99 9 = some (.aload_n 0, 1) := by decide +kernel
theorem c99_10 : mc_cd 99 10 = some (.iload_n 2, 1) := by decide +kernel
theorem c99_11 : mc_cd 99 11 = some (.invokevirtual 132, 3) := by decide +kernel
theorem c99_14 : mc_cd 99 14 = some (.ifCond .eq 7, 3) := by decide +kernel
theorem c99_17 : mc_cd 99 17 = some (.iconst 1, 1) := by decide +kernel
theorem c99_18 : mc_cd 99 18 = some (.goto 4, 3) := by decide +kernel
theorem c99_21 : mc_cd 99 21 = some (.iconst 0, 1) := by decide +kernel
theorem c99_22 : mc_cd 99 22 = some (.invokevirtual 174, 3) := by decide +kernel
theorem c99_25 : mc_cd 99 25 = some (.istore_n 3, 1) := by decide +kernel
theorem c99_26 : mc_cd 99 26 = some (.iload_n 3, 1) := by decide +kernel
theorem c99_27 : mc_cd 99 27 = some (.ifCond .eq 9, 3) := by decide +kernel
theorem c99_30 : mc_cd 99 30 = some (.aload_n 0, 1) := by decide +kernel
theorem c99_31 : mc_cd 99 31 = some (.iload_n 3, 1) := by decide +kernel
theorem c99_32 : mc_cd 99 32 = some (.invokevirtual 70, 3) := by decide +kernel
theorem c99_35 : mc_cd 99 35 = some (.ireturn, 1) := by decide +kernel
theorem c99_36 : mc_cd 99 36 = some (.aload_n 0, 1) := by decide +kernel
theorem c99_37 : mc_cd 99 37 = some (.aload_n 0, 1) := by decide +kernel
theorem c99_38 : mc_cd 99 38 = some (.getfield 30, 3) := by decide +kernel
theorem c99_41 : mc_cd 99 41 = some (.aload_n 0, 1) := by decide +kernel
theorem c99_42 : mc_cd 99 42 = some (.getfield 51, 3) := by decide +kernel
theorem c99_45 : mc_cd 99 45 = some (.iload_n 1, 1) := by decide +kernel
theorem c99_46 : mc_cd 99 46 = some (.iload_n 2, 1) := by decide +kernel
theorem c99_47 : mc_cd 99 47 = some (.invokevirtual 194, 3) := by decide +kernel
theorem c99_50 : mc_cd 99 50 = some (.invokevirtual 99, 3) := by decide +kernel
theorem c99_53 : mc_cd 99 53 = some (.ireturn, 1) := by decide +kernel
abbrev q_99 (r0 : Nat) (a1 : Int) (a2 : Int) (T : wq_T) (H : wq_H) : Option Value → wq_T → wq_H → Prop := fun r T' H' => T = T' ∧ WT T H' ∧ wfr [(12, 5), (12, 6), (12, 7), (12, 8), (12, 9), (1, 10), (6, 5), (8, 999), (10, 999), (15, 999), (9, 999), (18, 999), (19, 999), (7, 999), (11, 999), (17, 999), (13, 999)] T H H' ∧ ∃ z : Int, some (vI z) = r ∧ ((-2147483648) ≤ z ∧ z ≤ 2147483647) ∧ (H' r0 10 ≠ 4)
set_option maxHeartbeats 4000000 in
theorem s_99 {kt : Nat → Option mc_E} {T : wq_T} {H : wq_H} {r0 : Nat} {a1 : Int} {a2 : Int} (hW : WT T H) (g0 : T.2.2.2 r0 = some 1) (i1 : (-2147483648) ≤ a1 ∧ a1 ≤ 2147483647) (i2 : (-2147483648) ≤ a2 ∧ a2 ≤ 2147483647) : wpc kt 6 99 [.ref r0, vI a1, vI a2] T H (q_99 r0 a1 a2 T H) := by
  refine wp_enter e99 (Nat.le_of_ble_eq_true rfl) rfl ?_
  have f0 : wfr [(12, 5), (12, 6), (12, 7), (12, 8), (12, 9), (1, 10), (6, 5), (8, 999), (10, 999), (15, 999), (9, 999), (18, 999), (19, 999), (7, 999), (11, 999), (17, 999), (13, 999)] T H H := wfr.rf
  show wp _ _ 99 0 [(0, .ref r0), (1, vI a1), (2, vI a2)] [] _ H _
  refine wp_of e99 c99_0 (rw_aload_n (pc' := 1) (v := .ref r0) rfl rfl rfl ?_)
  refine wp_of e99 c99_1 (rw_aload_n (pc' := 2) (v := .ref r0) rfl rfl rfl ?_)
  refine wp_of e99 c99_2 (rw_iload_n (pc' := 3) (z := a1) rfl rfl ?_)
  refine wp_of e99 c99_3 (xc_V (pc' := 6) (r := r0) (as := [vI a1]) (st := [.ref r0]) (lm_0_105) rfl rfl (Nat.le_of_ble_eq_true rfl) hW g0 sh_1 (by decide) rfl (by decide) (s_55 hW g0 ⟨by omega, by omega⟩) (fun R29017 T29018 H29019 p29020 => ?_))
  obtain ⟨e29021, e29023, z29025, e29022, b29026, p29024⟩ := p29020
  subst e29021
  subst e29022
  subst e29023
  show wp _ _ 99 6 [(0, .ref r0), (1, vI a1), (2, vI a2)] [vI z29025, .ref r0] _ H _
  refine wp_of e99 c99_6 (rw_if_eq (p1 := 21) (p2 := 9) (by decide) rfl ⟨by omega, by omega⟩ (fun c29027 => ?_) (fun c29027 => ?_))
  · refine wp_of e99 c99_21 (rw_iconst (pc' := 22) rfl ?_)
    refine wp_of e99 c99_22 (xc_V (pc' := 25) (r := r0) (as := [vI 0]) (st := []) (lm_0_174) rfl rfl (Nat.le_of_ble_eq_true rfl) hW g0 sh_1 (by decide) rfl (by decide) (s_83 hW g0 ⟨by omega, by omega⟩) (fun R29028 T29029 H29030 p29031 => ?_))
    obtain ⟨e29032, w29034, f29035, z29038, e29033, b29039, p29036, p29037⟩ := p29031
    subst e29032
    subst e29033
    have f29040 := f0.tr f29035 rfl
    show wp _ _ 99 25 [(0, .ref r0), (1, vI a1), (2, vI a2)] [vI z29038] _ H29030 _
    refine wp_of e99 c99_25 (rw_istore_n (pc' := 26) (z := z29038) (L' := [(3, vI z29038), (0, .ref r0), (1, vI a1), (2, vI a2)]) rfl rfl rfl ?_)
    refine wp_of e99 c99_26 (rw_iload_n (pc' := 27) (z := z29038) rfl rfl ?_)
    refine wp_of e99 c99_27 (rw_if_eq (p1 := 36) (p2 := 30) (by decide) rfl ⟨by omega, by omega⟩ (fun c29041 => ?_) (fun c29041 => ?_))
    · exfalso
      omega
    · refine wp_of e99 c99_30 (rw_aload_n (pc' := 31) (v := .ref r0) rfl rfl rfl ?_)
      refine wp_of e99 c99_31 (rw_iload_n (pc' := 32) (z := z29038) rfl rfl ?_)
      refine wp_of e99 c99_32 (xc_V (pc' := 35) (r := r0) (as := [vI z29038]) (st := []) (lm_0_70) rfl rfl (Nat.le_of_ble_eq_true rfl) w29034 g0 sh_1 (by decide) rfl (by decide) (s_12 w29034 g0 ⟨by omega, by omega⟩) (fun R29042 T29043 H29044 p29045 => ?_))
      obtain ⟨e29046, w29048, f29049, z29051, e29047, b29052, p29050⟩ := p29045
      subst e29046
      subst e29047
      have f29053 := f29040.tr f29049 rfl
      show wp _ _ 99 35 [(3, vI z29038), (0, .ref r0), (1, vI a1), (2, vI a2)] [vI z29051] _ H29044 _
      exact wp_ireturn e99 c99_35 rfl ⟨rfl, w29048, f29053, z29051, rfl, ⟨by omega, by omega⟩, by omega⟩
  · refine wp_of e99 c99_9 (rw_aload_n (pc' := 10) (v := .ref r0) rfl rfl rfl ?_)
    refine wp_of e99 c99_10 (rw_iload_n (pc' := 11) (z := a2) rfl rfl ?_)
    refine wp_of e99 c99_11 (xc_V (pc' := 14) (r := r0) (as := [vI a2]) (st := [.ref r0]) (lm_0_132) rfl rfl (Nat.le_of_ble_eq_true rfl) hW g0 sh_1 (by decide) rfl (by decide) (s_60 hW g0 ⟨by omega, by omega⟩) (fun R29054 T29055 H29056 p29057 => ?_))
    obtain ⟨e29058, e29060, z29062, e29059, b29063, p29061⟩ := p29057
    subst e29058
    subst e29059
    subst e29060
    show wp _ _ 99 14 [(0, .ref r0), (1, vI a1), (2, vI a2)] [vI z29062, .ref r0] _ H _
    refine wp_of e99 c99_14 (rw_if_eq (p1 := 21) (p2 := 17) (by decide) rfl ⟨by omega, by omega⟩ (fun c29064 => ?_) (fun c29064 => ?_))
    · refine wp_of e99 c99_21 (rw_iconst (pc' := 22) rfl ?_)
      refine wp_of e99 c99_22 (xc_V (pc' := 25) (r := r0) (as := [vI 0]) (st := []) (lm_0_174) rfl rfl (Nat.le_of_ble_eq_true rfl) hW g0 sh_1 (by decide) rfl (by decide) (s_83 hW g0 ⟨by omega, by omega⟩) (fun R29065 T29066 H29067 p29068 => ?_))
      obtain ⟨e29069, w29071, f29072, z29075, e29070, b29076, p29073, p29074⟩ := p29068
      subst e29069
      subst e29070
      have f29077 := f0.tr f29072 rfl
      show wp _ _ 99 25 [(0, .ref r0), (1, vI a1), (2, vI a2)] [vI z29075] _ H29067 _
      refine wp_of e99 c99_25 (rw_istore_n (pc' := 26) (z := z29075) (L' := [(3, vI z29075), (0, .ref r0), (1, vI a1), (2, vI a2)]) rfl rfl rfl ?_)
      refine wp_of e99 c99_26 (rw_iload_n (pc' := 27) (z := z29075) rfl rfl ?_)
      refine wp_of e99 c99_27 (rw_if_eq (p1 := 36) (p2 := 30) (by decide) rfl ⟨by omega, by omega⟩ (fun c29078 => ?_) (fun c29078 => ?_))
      · exfalso
        omega
      · refine wp_of e99 c99_30 (rw_aload_n (pc' := 31) (v := .ref r0) rfl rfl rfl ?_)
        refine wp_of e99 c99_31 (rw_iload_n (pc' := 32) (z := z29075) rfl rfl ?_)
        refine wp_of e99 c99_32 (xc_V (pc' := 35) (r := r0) (as := [vI z29075]) (st := []) (lm_0_70) rfl rfl (Nat.le_of_ble_eq_true rfl) w29071 g0 sh_1 (by decide) rfl (by decide) (s_12 w29071 g0 ⟨by omega, by omega⟩) (fun R29079 T29080 H29081 p29082 => ?_))
        obtain ⟨e29083, w29085, f29086, z29088, e29084, b29089, p29087⟩ := p29082
        subst e29083
        subst e29084
        have f29090 := f29077.tr f29086 rfl
        show wp _ _ 99 35 [(3, vI z29075), (0, .ref r0), (1, vI a1), (2, vI a2)] [vI z29088] _ H29081 _
        exact wp_ireturn e99 c99_35 rfl ⟨rfl, w29085, f29090, z29088, rfl, ⟨by omega, by omega⟩, by omega⟩
    · refine wp_of e99 c99_17 (rw_iconst (pc' := 18) rfl ?_)
      refine wp_of e99 c99_18 (rw_goto (p1 := 22) (by decide) ?_)
      refine wp_of e99 c99_22 (xc_V (pc' := 25) (r := r0) (as := [vI 1]) (st := []) (lm_0_174) rfl rfl (Nat.le_of_ble_eq_true rfl) hW g0 sh_1 (by decide) rfl (by decide) (s_83 hW g0 ⟨by omega, by omega⟩) (fun R29091 T29092 H29093 p29094 => ?_))
      obtain ⟨e29095, w29097, f29098, z29101, e29096, b29102, p29099, p29100⟩ := p29094
      subst e29095
      subst e29096
      have f29103 := f0.tr f29098 rfl
      show wp _ _ 99 25 [(0, .ref r0), (1, vI a1), (2, vI a2)] [vI z29101] _ H29093 _
      refine wp_of e99 c99_25 (rw_istore_n (pc' := 26) (z := z29101) (L' := [(3, vI z29101), (0, .ref r0), (1, vI a1), (2, vI a2)]) rfl rfl rfl ?_)
      refine wp_of e99 c99_26 (rw_iload_n (pc' := 27) (z := z29101) rfl rfl ?_)
      refine wp_of e99 c99_27 (rw_if_eq (p1 := 36) (p2 := 30) (by decide) rfl ⟨by omega, by omega⟩ (fun c29104 => ?_) (fun c29104 => ?_))
      · refine wp_of e99 c99_36 (rw_aload_n (pc' := 37) (v := .ref r0) rfl rfl rfl ?_)
        refine wp_of e99 c99_37 (rw_aload_n (pc' := 38) (v := .ref r0) rfl rfl rfl ?_)
        refine wp_of e99 c99_38 (xg_R (pc' := 41) lf_0_30 w29097 g0 sh_1 (by decide) (by decide) ty_1_3 rfl rfl (fun r29105 q29106 g29107 => ?_))
        refine wp_of e99 c99_41 (rw_aload_n (pc' := 42) (v := .ref r0) rfl rfl rfl ?_)
        refine wp_of e99 c99_42 (xg_R (pc' := 45) lf_0_51 w29097 g0 sh_1 (by decide) (by decide) ty_1_6 rfl rfl (fun r29108 q29109 g29110 => ?_))
        refine wp_of e99 c99_45 (rw_iload_n (pc' := 46) (z := a1) rfl rfl ?_)
        refine wp_of e99 c99_46 (rw_iload_n (pc' := 47) (z := a2) rfl rfl ?_)
        refine wp_of e99 c99_47 (xc_V (pc' := 50) (r := r29105) (as := [.ref r29108, vI a1, vI a2]) (st := [.ref r0]) (lm_0_194) rfl rfl (Nat.le_of_ble_eq_true rfl) w29097 g29107 sh_12 (by decide) rfl (by decide) (s_100 w29097 g29107 g29110 ⟨by omega, by omega⟩ ⟨by omega, by omega⟩) (fun R29111 T29112 H29113 p29114 => ?_))
        obtain ⟨e29115, e29117, z29118, e29116, b29119⟩ := p29114
        subst e29115
        subst e29116
        subst e29117
        show wp _ _ 99 50 [(3, vI z29101), (0, .ref r0), (1, vI a1), (2, vI a2)] [vI z29118, .ref r0] _ H29093 _
        refine wp_of e99 c99_50 (xc_V (pc' := 53) (r := r0) (as := [vI z29118]) (st := []) (lm_0_99) rfl rfl (Nat.le_of_ble_eq_true rfl) w29097 g0 sh_1 (by decide) rfl (by decide) (s_51 w29097 g0 ⟨by omega, by omega⟩) (fun R29120 T29121 H29122 p29123 => ?_))
        obtain ⟨e29124, w29126, f29127, z29129, e29125, b29130, p29128⟩ := p29123
        subst e29124
        subst e29125
        have f29131 := f29103.tr f29127 rfl
        show wp _ _ 99 53 [(3, vI z29101), (0, .ref r0), (1, vI a1), (2, vI a2)] [vI z29129] _ H29122 _
        exact wp_ireturn e99 c99_53 rfl ⟨rfl, w29126, f29131, z29129, rfl, ⟨by omega, by omega⟩, by omega⟩
      · refine wp_of e99 c99_30 (rw_aload_n (pc' := 31) (v := .ref r0) rfl rfl rfl ?_)
        refine wp_of e99 c99_31 (rw_iload_n (pc' := 32) (z := z29101) rfl rfl ?_)
        refine wp_of e99 c99_32 (xc_V (pc' := 35) (r := r0) (as := [vI z29101]) (st := []) (lm_0_70) rfl rfl (Nat.le_of_ble_eq_true rfl) w29097 g0 sh_1 (by decide) rfl (by decide) (s_12 w29097 g0 ⟨by omega, by omega⟩) (fun R29132 T29133 H29134 p29135 => ?_))
        obtain ⟨e29136, w29138, f29139, z29141, e29137, b29142, p29140⟩ := p29135
        subst e29136
        subst e29137
        have f29143 := f29103.tr f29139 rfl
        show wp _ _ 99 35 [(3, vI z29101), (0, .ref r0), (1, vI a1), (2, vI a2)] [vI z29141] _ H29134 _
        exact wp_ireturn e99 c99_35 rfl ⟨rfl, w29138, f29143, z29141, rfl, ⟨by omega, by omega⟩, by omega⟩
/-! StrikeAwake.barOfSome(Z)I -/
theorem e102 : wq_en 102 = some (0, 3, false, some FieldType.int) := rfl
theorem c102_0 : mc_cd 102 0 = some (.aload_n 0, 1) := by decide +kernel
theorem c102_1 : mc_cd 102 1 = some (.iload_n 1, 1) := by decide +kernel
theorem c102_2 : mc_cd 102 2 = some (.invokevirtual 174, 3) := by decide +kernel
theorem c102_5 : mc_cd 102 5 = some (.istore_n 2, 1) := by decide +kernel
theorem c102_6 : mc_cd 102 6 = some (.iload_n 2, 1) := by decide +kernel
theorem c102_7 : mc_cd 102 7 = some (.ifCond .ne 18, 3) := by decide +kernel
theorem c102_10 : mc_cd 102 10 = some (.aload_n 0, 1) := by decide +kernel
theorem c102_11 : mc_cd 102 11 = some (.getfield 30, 3) := by decide +kernel
theorem c102_14 : mc_cd 102 14 = some (.getfield 177, 3) := by decide +kernel
theorem c102_17 : mc_cd 102 17 = some (.ifCond .ne 8, 3) := by decide +kernel
theorem c102_20 : mc_cd 102 20 = some (.bipush 6, 2) := by decide +kernel
theorem c102_22 : mc_cd 102 22 = some (.goto 4, 3) := by decide +kernel
theorem c102_25 : mc_cd 102 25 = some (.iload_n 2, 1) := by decide +kernel
theorem c102_26 : mc_cd 102 26 = some (.ireturn, 1) := by decide +kernel
abbrev q_102 (r0 : Nat) (a1 : Int) (T : wq_T) (H : wq_H) : Option Value → wq_T → wq_H → Prop := fun r T' H' => T = T' ∧ WT T H' ∧ wfr [(12, 5), (12, 6), (12, 7), (12, 8), (12, 9), (6, 5), (8, 999), (10, 999), (15, 999), (9, 999), (18, 999), (19, 999), (7, 999), (11, 999), (17, 999), (13, 999)] T H H' ∧ ∃ z : Int, some (vI z) = r ∧ (0 ≤ z ∧ z ≤ 6) ∧ (z ≠ 0 ∨ a1 = 1) ∧ (z ≠ 4)
set_option maxHeartbeats 4000000 in
theorem s_102 {kt : Nat → Option mc_E} {T : wq_T} {H : wq_H} {r0 : Nat} {a1 : Int} (hW : WT T H) (g0 : T.2.2.2 r0 = some 1) (i1 : 0 ≤ a1 ∧ a1 ≤ 1) : wpc kt 6 102 [.ref r0, vI a1] T H (q_102 r0 a1 T H) := by
  refine wp_enter e102 (Nat.le_of_ble_eq_true rfl) rfl ?_
  have f0 : wfr [(12, 5), (12, 6), (12, 7), (12, 8), (12, 9), (6, 5), (8, 999), (10, 999), (15, 999), (9, 999), (18, 999), (19, 999), (7, 999), (11, 999), (17, 999), (13, 999)] T H H := wfr.rf
  show wp _ _ 102 0 [(0, .ref r0), (1, vI a1)] [] _ H _
  refine wp_of e102 c102_0 (rw_aload_n (pc' := 1) (v := .ref r0) rfl rfl rfl ?_)
  refine wp_of e102 c102_1 (rw_iload_n (pc' := 2) (z := a1) rfl rfl ?_)
  refine wp_of e102 c102_2 (xc_V (pc' := 5) (r := r0) (as := [vI a1]) (st := []) (lm_0_174) rfl rfl (Nat.le_of_ble_eq_true rfl) hW g0 sh_1 (by decide) rfl (by decide) (s_83 hW g0 ⟨by omega, by omega⟩) (fun R29164 T29165 H29166 p29167 => ?_))
  obtain ⟨e29168, w29170, f29171, z29174, e29169, b29175, p29172, p29173⟩ := p29167
  subst e29168
  subst e29169
  have f29176 := f0.tr f29171 rfl
  show wp _ _ 102 5 [(0, .ref r0), (1, vI a1)] [vI z29174] _ H29166 _
  refine wp_of e102 c102_5 (rw_istore_n (pc' := 6) (z := z29174) (L' := [(2, vI z29174), (0, .ref r0), (1, vI a1)]) rfl rfl rfl ?_)
  refine wp_of e102 c102_6 (rw_iload_n (pc' := 7) (z := z29174) rfl rfl ?_)
  refine wp_of e102 c102_7 (rw_if_ne (p1 := 25) (p2 := 10) (by decide) rfl ⟨by omega, by omega⟩ (fun c29177 => ?_) (fun c29177 => ?_))
  · refine wp_of e102 c102_25 (rw_iload_n (pc' := 26) (z := z29174) rfl rfl ?_)
    exact wp_ireturn e102 c102_26 rfl ⟨rfl, w29170, f29176, z29174, rfl, ⟨by omega, by omega⟩, by omega, by omega⟩
  · refine wp_of e102 c102_10 (rw_aload_n (pc' := 11) (v := .ref r0) rfl rfl rfl ?_)
    refine wp_of e102 c102_11 (xg_R (pc' := 14) lf_0_30 w29170 g0 sh_1 (by decide) (by decide) ty_1_3 rfl rfl (fun r29178 q29179 g29180 => ?_))
    refine wp_of e102 c102_14 (xg_I (pc' := 17) lf_0_177 w29170 g29180 sh_12 (by decide) (by decide) ty_12_5 rfl rfl (fun b29181 b29182 => ?_))
    refine wp_of e102 c102_17 (rw_if_ne (p1 := 25) (p2 := 20) (by decide) rfl ⟨by omega, by omega⟩ (fun c29183 => ?_) (fun c29183 => ?_))
    · refine wp_of e102 c102_25 (rw_iload_n (pc' := 26) (z := z29174) rfl rfl ?_)
      exact wp_ireturn e102 c102_26 rfl ⟨rfl, w29170, f29176, z29174, rfl, ⟨by omega, by omega⟩, by omega, by omega⟩
    · refine wp_of e102 c102_20 (rw_bipush (pc' := 22) (z := 6) rfl (by decide) ?_)
      refine wp_of e102 c102_22 (rw_goto (p1 := 26) (by decide) ?_)
      exact wp_ireturn e102 c102_26 rfl ⟨rfl, w29170, f29176, 6, rfl, ⟨by omega, by omega⟩, by omega, by omega⟩
/-! StrikeAwake$Census.sureness(LStrikeAwake$Parish;II)I -/
theorem e103 : wq_en 103 = some (4, 5, false, some FieldType.int) := rfl
theorem c103_0 : mc_cd 103 0 = some (.aload_n 0, 1) := by decide +kernel
theorem c103_1 : mc_cd 103 1 = some (.aload_n 1, 1) := by decide +kernel
theorem c103_2 : mc_cd 103 2 = some (.iload_n 2, 1) := by decide +kernel
theorem c103_3 : mc_cd 103 3 = some (.iload_n 3, 1) := by decide +kernel
theorem c103_4 : mc_cd 103 4 = some (.invokevirtual 126, 3) := by decide +kernel
theorem c103_7 : mc_cd 103 7 = some (.istore 4, 2) := by decide +kernel
theorem c103_9 : mc_cd 103 9 = some (.iload 4, 2) := by decide +kernel
theorem c103_11 : mc_cd 103 11 = some (.ifCond .ne 5, 3) := by decide +kernel
theorem c103_14 : mc_cd 103 14 = some (.iconst 0, 1) := by decide +kernel
theorem c103_15 : mc_cd 103 15 = some (.ireturn, 1) := by decide +kernel
theorem c103_16 : mc_cd 103 16 = some (.iload 4, 2) := by decide +kernel
theorem c103_18 : mc_cd 103 18 = some (.aload_n 0, 1) := by decide +kernel
theorem c103_19 : mc_cd 103 19 = some (.getfield 62, 3) := by decide +kernel
theorem c103_22 : mc_cd 103 22 = some (.if_icmp .ne 7, 3) := by decide +kernel
theorem c103_25 : mc_cd 103 25 = some (.iconst 2, 1) := by decide +kernel
theorem c103_26 : mc_cd 103 26 = some (.goto 4, 3) := by decide +kernel
theorem c103_29 : mc_cd 103 29 = some (.iconst 1, 1) := by decide +kernel
theorem c103_30 : mc_cd 103 30 = some (.ireturn, 1) := by decide +kernel
abbrev q_103 (r0 : Nat) (r1 : Nat) (a2 : Int) (a3 : Int) (T : wq_T) (H : wq_H) : Option Value → wq_T → wq_H → Prop := fun r T' H' => T = T' ∧ H = H' ∧ ∃ z : Int, some (vI z) = r ∧ (0 ≤ z ∧ z ≤ 2)
set_option maxHeartbeats 4000000 in
theorem s_103 {kt : Nat → Option mc_E} {T : wq_T} {H : wq_H} {r0 : Nat} {r1 : Nat} {a2 : Int} {a3 : Int} (hW : WT T H) (g0 : T.2.2.2 r0 = some 12) (g1 : T.2.2.2 r1 = some 27) (i2 : 0 ≤ a2 ∧ a2 ≤ 5) (i3 : (-2147483648) ≤ a3 ∧ a3 ≤ 2147483647) : wpc kt 3 103 [.ref r0, .ref r1, vI a2, vI a3] T H (q_103 r0 r1 a2 a3 T H) := by
  refine wp_enter e103 (Nat.le_of_ble_eq_true rfl) rfl ?_
  show wp _ _ 103 0 [(0, .ref r0), (1, .ref r1), (2, vI a2), (3, vI a3)] [] _ H _
  refine wp_of e103 c103_0 (rw_aload_n (pc' := 1) (v := .ref r0) rfl rfl rfl ?_)
  refine wp_of e103 c103_1 (rw_aload_n (pc' := 2) (v := .ref r1) rfl rfl rfl ?_)
  refine wp_of e103 c103_2 (rw_iload_n (pc' := 3) (z := a2) rfl rfl ?_)
  refine wp_of e103 c103_3 (rw_iload_n (pc' := 4) (z := a3) rfl rfl ?_)
  refine wp_of e103 c103_4 (xc_V (pc' := 7) (r := r0) (as := [.ref r1, vI a2, vI a3]) (st := []) (lm_4_126) rfl rfl (Nat.le_of_ble_eq_true rfl) hW g0 sh_12 (by decide) rfl (by decide) (s_100 hW g0 g1 ⟨by omega, by omega⟩ ⟨by omega, by omega⟩) (fun R29197 T29198 H29199 p29200 => ?_))
  obtain ⟨e29201, e29203, z29204, e29202, b29205⟩ := p29200
  subst e29201
  subst e29202
  subst e29203
  show wp _ _ 103 7 [(0, .ref r0), (1, .ref r1), (2, vI a2), (3, vI a3)] [vI z29204] _ H _
  refine wp_of e103 c103_7 (rw_istore (pc' := 9) (z := z29204) (L' := [(4, vI z29204), (0, .ref r0), (1, .ref r1), (2, vI a2), (3, vI a3)]) rfl rfl rfl ?_)
  refine wp_of e103 c103_9 (rw_iload (pc' := 11) (z := z29204) rfl rfl ?_)
  refine wp_of e103 c103_11 (rw_if_ne (p1 := 16) (p2 := 14) (by decide) rfl ⟨by omega, by omega⟩ (fun c29206 => ?_) (fun c29206 => ?_))
  · refine wp_of e103 c103_16 (rw_iload (pc' := 18) (z := z29204) rfl rfl ?_)
    refine wp_of e103 c103_18 (rw_aload_n (pc' := 19) (v := .ref r0) rfl rfl rfl ?_)
    refine wp_of e103 c103_19 (xg_I (pc' := 22) lf_4_62 hW g0 sh_12 (by decide) (by decide) ty_12_5 rfl rfl (fun b29207 b29208 => ?_))
    refine wp_of e103 c103_22 (rw_icmp_ne (p1 := 29) (p2 := 25) (by decide) rfl ⟨by omega, by omega⟩ ⟨by omega, by omega⟩ (fun c29209 => ?_) (fun c29209 => ?_))
    · refine wp_of e103 c103_29 (rw_iconst (pc' := 30) rfl ?_)
      exact wp_ireturn e103 c103_30 rfl ⟨rfl, rfl, 1, rfl, ⟨by omega, by omega⟩⟩
    · refine wp_of e103 c103_25 (rw_iconst (pc' := 26) rfl ?_)
      refine wp_of e103 c103_26 (rw_goto (p1 := 30) (by decide) ?_)
      exact wp_ireturn e103 c103_30 rfl ⟨rfl, rfl, 2, rfl, ⟨by omega, by omega⟩⟩
  · refine wp_of e103 c103_14 (rw_iconst (pc' := 15) rfl ?_)
    exact wp_ireturn e103 c103_15 rfl ⟨rfl, rfl, 0, rfl, ⟨by omega, by omega⟩⟩
/-! StrikeAwake.sure(II)I -/
theorem e101 : wq_en 101 = some (0, 4, false, some FieldType.int) := rfl
theorem c101_0 : mc_cd 101 0 = some (.aload_n 0, 1) := by decide +kernel
theorem c101_1 : mc_cd 101 1 = some (.aload_n 0, 1) := by decide +kernel
theorem c101_2 : mc_cd 101 2 = some (.iload_n 1, 1) := by decide +kernel
theorem c101_3 : mc_cd 101 3 = some (.invokevirtual 105, 3) := by decide +kernel
theorem c101_6 : mc_cd 101 6 = some (.ifCond .eq 15, 3) := by decide +kernel
theorem c101_9 : mc_cd 101 9 = some (.aload_n 0, 1) := by decide +kernel
theorem c101_10 : mc_cd 101 10 = some (.iload_n 2, 1) := by decide +kernel
theorem c101_11 : mc_cd 101 11 = some (.invokevirtual 132, 3) := by decide +kernel
theorem c101_14 : mc_cd 101 14 = some (.ifCond .eq 7, 3) := by decide +kernel
theorem c101_17 : mc_cd 101 17 = some (.iconst 1, 1) := by decide +kernel
theorem c101_18 : mc_cd 101 18 = some (.goto 4, 3) := by decide +kernel
theorem c101_21 : mc_cd 101 21 = some (.iconst 0, 1) := by decide +kernel
theorem c101_22 : mc_cd 101 22 = some (.invokevirtual 198, 3) := by decide +kernel
theorem c101_25 : mc_cd 101 25 = some (.istore_n 3, 1) := by decide +kernel
theorem c101_26 : mc_cd 101 26 = some (.iload_n 3, 1) := by decide +kernel
theorem c101_27 : mc_cd 101 27 = some (.ifCond .eq 9, 3) := by decide +kernel
theorem c101_30 : mc_cd 101 30 = some (.aload_n 0, 1) := by decide +kernel
theorem c101_31 : mc_cd 101 31 = some (.iload_n 3, 1) := by decide +kernel
theorem c101_32 : mc_cd 101 32 = some (.invokevirtual 70, 3) := by decide +kernel
theorem c101_35 : mc_cd 101 35 = some (.ireturn, 1) := by decide +kernel
theorem c101_36 : mc_cd 101 36 = some (.aload_n 0, 1) := by decide +kernel
theorem c101_37 : mc_cd 101 37 = some (.aload_n 0, 1) := by decide +kernel
theorem c101_38 : mc_cd 101 38 = some (.getfield 30, 3) := by decide +kernel
theorem c101_41 : mc_cd 101 41 = some (.aload_n 0, 1) := by decide +kernel
theorem c101_42 : mc_cd 101 42 = some (.getfield 51, 3) := by decide +kernel
theorem c101_45 : mc_cd 101 45 = some (.iload_n 1, 1) := by decide +kernel
theorem c101_46 : mc_cd 101 46 = some (.iload_n 2, 1) := by decide +kernel
theorem c101_47 : mc_cd 101 47 = some (.invokevirtual 201, 3) := by decide +kernel
theorem c101_50 : mc_cd 101 50 = some (.invokevirtual 99, 3) := by decide +kernel
theorem c101_53 : mc_cd 101 53 = some (.ireturn, 1) := by decide +kernel
abbrev q_101 (r0 : Nat) (a1 : Int) (a2 : Int) (T : wq_T) (H : wq_H) : Option Value → wq_T → wq_H → Prop := fun r T' H' => T = T' ∧ WT T H' ∧ wfr [(12, 5), (12, 6), (12, 7), (12, 8), (12, 9), (1, 10), (6, 5), (8, 999), (10, 999), (15, 999), (9, 999), (18, 999), (19, 999), (7, 999), (11, 999), (17, 999), (13, 999)] T H H' ∧ ∃ z : Int, some (vI z) = r ∧ ((-2147483648) ≤ z ∧ z ≤ 2147483647) ∧ (H' r0 10 ≠ 4)
set_option maxHeartbeats 4000000 in
theorem s_101 {kt : Nat → Option mc_E} {T : wq_T} {H : wq_H} {r0 : Nat} {a1 : Int} {a2 : Int} (hW : WT T H) (g0 : T.2.2.2 r0 = some 1) (i1 : (-2147483648) ≤ a1 ∧ a1 ≤ 2147483647) (i2 : (-2147483648) ≤ a2 ∧ a2 ≤ 2147483647) : wpc kt 7 101 [.ref r0, vI a1, vI a2] T H (q_101 r0 a1 a2 T H) := by
  refine wp_enter e101 (Nat.le_of_ble_eq_true rfl) rfl ?_
  have f0 : wfr [(12, 5), (12, 6), (12, 7), (12, 8), (12, 9), (1, 10), (6, 5), (8, 999), (10, 999), (15, 999), (9, 999), (18, 999), (19, 999), (7, 999), (11, 999), (17, 999), (13, 999)] T H H := wfr.rf
  show wp _ _ 101 0 [(0, .ref r0), (1, vI a1), (2, vI a2)] [] _ H _
  refine wp_of e101 c101_0 (rw_aload_n (pc' := 1) (v := .ref r0) rfl rfl rfl ?_)
  refine wp_of e101 c101_1 (rw_aload_n (pc' := 2) (v := .ref r0) rfl rfl rfl ?_)
  refine wp_of e101 c101_2 (rw_iload_n (pc' := 3) (z := a1) rfl rfl ?_)
  refine wp_of e101 c101_3 (xc_V (pc' := 6) (r := r0) (as := [vI a1]) (st := [.ref r0]) (lm_0_105) rfl rfl (Nat.le_of_ble_eq_true rfl) hW g0 sh_1 (by decide) rfl (by decide) (s_55 hW g0 ⟨by omega, by omega⟩) (fun R29337 T29338 H29339 p29340 => ?_))
  obtain ⟨e29341, e29343, z29345, e29342, b29346, p29344⟩ := p29340
  subst e29341
  subst e29342
  subst e29343
  show wp _ _ 101 6 [(0, .ref r0), (1, vI a1), (2, vI a2)] [vI z29345, .ref r0] _ H _
  refine wp_of e101 c101_6 (rw_if_eq (p1 := 21) (p2 := 9) (by decide) rfl ⟨by omega, by omega⟩ (fun c29347 => ?_) (fun c29347 => ?_))
  · refine wp_of e101 c101_21 (rw_iconst (pc' := 22) rfl ?_)
    refine wp_of e101 c101_22 (xc_V (pc' := 25) (r := r0) (as := [vI 0]) (st := []) (lm_0_198) rfl rfl (Nat.le_of_ble_eq_true rfl) hW g0 sh_1 (by decide) rfl (by decide) (s_102 hW g0 ⟨by omega, by omega⟩) (fun R29348 T29349 H29350 p29351 => ?_))
    obtain ⟨e29352, w29354, f29355, z29358, e29353, b29359, p29356, p29357⟩ := p29351
    subst e29352
    subst e29353
    have f29360 := f0.tr f29355 rfl
    show wp _ _ 101 25 [(0, .ref r0), (1, vI a1), (2, vI a2)] [vI z29358] _ H29350 _
    refine wp_of e101 c101_25 (rw_istore_n (pc' := 26) (z := z29358) (L' := [(3, vI z29358), (0, .ref r0), (1, vI a1), (2, vI a2)]) rfl rfl rfl ?_)
    refine wp_of e101 c101_26 (rw_iload_n (pc' := 27) (z := z29358) rfl rfl ?_)
    refine wp_of e101 c101_27 (rw_if_eq (p1 := 36) (p2 := 30) (by decide) rfl ⟨by omega, by omega⟩ (fun c29361 => ?_) (fun c29361 => ?_))
    · exfalso
      omega
    · refine wp_of e101 c101_30 (rw_aload_n (pc' := 31) (v := .ref r0) rfl rfl rfl ?_)
      refine wp_of e101 c101_31 (rw_iload_n (pc' := 32) (z := z29358) rfl rfl ?_)
      refine wp_of e101 c101_32 (xc_V (pc' := 35) (r := r0) (as := [vI z29358]) (st := []) (lm_0_70) rfl rfl (Nat.le_of_ble_eq_true rfl) w29354 g0 sh_1 (by decide) rfl (by decide) (s_12 w29354 g0 ⟨by omega, by omega⟩) (fun R29362 T29363 H29364 p29365 => ?_))
      obtain ⟨e29366, w29368, f29369, z29371, e29367, b29372, p29370⟩ := p29365
      subst e29366
      subst e29367
      have f29373 := f29360.tr f29369 rfl
      show wp _ _ 101 35 [(3, vI z29358), (0, .ref r0), (1, vI a1), (2, vI a2)] [vI z29371] _ H29364 _
      exact wp_ireturn e101 c101_35 rfl ⟨rfl, w29368, f29373, z29371, rfl, ⟨by omega, by omega⟩, by omega⟩
  · refine wp_of e101 c101_9 (rw_aload_n (pc' := 10) (v := .ref r0) rfl rfl rfl ?_)
    refine wp_of e101 c101_10 (rw_iload_n (pc' := 11) (z := a2) rfl rfl ?_)
    refine wp_of e101 c101_11 (xc_V (pc' := 14) (r := r0) (as := [vI a2]) (st := [.ref r0]) (lm_0_132) rfl rfl (Nat.le_of_ble_eq_true rfl) hW g0 sh_1 (by decide) rfl (by decide) (s_60 hW g0 ⟨by omega, by omega⟩) (fun R29374 T29375 H29376 p29377 => ?_))
    obtain ⟨e29378, e29380, z29382, e29379, b29383, p29381⟩ := p29377
    subst e29378
    subst e29379
    subst e29380
    show wp _ _ 101 14 [(0, .ref r0), (1, vI a1), (2, vI a2)] [vI z29382, .ref r0] _ H _
    refine wp_of e101 c101_14 (rw_if_eq (p1 := 21) (p2 := 17) (by decide) rfl ⟨by omega, by omega⟩ (fun c29384 => ?_) (fun c29384 => ?_))
    · refine wp_of e101 c101_21 (rw_iconst (pc' := 22) rfl ?_)
      refine wp_of e101 c101_22 (xc_V (pc' := 25) (r := r0) (as := [vI 0]) (st := []) (lm_0_198) rfl rfl (Nat.le_of_ble_eq_true rfl) hW g0 sh_1 (by decide) rfl (by decide) (s_102 hW g0 ⟨by omega, by omega⟩) (fun R29385 T29386 H29387 p29388 => ?_))
      obtain ⟨e29389, w29391, f29392, z29395, e29390, b29396, p29393, p29394⟩ := p29388
      subst e29389
      subst e29390
      have f29397 := f0.tr f29392 rfl
      show wp _ _ 101 25 [(0, .ref r0), (1, vI a1), (2, vI a2)] [vI z29395] _ H29387 _
      refine wp_of e101 c101_25 (rw_istore_n (pc' := 26) (z := z29395) (L' := [(3, vI z29395), (0, .ref r0), (1, vI a1), (2, vI a2)]) rfl rfl rfl ?_)
      refine wp_of e101 c101_26 (rw_iload_n (pc' := 27) (z := z29395) rfl rfl ?_)
      refine wp_of e101 c101_27 (rw_if_eq (p1 := 36) (p2 := 30) (by decide) rfl ⟨by omega, by omega⟩ (fun c29398 => ?_) (fun c29398 => ?_))
      · exfalso
        omega
      · refine wp_of e101 c101_30 (rw_aload_n (pc' := 31) (v := .ref r0) rfl rfl rfl ?_)
        refine wp_of e101 c101_31 (rw_iload_n (pc' := 32) (z := z29395) rfl rfl ?_)
        refine wp_of e101 c101_32 (xc_V (pc' := 35) (r := r0) (as := [vI z29395]) (st := []) (lm_0_70) rfl rfl (Nat.le_of_ble_eq_true rfl) w29391 g0 sh_1 (by decide) rfl (by decide) (s_12 w29391 g0 ⟨by omega, by omega⟩) (fun R29399 T29400 H29401 p29402 => ?_))
        obtain ⟨e29403, w29405, f29406, z29408, e29404, b29409, p29407⟩ := p29402
        subst e29403
        subst e29404
        have f29410 := f29397.tr f29406 rfl
        show wp _ _ 101 35 [(3, vI z29395), (0, .ref r0), (1, vI a1), (2, vI a2)] [vI z29408] _ H29401 _
        exact wp_ireturn e101 c101_35 rfl ⟨rfl, w29405, f29410, z29408, rfl, ⟨by omega, by omega⟩, by omega⟩
    · refine wp_of e101 c101_17 (rw_iconst (pc' := 18) rfl ?_)
      refine wp_of e101 c101_18 (rw_goto (p1 := 22) (by decide) ?_)
      refine wp_of e101 c101_22 (xc_V (pc' := 25) (r := r0) (as := [vI 1]) (st := []) (lm_0_198) rfl rfl (Nat.le_of_ble_eq_true rfl) hW g0 sh_1 (by decide) rfl (by decide) (s_102 hW g0 ⟨by omega, by omega⟩) (fun R29411 T29412 H29413 p29414 => ?_))
      obtain ⟨e29415, w29417, f29418, z29421, e29416, b29422, p29419, p29420⟩ := p29414
      subst e29415
      subst e29416
      have f29423 := f0.tr f29418 rfl
      show wp _ _ 101 25 [(0, .ref r0), (1, vI a1), (2, vI a2)] [vI z29421] _ H29413 _
      refine wp_of e101 c101_25 (rw_istore_n (pc' := 26) (z := z29421) (L' := [(3, vI z29421), (0, .ref r0), (1, vI a1), (2, vI a2)]) rfl rfl rfl ?_)
      refine wp_of e101 c101_26 (rw_iload_n (pc' := 27) (z := z29421) rfl rfl ?_)
      refine wp_of e101 c101_27 (rw_if_eq (p1 := 36) (p2 := 30) (by decide) rfl ⟨by omega, by omega⟩ (fun c29424 => ?_) (fun c29424 => ?_))
      · refine wp_of e101 c101_36 (rw_aload_n (pc' := 37) (v := .ref r0) rfl rfl rfl ?_)
        refine wp_of e101 c101_37 (rw_aload_n (pc' := 38) (v := .ref r0) rfl rfl rfl ?_)
        refine wp_of e101 c101_38 (xg_R (pc' := 41) lf_0_30 w29417 g0 sh_1 (by decide) (by decide) ty_1_3 rfl rfl (fun r29425 q29426 g29427 => ?_))
        refine wp_of e101 c101_41 (rw_aload_n (pc' := 42) (v := .ref r0) rfl rfl rfl ?_)
        refine wp_of e101 c101_42 (xg_R (pc' := 45) lf_0_51 w29417 g0 sh_1 (by decide) (by decide) ty_1_6 rfl rfl (fun r29428 q29429 g29430 => ?_))
        refine wp_of e101 c101_45 (rw_iload_n (pc' := 46) (z := a1) rfl rfl ?_)
        refine wp_of e101 c101_46 (rw_iload_n (pc' := 47) (z := a2) rfl rfl ?_)
        refine wp_of e101 c101_47 (xc_V (pc' := 50) (r := r29425) (as := [.ref r29428, vI a1, vI a2]) (st := [.ref r0]) (lm_0_201) rfl rfl (Nat.le_of_ble_eq_true rfl) w29417 g29427 sh_12 (by decide) rfl (by decide) (s_103 w29417 g29427 g29430 ⟨by omega, by omega⟩ ⟨by omega, by omega⟩) (fun R29431 T29432 H29433 p29434 => ?_))
        obtain ⟨e29435, e29437, z29438, e29436, b29439⟩ := p29434
        subst e29435
        subst e29436
        subst e29437
        show wp _ _ 101 50 [(3, vI z29421), (0, .ref r0), (1, vI a1), (2, vI a2)] [vI z29438, .ref r0] _ H29413 _
        refine wp_of e101 c101_50 (xc_V (pc' := 53) (r := r0) (as := [vI z29438]) (st := []) (lm_0_99) rfl rfl (Nat.le_of_ble_eq_true rfl) w29417 g0 sh_1 (by decide) rfl (by decide) (s_51 w29417 g0 ⟨by omega, by omega⟩) (fun R29440 T29441 H29442 p29443 => ?_))
        obtain ⟨e29444, w29446, f29447, z29449, e29445, b29450, p29448⟩ := p29443
        subst e29444
        subst e29445
        have f29451 := f29423.tr f29447 rfl
        show wp _ _ 101 53 [(3, vI z29421), (0, .ref r0), (1, vI a1), (2, vI a2)] [vI z29449] _ H29442 _
        exact wp_ireturn e101 c101_53 rfl ⟨rfl, w29446, f29451, z29449, rfl, ⟨by omega, by omega⟩, by omega⟩
      · refine wp_of e101 c101_30 (rw_aload_n (pc' := 31) (v := .ref r0) rfl rfl rfl ?_)
        refine wp_of e101 c101_31 (rw_iload_n (pc' := 32) (z := z29421) rfl rfl ?_)
        refine wp_of e101 c101_32 (xc_V (pc' := 35) (r := r0) (as := [vI z29421]) (st := []) (lm_0_70) rfl rfl (Nat.le_of_ble_eq_true rfl) w29417 g0 sh_1 (by decide) rfl (by decide) (s_12 w29417 g0 ⟨by omega, by omega⟩) (fun R29452 T29453 H29454 p29455 => ?_))
        obtain ⟨e29456, w29458, f29459, z29461, e29457, b29462, p29460⟩ := p29455
        subst e29456
        subst e29457
        have f29463 := f29423.tr f29459 rfl
        show wp _ _ 101 35 [(3, vI z29421), (0, .ref r0), (1, vI a1), (2, vI a2)] [vI z29461] _ H29454 _
        exact wp_ireturn e101 c101_35 rfl ⟨rfl, w29458, f29463, z29461, rfl, ⟨by omega, by omega⟩, by omega⟩
/-! StrikeAwake.surely(IZ)I -/
theorem e104 : wq_en 104 = some (0, 7, false, some FieldType.int) := rfl
theorem c104_0 : mc_cd 104 0 = some (.aload_n 0, 1) := by decide +kernel
theorem c104_1 : mc_cd 104 1 = some (.aload_n 0, 1) := by decide +kernel
theorem c104_2 : mc_cd 104 2 = some (.iload_n 1, 1) := by decide +kernel
theorem c104_3 : mc_cd 104 3 = some (.invokevirtual 132, 3) := by decide +kernel
theorem c104_6 : mc_cd 104 6 = some (.invokevirtual 198, 3) := by decide +kernel
theorem c104_9 : mc_cd 104 9 = some (.istore_n 3, 1) := by decide +kernel
theorem c104_10 : mc_cd 104 10 = some (.iload_n 3, 1) := by decide +kernel
theorem c104_11 : mc_cd 104 11 = some (.ifCond .eq 9, 3) := by decide +kernel
theorem c104_14 : mc_cd 104 14 = some (.aload_n 0, 1) := by decide +kernel
theorem c104_15 : mc_cd 104 15 = some (.iload_n 3, 1) := by decide +kernel
theorem c104_16 : mc_cd 104 16 = some (.invokevirtual 70, 3) := by decide +kernel
theorem c104_19 : mc_cd 104 19 = some (.ireturn, 1) := by decide +kernel
theorem c104_20 : mc_cd 104 20 = some (.iload_n 2, 1) := by decide +kernel
theorem c104_21 : mc_cd 104 21 = some (.ifCond .eq 7, 3) := by decide +kernel
theorem c104_24 : mc_cd 104 24 = some (.iconst 2, 1) := by decide +kernel
theorem c104_25 : mc_cd 104 25 = some (.goto 4, 3) := by decide +kernel
theorem c104_28 : mc_cd 104 28 = some (.iconst 0, 1) := by decide +kernel
theorem c104_29 : mc_cd 104 29 = some (.istore 4, 2) := by decide +kernel
theorem c104_31 : mc_cd 104 31 = some (.iconst 0, 1) := by decide +kernel
theorem c104_32 : mc_cd 104 32 = some (.istore 5, 2) := by decide +kernel
theorem c104_34 : mc_cd 104 34 = some (.iconst 0, 1) := by decide +kernel
theorem c104_35 : mc_cd 104 35 = some (.istore 6, 2) := by decide +kernel
theorem c104_37 : mc_cd 104 37 = some (.iload 6, 2) := by decide +kernel
theorem c104_39 : mc_cd 104 39 = some (.aload_n 0, 1) := by decide +kernel
theorem c104_40 : mc_cd 104 40 = some (.getfield 51, 3) := by decide +kernel
theorem c104_43 : mc_cd 104 43 = some (.getfield 96, 3) := by decide +kernel
theorem c104_46 : mc_cd 104 46 = some (.if_icmp .ge 37, 3) := by decide +kernel
theorem c104_49 : mc_cd 104 49 = some (.aload_n 0, 1) := by decide +kernel
theorem c104_50 : mc_cd 104 50 = some (.getfield 30, 3) := by decide +kernel
theorem c104_53 : mc_cd 104 53 = some (.aload_n 0, 1) := by decide +kernel
theorem c104_54 : mc_cd 104 54 = some (.getfield 51, 3) := by decide +kernel
theorem c104_57 : mc_cd 104 57 = some (.iload 6, 2) := by decide +kernel
theorem c104_59 : mc_cd 104 59 = some (.iload_n 1, 1) := by decide +kernel
theorem c104_60 : mc_cd 104 60 = some (.invokevirtual 201, 3) := by decide +kernel
theorem c104_63 : mc_cd 104 63 = some (.iload 4, 2) := by decide +kernel
theorem c104_65 : mc_cd 104 65 = some (.if_icmp .ne 12, 3) := by decide +kernel
theorem c104_68 : mc_cd 104 68 = some (.iload 5, 2) := by decide +kernel
theorem c104_70 : mc_cd 104 70 = some (.iconst 1, 1) := by decide +kernel
theorem c104_71 : mc_cd 104 71 = some (.iload 6, 2) := by decide +kernel
theorem c104_73 : mc_cd 104 73 = some (.ishl, 1) := by decide +kernel
theorem c104_74 : mc_cd 104 74 = some (.ior, 1) := by decide +kernel
theorem c104_75 : mc_cd 104 75 = some (.istore 5, 2) := by decide +kernel
theorem c104_77 : mc_cd 104 77 = some (.iinc 6 1, 3) := by decide +kernel
theorem c104_80 : mc_cd 104 80 = some (.goto (-43), 3) := by decide +kernel
theorem c104_83 : mc_cd 104 83 = some (.aload_n 0, 1) := by decide +kernel
theorem c104_84 : mc_cd 104 84 = some (.iload 5, 2) := by decide +kernel
theorem c104_86 : mc_cd 104 86 = some (.invokevirtual 99, 3) := by decide +kernel
theorem c104_89 : mc_cd 104 89 = some (.ireturn, 1) := by decide +kernel
abbrev q_104 (r0 : Nat) (a1 : Int) (a2 : Int) (T : wq_T) (H : wq_H) : Option Value → wq_T → wq_H → Prop := fun r T' H' => T = T' ∧ WT T H' ∧ wfr [(12, 5), (12, 6), (12, 7), (12, 8), (12, 9), (1, 10), (6, 5), (8, 999), (10, 999), (15, 999), (9, 999), (18, 999), (19, 999), (7, 999), (11, 999), (17, 999), (13, 999)] T H H' ∧ ∃ z : Int, some (vI z) = r ∧ ((-2147483648) ≤ z ∧ z ≤ 2147483647) ∧ (H' r0 10 ≠ 4)
set_option maxHeartbeats 4000000 in
theorem s_104 {kt : Nat → Option mc_E} {T : wq_T} {H : wq_H} {r0 : Nat} {a1 : Int} {a2 : Int} (hW : WT T H) (g0 : T.2.2.2 r0 = some 1) (i1 : (-2147483648) ≤ a1 ∧ a1 ≤ 2147483647) (i2 : 0 ≤ a2 ∧ a2 ≤ 1) : wpc kt 7 104 [.ref r0, vI a1, vI a2] T H (q_104 r0 a1 a2 T H) := by
  refine wp_enter e104 (Nat.le_of_ble_eq_true rfl) rfl ?_
  have f0 : wfr [(12, 5), (12, 6), (12, 7), (12, 8), (12, 9), (1, 10), (6, 5), (8, 999), (10, 999), (15, 999), (9, 999), (18, 999), (19, 999), (7, 999), (11, 999), (17, 999), (13, 999)] T H H := wfr.rf
  show wp _ _ 104 0 [(0, .ref r0), (1, vI a1), (2, vI a2)] [] _ H _
  refine wp_of e104 c104_0 (rw_aload_n (pc' := 1) (v := .ref r0) rfl rfl rfl ?_)
  refine wp_of e104 c104_1 (rw_aload_n (pc' := 2) (v := .ref r0) rfl rfl rfl ?_)
  refine wp_of e104 c104_2 (rw_iload_n (pc' := 3) (z := a1) rfl rfl ?_)
  refine wp_of e104 c104_3 (xc_V (pc' := 6) (r := r0) (as := [vI a1]) (st := [.ref r0]) (lm_0_132) rfl rfl (Nat.le_of_ble_eq_true rfl) hW g0 sh_1 (by decide) rfl (by decide) (s_60 hW g0 ⟨by omega, by omega⟩) (fun R29895 T29896 H29897 p29898 => ?_))
  obtain ⟨e29899, e29901, z29903, e29900, b29904, p29902⟩ := p29898
  subst e29899
  subst e29900
  subst e29901
  show wp _ _ 104 6 [(0, .ref r0), (1, vI a1), (2, vI a2)] [vI z29903, .ref r0] _ H _
  refine wp_of e104 c104_6 (xc_V (pc' := 9) (r := r0) (as := [vI z29903]) (st := []) (lm_0_198) rfl rfl (Nat.le_of_ble_eq_true rfl) hW g0 sh_1 (by decide) rfl (by decide) (s_102 hW g0 ⟨by omega, by omega⟩) (fun R29905 T29906 H29907 p29908 => ?_))
  obtain ⟨e29909, w29911, f29912, z29915, e29910, b29916, p29913, p29914⟩ := p29908
  subst e29909
  subst e29910
  have f29917 := f0.tr f29912 rfl
  show wp _ _ 104 9 [(0, .ref r0), (1, vI a1), (2, vI a2)] [vI z29915] _ H29907 _
  refine wp_of e104 c104_9 (rw_istore_n (pc' := 10) (z := z29915) (L' := [(3, vI z29915), (0, .ref r0), (1, vI a1), (2, vI a2)]) rfl rfl rfl ?_)
  refine wp_of e104 c104_10 (rw_iload_n (pc' := 11) (z := z29915) rfl rfl ?_)
  refine wp_of e104 c104_11 (rw_if_eq (p1 := 20) (p2 := 14) (by decide) rfl ⟨by omega, by omega⟩ (fun c29918 => ?_) (fun c29918 => ?_))
  · refine wp_of e104 c104_20 (rw_iload_n (pc' := 21) (z := a2) rfl rfl ?_)
    refine wp_of e104 c104_21 (rw_if_eq (p1 := 28) (p2 := 24) (by decide) rfl ⟨by omega, by omega⟩ (fun c29919 => ?_) (fun c29919 => ?_))
    · refine wp_of e104 c104_28 (rw_iconst (pc' := 29) rfl ?_)
      refine wp_of e104 c104_29 (rw_istore (pc' := 31) (z := 0) (L' := [(4, vI 0), (3, vI z29915), (0, .ref r0), (1, vI a1), (2, vI a2)]) rfl rfl rfl ?_)
      refine wp_of e104 c104_31 (rw_iconst (pc' := 32) rfl ?_)
      refine wp_of e104 c104_32 (rw_istore (pc' := 34) (z := 0) (L' := [(5, vI 0), (4, vI 0), (3, vI z29915), (0, .ref r0), (1, vI a1), (2, vI a2)]) rfl rfl rfl ?_)
      refine wp_of e104 c104_34 (rw_iconst (pc' := 35) rfl ?_)
      refine wp_of e104 c104_35 (rw_istore (pc' := 37) (z := 0) (L' := [(6, vI 0), (5, vI 0), (4, vI 0), (3, vI z29915), (0, .ref r0), (1, vI a1), (2, vI a2)]) rfl rfl rfl ?_)
      have lp30081 : ∀ (n30082 : Nat) (v30084 : Int) (v30085 : Int), (0 ≤ v30084 ∧ v30084 ≤ 6) → (0 ≤ v30085 ∧ v30085 ≤ 16777215) → (6 - v30084).toNat = n30082 → wp kt 6 104 37 [(6, vI v30084), (5, vI v30085), (4, vI 0), (0, .ref r0), (1, vI a1)] [] T H29907 (q_104 r0 a1 a2 T H) := by
        intro n30082
        induction n30082 using Nat.strongRecOn with
        | _ n30082 ih30083 =>
          intro v30084 v30085 b30088 b30089 m30090
          refine wp_of e104 c104_37 (rw_iload (pc' := 39) (z := v30084) rfl rfl ?_)
          refine wp_of e104 c104_39 (rw_aload_n (pc' := 40) (v := .ref r0) rfl rfl rfl ?_)
          refine wp_of e104 c104_40 (xg_R (pc' := 43) lf_0_51 w29911 g0 sh_1 (by decide) (by decide) ty_1_6 rfl rfl (fun r30091 q30092 g30093 => ?_))
          refine wp_of e104 c104_43 (xg_I (pc' := 46) lf_0_96 w29911 g30093 sh_27 (by decide) (by decide) ty_27_10 rfl rfl (fun b30094 b30095 => ?_))
          refine wp_of e104 c104_46 (rw_icmp_ge (p1 := 83) (p2 := 49) (by decide) rfl ⟨by omega, by omega⟩ ⟨by omega, by omega⟩ (fun c30096 => ?_) (fun c30096 => ?_))
          · refine wp_of e104 c104_83 (rw_aload_n (pc' := 84) (v := .ref r0) rfl rfl rfl ?_)
            refine wp_of e104 c104_84 (rw_iload (pc' := 86) (z := v30085) rfl rfl ?_)
            refine wp_of e104 c104_86 (xc_V (pc' := 89) (r := r0) (as := [vI v30085]) (st := []) (lm_0_99) rfl rfl (Nat.le_of_ble_eq_true rfl) w29911 g0 sh_1 (by decide) rfl (by decide) (s_51 w29911 g0 ⟨by omega, by omega⟩) (fun R30097 T30098 H30099 p30100 => ?_))
            obtain ⟨e30101, w30103, f30104, z30106, e30102, b30107, p30105⟩ := p30100
            subst e30101
            subst e30102
            have f30108 := f29917.tr f30104 rfl
            show wp _ _ 104 89 [(6, vI v30084), (5, vI v30085), (4, vI 0), (0, .ref r0), (1, vI a1)] [vI z30106] _ H30099 _
            exact wp_ireturn e104 c104_89 rfl ⟨rfl, w30103, f30108, z30106, rfl, ⟨by omega, by omega⟩, by omega⟩
          · refine wp_of e104 c104_49 (rw_aload_n (pc' := 50) (v := .ref r0) rfl rfl rfl ?_)
            refine wp_of e104 c104_50 (xg_R (pc' := 53) lf_0_30 w29911 g0 sh_1 (by decide) (by decide) ty_1_3 rfl rfl (fun r30109 q30110 g30111 => ?_))
            refine wp_of e104 c104_53 (rw_aload_n (pc' := 54) (v := .ref r0) rfl rfl rfl ?_)
            refine wp_of e104 c104_54 (xg_K (pc' := 57) lf_0_51 w29911 g0 sh_1 (by decide) (by decide) rfl q30092 rfl ?_)
            refine wp_of e104 c104_57 (rw_iload (pc' := 59) (z := v30084) rfl rfl ?_)
            refine wp_of e104 c104_59 (rw_iload_n (pc' := 60) (z := a1) rfl rfl ?_)
            refine wp_of e104 c104_60 (xc_V (pc' := 63) (r := r30109) (as := [.ref r30091, vI v30084, vI a1]) (st := []) (lm_0_201) rfl rfl (Nat.le_of_ble_eq_true rfl) w29911 g30111 sh_12 (by decide) rfl (by decide) (s_103 w29911 g30111 g30093 ⟨by omega, by omega⟩ ⟨by omega, by omega⟩) (fun R30112 T30113 H30114 p30115 => ?_))
            obtain ⟨e30116, e30118, z30119, e30117, b30120⟩ := p30115
            subst e30116
            subst e30117
            subst e30118
            show wp _ _ 104 63 [(6, vI v30084), (5, vI v30085), (4, vI 0), (0, .ref r0), (1, vI a1)] [vI z30119] _ H29907 _
            refine wp_of e104 c104_63 (rw_iload (pc' := 65) (z := 0) rfl rfl ?_)
            refine wp_of e104 c104_65 (rw_icmp_ne (p1 := 77) (p2 := 68) (by decide) rfl ⟨by omega, by omega⟩ ⟨by omega, by omega⟩ (fun c30121 => ?_) (fun c30121 => ?_))
            · refine wp_of e104 c104_77 (rw_iinc (pc' := 80) (z := v30084) (L' := [(6, vI (v30084 + 1)), (5, vI v30085), (4, vI 0), (0, .ref r0), (1, vI a1)]) rfl rfl rfl rfl ?_)
              refine wp_of e104 c104_80 (rw_goto (p1 := 37) (by decide) ?_)
              exact wp_lc (ks := [6, 5, 4, 0, 1]) (wl_c rfl (wl_c rfl (wl_c rfl (wl_c rfl (wl_c rfl wl_n))))) rfl (by decide) (ih30083 _ (by omega) (v30084 + 1) v30085 ⟨by omega, by omega⟩ ⟨by omega, by omega⟩ rfl)
            · refine wp_of e104 c104_68 (rw_iload (pc' := 70) (z := v30085) rfl rfl ?_)
              refine wp_of e104 c104_70 (rw_iconst (pc' := 71) rfl ?_)
              refine wp_of e104 c104_71 (rw_iload (pc' := 73) (z := v30084) rfl rfl ?_)
              refine wp_of e104 c104_73 (rw_ishl (pc' := 74) rfl ?_)
              obtain ⟨v30122, e30123⟩ : ∃ x : Int, x = wq_shl 1 v30084 := ⟨_, rfl⟩
              rw [← e30123]
              have b30124 : 1 ≤ v30122 ∧ v30122 ≤ 64 := by
                rw [e30123]
                exact wq_shl1_6 ⟨by omega, by omega⟩
              refine wp_of e104 c104_74 (rw_ior (pc' := 75) rfl ?_)
              obtain ⟨v30125, e30126⟩ : ∃ x : Int, x = wq_or v30085 v30122 := ⟨_, rfl⟩
              rw [← e30126]
              have b30127 : 0 ≤ v30125 ∧ v30125 ≤ 16777215 := by
                rw [e30126]
                exact wq_or_24 ⟨by omega, by omega⟩ ⟨by omega, by omega⟩
              refine wp_of e104 c104_75 (rw_istore (pc' := 77) (z := v30125) (L' := [(5, vI v30125), (6, vI v30084), (4, vI 0), (0, .ref r0), (1, vI a1)]) rfl rfl rfl ?_)
              refine wp_of e104 c104_77 (rw_iinc (pc' := 80) (z := v30084) (L' := [(6, vI (v30084 + 1)), (5, vI v30125), (4, vI 0), (0, .ref r0), (1, vI a1)]) rfl rfl rfl rfl ?_)
              refine wp_of e104 c104_80 (rw_goto (p1 := 37) (by decide) ?_)
              exact wp_lc (ks := [6, 5, 4, 0, 1]) (wl_c rfl (wl_c rfl (wl_c rfl (wl_c rfl (wl_c rfl wl_n))))) rfl (by decide) (ih30083 _ (by omega) (v30084 + 1) v30125 ⟨by omega, by omega⟩ ⟨by omega, by omega⟩ rfl)
      exact wp_lc (ks := [6, 5, 4, 3, 0, 1, 2]) (wl_c rfl (wl_c rfl (wl_c rfl (wl_c rfl (wl_c rfl wl_n))))) rfl (by decide) (lp30081 _ 0 0 ⟨by omega, by omega⟩ ⟨by omega, by omega⟩ rfl)
    · refine wp_of e104 c104_24 (rw_iconst (pc' := 25) rfl ?_)
      refine wp_of e104 c104_25 (rw_goto (p1 := 29) (by decide) ?_)
      refine wp_of e104 c104_29 (rw_istore (pc' := 31) (z := 2) (L' := [(4, vI 2), (3, vI z29915), (0, .ref r0), (1, vI a1), (2, vI a2)]) rfl rfl rfl ?_)
      refine wp_of e104 c104_31 (rw_iconst (pc' := 32) rfl ?_)
      refine wp_of e104 c104_32 (rw_istore (pc' := 34) (z := 0) (L' := [(5, vI 0), (4, vI 2), (3, vI z29915), (0, .ref r0), (1, vI a1), (2, vI a2)]) rfl rfl rfl ?_)
      refine wp_of e104 c104_34 (rw_iconst (pc' := 35) rfl ?_)
      refine wp_of e104 c104_35 (rw_istore (pc' := 37) (z := 0) (L' := [(6, vI 0), (5, vI 0), (4, vI 2), (3, vI z29915), (0, .ref r0), (1, vI a1), (2, vI a2)]) rfl rfl rfl ?_)
      have lp30289 : ∀ (n30290 : Nat) (v30292 : Int) (v30293 : Int), (0 ≤ v30292 ∧ v30292 ≤ 6) → (0 ≤ v30293 ∧ v30293 ≤ 16777215) → (6 - v30292).toNat = n30290 → wp kt 6 104 37 [(6, vI v30292), (5, vI v30293), (4, vI 2), (0, .ref r0), (1, vI a1)] [] T H29907 (q_104 r0 a1 a2 T H) := by
        intro n30290
        induction n30290 using Nat.strongRecOn with
        | _ n30290 ih30291 =>
          intro v30292 v30293 b30296 b30297 m30298
          refine wp_of e104 c104_37 (rw_iload (pc' := 39) (z := v30292) rfl rfl ?_)
          refine wp_of e104 c104_39 (rw_aload_n (pc' := 40) (v := .ref r0) rfl rfl rfl ?_)
          refine wp_of e104 c104_40 (xg_R (pc' := 43) lf_0_51 w29911 g0 sh_1 (by decide) (by decide) ty_1_6 rfl rfl (fun r30299 q30300 g30301 => ?_))
          refine wp_of e104 c104_43 (xg_I (pc' := 46) lf_0_96 w29911 g30301 sh_27 (by decide) (by decide) ty_27_10 rfl rfl (fun b30302 b30303 => ?_))
          refine wp_of e104 c104_46 (rw_icmp_ge (p1 := 83) (p2 := 49) (by decide) rfl ⟨by omega, by omega⟩ ⟨by omega, by omega⟩ (fun c30304 => ?_) (fun c30304 => ?_))
          · refine wp_of e104 c104_83 (rw_aload_n (pc' := 84) (v := .ref r0) rfl rfl rfl ?_)
            refine wp_of e104 c104_84 (rw_iload (pc' := 86) (z := v30293) rfl rfl ?_)
            refine wp_of e104 c104_86 (xc_V (pc' := 89) (r := r0) (as := [vI v30293]) (st := []) (lm_0_99) rfl rfl (Nat.le_of_ble_eq_true rfl) w29911 g0 sh_1 (by decide) rfl (by decide) (s_51 w29911 g0 ⟨by omega, by omega⟩) (fun R30305 T30306 H30307 p30308 => ?_))
            obtain ⟨e30309, w30311, f30312, z30314, e30310, b30315, p30313⟩ := p30308
            subst e30309
            subst e30310
            have f30316 := f29917.tr f30312 rfl
            show wp _ _ 104 89 [(6, vI v30292), (5, vI v30293), (4, vI 2), (0, .ref r0), (1, vI a1)] [vI z30314] _ H30307 _
            exact wp_ireturn e104 c104_89 rfl ⟨rfl, w30311, f30316, z30314, rfl, ⟨by omega, by omega⟩, by omega⟩
          · refine wp_of e104 c104_49 (rw_aload_n (pc' := 50) (v := .ref r0) rfl rfl rfl ?_)
            refine wp_of e104 c104_50 (xg_R (pc' := 53) lf_0_30 w29911 g0 sh_1 (by decide) (by decide) ty_1_3 rfl rfl (fun r30317 q30318 g30319 => ?_))
            refine wp_of e104 c104_53 (rw_aload_n (pc' := 54) (v := .ref r0) rfl rfl rfl ?_)
            refine wp_of e104 c104_54 (xg_K (pc' := 57) lf_0_51 w29911 g0 sh_1 (by decide) (by decide) rfl q30300 rfl ?_)
            refine wp_of e104 c104_57 (rw_iload (pc' := 59) (z := v30292) rfl rfl ?_)
            refine wp_of e104 c104_59 (rw_iload_n (pc' := 60) (z := a1) rfl rfl ?_)
            refine wp_of e104 c104_60 (xc_V (pc' := 63) (r := r30317) (as := [.ref r30299, vI v30292, vI a1]) (st := []) (lm_0_201) rfl rfl (Nat.le_of_ble_eq_true rfl) w29911 g30319 sh_12 (by decide) rfl (by decide) (s_103 w29911 g30319 g30301 ⟨by omega, by omega⟩ ⟨by omega, by omega⟩) (fun R30320 T30321 H30322 p30323 => ?_))
            obtain ⟨e30324, e30326, z30327, e30325, b30328⟩ := p30323
            subst e30324
            subst e30325
            subst e30326
            show wp _ _ 104 63 [(6, vI v30292), (5, vI v30293), (4, vI 2), (0, .ref r0), (1, vI a1)] [vI z30327] _ H29907 _
            refine wp_of e104 c104_63 (rw_iload (pc' := 65) (z := 2) rfl rfl ?_)
            refine wp_of e104 c104_65 (rw_icmp_ne (p1 := 77) (p2 := 68) (by decide) rfl ⟨by omega, by omega⟩ ⟨by omega, by omega⟩ (fun c30329 => ?_) (fun c30329 => ?_))
            · refine wp_of e104 c104_77 (rw_iinc (pc' := 80) (z := v30292) (L' := [(6, vI (v30292 + 1)), (5, vI v30293), (4, vI 2), (0, .ref r0), (1, vI a1)]) rfl rfl rfl rfl ?_)
              refine wp_of e104 c104_80 (rw_goto (p1 := 37) (by decide) ?_)
              exact wp_lc (ks := [6, 5, 4, 0, 1]) (wl_c rfl (wl_c rfl (wl_c rfl (wl_c rfl (wl_c rfl wl_n))))) rfl (by decide) (ih30291 _ (by omega) (v30292 + 1) v30293 ⟨by omega, by omega⟩ ⟨by omega, by omega⟩ rfl)
            · refine wp_of e104 c104_68 (rw_iload (pc' := 70) (z := v30293) rfl rfl ?_)
              refine wp_of e104 c104_70 (rw_iconst (pc' := 71) rfl ?_)
              refine wp_of e104 c104_71 (rw_iload (pc' := 73) (z := v30292) rfl rfl ?_)
              refine wp_of e104 c104_73 (rw_ishl (pc' := 74) rfl ?_)
              obtain ⟨v30330, e30331⟩ : ∃ x : Int, x = wq_shl 1 v30292 := ⟨_, rfl⟩
              rw [← e30331]
              have b30332 : 1 ≤ v30330 ∧ v30330 ≤ 64 := by
                rw [e30331]
                exact wq_shl1_6 ⟨by omega, by omega⟩
              refine wp_of e104 c104_74 (rw_ior (pc' := 75) rfl ?_)
              obtain ⟨v30333, e30334⟩ : ∃ x : Int, x = wq_or v30293 v30330 := ⟨_, rfl⟩
              rw [← e30334]
              have b30335 : 0 ≤ v30333 ∧ v30333 ≤ 16777215 := by
                rw [e30334]
                exact wq_or_24 ⟨by omega, by omega⟩ ⟨by omega, by omega⟩
              refine wp_of e104 c104_75 (rw_istore (pc' := 77) (z := v30333) (L' := [(5, vI v30333), (6, vI v30292), (4, vI 2), (0, .ref r0), (1, vI a1)]) rfl rfl rfl ?_)
              refine wp_of e104 c104_77 (rw_iinc (pc' := 80) (z := v30292) (L' := [(6, vI (v30292 + 1)), (5, vI v30333), (4, vI 2), (0, .ref r0), (1, vI a1)]) rfl rfl rfl rfl ?_)
              refine wp_of e104 c104_80 (rw_goto (p1 := 37) (by decide) ?_)
              exact wp_lc (ks := [6, 5, 4, 0, 1]) (wl_c rfl (wl_c rfl (wl_c rfl (wl_c rfl (wl_c rfl wl_n))))) rfl (by decide) (ih30291 _ (by omega) (v30292 + 1) v30333 ⟨by omega, by omega⟩ ⟨by omega, by omega⟩ rfl)
      exact wp_lc (ks := [6, 5, 4, 3, 0, 1, 2]) (wl_c rfl (wl_c rfl (wl_c rfl (wl_c rfl (wl_c rfl wl_n))))) rfl (by decide) (lp30289 _ 0 0 ⟨by omega, by omega⟩ ⟨by omega, by omega⟩ rfl)
  · refine wp_of e104 c104_14 (rw_aload_n (pc' := 15) (v := .ref r0) rfl rfl rfl ?_)
    refine wp_of e104 c104_15 (rw_iload_n (pc' := 16) (z := z29915) rfl rfl ?_)
    refine wp_of e104 c104_16 (xc_V (pc' := 19) (r := r0) (as := [vI z29915]) (st := []) (lm_0_70) rfl rfl (Nat.le_of_ble_eq_true rfl) w29911 g0 sh_1 (by decide) rfl (by decide) (s_12 w29911 g0 ⟨by omega, by omega⟩) (fun R30336 T30337 H30338 p30339 => ?_))
    obtain ⟨e30340, w30342, f30343, z30345, e30341, b30346, p30344⟩ := p30339
    subst e30340
    subst e30341
    have f30347 := f29917.tr f30343 rfl
    show wp _ _ 104 19 [(3, vI z29915), (0, .ref r0), (1, vI a1), (2, vI a2)] [vI z30345] _ H30338 _
    exact wp_ireturn e104 c104_19 rfl ⟨rfl, w30342, f30347, z30345, rfl, ⟨by omega, by omega⟩, by omega⟩
/-! StrikeAwake$Census.hundredthsAwake(LStrikeAwake$Parish;II)I -/
theorem e106 : wq_en 106 = some (4, 8, false, some FieldType.int) := rfl
theorem c106_0 : mc_cd 106 0 = some (.aload_n 1, 1) := by decide +kernel
theorem c106_1 : mc_cd 106 1 = some (.getfield 78, 3) := by decide +kernel
theorem c106_4 : mc_cd 106 4 = some (.iload_n 2, 1) := by decide +kernel
theorem c106_5 : mc_cd 106 5 = some (.aaload, 1) := by decide +kernel
theorem c106_6 : mc_cd 106 6 = some (.astore 4, 2) := by decide +kernel
theorem c106_8 : mc_cd 106 8 = some (.lconst 0, 1) := by decide +kernel
theorem c106_9 : mc_cd 106 9 = some (.lstore 5, 2) := by decide +kernel
theorem c106_11 : mc_cd 106 11 = some (.iconst 0, 1) := by decide +kernel
theorem c106_12 : mc_cd 106 12 = some (.istore 7, 2) := by decide +kernel
theorem c106_14 : mc_cd 106 14 = some (.iload 7, 2) := by decide +kernel
theorem c106_16 : mc_cd 106 16 = some (.aload 4, 2) := by decide +kernel
theorem c106_18 : mc_cd 106 18 = some (.getfield 116, 3) := by decide +kernel
theorem c106_21 : mc_cd 106 21 = some (.if_icmp .ge 38, 3) := by decide +kernel
theorem c106_24 : mc_cd 106 24 = some (.aload 4, 2) := by decide +kernel
theorem c106_26 : mc_cd 106 26 = some (.getfield 119, 3) := by decide +kernel
theorem c106_29 : mc_cd 106 29 = some (.iload 7, 2) := by decide +kernel
theorem c106_31 : mc_cd 106 31 = some (.iaload, 1) := by decide +kernel
theorem c106_32 : mc_cd 106 32 = some (.iload_n 3, 1) := by decide +kernel
theorem c106_33 : mc_cd 106 33 = some (.invokestatic 122, 3) := by decide +kernel
theorem c106_36 : mc_cd 106 36 = some (.ifCond .eq 17, 3) := by decide +kernel
theorem c106_39 : mc_cd 106 39 = some (.lload 5, 2) := by decide +kernel
theorem c106_41 : mc_cd 106 41 = some (.aload_n 0, 1) := by decide +kernel
theorem c106_42 : mc_cd 106 42 = some (.getfield 22, 3) := by decide +kernel
theorem c106_45 : mc_cd 106 45 = some (.iload_n 2, 1) := by decide +kernel
theorem c106_46 : mc_cd 106 46 = some (.aaload, 1) := by decide +kernel
theorem c106_47 : mc_cd 106 47 = some (.iload 7, 2) := by decide +kernel
theorem c106_49 : mc_cd 106 49 = some (.laload, 1) := by decide +kernel
theorem c106_50 : mc_cd 106 50 = some (.ladd, 1) := by decide +kernel
theorem c106_51 : mc_cd 106 51 = some (.lstore 5, 2) := by decide +kernel
theorem c106_53 : mc_cd 106 53 = some (.iinc 7 1, 3) := by decide +kernel
theorem c106_56 : mc_cd 106 56 = some (.goto (-42), 3) := by decide +kernel
theorem c106_59 : mc_cd 106 59 = some (.aload_n 0, 1) := by decide +kernel
theorem c106_60 : mc_cd 106 60 = some (.getfield 66, 3) := by decide +kernel
theorem c106_63 : mc_cd 106 63 = some (.lconst 0, 1) := by decide +kernel
theorem c106_64 : mc_cd 106 64 = some (.lcmp, 1) := by decide +kernel
theorem c106_65 : mc_cd 106 65 = some (.ifCond .le 18, 3) := by decide +kernel
theorem c106_68 : mc_cd 106 68 = some (.lload 5, 2) := by decide +kernel
theorem c106_70 : mc_cd 106 70 = some (.ldc2_w 130, 3) := by decide +kernel
theorem c106_73 : mc_cd 106 73 = some (.lmul, 1) := by decide +kernel
theorem c106_74 : mc_cd 106 74 = some (.aload_n 0, 1) := by decide +kernel
theorem c106_75 : mc_cd 106 75 = some (.getfield 66, 3) := by decide +kernel
theorem c106_78 : mc_cd 106 78 = some (.ldiv, 1) := by decide +kernel
theorem c106_79 : mc_cd 106 79 = some (.l2i, 1) := by decide +kernel
theorem c106_80 : mc_cd 106 80 = some (.goto 4, 3) := by decide +kernel
theorem c106_83 : mc_cd 106 83 = some (.iconst 0, 1) := by decide +kernel
theorem c106_84 : mc_cd 106 84 = some (.ireturn, 1) := by decide +kernel
abbrev q_106 (r0 : Nat) (r1 : Nat) (a2 : Int) (a3 : Int) (T : wq_T) (H : wq_H) : Option Value → wq_T → wq_H → Prop := fun r T' H' => T = T' ∧ H = H' ∧ ∃ z : Int, some (vI z) = r ∧ ((-2147483648) ≤ z ∧ z ≤ 2147483647)
set_option maxHeartbeats 4000000 in
theorem s_106 {kt : Nat → Option mc_E} {T : wq_T} {H : wq_H} {r0 : Nat} {r1 : Nat} {a2 : Int} {a3 : Int} (hW : WT T H) (g0 : T.2.2.2 r0 = some 12) (g1 : T.2.2.2 r1 = some 27) (i2 : 0 ≤ a2 ∧ a2 ≤ 5) (i3 : (-2147483648) ≤ a3 ∧ a3 ≤ 2147483647) : wpc kt 2 106 [.ref r0, .ref r1, vI a2, vI a3] T H (q_106 r0 r1 a2 a3 T H) := by
  refine wp_enter e106 (Nat.le_of_ble_eq_true rfl) rfl ?_
  show wp _ _ 106 0 [(0, .ref r0), (1, .ref r1), (2, vI a2), (3, vI a3)] [] _ H _
  refine wp_of e106 c106_0 (rw_aload_n (pc' := 1) (v := .ref r1) rfl rfl rfl ?_)
  refine wp_of e106 c106_1 (xg_R (pc' := 4) lf_4_78 hW g1 sh_27 (by decide) (by decide) ty_27_0 rfl rfl (fun r30617 q30618 g30619 => ?_))
  refine wp_of e106 c106_4 (rw_iload_n (pc' := 5) (z := a2) rfl rfl ?_)
  refine wp_of e106 c106_5 (xa_R (pc' := 6) (by decide) hW g30619 sh_28 (by decide) (ty_28 _) (by omega) (by omega) rfl (fun r30620 q30621 g30622 => ?_))
  refine wp_of e106 c106_6 (rw_astore (pc' := 8) (v := .ref r30620) (L' := [(4, .ref r30620), (0, .ref r0), (1, .ref r1), (2, vI a2), (3, vI a3)]) rfl rfl rfl rfl ?_)
  refine wp_of e106 c106_8 (rw_lconst (pc' := 9) (z := 0) rfl rfl ?_)
  refine wp_of e106 c106_9 (rw_lstore (pc' := 11) (z := 0) (L' := [(5, vL 0), (4, .ref r30620), (0, .ref r0), (1, .ref r1), (2, vI a2), (3, vI a3)]) rfl rfl rfl ?_)
  refine wp_of e106 c106_11 (rw_iconst (pc' := 12) rfl ?_)
  refine wp_of e106 c106_12 (rw_istore (pc' := 14) (z := 0) (L' := [(7, vI 0), (5, vL 0), (4, .ref r30620), (0, .ref r0), (1, .ref r1), (2, vI a2), (3, vI a3)]) rfl rfl rfl ?_)
  have lp30845 : ∀ (n30846 : Nat) (v30848 : Int) (v30849 : Int), (0 ≤ v30848 ∧ v30848 ≤ 40) → ((-9223372036854775808) ≤ v30849 ∧ v30849 ≤ 9223372036854775807) → (40 - v30848).toNat = n30846 → wp kt 1 106 14 [(7, vI v30848), (5, vL v30849), (4, .ref r30620), (0, .ref r0), (2, vI a2), (3, vI a3)] [] T H (q_106 r0 r1 a2 a3 T H) := by
    intro n30846
    induction n30846 using Nat.strongRecOn with
    | _ n30846 ih30847 =>
      intro v30848 v30849 b30852 b30853 m30854
      refine wp_of e106 c106_14 (rw_iload (pc' := 16) (z := v30848) rfl rfl ?_)
      refine wp_of e106 c106_16 (rw_aload (pc' := 18) (v := .ref r30620) rfl rfl rfl ?_)
      refine wp_of e106 c106_18 (xg_I (pc' := 21) lf_4_116 hW g30622 sh_35 (by decide) (by decide) ty_35_15 rfl rfl (fun b30855 b30856 => ?_))
      refine wp_of e106 c106_21 (rw_icmp_ge (p1 := 59) (p2 := 24) (by decide) rfl ⟨by omega, by omega⟩ ⟨by omega, by omega⟩ (fun c30857 => ?_) (fun c30857 => ?_))
      · refine wp_of e106 c106_59 (rw_aload_n (pc' := 60) (v := .ref r0) rfl rfl rfl ?_)
        refine wp_of e106 c106_60 (xg_L (pc' := 63) lf_4_66 hW g0 sh_12 (by decide) (by decide) ty_12_6 rfl rfl (fun b30858 b30859 => ?_))
        refine wp_of e106 c106_63 (rw_lconst (pc' := 64) (z := 0) rfl rfl ?_)
        refine wp_of e106 c106_64 (rw_lcmp (pc' := 65) rfl ⟨by omega, by omega⟩ ⟨by omega, by omega⟩ ?_)
        have b30860 := wq_cmp_b (H r0 6) 0
        refine wp_of e106 c106_65 (rw_if_le (p1 := 83) (p2 := 68) (by decide) rfl ⟨by omega, by omega⟩ (fun c30861 => ?_) (fun c30861 => ?_))
        · refine wp_of e106 c106_83 (rw_iconst (pc' := 84) rfl ?_)
          exact wp_ireturn e106 c106_84 rfl ⟨rfl, rfl, 0, rfl, ⟨by omega, by omega⟩⟩
        · refine wp_of e106 c106_68 (rw_lload (pc' := 70) (z := v30849) rfl rfl ?_)
          refine wp_of e106 c106_70 (rw_ldc2 (pc' := 73) (z := 100) rfl rfl rfl ?_)
          refine wp_of e106 c106_73 (rw_lmulw (pc' := 74) rfl ?_)
          obtain ⟨v30862, e30863⟩ : ∃ x : Int, x = wl_w (v30849 * 100) := ⟨_, rfl⟩
          rw [← e30863]
          have b30864 : -9223372036854775808 ≤ v30862 ∧ v30862 ≤ 9223372036854775807 := by
            rw [e30863]
            exact wL_w _
          refine wp_of e106 c106_74 (rw_aload_n (pc' := 75) (v := .ref r0) rfl rfl rfl ?_)
          refine wp_of e106 c106_75 (xg_L (pc' := 78) lf_4_66 hW g0 sh_12 (by decide) (by decide) ty_12_6 rfl rfl (fun b30865 b30866 => ?_))
          refine wp_of e106 c106_78 (rw_ldiv (pc' := 79) rfl ⟨by omega, by omega⟩ (by omega) ?_)
          obtain ⟨v30867, e30868⟩ : ∃ x : Int, x = wl_div v30862 (H r0 6) := ⟨_, rfl⟩
          rw [← e30868]
          have b30869 : -9223372036854775808 ≤ v30867 ∧ v30867 ≤ 9223372036854775807 := by
            rw [e30868]
            exact wL_div _ _
          refine wp_of e106 c106_79 (rw_l2i (pc' := 80) rfl ?_)
          obtain ⟨v30870, e30871⟩ : ∃ x : Int, x = wq_w v30867 := ⟨_, rfl⟩
          rw [← e30871]
          have b30872 : -2147483648 ≤ v30870 ∧ v30870 ≤ 2147483647 := by
            rw [e30871]
            exact wI_w _
          have b30873 : (-2147483648 ≤ v30867 ∧ v30867 ≤ 2147483647) → v30870 = v30867 := by
            rw [e30871]
            exact fun h => wq_w_id h
          refine wp_of e106 c106_80 (rw_goto (p1 := 84) (by decide) ?_)
          exact wp_ireturn e106 c106_84 rfl ⟨rfl, rfl, v30870, rfl, ⟨by omega, by omega⟩⟩
      · refine wp_of e106 c106_24 (rw_aload (pc' := 26) (v := .ref r30620) rfl rfl rfl ?_)
        refine wp_of e106 c106_26 (xg_R (pc' := 29) lf_4_119 hW g30622 sh_35 (by decide) (by decide) ty_35_3 rfl rfl (fun r30874 q30875 g30876 => ?_))
        refine wp_of e106 c106_29 (rw_iload (pc' := 31) (z := v30848) rfl rfl ?_)
        refine wp_of e106 c106_31 (xa_I (so := 0) (pc' := 32) hW g30876 sh_39 (by decide) (ty_39 _) (by omega) (by omega) rfl (fun b30877 b30878 => ?_))
        refine wp_of e106 c106_32 (rw_iload_n (pc' := 33) (z := a3) rfl rfl ?_)
        refine wp_of e106 c106_33 (xc_S (pc' := 36) (as := [vI (H r30874 (v30848.toNat)), vI a3]) (st := []) (lm_4_122) rfl rfl (Nat.le_of_ble_eq_true rfl) rfl (by decide) (s_36 hW ⟨by omega, by omega⟩ ⟨by omega, by omega⟩) (fun R30879 T30880 H30881 p30882 => ?_))
        obtain ⟨e30883, e30885, z30886, e30884, b30887⟩ := p30882
        subst e30883
        subst e30884
        subst e30885
        show wp _ _ 106 36 [(7, vI v30848), (5, vL v30849), (4, .ref r30620), (0, .ref r0), (2, vI a2), (3, vI a3)] [vI z30886] _ H _
        refine wp_of e106 c106_36 (rw_if_eq (p1 := 53) (p2 := 39) (by decide) rfl ⟨by omega, by omega⟩ (fun c30888 => ?_) (fun c30888 => ?_))
        · refine wp_of e106 c106_53 (rw_iinc (pc' := 56) (z := v30848) (L' := [(7, vI (v30848 + 1)), (5, vL v30849), (4, .ref r30620), (0, .ref r0), (2, vI a2), (3, vI a3)]) rfl rfl rfl rfl ?_)
          refine wp_of e106 c106_56 (rw_goto (p1 := 14) (by decide) ?_)
          exact wp_lc (ks := [7, 5, 4, 0, 2, 3]) (wl_c rfl (wl_c rfl (wl_c rfl (wl_c rfl (wl_c rfl (wl_c rfl wl_n)))))) rfl (by decide) (ih30847 _ (by omega) (v30848 + 1) v30849 ⟨by omega, by omega⟩ ⟨by omega, by omega⟩ rfl)
        · refine wp_of e106 c106_39 (rw_lload (pc' := 41) (z := v30849) rfl rfl ?_)
          refine wp_of e106 c106_41 (rw_aload_n (pc' := 42) (v := .ref r0) rfl rfl rfl ?_)
          refine wp_of e106 c106_42 (xg_R (pc' := 45) lf_4_22 hW g0 sh_12 (by decide) (by decide) ty_12_2 rfl rfl (fun r30889 q30890 g30891 => ?_))
          refine wp_of e106 c106_45 (rw_iload_n (pc' := 46) (z := a2) rfl rfl ?_)
          refine wp_of e106 c106_46 (xa_R (pc' := 47) (by decide) hW g30891 sh_16 (by decide) (ty_16 _) (by omega) (by omega) rfl (fun r30892 q30893 g30894 => ?_))
          refine wp_of e106 c106_47 (rw_iload (pc' := 49) (z := v30848) rfl rfl ?_)
          refine wp_of e106 c106_49 (xa_L (pc' := 50) hW g30894 sh_17 (by decide) (ty_17 _) (by omega) (by omega) rfl (fun b30895 b30896 => ?_))
          refine wp_of e106 c106_50 (rw_laddw (pc' := 51) rfl ?_)
          obtain ⟨v30897, e30898⟩ : ∃ x : Int, x = wl_w (v30849 + (H r30892 (v30848.toNat))) := ⟨_, rfl⟩
          rw [← e30898]
          have b30899 : -9223372036854775808 ≤ v30897 ∧ v30897 ≤ 9223372036854775807 := by
            rw [e30898]
            exact wL_w _
          refine wp_of e106 c106_51 (rw_lstore (pc' := 53) (z := v30897) (L' := [(5, vL v30897), (7, vI v30848), (4, .ref r30620), (0, .ref r0), (2, vI a2), (3, vI a3)]) rfl rfl rfl ?_)
          refine wp_of e106 c106_53 (rw_iinc (pc' := 56) (z := v30848) (L' := [(7, vI (v30848 + 1)), (5, vL v30897), (4, .ref r30620), (0, .ref r0), (2, vI a2), (3, vI a3)]) rfl rfl rfl rfl ?_)
          refine wp_of e106 c106_56 (rw_goto (p1 := 14) (by decide) ?_)
          exact wp_lc (ks := [7, 5, 4, 0, 2, 3]) (wl_c rfl (wl_c rfl (wl_c rfl (wl_c rfl (wl_c rfl (wl_c rfl wl_n)))))) rfl (by decide) (ih30847 _ (by omega) (v30848 + 1) v30897 ⟨by omega, by omega⟩ ⟨by omega, by omega⟩ rfl)
  exact wp_lc (ks := [7, 5, 4, 0, 1, 2, 3]) (wl_c rfl (wl_c rfl (wl_c rfl (wl_c rfl (wl_c rfl (wl_c rfl wl_n)))))) rfl (by decide) (lp30845 _ 0 0 ⟨by omega, by omega⟩ ⟨by omega, by omega⟩ rfl)
/-! StrikeAwake.chance(II)I -/
theorem e105 : wq_en 105 = some (0, 4, false, some FieldType.int) := rfl
theorem c105_0 : mc_cd 105 0 = some (.aload_n 0, 1) := by decide +kernel
theorem c105_1 : mc_cd 105 1 = some (.aload_n 0, 1) := by decide +kernel
theorem c105_2 : mc_cd 105 2 = some (.iload_n 1, 1) := by decide +kernel
theorem c105_3 : mc_cd 105 3 = some (.invokevirtual 105, 3) := by decide +kernel
theorem c105_6 : mc_cd 105 6 = some (.ifCond .eq 15, 3) := by decide +kernel
theorem c105_9 : mc_cd 105 9 = some (.aload_n 0, 1) := by decide +kernel
theorem c105_10 : mc_cd 105 10 = some (.iload_n 2, 1) := by decide +kernel
theorem c105_11 : mc_cd 105 11 = some (.invokevirtual 132, 3) := by decide +kernel
theorem c105_14 : mc_cd 105 14 = some (.ifCond .eq 7, 3) := by decide +kernel
theorem c105_17 : mc_cd 105 17 = some (.iconst 1, 1) := by decide +kernel
theorem c105_18 : mc_cd 105 18 = some (.goto 4, 3) := by decide +kernel
theorem c105_21 : mc_cd 105 21 = some (.iconst 0, 1) := by decide +kernel
theorem c105_22 : mc_cd 105 22 = some (.invokevirtual 198, 3) := by decide +kernel
theorem c105_25 : mc_cd 105 25 = some (.istore_n 3, 1) := by decide +kernel
theorem c105_26 : mc_cd 105 26 = some (.iload_n 3, 1) := by decide +kernel
theorem c105_27 : mc_cd 105 27 = some (.ifCond .eq 9, 3) := by decide +kernel
theorem c105_30 : mc_cd 105 30 = some (.aload_n 0, 1) := by decide +kernel
theorem c105_31 : mc_cd 105 31 = some (.iload_n 3, 1) := by decide +kernel
theorem c105_32 : mc_cd 105 32 = some (.invokevirtual 70, 3) := by decide +kernel
theorem c105_35 : mc_cd 105 35 = some (.ireturn, 1) := by decide +kernel
theorem c105_36 : mc_cd 105 36 = some (.aload_n 0, 1) := by decide +kernel
theorem c105_37 : mc_cd 105 37 = some (.aload_n 0, 1) := by decide +kernel
theorem c105_38 : mc_cd 105 38 = some (.getfield 30, 3) := by decide +kernel
theorem c105_41 : mc_cd 105 41 = some (.aload_n 0, 1) := by decide +kernel
theorem c105_42 : mc_cd 105 42 = some (.getfield 51, 3) := by decide +kernel
theorem c105_45 : mc_cd 105 45 = some (.iload_n 1, 1) := by decide +kernel
theorem c105_46 : mc_cd 105 46 = some (.iload_n 2, 1) := by decide +kernel
theorem c105_47 : mc_cd 105 47 = some (.invokevirtual 204, 3) := by decide +kernel
theorem c105_50 : mc_cd 105 50 = some (.invokevirtual 99, 3) := by decide +kernel
theorem c105_53 : mc_cd 105 53 = some (.ireturn, 1) := by decide +kernel
abbrev q_105 (r0 : Nat) (a1 : Int) (a2 : Int) (T : wq_T) (H : wq_H) : Option Value → wq_T → wq_H → Prop := fun r T' H' => T = T' ∧ WT T H' ∧ wfr [(12, 5), (12, 6), (12, 7), (12, 8), (12, 9), (1, 10), (6, 5), (8, 999), (10, 999), (15, 999), (9, 999), (18, 999), (19, 999), (7, 999), (11, 999), (17, 999), (13, 999)] T H H' ∧ ∃ z : Int, some (vI z) = r ∧ ((-2147483648) ≤ z ∧ z ≤ 2147483647) ∧ (H' r0 10 ≠ 4)
set_option maxHeartbeats 4000000 in
theorem s_105 {kt : Nat → Option mc_E} {T : wq_T} {H : wq_H} {r0 : Nat} {a1 : Int} {a2 : Int} (hW : WT T H) (g0 : T.2.2.2 r0 = some 1) (i1 : (-2147483648) ≤ a1 ∧ a1 ≤ 2147483647) (i2 : (-2147483648) ≤ a2 ∧ a2 ≤ 2147483647) : wpc kt 7 105 [.ref r0, vI a1, vI a2] T H (q_105 r0 a1 a2 T H) := by
  refine wp_enter e105 (Nat.le_of_ble_eq_true rfl) rfl ?_
  have f0 : wfr [(12, 5), (12, 6), (12, 7), (12, 8), (12, 9), (1, 10), (6, 5), (8, 999), (10, 999), (15, 999), (9, 999), (18, 999), (19, 999), (7, 999), (11, 999), (17, 999), (13, 999)] T H H := wfr.rf
  show wp _ _ 105 0 [(0, .ref r0), (1, vI a1), (2, vI a2)] [] _ H _
  refine wp_of e105 c105_0 (rw_aload_n (pc' := 1) (v := .ref r0) rfl rfl rfl ?_)
  refine wp_of e105 c105_1 (rw_aload_n (pc' := 2) (v := .ref r0) rfl rfl rfl ?_)
  refine wp_of e105 c105_2 (rw_iload_n (pc' := 3) (z := a1) rfl rfl ?_)
  refine wp_of e105 c105_3 (xc_V (pc' := 6) (r := r0) (as := [vI a1]) (st := [.ref r0]) (lm_0_105) rfl rfl (Nat.le_of_ble_eq_true rfl) hW g0 sh_1 (by decide) rfl (by decide) (s_55 hW g0 ⟨by omega, by omega⟩) (fun R31027 T31028 H31029 p31030 => ?_))
  obtain ⟨e31031, e31033, z31035, e31032, b31036, p31034⟩ := p31030
  subst e31031
  subst e31032
  subst e31033
  show wp _ _ 105 6 [(0, .ref r0), (1, vI a1), (2, vI a2)] [vI z31035, .ref r0] _ H _
  refine wp_of e105 c105_6 (rw_if_eq (p1 := 21) (p2 := 9) (by decide) rfl ⟨by omega, by omega⟩ (fun c31037 => ?_) (fun c31037 => ?_))
  · refine wp_of e105 c105_21 (rw_iconst (pc' := 22) rfl ?_)
    refine wp_of e105 c105_22 (xc_V (pc' := 25) (r := r0) (as := [vI 0]) (st := []) (lm_0_198) rfl rfl (Nat.le_of_ble_eq_true rfl) hW g0 sh_1 (by decide) rfl (by decide) (s_102 hW g0 ⟨by omega, by omega⟩) (fun R31038 T31039 H31040 p31041 => ?_))
    obtain ⟨e31042, w31044, f31045, z31048, e31043, b31049, p31046, p31047⟩ := p31041
    subst e31042
    subst e31043
    have f31050 := f0.tr f31045 rfl
    show wp _ _ 105 25 [(0, .ref r0), (1, vI a1), (2, vI a2)] [vI z31048] _ H31040 _
    refine wp_of e105 c105_25 (rw_istore_n (pc' := 26) (z := z31048) (L' := [(3, vI z31048), (0, .ref r0), (1, vI a1), (2, vI a2)]) rfl rfl rfl ?_)
    refine wp_of e105 c105_26 (rw_iload_n (pc' := 27) (z := z31048) rfl rfl ?_)
    refine wp_of e105 c105_27 (rw_if_eq (p1 := 36) (p2 := 30) (by decide) rfl ⟨by omega, by omega⟩ (fun c31051 => ?_) (fun c31051 => ?_))
    · exfalso
      omega
    · refine wp_of e105 c105_30 (rw_aload_n (pc' := 31) (v := .ref r0) rfl rfl rfl ?_)
      refine wp_of e105 c105_31 (rw_iload_n (pc' := 32) (z := z31048) rfl rfl ?_)
      refine wp_of e105 c105_32 (xc_V (pc' := 35) (r := r0) (as := [vI z31048]) (st := []) (lm_0_70) rfl rfl (Nat.le_of_ble_eq_true rfl) w31044 g0 sh_1 (by decide) rfl (by decide) (s_12 w31044 g0 ⟨by omega, by omega⟩) (fun R31052 T31053 H31054 p31055 => ?_))
      obtain ⟨e31056, w31058, f31059, z31061, e31057, b31062, p31060⟩ := p31055
      subst e31056
      subst e31057
      have f31063 := f31050.tr f31059 rfl
      show wp _ _ 105 35 [(3, vI z31048), (0, .ref r0), (1, vI a1), (2, vI a2)] [vI z31061] _ H31054 _
      exact wp_ireturn e105 c105_35 rfl ⟨rfl, w31058, f31063, z31061, rfl, ⟨by omega, by omega⟩, by omega⟩
  · refine wp_of e105 c105_9 (rw_aload_n (pc' := 10) (v := .ref r0) rfl rfl rfl ?_)
    refine wp_of e105 c105_10 (rw_iload_n (pc' := 11) (z := a2) rfl rfl ?_)
    refine wp_of e105 c105_11 (xc_V (pc' := 14) (r := r0) (as := [vI a2]) (st := [.ref r0]) (lm_0_132) rfl rfl (Nat.le_of_ble_eq_true rfl) hW g0 sh_1 (by decide) rfl (by decide) (s_60 hW g0 ⟨by omega, by omega⟩) (fun R31064 T31065 H31066 p31067 => ?_))
    obtain ⟨e31068, e31070, z31072, e31069, b31073, p31071⟩ := p31067
    subst e31068
    subst e31069
    subst e31070
    show wp _ _ 105 14 [(0, .ref r0), (1, vI a1), (2, vI a2)] [vI z31072, .ref r0] _ H _
    refine wp_of e105 c105_14 (rw_if_eq (p1 := 21) (p2 := 17) (by decide) rfl ⟨by omega, by omega⟩ (fun c31074 => ?_) (fun c31074 => ?_))
    · refine wp_of e105 c105_21 (rw_iconst (pc' := 22) rfl ?_)
      refine wp_of e105 c105_22 (xc_V (pc' := 25) (r := r0) (as := [vI 0]) (st := []) (lm_0_198) rfl rfl (Nat.le_of_ble_eq_true rfl) hW g0 sh_1 (by decide) rfl (by decide) (s_102 hW g0 ⟨by omega, by omega⟩) (fun R31075 T31076 H31077 p31078 => ?_))
      obtain ⟨e31079, w31081, f31082, z31085, e31080, b31086, p31083, p31084⟩ := p31078
      subst e31079
      subst e31080
      have f31087 := f0.tr f31082 rfl
      show wp _ _ 105 25 [(0, .ref r0), (1, vI a1), (2, vI a2)] [vI z31085] _ H31077 _
      refine wp_of e105 c105_25 (rw_istore_n (pc' := 26) (z := z31085) (L' := [(3, vI z31085), (0, .ref r0), (1, vI a1), (2, vI a2)]) rfl rfl rfl ?_)
      refine wp_of e105 c105_26 (rw_iload_n (pc' := 27) (z := z31085) rfl rfl ?_)
      refine wp_of e105 c105_27 (rw_if_eq (p1 := 36) (p2 := 30) (by decide) rfl ⟨by omega, by omega⟩ (fun c31088 => ?_) (fun c31088 => ?_))
      · exfalso
        omega
      · refine wp_of e105 c105_30 (rw_aload_n (pc' := 31) (v := .ref r0) rfl rfl rfl ?_)
        refine wp_of e105 c105_31 (rw_iload_n (pc' := 32) (z := z31085) rfl rfl ?_)
        refine wp_of e105 c105_32 (xc_V (pc' := 35) (r := r0) (as := [vI z31085]) (st := []) (lm_0_70) rfl rfl (Nat.le_of_ble_eq_true rfl) w31081 g0 sh_1 (by decide) rfl (by decide) (s_12 w31081 g0 ⟨by omega, by omega⟩) (fun R31089 T31090 H31091 p31092 => ?_))
        obtain ⟨e31093, w31095, f31096, z31098, e31094, b31099, p31097⟩ := p31092
        subst e31093
        subst e31094
        have f31100 := f31087.tr f31096 rfl
        show wp _ _ 105 35 [(3, vI z31085), (0, .ref r0), (1, vI a1), (2, vI a2)] [vI z31098] _ H31091 _
        exact wp_ireturn e105 c105_35 rfl ⟨rfl, w31095, f31100, z31098, rfl, ⟨by omega, by omega⟩, by omega⟩
    · refine wp_of e105 c105_17 (rw_iconst (pc' := 18) rfl ?_)
      refine wp_of e105 c105_18 (rw_goto (p1 := 22) (by decide) ?_)
      refine wp_of e105 c105_22 (xc_V (pc' := 25) (r := r0) (as := [vI 1]) (st := []) (lm_0_198) rfl rfl (Nat.le_of_ble_eq_true rfl) hW g0 sh_1 (by decide) rfl (by decide) (s_102 hW g0 ⟨by omega, by omega⟩) (fun R31101 T31102 H31103 p31104 => ?_))
      obtain ⟨e31105, w31107, f31108, z31111, e31106, b31112, p31109, p31110⟩ := p31104
      subst e31105
      subst e31106
      have f31113 := f0.tr f31108 rfl
      show wp _ _ 105 25 [(0, .ref r0), (1, vI a1), (2, vI a2)] [vI z31111] _ H31103 _
      refine wp_of e105 c105_25 (rw_istore_n (pc' := 26) (z := z31111) (L' := [(3, vI z31111), (0, .ref r0), (1, vI a1), (2, vI a2)]) rfl rfl rfl ?_)
      refine wp_of e105 c105_26 (rw_iload_n (pc' := 27) (z := z31111) rfl rfl ?_)
      refine wp_of e105 c105_27 (rw_if_eq (p1 := 36) (p2 := 30) (by decide) rfl ⟨by omega, by omega⟩ (fun c31114 => ?_) (fun c31114 => ?_))
      · refine wp_of e105 c105_36 (rw_aload_n (pc' := 37) (v := .ref r0) rfl rfl rfl ?_)
        refine wp_of e105 c105_37 (rw_aload_n (pc' := 38) (v := .ref r0) rfl rfl rfl ?_)
        refine wp_of e105 c105_38 (xg_R (pc' := 41) lf_0_30 w31107 g0 sh_1 (by decide) (by decide) ty_1_3 rfl rfl (fun r31115 q31116 g31117 => ?_))
        refine wp_of e105 c105_41 (rw_aload_n (pc' := 42) (v := .ref r0) rfl rfl rfl ?_)
        refine wp_of e105 c105_42 (xg_R (pc' := 45) lf_0_51 w31107 g0 sh_1 (by decide) (by decide) ty_1_6 rfl rfl (fun r31118 q31119 g31120 => ?_))
        refine wp_of e105 c105_45 (rw_iload_n (pc' := 46) (z := a1) rfl rfl ?_)
        refine wp_of e105 c105_46 (rw_iload_n (pc' := 47) (z := a2) rfl rfl ?_)
        refine wp_of e105 c105_47 (xc_V (pc' := 50) (r := r31115) (as := [.ref r31118, vI a1, vI a2]) (st := [.ref r0]) (lm_0_204) rfl rfl (Nat.le_of_ble_eq_true rfl) w31107 g31117 sh_12 (by decide) rfl (by decide) (s_106 w31107 g31117 g31120 ⟨by omega, by omega⟩ ⟨by omega, by omega⟩) (fun R31121 T31122 H31123 p31124 => ?_))
        obtain ⟨e31125, e31127, z31128, e31126, b31129⟩ := p31124
        subst e31125
        subst e31126
        subst e31127
        show wp _ _ 105 50 [(3, vI z31111), (0, .ref r0), (1, vI a1), (2, vI a2)] [vI z31128, .ref r0] _ H31103 _
        refine wp_of e105 c105_50 (xc_V (pc' := 53) (r := r0) (as := [vI z31128]) (st := []) (lm_0_99) rfl rfl (Nat.le_of_ble_eq_true rfl) w31107 g0 sh_1 (by decide) rfl (by decide) (s_51 w31107 g0 ⟨by omega, by omega⟩) (fun R31130 T31131 H31132 p31133 => ?_))
        obtain ⟨e31134, w31136, f31137, z31139, e31135, b31140, p31138⟩ := p31133
        subst e31134
        subst e31135
        have f31141 := f31113.tr f31137 rfl
        show wp _ _ 105 53 [(3, vI z31111), (0, .ref r0), (1, vI a1), (2, vI a2)] [vI z31139] _ H31132 _
        exact wp_ireturn e105 c105_53 rfl ⟨rfl, w31136, f31141, z31139, rfl, ⟨by omega, by omega⟩, by omega⟩
      · refine wp_of e105 c105_30 (rw_aload_n (pc' := 31) (v := .ref r0) rfl rfl rfl ?_)
        refine wp_of e105 c105_31 (rw_iload_n (pc' := 32) (z := z31111) rfl rfl ?_)
        refine wp_of e105 c105_32 (xc_V (pc' := 35) (r := r0) (as := [vI z31111]) (st := []) (lm_0_70) rfl rfl (Nat.le_of_ble_eq_true rfl) w31107 g0 sh_1 (by decide) rfl (by decide) (s_12 w31107 g0 ⟨by omega, by omega⟩) (fun R31142 T31143 H31144 p31145 => ?_))
        obtain ⟨e31146, w31148, f31149, z31151, e31147, b31152, p31150⟩ := p31145
        subst e31146
        subst e31147
        have f31153 := f31113.tr f31149 rfl
        show wp _ _ 105 35 [(3, vI z31111), (0, .ref r0), (1, vI a1), (2, vI a2)] [vI z31151] _ H31144 _
        exact wp_ireturn e105 c105_35 rfl ⟨rfl, w31148, f31153, z31151, rfl, ⟨by omega, by omega⟩, by omega⟩
/-! StrikeAwake.likeliest(I)I -/
theorem e107 : wq_en 107 = some (0, 3, false, some FieldType.int) := rfl
theorem c107_0 : mc_cd 107 0 = some (.aload_n 0, 1) := by decide +kernel
theorem c107_1 : mc_cd 107 1 = some (.aload_n 0, 1) := by decide +kernel
theorem c107_2 : mc_cd 107 2 = some (.iload_n 1, 1) := by decide +kernel
theorem c107_3 : mc_cd 107 3 = some (.invokevirtual 105, 3) := by decide +kernel
theorem c107_6 : mc_cd 107 6 = some (.invokevirtual 198, 3) := by decide +kernel
theorem c107_9 : mc_cd 107 9 = some (.istore_n 2, 1) := by decide +kernel
theorem c107_10 : mc_cd 107 10 = some (.iload_n 2, 1) := by decide +kernel
theorem c107_11 : mc_cd 107 11 = some (.ifCond .eq 9, 3) := by decide +kernel
theorem c107_14 : mc_cd 107 14 = some (.aload_n 0, 1) := by decide +kernel
theorem c107_15 : mc_cd 107 15 = some (.iload_n 2, 1) := by decide +kernel
theorem c107_16 : mc_cd 107 16 = some (.invokevirtual 70, 3) := by decide +kernel
theorem c107_19 : mc_cd 107 19 = some (.ireturn, 1) := by decide +kernel
theorem c107_20 : mc_cd 107 20 = some (.aload_n 0, 1) := by decide +kernel
theorem c107_21 : mc_cd 107 21 = some (.aload_n 0, 1) := by decide +kernel
theorem c107_22 : mc_cd 107 22 = some (.getfield 51, 3) := by decide +kernel
theorem c107_25 : mc_cd 107 25 = some (.aload_n 0, 1) := by decide +kernel
theorem c107_26 : mc_cd 107 26 = some (.getfield 30, 3) := by decide +kernel
theorem c107_29 : mc_cd 107 29 = some (.getfield 207, 3) := by decide +kernel
theorem c107_32 : mc_cd 107 32 = some (.iload_n 1, 1) := by decide +kernel
theorem c107_33 : mc_cd 107 33 = some (.invokevirtual 183, 3) := by decide +kernel
theorem c107_36 : mc_cd 107 36 = some (.invokevirtual 99, 3) := by decide +kernel
theorem c107_39 : mc_cd 107 39 = some (.ireturn, 1) := by decide +kernel
abbrev q_107 (r0 : Nat) (a1 : Int) (T : wq_T) (H : wq_H) : Option Value → wq_T → wq_H → Prop := fun r T' H' => T = T' ∧ WT T H' ∧ wfr [(12, 5), (12, 6), (12, 7), (12, 8), (12, 9), (1, 10), (6, 5), (8, 999), (10, 999), (15, 999), (9, 999), (18, 999), (19, 999), (7, 999), (11, 999), (17, 999), (13, 999)] T H H' ∧ ∃ z : Int, some (vI z) = r ∧ ((-2147483648) ≤ z ∧ z ≤ 2147483647) ∧ (H' r0 10 ≠ 4)
set_option maxHeartbeats 4000000 in
theorem s_107 {kt : Nat → Option mc_E} {T : wq_T} {H : wq_H} {r0 : Nat} {a1 : Int} (hW : WT T H) (g0 : T.2.2.2 r0 = some 1) (i1 : (-2147483648) ≤ a1 ∧ a1 ≤ 2147483647) : wpc kt 7 107 [.ref r0, vI a1] T H (q_107 r0 a1 T H) := by
  refine wp_enter e107 (Nat.le_of_ble_eq_true rfl) rfl ?_
  have f0 : wfr [(12, 5), (12, 6), (12, 7), (12, 8), (12, 9), (1, 10), (6, 5), (8, 999), (10, 999), (15, 999), (9, 999), (18, 999), (19, 999), (7, 999), (11, 999), (17, 999), (13, 999)] T H H := wfr.rf
  show wp _ _ 107 0 [(0, .ref r0), (1, vI a1)] [] _ H _
  refine wp_of e107 c107_0 (rw_aload_n (pc' := 1) (v := .ref r0) rfl rfl rfl ?_)
  refine wp_of e107 c107_1 (rw_aload_n (pc' := 2) (v := .ref r0) rfl rfl rfl ?_)
  refine wp_of e107 c107_2 (rw_iload_n (pc' := 3) (z := a1) rfl rfl ?_)
  refine wp_of e107 c107_3 (xc_V (pc' := 6) (r := r0) (as := [vI a1]) (st := [.ref r0]) (lm_0_105) rfl rfl (Nat.le_of_ble_eq_true rfl) hW g0 sh_1 (by decide) rfl (by decide) (s_55 hW g0 ⟨by omega, by omega⟩) (fun R31219 T31220 H31221 p31222 => ?_))
  obtain ⟨e31223, e31225, z31227, e31224, b31228, p31226⟩ := p31222
  subst e31223
  subst e31224
  subst e31225
  show wp _ _ 107 6 [(0, .ref r0), (1, vI a1)] [vI z31227, .ref r0] _ H _
  refine wp_of e107 c107_6 (xc_V (pc' := 9) (r := r0) (as := [vI z31227]) (st := []) (lm_0_198) rfl rfl (Nat.le_of_ble_eq_true rfl) hW g0 sh_1 (by decide) rfl (by decide) (s_102 hW g0 ⟨by omega, by omega⟩) (fun R31229 T31230 H31231 p31232 => ?_))
  obtain ⟨e31233, w31235, f31236, z31239, e31234, b31240, p31237, p31238⟩ := p31232
  subst e31233
  subst e31234
  have f31241 := f0.tr f31236 rfl
  show wp _ _ 107 9 [(0, .ref r0), (1, vI a1)] [vI z31239] _ H31231 _
  refine wp_of e107 c107_9 (rw_istore_n (pc' := 10) (z := z31239) (L' := [(2, vI z31239), (0, .ref r0), (1, vI a1)]) rfl rfl rfl ?_)
  refine wp_of e107 c107_10 (rw_iload_n (pc' := 11) (z := z31239) rfl rfl ?_)
  refine wp_of e107 c107_11 (rw_if_eq (p1 := 20) (p2 := 14) (by decide) rfl ⟨by omega, by omega⟩ (fun c31242 => ?_) (fun c31242 => ?_))
  · refine wp_of e107 c107_20 (rw_aload_n (pc' := 21) (v := .ref r0) rfl rfl rfl ?_)
    refine wp_of e107 c107_21 (rw_aload_n (pc' := 22) (v := .ref r0) rfl rfl rfl ?_)
    refine wp_of e107 c107_22 (xg_R (pc' := 25) lf_0_51 w31235 g0 sh_1 (by decide) (by decide) ty_1_6 rfl rfl (fun r31243 q31244 g31245 => ?_))
    refine wp_of e107 c107_25 (rw_aload_n (pc' := 26) (v := .ref r0) rfl rfl rfl ?_)
    refine wp_of e107 c107_26 (xg_R (pc' := 29) lf_0_30 w31235 g0 sh_1 (by decide) (by decide) ty_1_3 rfl rfl (fun r31246 q31247 g31248 => ?_))
    refine wp_of e107 c107_29 (xg_I (pc' := 32) lf_0_207 w31235 g31248 sh_12 (by decide) (by decide) ty_12_7 rfl rfl (fun b31249 b31250 => ?_))
    refine wp_of e107 c107_32 (rw_iload_n (pc' := 33) (z := a1) rfl rfl ?_)
    refine wp_of e107 c107_33 (xc_V (pc' := 36) (r := r31243) (as := [vI (H31231 r31246 7), vI a1]) (st := [.ref r0]) (lm_0_183) rfl rfl (Nat.le_of_ble_eq_true rfl) w31235 g31245 sh_27 (by decide) rfl (by decide) (s_96 w31235 g31245 ⟨by omega, by omega⟩ ⟨by omega, by omega⟩) (fun R31251 T31252 H31253 p31254 => ?_))
    obtain ⟨e31255, e31257, z31258, e31256, b31259⟩ := p31254
    subst e31255
    subst e31256
    subst e31257
    show wp _ _ 107 36 [(2, vI z31239), (0, .ref r0), (1, vI a1)] [vI z31258, .ref r0] _ H31231 _
    refine wp_of e107 c107_36 (xc_V (pc' := 39) (r := r0) (as := [vI z31258]) (st := []) (lm_0_99) rfl rfl (Nat.le_of_ble_eq_true rfl) w31235 g0 sh_1 (by decide) rfl (by decide) (s_51 w31235 g0 ⟨by omega, by omega⟩) (fun R31260 T31261 H31262 p31263 => ?_))
    obtain ⟨e31264, w31266, f31267, z31269, e31265, b31270, p31268⟩ := p31263
    subst e31264
    subst e31265
    have f31271 := f31241.tr f31267 rfl
    show wp _ _ 107 39 [(2, vI z31239), (0, .ref r0), (1, vI a1)] [vI z31269] _ H31262 _
    exact wp_ireturn e107 c107_39 rfl ⟨rfl, w31266, f31271, z31269, rfl, ⟨by omega, by omega⟩, by omega⟩
  · refine wp_of e107 c107_14 (rw_aload_n (pc' := 15) (v := .ref r0) rfl rfl rfl ?_)
    refine wp_of e107 c107_15 (rw_iload_n (pc' := 16) (z := z31239) rfl rfl ?_)
    refine wp_of e107 c107_16 (xc_V (pc' := 19) (r := r0) (as := [vI z31239]) (st := []) (lm_0_70) rfl rfl (Nat.le_of_ble_eq_true rfl) w31235 g0 sh_1 (by decide) rfl (by decide) (s_12 w31235 g0 ⟨by omega, by omega⟩) (fun R31272 T31273 H31274 p31275 => ?_))
    obtain ⟨e31276, w31278, f31279, z31281, e31277, b31282, p31280⟩ := p31275
    subst e31276
    subst e31277
    have f31283 := f31241.tr f31279 rfl
    show wp _ _ 107 19 [(2, vI z31239), (0, .ref r0), (1, vI a1)] [vI z31281] _ H31274 _
    exact wp_ireturn e107 c107_19 rfl ⟨rfl, w31278, f31283, z31281, rfl, ⟨by omega, by omega⟩, by omega⟩
/-! StrikeAwake.greatest()J -/
theorem e108 : wq_en 108 = some (0, 2, false, some FieldType.long) := rfl
theorem c108_0 : mc_cd 108 0 = some (.aload_n 0, 1) := by decide +kernel
theorem c108_1 : mc_cd 108 1 = some (.aload_n 0, 1) := by decide +kernel
theorem c108_2 : mc_cd 108 2 = some (.getfield 58, 3) := by decide +kernel
theorem c108_5 : mc_cd 108 5 = some (.invokevirtual 198, 3) := by decide +kernel
theorem c108_8 : mc_cd 108 8 = some (.istore_n 1, 1) := by decide +kernel
theorem c108_9 : mc_cd 108 9 = some (.iload_n 1, 1) := by decide +kernel
theorem c108_10 : mc_cd 108 10 = some (.ifCond .eq 10, 3) := by decide +kernel
theorem c108_13 : mc_cd 108 13 = some (.aload_n 0, 1) := by decide +kernel
theorem c108_14 : mc_cd 108 14 = some (.iload_n 1, 1) := by decide +kernel
theorem c108_15 : mc_cd 108 15 = some (.invokevirtual 70, 3) := by decide +kernel
theorem c108_18 : mc_cd 108 18 = some (.i2l, 1) := by decide +kernel
theorem c108_19 : mc_cd 108 19 = some (.lreturn, 1) := by decide +kernel
theorem c108_20 : mc_cd 108 20 = some (.aload_n 0, 1) := by decide +kernel
theorem c108_21 : mc_cd 108 21 = some (.iconst 0, 1) := by decide +kernel
theorem c108_22 : mc_cd 108 22 = some (.putfield 102, 3) := by decide +kernel
theorem c108_25 : mc_cd 108 25 = some (.aload_n 0, 1) := by decide +kernel
theorem c108_26 : mc_cd 108 26 = some (.getfield 30, 3) := by decide +kernel
theorem c108_29 : mc_cd 108 29 = some (.getfield 210, 3) := by decide +kernel
theorem c108_32 : mc_cd 108 32 = some (.lreturn, 1) := by decide +kernel
abbrev q_108 (r0 : Nat) (T : wq_T) (H : wq_H) : Option Value → wq_T → wq_H → Prop := fun r T' H' => T = T' ∧ WT T H' ∧ wfr [(12, 5), (12, 6), (12, 7), (12, 8), (12, 9), (1, 10), (6, 5), (8, 999), (10, 999), (15, 999), (9, 999), (18, 999), (19, 999), (7, 999), (11, 999), (17, 999), (13, 999)] T H H' ∧ ∃ z : Int, some (vL z) = r ∧ ((-9223372036854775808) ≤ z ∧ z ≤ 9223372036854775807) ∧ (H' r0 10 ≠ 4)
set_option maxHeartbeats 4000000 in
theorem s_108 {kt : Nat → Option mc_E} {T : wq_T} {H : wq_H} {r0 : Nat} (hW : WT T H) (g0 : T.2.2.2 r0 = some 1) : wpc kt 7 108 [.ref r0] T H (q_108 r0 T H) := by
  refine wp_enter e108 (Nat.le_of_ble_eq_true rfl) rfl ?_
  have f0 : wfr [(12, 5), (12, 6), (12, 7), (12, 8), (12, 9), (1, 10), (6, 5), (8, 999), (10, 999), (15, 999), (9, 999), (18, 999), (19, 999), (7, 999), (11, 999), (17, 999), (13, 999)] T H H := wfr.rf
  show wp _ _ 108 0 [(0, .ref r0)] [] _ H _
  refine wp_of e108 c108_0 (rw_aload_n (pc' := 1) (v := .ref r0) rfl rfl rfl ?_)
  refine wp_of e108 c108_1 (rw_aload_n (pc' := 2) (v := .ref r0) rfl rfl rfl ?_)
  refine wp_of e108 c108_2 (xg_I (pc' := 5) lf_0_58 hW g0 sh_1 (by decide) (by decide) ty_1_8 rfl rfl (fun b31322 b31323 => ?_))
  refine wp_of e108 c108_5 (xc_V (pc' := 8) (r := r0) (as := [vI (H r0 8)]) (st := []) (lm_0_198) rfl rfl (Nat.le_of_ble_eq_true rfl) hW g0 sh_1 (by decide) rfl (by decide) (s_102 hW g0 ⟨by omega, by omega⟩) (fun R31324 T31325 H31326 p31327 => ?_))
  obtain ⟨e31328, w31330, f31331, z31334, e31329, b31335, p31332, p31333⟩ := p31327
  subst e31328
  subst e31329
  have f31336 := f0.tr f31331 rfl
  show wp _ _ 108 8 [(0, .ref r0)] [vI z31334] _ H31326 _
  refine wp_of e108 c108_8 (rw_istore_n (pc' := 9) (z := z31334) (L' := [(1, vI z31334), (0, .ref r0)]) rfl rfl rfl ?_)
  refine wp_of e108 c108_9 (rw_iload_n (pc' := 10) (z := z31334) rfl rfl ?_)
  refine wp_of e108 c108_10 (rw_if_eq (p1 := 20) (p2 := 13) (by decide) rfl ⟨by omega, by omega⟩ (fun c31337 => ?_) (fun c31337 => ?_))
  · refine wp_of e108 c108_20 (rw_aload_n (pc' := 21) (v := .ref r0) rfl rfl rfl ?_)
    refine wp_of e108 c108_21 (rw_iconst (pc' := 22) rfl ?_)
    refine wp_of e108 c108_22 (xp_I (pc' := 25) lf_0_102 w31330 g0 sh_1 (by decide) (by decide) ty_1_10 rfl rfl (by omega) (by omega) ⟨by omega, by omega⟩ rfl (fun H31338 e31339 w31340 => ?_))
    have f31341 := f31336.put' e31339 g0 rfl
    have k31342 : H31338 r0 10 = 0 := wq_u_s e31339
    refine wp_of e108 c108_25 (rw_aload_n (pc' := 26) (v := .ref r0) rfl rfl rfl ?_)
    refine wp_of e108 c108_26 (xg_R (pc' := 29) lf_0_30 w31340 g0 sh_1 (by decide) (by decide) ty_1_3 rfl rfl (fun r31343 q31344 g31345 => ?_))
    refine wp_of e108 c108_29 (xg_L (pc' := 32) lf_0_210 w31340 g31345 sh_12 (by decide) (by decide) ty_12_8 rfl rfl (fun b31346 b31347 => ?_))
    exact wp_lreturn e108 c108_32 rfl ⟨rfl, w31340, f31341, H31338 r31343 8, rfl, ⟨by omega, by omega⟩, by omega⟩
  · refine wp_of e108 c108_13 (rw_aload_n (pc' := 14) (v := .ref r0) rfl rfl rfl ?_)
    refine wp_of e108 c108_14 (rw_iload_n (pc' := 15) (z := z31334) rfl rfl ?_)
    refine wp_of e108 c108_15 (xc_V (pc' := 18) (r := r0) (as := [vI z31334]) (st := []) (lm_0_70) rfl rfl (Nat.le_of_ble_eq_true rfl) w31330 g0 sh_1 (by decide) rfl (by decide) (s_12 w31330 g0 ⟨by omega, by omega⟩) (fun R31348 T31349 H31350 p31351 => ?_))
    obtain ⟨e31352, w31354, f31355, z31357, e31353, b31358, p31356⟩ := p31351
    subst e31352
    subst e31353
    have f31359 := f31336.tr f31355 rfl
    show wp _ _ 108 18 [(1, vI z31334), (0, .ref r0)] [vI z31357] _ H31350 _
    refine wp_of e108 c108_18 (rw_i2l (pc' := 19) rfl ⟨by omega, by omega⟩ ?_)
    exact wp_lreturn e108 c108_19 rfl ⟨rfl, w31354, f31359, z31357, rfl, ⟨by omega, by omega⟩, by omega⟩
/-! StrikeAwake$Census.awakeHours(LStrikeAwake$Parish;II)I -/
theorem e111 : wq_en 111 = some (4, 4, false, some FieldType.int) := rfl
theorem c111_0 : mc_cd 111 0 = some (.aload_n 0, 1) := by decide +kernel
theorem c111_1 : mc_cd 111 1 = some (.iload_n 1, 1) := by decide +kernel
theorem c111_2 : mc_cd 111 2 = some (.iload_n 2, 1) := by decide +kernel
theorem c111_3 : mc_cd 111 3 = some (.invokevirtual 135, 3) := by decide +kernel
theorem c111_6 : mc_cd 111 6 = some (.istore_n 3, 1) := by decide +kernel
theorem c111_7 : mc_cd 111 7 = some (.iload_n 3, 1) := by decide +kernel
theorem c111_8 : mc_cd 111 8 = some (.ifCond .ge 7, 3) := by decide +kernel
theorem c111_11 : mc_cd 111 11 = some (.iconst 0, 1) := by decide +kernel
theorem c111_12 : mc_cd 111 12 = some (.goto 14, 3) := by decide +kernel
theorem c111_15 : mc_cd 111 15 = some (.aload_n 0, 1) := by decide +kernel
theorem c111_16 : mc_cd 111 16 = some (.getfield 78, 3) := by decide +kernel
theorem c111_19 : mc_cd 111 19 = some (.iload_n 2, 1) := by decide +kernel
theorem c111_20 : mc_cd 111 20 = some (.aaload, 1) := by decide +kernel
theorem c111_21 : mc_cd 111 21 = some (.getfield 119, 3) := by decide +kernel
theorem c111_24 : mc_cd 111 24 = some (.iload_n 3, 1) := by decide +kernel
theorem c111_25 : mc_cd 111 25 = some (.iaload, 1) := by decide +kernel
theorem c111_26 : mc_cd 111 26 = some (.ireturn, 1) := by decide +kernel
abbrev q_111 (r0 : Nat) (a1 : Int) (a2 : Int) (T : wq_T) (H : wq_H) : Option Value → wq_T → wq_H → Prop := fun r T' H' => T = T' ∧ H = H' ∧ ∃ z : Int, some (vI z) = r ∧ ((-2147483648) ≤ z ∧ z ≤ 2147483647)
set_option maxHeartbeats 4000000 in
theorem s_111 {kt : Nat → Option mc_E} {T : wq_T} {H : wq_H} {r0 : Nat} {a1 : Int} {a2 : Int} (hW : WT T H) (g0 : T.2.2.2 r0 = some 27) (i1 : 0 ≤ a1 ∧ a1 ≤ 19999) (i2 : 0 ≤ a2 ∧ a2 ≤ 5) : wpc kt 2 111 [.ref r0, vI a1, vI a2] T H (q_111 r0 a1 a2 T H) := by
  refine wp_enter e111 (Nat.le_of_ble_eq_true rfl) rfl ?_
  show wp _ _ 111 0 [(0, .ref r0), (1, vI a1), (2, vI a2)] [] _ H _
  refine wp_of e111 c111_0 (rw_aload_n (pc' := 1) (v := .ref r0) rfl rfl rfl ?_)
  refine wp_of e111 c111_1 (rw_iload_n (pc' := 2) (z := a1) rfl rfl ?_)
  refine wp_of e111 c111_2 (rw_iload_n (pc' := 3) (z := a2) rfl rfl ?_)
  refine wp_of e111 c111_3 (xc_V (pc' := 6) (r := r0) (as := [vI a1, vI a2]) (st := []) (lm_4_135) rfl rfl (Nat.le_of_ble_eq_true rfl) hW g0 sh_27 (by decide) rfl (by decide) (s_96 hW g0 ⟨by omega, by omega⟩ ⟨by omega, by omega⟩) (fun R31381 T31382 H31383 p31384 => ?_))
  obtain ⟨e31385, e31387, z31388, e31386, b31389⟩ := p31384
  subst e31385
  subst e31386
  subst e31387
  show wp _ _ 111 6 [(0, .ref r0), (1, vI a1), (2, vI a2)] [vI z31388] _ H _
  refine wp_of e111 c111_6 (rw_istore_n (pc' := 7) (z := z31388) (L' := [(3, vI z31388), (0, .ref r0), (1, vI a1), (2, vI a2)]) rfl rfl rfl ?_)
  refine wp_of e111 c111_7 (rw_iload_n (pc' := 8) (z := z31388) rfl rfl ?_)
  refine wp_of e111 c111_8 (rw_if_ge (p1 := 15) (p2 := 11) (by decide) rfl ⟨by omega, by omega⟩ (fun c31390 => ?_) (fun c31390 => ?_))
  · refine wp_of e111 c111_15 (rw_aload_n (pc' := 16) (v := .ref r0) rfl rfl rfl ?_)
    refine wp_of e111 c111_16 (xg_R (pc' := 19) lf_4_78 hW g0 sh_27 (by decide) (by decide) ty_27_0 rfl rfl (fun r31391 q31392 g31393 => ?_))
    refine wp_of e111 c111_19 (rw_iload_n (pc' := 20) (z := a2) rfl rfl ?_)
    refine wp_of e111 c111_20 (xa_R (pc' := 21) (by decide) hW g31393 sh_28 (by decide) (ty_28 _) (by omega) (by omega) rfl (fun r31394 q31395 g31396 => ?_))
    refine wp_of e111 c111_21 (xg_R (pc' := 24) lf_4_119 hW g31396 sh_35 (by decide) (by decide) ty_35_3 rfl rfl (fun r31397 q31398 g31399 => ?_))
    refine wp_of e111 c111_24 (rw_iload_n (pc' := 25) (z := z31388) rfl rfl ?_)
    refine wp_of e111 c111_25 (xa_I (so := 0) (pc' := 26) hW g31399 sh_39 (by decide) (ty_39 _) (by omega) (by omega) rfl (fun b31400 b31401 => ?_))
    exact wp_ireturn e111 c111_26 rfl ⟨rfl, rfl, H r31397 (z31388.toNat), rfl, ⟨by omega, by omega⟩⟩
  · refine wp_of e111 c111_11 (rw_iconst (pc' := 12) rfl ?_)
    refine wp_of e111 c111_12 (rw_goto (p1 := 26) (by decide) ?_)
    exact wp_ireturn e111 c111_26 rfl ⟨rfl, rfl, 0, rfl, ⟨by omega, by omega⟩⟩
/-! StrikeAwake$Census.bothAwake(LStrikeAwake$Parish;II)I -/
theorem e110 : wq_en 110 = some (4, 6, false, some FieldType.int) := rfl
theorem c110_0 : mc_cd 110 0 = some (.iconst 0, 1) := by decide +kernel
theorem c110_1 : mc_cd 110 1 = some (.istore 4, 2) := by decide +kernel
theorem c110_3 : mc_cd 110 3 = some (.iconst 0, 1) := by decide +kernel
theorem c110_4 : mc_cd 110 4 = some (.istore 5, 2) := by decide +kernel
theorem c110_6 : mc_cd 110 6 = some (.iload 5, 2) := by decide +kernel
theorem c110_8 : mc_cd 110 8 = some (.i2l, 1) := by decide +kernel
theorem c110_9 : mc_cd 110 9 = some (.aload_n 1, 1) := by decide +kernel
theorem c110_10 : mc_cd 110 10 = some (.getfield 45, 3) := by decide +kernel
theorem c110_13 : mc_cd 110 13 = some (.lcmp, 1) := by decide +kernel
theorem c110_14 : mc_cd 110 14 = some (.ifCond .ge 46, 3) := by decide +kernel
theorem c110_17 : mc_cd 110 17 = some (.iload 5, 2) := by decide +kernel
theorem c110_19 : mc_cd 110 19 = some (.sipush 20000, 3) := by decide +kernel
theorem c110_22 : mc_cd 110 22 = some (.if_icmp .ge 38, 3) := by decide +kernel
theorem c110_25 : mc_cd 110 25 = some (.aload_n 0, 1) := by decide +kernel
theorem c110_26 : mc_cd 110 26 = some (.iload 5, 2) := by decide +kernel
theorem c110_28 : mc_cd 110 28 = some (.invokevirtual 113, 3) := by decide +kernel
theorem c110_31 : mc_cd 110 31 = some (.ifCond .eq 23, 3) := by decide +kernel
theorem c110_34 : mc_cd 110 34 = some (.iload 4, 2) := by decide +kernel
theorem c110_36 : mc_cd 110 36 = some (.aload_n 1, 1) := by decide +kernel
theorem c110_37 : mc_cd 110 37 = some (.iload 5, 2) := by decide +kernel
theorem c110_39 : mc_cd 110 39 = some (.iload_n 2, 1) := by decide +kernel
theorem c110_40 : mc_cd 110 40 = some (.invokestatic 132, 3) := by decide +kernel
theorem c110_43 : mc_cd 110 43 = some (.aload_n 1, 1) := by decide +kernel
theorem c110_44 : mc_cd 110 44 = some (.iload 5, 2) := by decide +kernel
theorem c110_46 : mc_cd 110 46 = some (.iload_n 3, 1) := by decide +kernel
theorem c110_47 : mc_cd 110 47 = some (.invokestatic 132, 3) := by decide +kernel
theorem c110_50 : mc_cd 110 50 = some (.iand, 1) := by decide +kernel
theorem c110_51 : mc_cd 110 51 = some (.ior, 1) := by decide +kernel
theorem c110_52 : mc_cd 110 52 = some (.istore 4, 2) := by decide +kernel
theorem c110_54 : mc_cd 110 54 = some (.iinc 5 1, 3) := by decide +kernel
theorem c110_57 : mc_cd 110 57 = some (.goto (-51), 3) := by decide +kernel
theorem c110_60 : mc_cd 110 60 = some (.iload 4, 2) := by decide +kernel
theorem c110_62 : mc_cd 110 62 = some (.ireturn, 1) := by decide +kernel
abbrev q_110 (r0 : Nat) (r1 : Nat) (a2 : Int) (a3 : Int) (T : wq_T) (H : wq_H) : Option Value → wq_T → wq_H → Prop := fun r T' H' => T = T' ∧ H = H' ∧ ∃ z : Int, some (vI z) = r ∧ ((-2147483648) ≤ z ∧ z ≤ 2147483647)
set_option maxHeartbeats 4000000 in
theorem s_110 {kt : Nat → Option mc_E} {T : wq_T} {H : wq_H} {r0 : Nat} {r1 : Nat} {a2 : Int} {a3 : Int} (hW : WT T H) (g0 : T.2.2.2 r0 = some 12) (g1 : T.2.2.2 r1 = some 27) (i2 : 0 ≤ a2 ∧ a2 ≤ 5) (i3 : 0 ≤ a3 ∧ a3 ≤ 5) : wpc kt 3 110 [.ref r0, .ref r1, vI a2, vI a3] T H (q_110 r0 r1 a2 a3 T H) := by
  refine wp_enter e110 (Nat.le_of_ble_eq_true rfl) rfl ?_
  show wp _ _ 110 0 [(0, .ref r0), (1, .ref r1), (2, vI a2), (3, vI a3)] [] _ H _
  refine wp_of e110 c110_0 (rw_iconst (pc' := 1) rfl ?_)
  refine wp_of e110 c110_1 (rw_istore (pc' := 3) (z := 0) (L' := [(4, vI 0), (0, .ref r0), (1, .ref r1), (2, vI a2), (3, vI a3)]) rfl rfl rfl ?_)
  refine wp_of e110 c110_3 (rw_iconst (pc' := 4) rfl ?_)
  refine wp_of e110 c110_4 (rw_istore (pc' := 6) (z := 0) (L' := [(5, vI 0), (4, vI 0), (0, .ref r0), (1, .ref r1), (2, vI a2), (3, vI a3)]) rfl rfl rfl ?_)
  have lp32032 : ∀ (n32033 : Nat) (v32035 : Int) (v32036 : Int), (0 ≤ v32035 ∧ v32035 ≤ 20000) → ((-2147483648) ≤ v32036 ∧ v32036 ≤ 2147483647) → (20000 - v32035).toNat = n32033 → wp kt 2 110 6 [(5, vI v32035), (4, vI v32036), (0, .ref r0), (1, .ref r1), (2, vI a2), (3, vI a3)] [] T H (q_110 r0 r1 a2 a3 T H) := by
    intro n32033
    induction n32033 using Nat.strongRecOn with
    | _ n32033 ih32034 =>
      intro v32035 v32036 b32039 b32040 m32041
      refine wp_of e110 c110_6 (rw_iload (pc' := 8) (z := v32035) rfl rfl ?_)
      refine wp_of e110 c110_8 (rw_i2l (pc' := 9) rfl ⟨by omega, by omega⟩ ?_)
      refine wp_of e110 c110_9 (rw_aload_n (pc' := 10) (v := .ref r1) rfl rfl rfl ?_)
      refine wp_of e110 c110_10 (xg_L (pc' := 13) lf_4_45 hW g1 sh_27 (by decide) (by decide) ty_27_18 rfl rfl (fun b32042 b32043 => ?_))
      refine wp_of e110 c110_13 (rw_lcmp (pc' := 14) rfl ⟨by omega, by omega⟩ ⟨by omega, by omega⟩ ?_)
      have b32044 := wq_cmp_b v32035 (H r1 18)
      refine wp_of e110 c110_14 (rw_if_ge (p1 := 60) (p2 := 17) (by decide) rfl ⟨by omega, by omega⟩ (fun c32045 => ?_) (fun c32045 => ?_))
      · refine wp_of e110 c110_60 (rw_iload (pc' := 62) (z := v32036) rfl rfl ?_)
        exact wp_ireturn e110 c110_62 rfl ⟨rfl, rfl, v32036, rfl, ⟨by omega, by omega⟩⟩
      · refine wp_of e110 c110_17 (rw_iload (pc' := 19) (z := v32035) rfl rfl ?_)
        refine wp_of e110 c110_19 (rw_sipush (pc' := 22) (z := 20000) rfl (by decide) ?_)
        refine wp_of e110 c110_22 (rw_icmp_ge (p1 := 60) (p2 := 25) (by decide) rfl ⟨by omega, by omega⟩ ⟨by omega, by omega⟩ (fun c32046 => ?_) (fun c32046 => ?_))
        · refine wp_of e110 c110_60 (rw_iload (pc' := 62) (z := v32036) rfl rfl ?_)
          exact wp_ireturn e110 c110_62 rfl ⟨rfl, rfl, v32036, rfl, ⟨by omega, by omega⟩⟩
        · refine wp_of e110 c110_25 (rw_aload_n (pc' := 26) (v := .ref r0) rfl rfl rfl ?_)
          refine wp_of e110 c110_26 (rw_iload (pc' := 28) (z := v32035) rfl rfl ?_)
          refine wp_of e110 c110_28 (xc_V (pc' := 31) (r := r0) (as := [vI v32035]) (st := []) (lm_4_113) rfl rfl (Nat.le_of_ble_eq_true rfl) hW g0 sh_12 (by decide) rfl (by decide) (s_95 hW g0 ⟨by omega, by omega⟩) (fun R32047 T32048 H32049 p32050 => ?_))
          obtain ⟨e32051, e32053, z32054, e32052, b32055⟩ := p32050
          subst e32051
          subst e32052
          subst e32053
          show wp _ _ 110 31 [(5, vI v32035), (4, vI v32036), (0, .ref r0), (1, .ref r1), (2, vI a2), (3, vI a3)] [vI z32054] _ H _
          refine wp_of e110 c110_31 (rw_if_eq (p1 := 54) (p2 := 34) (by decide) rfl ⟨by omega, by omega⟩ (fun c32056 => ?_) (fun c32056 => ?_))
          · refine wp_of e110 c110_54 (rw_iinc (pc' := 57) (z := v32035) (L' := [(5, vI (v32035 + 1)), (4, vI v32036), (0, .ref r0), (1, .ref r1), (2, vI a2), (3, vI a3)]) rfl rfl rfl rfl ?_)
            refine wp_of e110 c110_57 (rw_goto (p1 := 6) (by decide) ?_)
            exact wp_lc (ks := [5, 4, 0, 1, 2, 3]) (wl_c rfl (wl_c rfl (wl_c rfl (wl_c rfl (wl_c rfl (wl_c rfl wl_n)))))) rfl (by decide) (ih32034 _ (by omega) (v32035 + 1) v32036 ⟨by omega, by omega⟩ ⟨by omega, by omega⟩ rfl)
          · refine wp_of e110 c110_34 (rw_iload (pc' := 36) (z := v32036) rfl rfl ?_)
            refine wp_of e110 c110_36 (rw_aload_n (pc' := 37) (v := .ref r1) rfl rfl rfl ?_)
            refine wp_of e110 c110_37 (rw_iload (pc' := 39) (z := v32035) rfl rfl ?_)
            refine wp_of e110 c110_39 (rw_iload_n (pc' := 40) (z := a2) rfl rfl ?_)
            refine wp_of e110 c110_40 (xc_S (pc' := 43) (as := [.ref r1, vI v32035, vI a2]) (st := [vI v32036]) (lm_4_132) rfl rfl (Nat.le_of_ble_eq_true rfl) rfl (by decide) (s_111 hW g1 ⟨by omega, by omega⟩ ⟨by omega, by omega⟩) (fun R32057 T32058 H32059 p32060 => ?_))
            obtain ⟨e32061, e32063, z32064, e32062, b32065⟩ := p32060
            subst e32061
            subst e32062
            subst e32063
            show wp _ _ 110 43 [(5, vI v32035), (4, vI v32036), (0, .ref r0), (1, .ref r1), (2, vI a2), (3, vI a3)] [vI z32064, vI v32036] _ H _
            refine wp_of e110 c110_43 (rw_aload_n (pc' := 44) (v := .ref r1) rfl rfl rfl ?_)
            refine wp_of e110 c110_44 (rw_iload (pc' := 46) (z := v32035) rfl rfl ?_)
            refine wp_of e110 c110_46 (rw_iload_n (pc' := 47) (z := a3) rfl rfl ?_)
            refine wp_of e110 c110_47 (xc_S (pc' := 50) (as := [.ref r1, vI v32035, vI a3]) (st := [vI z32064, vI v32036]) (lm_4_132) rfl rfl (Nat.le_of_ble_eq_true rfl) rfl (by decide) (s_111 hW g1 ⟨by omega, by omega⟩ ⟨by omega, by omega⟩) (fun R32066 T32067 H32068 p32069 => ?_))
            obtain ⟨e32070, e32072, z32073, e32071, b32074⟩ := p32069
            subst e32070
            subst e32071
            subst e32072
            show wp _ _ 110 50 [(5, vI v32035), (4, vI v32036), (0, .ref r0), (1, .ref r1), (2, vI a2), (3, vI a3)] [vI z32073, vI z32064, vI v32036] _ H _
            refine wp_of e110 c110_50 (rw_iand (pc' := 51) rfl ?_)
            obtain ⟨v32075, e32076⟩ : ∃ x : Int, x = wq_and z32064 z32073 := ⟨_, rfl⟩
            rw [← e32076]
            have b32077 : -2147483648 ≤ v32075 ∧ v32075 ≤ 2147483647 := by
              rw [e32076]
              exact wI_and _ _
            refine wp_of e110 c110_51 (rw_ior (pc' := 52) rfl ?_)
            obtain ⟨v32078, e32079⟩ : ∃ x : Int, x = wq_or v32036 v32075 := ⟨_, rfl⟩
            rw [← e32079]
            have b32080 : -2147483648 ≤ v32078 ∧ v32078 ≤ 2147483647 := by
              rw [e32079]
              exact wI_or _ _
            refine wp_of e110 c110_52 (rw_istore (pc' := 54) (z := v32078) (L' := [(4, vI v32078), (5, vI v32035), (0, .ref r0), (1, .ref r1), (2, vI a2), (3, vI a3)]) rfl rfl rfl ?_)
            refine wp_of e110 c110_54 (rw_iinc (pc' := 57) (z := v32035) (L' := [(5, vI (v32035 + 1)), (4, vI v32078), (0, .ref r0), (1, .ref r1), (2, vI a2), (3, vI a3)]) rfl rfl rfl rfl ?_)
            refine wp_of e110 c110_57 (rw_goto (p1 := 6) (by decide) ?_)
            exact wp_lc (ks := [5, 4, 0, 1, 2, 3]) (wl_c rfl (wl_c rfl (wl_c rfl (wl_c rfl (wl_c rfl (wl_c rfl wl_n)))))) rfl (by decide) (ih32034 _ (by omega) (v32035 + 1) v32078 ⟨by omega, by omega⟩ ⟨by omega, by omega⟩ rfl)
  exact wp_lc (ks := [5, 4, 0, 1, 2, 3]) (wl_c rfl (wl_c rfl (wl_c rfl (wl_c rfl (wl_c rfl (wl_c rfl wl_n)))))) rfl (by decide) (lp32032 _ 0 0 ⟨by omega, by omega⟩ ⟨by omega, by omega⟩ rfl)
/-! StrikeAwake.together(II)I -/
theorem e109 : wq_en 109 = some (0, 4, false, some FieldType.int) := rfl
theorem c109_0 : mc_cd 109 0 = some (.aload_n 0, 1) := by decide +kernel
theorem c109_1 : mc_cd 109 1 = some (.aload_n 0, 1) := by decide +kernel
theorem c109_2 : mc_cd 109 2 = some (.iload_n 1, 1) := by decide +kernel
theorem c109_3 : mc_cd 109 3 = some (.invokevirtual 105, 3) := by decide +kernel
theorem c109_6 : mc_cd 109 6 = some (.ifCond .eq 20, 3) := by decide +kernel
theorem c109_9 : mc_cd 109 9 = some (.aload_n 0, 1) := by decide +kernel
theorem c109_10 : mc_cd 109 10 = some (.iload_n 2, 1) := by decide +kernel
theorem c109_11 : mc_cd 109 11 = some (.invokevirtual 105, 3) := by decide +kernel
theorem c109_14 : mc_cd 109 14 = some (.ifCond .eq 12, 3) := by decide +kernel
theorem c109_17 : mc_cd 109 17 = some (.iload_n 1, 1) := by decide +kernel
theorem c109_18 : mc_cd 109 18 = some (.iload_n 2, 1) := by decide +kernel
theorem c109_19 : mc_cd 109 19 = some (.if_icmp .eq 7, 3) := by decide +kernel
theorem c109_22 : mc_cd 109 22 = some (.iconst 1, 1) := by decide +kernel
theorem c109_23 : mc_cd 109 23 = some (.goto 4, 3) := by decide +kernel
theorem c109_26 : mc_cd 109 26 = some (.iconst 0, 1) := by decide +kernel
theorem c109_27 : mc_cd 109 27 = some (.invokevirtual 174, 3) := by decide +kernel
theorem c109_30 : mc_cd 109 30 = some (.istore_n 3, 1) := by decide +kernel
theorem c109_31 : mc_cd 109 31 = some (.iload_n 3, 1) := by decide +kernel
theorem c109_32 : mc_cd 109 32 = some (.ifCond .eq 9, 3) := by decide +kernel
theorem c109_35 : mc_cd 109 35 = some (.aload_n 0, 1) := by decide +kernel
theorem c109_36 : mc_cd 109 36 = some (.iload_n 3, 1) := by decide +kernel
theorem c109_37 : mc_cd 109 37 = some (.invokevirtual 70, 3) := by decide +kernel
theorem c109_40 : mc_cd 109 40 = some (.ireturn, 1) := by decide +kernel
theorem c109_41 : mc_cd 109 41 = some (.aload_n 0, 1) := by decide +kernel
theorem c109_42 : mc_cd 109 42 = some (.aload_n 0, 1) := by decide +kernel
theorem c109_43 : mc_cd 109 43 = some (.getfield 30, 3) := by decide +kernel
theorem c109_46 : mc_cd 109 46 = some (.aload_n 0, 1) := by decide +kernel
theorem c109_47 : mc_cd 109 47 = some (.getfield 51, 3) := by decide +kernel
theorem c109_50 : mc_cd 109 50 = some (.iload_n 1, 1) := by decide +kernel
theorem c109_51 : mc_cd 109 51 = some (.iload_n 2, 1) := by decide +kernel
theorem c109_52 : mc_cd 109 52 = some (.invokevirtual 213, 3) := by decide +kernel
theorem c109_55 : mc_cd 109 55 = some (.invokevirtual 99, 3) := by decide +kernel
theorem c109_58 : mc_cd 109 58 = some (.ireturn, 1) := by decide +kernel
abbrev q_109 (r0 : Nat) (a1 : Int) (a2 : Int) (T : wq_T) (H : wq_H) : Option Value → wq_T → wq_H → Prop := fun r T' H' => T = T' ∧ WT T H' ∧ wfr [(12, 5), (12, 6), (12, 7), (12, 8), (12, 9), (1, 10), (6, 5), (8, 999), (10, 999), (15, 999), (9, 999), (18, 999), (19, 999), (7, 999), (11, 999), (17, 999), (13, 999)] T H H' ∧ ∃ z : Int, some (vI z) = r ∧ ((-2147483648) ≤ z ∧ z ≤ 2147483647) ∧ (H' r0 10 ≠ 4)
set_option maxHeartbeats 4000000 in
theorem s_109 {kt : Nat → Option mc_E} {T : wq_T} {H : wq_H} {r0 : Nat} {a1 : Int} {a2 : Int} (hW : WT T H) (g0 : T.2.2.2 r0 = some 1) (i1 : (-2147483648) ≤ a1 ∧ a1 ≤ 2147483647) (i2 : (-2147483648) ≤ a2 ∧ a2 ≤ 2147483647) : wpc kt 6 109 [.ref r0, vI a1, vI a2] T H (q_109 r0 a1 a2 T H) := by
  refine wp_enter e109 (Nat.le_of_ble_eq_true rfl) rfl ?_
  have f0 : wfr [(12, 5), (12, 6), (12, 7), (12, 8), (12, 9), (1, 10), (6, 5), (8, 999), (10, 999), (15, 999), (9, 999), (18, 999), (19, 999), (7, 999), (11, 999), (17, 999), (13, 999)] T H H := wfr.rf
  show wp _ _ 109 0 [(0, .ref r0), (1, vI a1), (2, vI a2)] [] _ H _
  refine wp_of e109 c109_0 (rw_aload_n (pc' := 1) (v := .ref r0) rfl rfl rfl ?_)
  refine wp_of e109 c109_1 (rw_aload_n (pc' := 2) (v := .ref r0) rfl rfl rfl ?_)
  refine wp_of e109 c109_2 (rw_iload_n (pc' := 3) (z := a1) rfl rfl ?_)
  refine wp_of e109 c109_3 (xc_V (pc' := 6) (r := r0) (as := [vI a1]) (st := [.ref r0]) (lm_0_105) rfl rfl (Nat.le_of_ble_eq_true rfl) hW g0 sh_1 (by decide) rfl (by decide) (s_55 hW g0 ⟨by omega, by omega⟩) (fun R32235 T32236 H32237 p32238 => ?_))
  obtain ⟨e32239, e32241, z32243, e32240, b32244, p32242⟩ := p32238
  subst e32239
  subst e32240
  subst e32241
  show wp _ _ 109 6 [(0, .ref r0), (1, vI a1), (2, vI a2)] [vI z32243, .ref r0] _ H _
  refine wp_of e109 c109_6 (rw_if_eq (p1 := 26) (p2 := 9) (by decide) rfl ⟨by omega, by omega⟩ (fun c32245 => ?_) (fun c32245 => ?_))
  · refine wp_of e109 c109_26 (rw_iconst (pc' := 27) rfl ?_)
    refine wp_of e109 c109_27 (xc_V (pc' := 30) (r := r0) (as := [vI 0]) (st := []) (lm_0_174) rfl rfl (Nat.le_of_ble_eq_true rfl) hW g0 sh_1 (by decide) rfl (by decide) (s_83 hW g0 ⟨by omega, by omega⟩) (fun R32246 T32247 H32248 p32249 => ?_))
    obtain ⟨e32250, w32252, f32253, z32256, e32251, b32257, p32254, p32255⟩ := p32249
    subst e32250
    subst e32251
    have f32258 := f0.tr f32253 rfl
    show wp _ _ 109 30 [(0, .ref r0), (1, vI a1), (2, vI a2)] [vI z32256] _ H32248 _
    refine wp_of e109 c109_30 (rw_istore_n (pc' := 31) (z := z32256) (L' := [(3, vI z32256), (0, .ref r0), (1, vI a1), (2, vI a2)]) rfl rfl rfl ?_)
    refine wp_of e109 c109_31 (rw_iload_n (pc' := 32) (z := z32256) rfl rfl ?_)
    refine wp_of e109 c109_32 (rw_if_eq (p1 := 41) (p2 := 35) (by decide) rfl ⟨by omega, by omega⟩ (fun c32259 => ?_) (fun c32259 => ?_))
    · exfalso
      omega
    · refine wp_of e109 c109_35 (rw_aload_n (pc' := 36) (v := .ref r0) rfl rfl rfl ?_)
      refine wp_of e109 c109_36 (rw_iload_n (pc' := 37) (z := z32256) rfl rfl ?_)
      refine wp_of e109 c109_37 (xc_V (pc' := 40) (r := r0) (as := [vI z32256]) (st := []) (lm_0_70) rfl rfl (Nat.le_of_ble_eq_true rfl) w32252 g0 sh_1 (by decide) rfl (by decide) (s_12 w32252 g0 ⟨by omega, by omega⟩) (fun R32260 T32261 H32262 p32263 => ?_))
      obtain ⟨e32264, w32266, f32267, z32269, e32265, b32270, p32268⟩ := p32263
      subst e32264
      subst e32265
      have f32271 := f32258.tr f32267 rfl
      show wp _ _ 109 40 [(3, vI z32256), (0, .ref r0), (1, vI a1), (2, vI a2)] [vI z32269] _ H32262 _
      exact wp_ireturn e109 c109_40 rfl ⟨rfl, w32266, f32271, z32269, rfl, ⟨by omega, by omega⟩, by omega⟩
  · refine wp_of e109 c109_9 (rw_aload_n (pc' := 10) (v := .ref r0) rfl rfl rfl ?_)
    refine wp_of e109 c109_10 (rw_iload_n (pc' := 11) (z := a2) rfl rfl ?_)
    refine wp_of e109 c109_11 (xc_V (pc' := 14) (r := r0) (as := [vI a2]) (st := [.ref r0]) (lm_0_105) rfl rfl (Nat.le_of_ble_eq_true rfl) hW g0 sh_1 (by decide) rfl (by decide) (s_55 hW g0 ⟨by omega, by omega⟩) (fun R32272 T32273 H32274 p32275 => ?_))
    obtain ⟨e32276, e32278, z32280, e32277, b32281, p32279⟩ := p32275
    subst e32276
    subst e32277
    subst e32278
    show wp _ _ 109 14 [(0, .ref r0), (1, vI a1), (2, vI a2)] [vI z32280, .ref r0] _ H _
    refine wp_of e109 c109_14 (rw_if_eq (p1 := 26) (p2 := 17) (by decide) rfl ⟨by omega, by omega⟩ (fun c32282 => ?_) (fun c32282 => ?_))
    · refine wp_of e109 c109_26 (rw_iconst (pc' := 27) rfl ?_)
      refine wp_of e109 c109_27 (xc_V (pc' := 30) (r := r0) (as := [vI 0]) (st := []) (lm_0_174) rfl rfl (Nat.le_of_ble_eq_true rfl) hW g0 sh_1 (by decide) rfl (by decide) (s_83 hW g0 ⟨by omega, by omega⟩) (fun R32283 T32284 H32285 p32286 => ?_))
      obtain ⟨e32287, w32289, f32290, z32293, e32288, b32294, p32291, p32292⟩ := p32286
      subst e32287
      subst e32288
      have f32295 := f0.tr f32290 rfl
      show wp _ _ 109 30 [(0, .ref r0), (1, vI a1), (2, vI a2)] [vI z32293] _ H32285 _
      refine wp_of e109 c109_30 (rw_istore_n (pc' := 31) (z := z32293) (L' := [(3, vI z32293), (0, .ref r0), (1, vI a1), (2, vI a2)]) rfl rfl rfl ?_)
      refine wp_of e109 c109_31 (rw_iload_n (pc' := 32) (z := z32293) rfl rfl ?_)
      refine wp_of e109 c109_32 (rw_if_eq (p1 := 41) (p2 := 35) (by decide) rfl ⟨by omega, by omega⟩ (fun c32296 => ?_) (fun c32296 => ?_))
      · exfalso
        omega
      · refine wp_of e109 c109_35 (rw_aload_n (pc' := 36) (v := .ref r0) rfl rfl rfl ?_)
        refine wp_of e109 c109_36 (rw_iload_n (pc' := 37) (z := z32293) rfl rfl ?_)
        refine wp_of e109 c109_37 (xc_V (pc' := 40) (r := r0) (as := [vI z32293]) (st := []) (lm_0_70) rfl rfl (Nat.le_of_ble_eq_true rfl) w32289 g0 sh_1 (by decide) rfl (by decide) (s_12 w32289 g0 ⟨by omega, by omega⟩) (fun R32297 T32298 H32299 p32300 => ?_))
        obtain ⟨e32301, w32303, f32304, z32306, e32302, b32307, p32305⟩ := p32300
        subst e32301
        subst e32302
        have f32308 := f32295.tr f32304 rfl
        show wp _ _ 109 40 [(3, vI z32293), (0, .ref r0), (1, vI a1), (2, vI a2)] [vI z32306] _ H32299 _
        exact wp_ireturn e109 c109_40 rfl ⟨rfl, w32303, f32308, z32306, rfl, ⟨by omega, by omega⟩, by omega⟩
    · refine wp_of e109 c109_17 (rw_iload_n (pc' := 18) (z := a1) rfl rfl ?_)
      refine wp_of e109 c109_18 (rw_iload_n (pc' := 19) (z := a2) rfl rfl ?_)
      refine wp_of e109 c109_19 (rw_icmp_eq (p1 := 26) (p2 := 22) (by decide) rfl ⟨by omega, by omega⟩ ⟨by omega, by omega⟩ (fun c32309 => ?_) (fun c32309 => ?_))
      · refine wp_of e109 c109_26 (rw_iconst (pc' := 27) rfl ?_)
        refine wp_of e109 c109_27 (xc_V (pc' := 30) (r := r0) (as := [vI 0]) (st := []) (lm_0_174) rfl rfl (Nat.le_of_ble_eq_true rfl) hW g0 sh_1 (by decide) rfl (by decide) (s_83 hW g0 ⟨by omega, by omega⟩) (fun R32310 T32311 H32312 p32313 => ?_))
        obtain ⟨e32314, w32316, f32317, z32320, e32315, b32321, p32318, p32319⟩ := p32313
        subst e32314
        subst e32315
        have f32322 := f0.tr f32317 rfl
        show wp _ _ 109 30 [(0, .ref r0), (1, vI a1), (2, vI a2)] [vI z32320] _ H32312 _
        refine wp_of e109 c109_30 (rw_istore_n (pc' := 31) (z := z32320) (L' := [(3, vI z32320), (0, .ref r0), (1, vI a1), (2, vI a2)]) rfl rfl rfl ?_)
        refine wp_of e109 c109_31 (rw_iload_n (pc' := 32) (z := z32320) rfl rfl ?_)
        refine wp_of e109 c109_32 (rw_if_eq (p1 := 41) (p2 := 35) (by decide) rfl ⟨by omega, by omega⟩ (fun c32323 => ?_) (fun c32323 => ?_))
        · exfalso
          omega
        · refine wp_of e109 c109_35 (rw_aload_n (pc' := 36) (v := .ref r0) rfl rfl rfl ?_)
          refine wp_of e109 c109_36 (rw_iload_n (pc' := 37) (z := z32320) rfl rfl ?_)
          refine wp_of e109 c109_37 (xc_V (pc' := 40) (r := r0) (as := [vI z32320]) (st := []) (lm_0_70) rfl rfl (Nat.le_of_ble_eq_true rfl) w32316 g0 sh_1 (by decide) rfl (by decide) (s_12 w32316 g0 ⟨by omega, by omega⟩) (fun R32324 T32325 H32326 p32327 => ?_))
          obtain ⟨e32328, w32330, f32331, z32333, e32329, b32334, p32332⟩ := p32327
          subst e32328
          subst e32329
          have f32335 := f32322.tr f32331 rfl
          show wp _ _ 109 40 [(3, vI z32320), (0, .ref r0), (1, vI a1), (2, vI a2)] [vI z32333] _ H32326 _
          exact wp_ireturn e109 c109_40 rfl ⟨rfl, w32330, f32335, z32333, rfl, ⟨by omega, by omega⟩, by omega⟩
      · refine wp_of e109 c109_22 (rw_iconst (pc' := 23) rfl ?_)
        refine wp_of e109 c109_23 (rw_goto (p1 := 27) (by decide) ?_)
        refine wp_of e109 c109_27 (xc_V (pc' := 30) (r := r0) (as := [vI 1]) (st := []) (lm_0_174) rfl rfl (Nat.le_of_ble_eq_true rfl) hW g0 sh_1 (by decide) rfl (by decide) (s_83 hW g0 ⟨by omega, by omega⟩) (fun R32336 T32337 H32338 p32339 => ?_))
        obtain ⟨e32340, w32342, f32343, z32346, e32341, b32347, p32344, p32345⟩ := p32339
        subst e32340
        subst e32341
        have f32348 := f0.tr f32343 rfl
        show wp _ _ 109 30 [(0, .ref r0), (1, vI a1), (2, vI a2)] [vI z32346] _ H32338 _
        refine wp_of e109 c109_30 (rw_istore_n (pc' := 31) (z := z32346) (L' := [(3, vI z32346), (0, .ref r0), (1, vI a1), (2, vI a2)]) rfl rfl rfl ?_)
        refine wp_of e109 c109_31 (rw_iload_n (pc' := 32) (z := z32346) rfl rfl ?_)
        refine wp_of e109 c109_32 (rw_if_eq (p1 := 41) (p2 := 35) (by decide) rfl ⟨by omega, by omega⟩ (fun c32349 => ?_) (fun c32349 => ?_))
        · refine wp_of e109 c109_41 (rw_aload_n (pc' := 42) (v := .ref r0) rfl rfl rfl ?_)
          refine wp_of e109 c109_42 (rw_aload_n (pc' := 43) (v := .ref r0) rfl rfl rfl ?_)
          refine wp_of e109 c109_43 (xg_R (pc' := 46) lf_0_30 w32342 g0 sh_1 (by decide) (by decide) ty_1_3 rfl rfl (fun r32350 q32351 g32352 => ?_))
          refine wp_of e109 c109_46 (rw_aload_n (pc' := 47) (v := .ref r0) rfl rfl rfl ?_)
          refine wp_of e109 c109_47 (xg_R (pc' := 50) lf_0_51 w32342 g0 sh_1 (by decide) (by decide) ty_1_6 rfl rfl (fun r32353 q32354 g32355 => ?_))
          refine wp_of e109 c109_50 (rw_iload_n (pc' := 51) (z := a1) rfl rfl ?_)
          refine wp_of e109 c109_51 (rw_iload_n (pc' := 52) (z := a2) rfl rfl ?_)
          refine wp_of e109 c109_52 (xc_V (pc' := 55) (r := r32350) (as := [.ref r32353, vI a1, vI a2]) (st := [.ref r0]) (lm_0_213) rfl rfl (Nat.le_of_ble_eq_true rfl) w32342 g32352 sh_12 (by decide) rfl (by decide) (s_110 w32342 g32352 g32355 ⟨by omega, by omega⟩ ⟨by omega, by omega⟩) (fun R32356 T32357 H32358 p32359 => ?_))
          obtain ⟨e32360, e32362, z32363, e32361, b32364⟩ := p32359
          subst e32360
          subst e32361
          subst e32362
          show wp _ _ 109 55 [(3, vI z32346), (0, .ref r0), (1, vI a1), (2, vI a2)] [vI z32363, .ref r0] _ H32338 _
          refine wp_of e109 c109_55 (xc_V (pc' := 58) (r := r0) (as := [vI z32363]) (st := []) (lm_0_99) rfl rfl (Nat.le_of_ble_eq_true rfl) w32342 g0 sh_1 (by decide) rfl (by decide) (s_51 w32342 g0 ⟨by omega, by omega⟩) (fun R32365 T32366 H32367 p32368 => ?_))
          obtain ⟨e32369, w32371, f32372, z32374, e32370, b32375, p32373⟩ := p32368
          subst e32369
          subst e32370
          have f32376 := f32348.tr f32372 rfl
          show wp _ _ 109 58 [(3, vI z32346), (0, .ref r0), (1, vI a1), (2, vI a2)] [vI z32374] _ H32367 _
          exact wp_ireturn e109 c109_58 rfl ⟨rfl, w32371, f32376, z32374, rfl, ⟨by omega, by omega⟩, by omega⟩
        · refine wp_of e109 c109_35 (rw_aload_n (pc' := 36) (v := .ref r0) rfl rfl rfl ?_)
          refine wp_of e109 c109_36 (rw_iload_n (pc' := 37) (z := z32346) rfl rfl ?_)
          refine wp_of e109 c109_37 (xc_V (pc' := 40) (r := r0) (as := [vI z32346]) (st := []) (lm_0_70) rfl rfl (Nat.le_of_ble_eq_true rfl) w32342 g0 sh_1 (by decide) rfl (by decide) (s_12 w32342 g0 ⟨by omega, by omega⟩) (fun R32377 T32378 H32379 p32380 => ?_))
          obtain ⟨e32381, w32383, f32384, z32386, e32382, b32387, p32385⟩ := p32380
          subst e32381
          subst e32382
          have f32388 := f32348.tr f32384 rfl
          show wp _ _ 109 40 [(3, vI z32346), (0, .ref r0), (1, vI a1), (2, vI a2)] [vI z32386] _ H32379 _
          exact wp_ireturn e109 c109_40 rfl ⟨rfl, w32383, f32388, z32386, rfl, ⟨by omega, by omega⟩, by omega⟩
/-! StrikeAwake$Census.spansHeld(LStrikeAwake$Parish;I)J -/
theorem e113 : wq_en 113 = some (4, 6, false, some FieldType.long) := rfl
theorem c113_0 : mc_cd 113 0 = some (.lconst 0, 1) := by decide +kernel
theorem c113_1 : mc_cd 113 1 = some (.lstore_n 3, 1) := by decide +kernel
theorem c113_2 : mc_cd 113 2 = some (.iconst 0, 1) := by decide +kernel
theorem c113_3 : mc_cd 113 3 = some (.istore 5, 2) := by decide +kernel
theorem c113_5 : mc_cd 113 5 = some (.iload 5, 2) := by decide +kernel
theorem c113_7 : mc_cd 113 7 = some (.aload_n 1, 1) := by decide +kernel
theorem c113_8 : mc_cd 113 8 = some (.getfield 78, 3) := by decide +kernel
theorem c113_11 : mc_cd 113 11 = some (.iload_n 2, 1) := by decide +kernel
theorem c113_12 : mc_cd 113 12 = some (.aaload, 1) := by decide +kernel
theorem c113_13 : mc_cd 113 13 = some (.getfield 116, 3) := by decide +kernel
theorem c113_16 : mc_cd 113 16 = some (.if_icmp .ge 28, 3) := by decide +kernel
theorem c113_19 : mc_cd 113 19 = some (.aload_n 0, 1) := by decide +kernel
theorem c113_20 : mc_cd 113 20 = some (.getfield 17, 3) := by decide +kernel
theorem c113_23 : mc_cd 113 23 = some (.iload_n 2, 1) := by decide +kernel
theorem c113_24 : mc_cd 113 24 = some (.aaload, 1) := by decide +kernel
theorem c113_25 : mc_cd 113 25 = some (.iload 5, 2) := by decide +kernel
theorem c113_27 : mc_cd 113 27 = some (.iaload, 1) := by decide +kernel
theorem c113_28 : mc_cd 113 28 = some (.ifCond .le 10, 3) := by decide +kernel
theorem c113_31 : mc_cd 113 31 = some (.lload_n 3, 1) := by decide +kernel
theorem c113_32 : mc_cd 113 32 = some (.lconst 1, 1) := by decide +kernel
theorem c113_33 : mc_cd 113 33 = some (.iload 5, 2) := by decide +kernel
theorem c113_35 : mc_cd 113 35 = some (.lshl, 1) := by decide +kernel
theorem c113_36 : mc_cd 113 36 = some (.lor, 1) := by decide +kernel
theorem c113_37 : mc_cd 113 37 = some (.lstore_n 3, 1) := by decide +kernel
theorem c113_38 : mc_cd 113 38 = some (.iinc 5 1, 3) := by decide +kernel
theorem c113_41 : mc_cd 113 41 = some (.goto (-36), 3) := by decide +kernel
theorem c113_44 : mc_cd 113 44 = some (.lload_n 3, 1) := by decide +kernel
theorem c113_45 : mc_cd 113 45 = some (.lreturn, 1) := by decide +kernel
abbrev q_113 (r0 : Nat) (r1 : Nat) (a2 : Int) (T : wq_T) (H : wq_H) : Option Value → wq_T → wq_H → Prop := fun r T' H' => T = T' ∧ H = H' ∧ ∃ z : Int, some (vL z) = r ∧ ((-9223372036854775808) ≤ z ∧ z ≤ 9223372036854775807)
set_option maxHeartbeats 4000000 in
theorem s_113 {kt : Nat → Option mc_E} {T : wq_T} {H : wq_H} {r0 : Nat} {r1 : Nat} {a2 : Int} (hW : WT T H) (g0 : T.2.2.2 r0 = some 12) (g1 : T.2.2.2 r1 = some 27) (i2 : 0 ≤ a2 ∧ a2 ≤ 5) : wpc kt 1 113 [.ref r0, .ref r1, vI a2] T H (q_113 r0 r1 a2 T H) := by
  refine wp_enter e113 (Nat.le_of_ble_eq_true rfl) rfl ?_
  show wp _ _ 113 0 [(0, .ref r0), (1, .ref r1), (2, vI a2)] [] _ H _
  refine wp_of e113 c113_0 (rw_lconst (pc' := 1) (z := 0) rfl rfl ?_)
  refine wp_of e113 c113_1 (rw_lstore_n (pc' := 2) (z := 0) (L' := [(3, vL 0), (0, .ref r0), (1, .ref r1), (2, vI a2)]) rfl rfl rfl ?_)
  refine wp_of e113 c113_2 (rw_iconst (pc' := 3) rfl ?_)
  refine wp_of e113 c113_3 (rw_istore (pc' := 5) (z := 0) (L' := [(5, vI 0), (3, vL 0), (0, .ref r0), (1, .ref r1), (2, vI a2)]) rfl rfl rfl ?_)
  have lp32764 : ∀ (n32765 : Nat) (v32767 : Int) (v32768 : Int), (0 ≤ v32767 ∧ v32767 ≤ 40) → ((-9223372036854775808) ≤ v32768 ∧ v32768 ≤ 9223372036854775807) → (40 - v32767).toNat = n32765 → wp kt 0 113 5 [(5, vI v32767), (3, vL v32768), (0, .ref r0), (1, .ref r1), (2, vI a2)] [] T H (q_113 r0 r1 a2 T H) := by
    intro n32765
    induction n32765 using Nat.strongRecOn with
    | _ n32765 ih32766 =>
      intro v32767 v32768 b32771 b32772 m32773
      refine wp_of e113 c113_5 (rw_iload (pc' := 7) (z := v32767) rfl rfl ?_)
      refine wp_of e113 c113_7 (rw_aload_n (pc' := 8) (v := .ref r1) rfl rfl rfl ?_)
      refine wp_of e113 c113_8 (xg_R (pc' := 11) lf_4_78 hW g1 sh_27 (by decide) (by decide) ty_27_0 rfl rfl (fun r32774 q32775 g32776 => ?_))
      refine wp_of e113 c113_11 (rw_iload_n (pc' := 12) (z := a2) rfl rfl ?_)
      refine wp_of e113 c113_12 (xa_R (pc' := 13) (by decide) hW g32776 sh_28 (by decide) (ty_28 _) (by omega) (by omega) rfl (fun r32777 q32778 g32779 => ?_))
      refine wp_of e113 c113_13 (xg_I (pc' := 16) lf_4_116 hW g32779 sh_35 (by decide) (by decide) ty_35_15 rfl rfl (fun b32780 b32781 => ?_))
      refine wp_of e113 c113_16 (rw_icmp_ge (p1 := 44) (p2 := 19) (by decide) rfl ⟨by omega, by omega⟩ ⟨by omega, by omega⟩ (fun c32782 => ?_) (fun c32782 => ?_))
      · refine wp_of e113 c113_44 (rw_lload_n (pc' := 45) (z := v32768) rfl rfl ?_)
        exact wp_lreturn e113 c113_45 rfl ⟨rfl, rfl, v32768, rfl, ⟨by omega, by omega⟩⟩
      · refine wp_of e113 c113_19 (rw_aload_n (pc' := 20) (v := .ref r0) rfl rfl rfl ?_)
        refine wp_of e113 c113_20 (xg_R (pc' := 23) lf_4_17 hW g0 sh_12 (by decide) (by decide) ty_12_1 rfl rfl (fun r32783 q32784 g32785 => ?_))
        refine wp_of e113 c113_23 (rw_iload_n (pc' := 24) (z := a2) rfl rfl ?_)
        refine wp_of e113 c113_24 (xa_R (pc' := 25) (by decide) hW g32785 sh_14 (by decide) (ty_14 _) (by omega) (by omega) rfl (fun r32786 q32787 g32788 => ?_))
        refine wp_of e113 c113_25 (rw_iload (pc' := 27) (z := v32767) rfl rfl ?_)
        refine wp_of e113 c113_27 (xa_I (so := 0) (pc' := 28) hW g32788 sh_15 (by decide) (ty_15 _) (by omega) (by omega) rfl (fun b32789 b32790 => ?_))
        refine wp_of e113 c113_28 (rw_if_le (p1 := 38) (p2 := 31) (by decide) rfl ⟨by omega, by omega⟩ (fun c32791 => ?_) (fun c32791 => ?_))
        · refine wp_of e113 c113_38 (rw_iinc (pc' := 41) (z := v32767) (L' := [(5, vI (v32767 + 1)), (3, vL v32768), (0, .ref r0), (1, .ref r1), (2, vI a2)]) rfl rfl rfl rfl ?_)
          refine wp_of e113 c113_41 (rw_goto (p1 := 5) (by decide) ?_)
          exact wp_lc (ks := [5, 3, 0, 1, 2]) (wl_c rfl (wl_c rfl (wl_c rfl (wl_c rfl (wl_c rfl wl_n))))) rfl (by decide) (ih32766 _ (by omega) (v32767 + 1) v32768 ⟨by omega, by omega⟩ ⟨by omega, by omega⟩ rfl)
        · refine wp_of e113 c113_31 (rw_lload_n (pc' := 32) (z := v32768) rfl rfl ?_)
          refine wp_of e113 c113_32 (rw_lconst (pc' := 33) (z := 1) rfl rfl ?_)
          refine wp_of e113 c113_33 (rw_iload (pc' := 35) (z := v32767) rfl rfl ?_)
          refine wp_of e113 c113_35 (rw_lshl (pc' := 36) rfl ?_)
          obtain ⟨v32792, e32793⟩ : ∃ x : Int, x = wl_shl 1 v32767 := ⟨_, rfl⟩
          rw [← e32793]
          have b32794 : -9223372036854775808 ≤ v32792 ∧ v32792 ≤ 9223372036854775807 := by
            rw [e32793]
            exact wL_shl _ _
          refine wp_of e113 c113_36 (rw_lor (pc' := 37) rfl ?_)
          obtain ⟨v32795, e32796⟩ : ∃ x : Int, x = wl_or v32768 v32792 := ⟨_, rfl⟩
          rw [← e32796]
          have b32797 : -9223372036854775808 ≤ v32795 ∧ v32795 ≤ 9223372036854775807 := by
            rw [e32796]
            exact wL_or _ _
          refine wp_of e113 c113_37 (rw_lstore_n (pc' := 38) (z := v32795) (L' := [(3, vL v32795), (5, vI v32767), (0, .ref r0), (1, .ref r1), (2, vI a2)]) rfl rfl rfl ?_)
          refine wp_of e113 c113_38 (rw_iinc (pc' := 41) (z := v32767) (L' := [(5, vI (v32767 + 1)), (3, vL v32795), (0, .ref r0), (1, .ref r1), (2, vI a2)]) rfl rfl rfl rfl ?_)
          refine wp_of e113 c113_41 (rw_goto (p1 := 5) (by decide) ?_)
          exact wp_lc (ks := [5, 3, 0, 1, 2]) (wl_c rfl (wl_c rfl (wl_c rfl (wl_c rfl (wl_c rfl wl_n))))) rfl (by decide) (ih32766 _ (by omega) (v32767 + 1) v32795 ⟨by omega, by omega⟩ ⟨by omega, by omega⟩ rfl)
  exact wp_lc (ks := [5, 3, 0, 1, 2]) (wl_c rfl (wl_c rfl (wl_c rfl (wl_c rfl (wl_c rfl wl_n))))) rfl (by decide) (lp32764 _ 0 0 ⟨by omega, by omega⟩ ⟨by omega, by omega⟩ rfl)
/-! StrikeAwake.possible(I)J -/
theorem e112 : wq_en 112 = some (0, 3, false, some FieldType.long) := rfl
theorem c112_0 : mc_cd 112 0 = some (.aload_n 0, 1) := by decide +kernel
theorem c112_1 : mc_cd 112 1 = some (.aload_n 0, 1) := by decide +kernel
theorem c112_2 : mc_cd 112 2 = some (.iload_n 1, 1) := by decide +kernel
theorem c112_3 : mc_cd 112 3 = some (.invokevirtual 105, 3) := by decide +kernel
theorem c112_6 : mc_cd 112 6 = some (.invokevirtual 174, 3) := by decide +kernel
theorem c112_9 : mc_cd 112 9 = some (.istore_n 2, 1) := by decide +kernel
theorem c112_10 : mc_cd 112 10 = some (.iload_n 2, 1) := by decide +kernel
theorem c112_11 : mc_cd 112 11 = some (.ifCond .eq 10, 3) := by decide +kernel
theorem c112_14 : mc_cd 112 14 = some (.aload_n 0, 1) := by decide +kernel
theorem c112_15 : mc_cd 112 15 = some (.iload_n 2, 1) := by decide +kernel
theorem c112_16 : mc_cd 112 16 = some (.invokevirtual 70, 3) := by decide +kernel
theorem c112_19 : mc_cd 112 19 = some (.i2l, 1) := by decide +kernel
theorem c112_20 : mc_cd 112 20 = some (.lreturn, 1) := by decide +kernel
theorem c112_21 : mc_cd 112 21 = some (.aload_n 0, 1) := by decide +kernel
theorem c112_22 : mc_cd 112 22 = some (.iconst 0, 1) := by decide +kernel
theorem c112_23 : mc_cd 112 23 = some (.putfield 102, 3) := by decide +kernel
theorem c112_26 : mc_cd 112 26 = some (.aload_n 0, 1) := by decide +kernel
theorem c112_27 : mc_cd 112 27 = some (.getfield 30, 3) := by decide +kernel
theorem c112_30 : mc_cd 112 30 = some (.aload_n 0, 1) := by decide +kernel
theorem c112_31 : mc_cd 112 31 = some (.getfield 51, 3) := by decide +kernel
theorem c112_34 : mc_cd 112 34 = some (.iload_n 1, 1) := by decide +kernel
theorem c112_35 : mc_cd 112 35 = some (.invokevirtual 216, 3) := by decide +kernel
theorem c112_38 : mc_cd 112 38 = some (.lreturn, 1) := by decide +kernel
abbrev q_112 (r0 : Nat) (a1 : Int) (T : wq_T) (H : wq_H) : Option Value → wq_T → wq_H → Prop := fun r T' H' => T = T' ∧ WT T H' ∧ wfr [(12, 5), (12, 6), (12, 7), (12, 8), (12, 9), (1, 10), (6, 5), (8, 999), (10, 999), (15, 999), (9, 999), (18, 999), (19, 999), (7, 999), (11, 999), (17, 999), (13, 999)] T H H' ∧ ∃ z : Int, some (vL z) = r ∧ ((-9223372036854775808) ≤ z ∧ z ≤ 9223372036854775807) ∧ (H' r0 10 ≠ 4)
set_option maxHeartbeats 4000000 in
theorem s_112 {kt : Nat → Option mc_E} {T : wq_T} {H : wq_H} {r0 : Nat} {a1 : Int} (hW : WT T H) (g0 : T.2.2.2 r0 = some 1) (i1 : (-2147483648) ≤ a1 ∧ a1 ≤ 2147483647) : wpc kt 6 112 [.ref r0, vI a1] T H (q_112 r0 a1 T H) := by
  refine wp_enter e112 (Nat.le_of_ble_eq_true rfl) rfl ?_
  have f0 : wfr [(12, 5), (12, 6), (12, 7), (12, 8), (12, 9), (1, 10), (6, 5), (8, 999), (10, 999), (15, 999), (9, 999), (18, 999), (19, 999), (7, 999), (11, 999), (17, 999), (13, 999)] T H H := wfr.rf
  show wp _ _ 112 0 [(0, .ref r0), (1, vI a1)] [] _ H _
  refine wp_of e112 c112_0 (rw_aload_n (pc' := 1) (v := .ref r0) rfl rfl rfl ?_)
  refine wp_of e112 c112_1 (rw_aload_n (pc' := 2) (v := .ref r0) rfl rfl rfl ?_)
  refine wp_of e112 c112_2 (rw_iload_n (pc' := 3) (z := a1) rfl rfl ?_)
  refine wp_of e112 c112_3 (xc_V (pc' := 6) (r := r0) (as := [vI a1]) (st := [.ref r0]) (lm_0_105) rfl rfl (Nat.le_of_ble_eq_true rfl) hW g0 sh_1 (by decide) rfl (by decide) (s_55 hW g0 ⟨by omega, by omega⟩) (fun R32854 T32855 H32856 p32857 => ?_))
  obtain ⟨e32858, e32860, z32862, e32859, b32863, p32861⟩ := p32857
  subst e32858
  subst e32859
  subst e32860
  show wp _ _ 112 6 [(0, .ref r0), (1, vI a1)] [vI z32862, .ref r0] _ H _
  refine wp_of e112 c112_6 (xc_V (pc' := 9) (r := r0) (as := [vI z32862]) (st := []) (lm_0_174) rfl rfl (Nat.le_of_ble_eq_true rfl) hW g0 sh_1 (by decide) rfl (by decide) (s_83 hW g0 ⟨by omega, by omega⟩) (fun R32864 T32865 H32866 p32867 => ?_))
  obtain ⟨e32868, w32870, f32871, z32874, e32869, b32875, p32872, p32873⟩ := p32867
  subst e32868
  subst e32869
  have f32876 := f0.tr f32871 rfl
  show wp _ _ 112 9 [(0, .ref r0), (1, vI a1)] [vI z32874] _ H32866 _
  refine wp_of e112 c112_9 (rw_istore_n (pc' := 10) (z := z32874) (L' := [(2, vI z32874), (0, .ref r0), (1, vI a1)]) rfl rfl rfl ?_)
  refine wp_of e112 c112_10 (rw_iload_n (pc' := 11) (z := z32874) rfl rfl ?_)
  refine wp_of e112 c112_11 (rw_if_eq (p1 := 21) (p2 := 14) (by decide) rfl ⟨by omega, by omega⟩ (fun c32877 => ?_) (fun c32877 => ?_))
  · refine wp_of e112 c112_21 (rw_aload_n (pc' := 22) (v := .ref r0) rfl rfl rfl ?_)
    refine wp_of e112 c112_22 (rw_iconst (pc' := 23) rfl ?_)
    refine wp_of e112 c112_23 (xp_I (pc' := 26) lf_0_102 w32870 g0 sh_1 (by decide) (by decide) ty_1_10 rfl rfl (by omega) (by omega) ⟨by omega, by omega⟩ rfl (fun H32878 e32879 w32880 => ?_))
    have f32881 := f32876.put' e32879 g0 rfl
    have k32882 : H32878 r0 10 = 0 := wq_u_s e32879
    refine wp_of e112 c112_26 (rw_aload_n (pc' := 27) (v := .ref r0) rfl rfl rfl ?_)
    refine wp_of e112 c112_27 (xg_R (pc' := 30) lf_0_30 w32880 g0 sh_1 (by decide) (by decide) ty_1_3 rfl rfl (fun r32883 q32884 g32885 => ?_))
    refine wp_of e112 c112_30 (rw_aload_n (pc' := 31) (v := .ref r0) rfl rfl rfl ?_)
    refine wp_of e112 c112_31 (xg_R (pc' := 34) lf_0_51 w32880 g0 sh_1 (by decide) (by decide) ty_1_6 rfl rfl (fun r32886 q32887 g32888 => ?_))
    refine wp_of e112 c112_34 (rw_iload_n (pc' := 35) (z := a1) rfl rfl ?_)
    refine wp_of e112 c112_35 (xc_V (pc' := 38) (r := r32883) (as := [.ref r32886, vI a1]) (st := []) (lm_0_216) rfl rfl (Nat.le_of_ble_eq_true rfl) w32880 g32885 sh_12 (by decide) rfl (by decide) (s_113 w32880 g32885 g32888 ⟨by omega, by omega⟩) (fun R32889 T32890 H32891 p32892 => ?_))
    obtain ⟨e32893, e32895, z32896, e32894, b32897⟩ := p32892
    subst e32893
    subst e32894
    subst e32895
    show wp _ _ 112 38 [(2, vI z32874), (0, .ref r0), (1, vI a1)] [vL z32896] _ H32878 _
    exact wp_lreturn e112 c112_38 rfl ⟨rfl, w32880, f32881, z32896, rfl, ⟨by omega, by omega⟩, by omega⟩
  · refine wp_of e112 c112_14 (rw_aload_n (pc' := 15) (v := .ref r0) rfl rfl rfl ?_)
    refine wp_of e112 c112_15 (rw_iload_n (pc' := 16) (z := z32874) rfl rfl ?_)
    refine wp_of e112 c112_16 (xc_V (pc' := 19) (r := r0) (as := [vI z32874]) (st := []) (lm_0_70) rfl rfl (Nat.le_of_ble_eq_true rfl) w32870 g0 sh_1 (by decide) rfl (by decide) (s_12 w32870 g0 ⟨by omega, by omega⟩) (fun R32898 T32899 H32900 p32901 => ?_))
    obtain ⟨e32902, w32904, f32905, z32907, e32903, b32908, p32906⟩ := p32901
    subst e32902
    subst e32903
    have f32909 := f32876.tr f32905 rfl
    show wp _ _ 112 19 [(2, vI z32874), (0, .ref r0), (1, vI a1)] [vI z32907] _ H32900 _
    refine wp_of e112 c112_19 (rw_i2l (pc' := 20) rfl ⟨by omega, by omega⟩ ?_)
    exact wp_lreturn e112 c112_20 rfl ⟨rfl, w32904, f32909, z32907, rfl, ⟨by omega, by omega⟩, by omega⟩
/-! StrikeAwake$Census.peopleAwake(LStrikeAwake$Parish;II)I -/
theorem e116 : wq_en 116 = some (4, 5, false, some FieldType.int) := rfl
theorem c116_0 : mc_cd 116 0 = some (.iconst 0, 1) := by decide +kernel
theorem c116_1 : mc_cd 116 1 = some (.istore_n 3, 1) := by decide +kernel
theorem c116_2 : mc_cd 116 2 = some (.iconst 0, 1) := by decide +kernel
theorem c116_3 : mc_cd 116 3 = some (.istore 4, 2) := by decide +kernel
theorem c116_5 : mc_cd 116 5 = some (.iload 4, 2) := by decide +kernel
theorem c116_7 : mc_cd 116 7 = some (.aload_n 0, 1) := by decide +kernel
theorem c116_8 : mc_cd 116 8 = some (.getfield 75, 3) := by decide +kernel
theorem c116_11 : mc_cd 116 11 = some (.if_icmp .ge 30, 3) := by decide +kernel
theorem c116_14 : mc_cd 116 14 = some (.aload_n 0, 1) := by decide +kernel
theorem c116_15 : mc_cd 116 15 = some (.iload_n 1, 1) := by decide +kernel
theorem c116_16 : mc_cd 116 16 = some (.iload 4, 2) := by decide +kernel
theorem c116_18 : mc_cd 116 18 = some (.invokestatic 132, 3) := by decide +kernel
theorem c116_21 : mc_cd 116 21 = some (.iload_n 2, 1) := by decide +kernel
theorem c116_22 : mc_cd 116 22 = some (.invokestatic 122, 3) := by decide +kernel
theorem c116_25 : mc_cd 116 25 = some (.ifCond .eq 10, 3) := by decide +kernel
theorem c116_28 : mc_cd 116 28 = some (.iload_n 3, 1) := by decide +kernel
theorem c116_29 : mc_cd 116 29 = some (.iconst 1, 1) := by decide +kernel
theorem c116_30 : mc_cd 116 30 = some (.iload 4, 2) := by decide +kernel
theorem c116_32 : mc_cd 116 32 = some (.ishl, 1) := by decide +kernel
theorem c116_33 : mc_cd 116 33 = some (.ior, 1) := by decide +kernel
theorem c116_34 : mc_cd 116 34 = some (.istore_n 3, 1) := by decide +kernel
theorem c116_35 : mc_cd 116 35 = some (.iinc 4 1, 3) := by decide +kernel
theorem c116_38 : mc_cd 116 38 = some (.goto (-33), 3) := by decide +kernel
theorem c116_41 : mc_cd 116 41 = some (.iload_n 3, 1) := by decide +kernel
theorem c116_42 : mc_cd 116 42 = some (.ireturn, 1) := by decide +kernel
abbrev q_116 (r0 : Nat) (a1 : Int) (a2 : Int) (T : wq_T) (H : wq_H) : Option Value → wq_T → wq_H → Prop := fun r T' H' => T = T' ∧ H = H' ∧ ∃ z : Int, some (vI z) = r ∧ ((-2147483648) ≤ z ∧ z ≤ 2147483647)
set_option maxHeartbeats 4000000 in
theorem s_116 {kt : Nat → Option mc_E} {T : wq_T} {H : wq_H} {r0 : Nat} {a1 : Int} {a2 : Int} (hW : WT T H) (g0 : T.2.2.2 r0 = some 27) (i1 : 0 ≤ a1 ∧ a1 ≤ 19999) (i2 : (-2147483648) ≤ a2 ∧ a2 ≤ 2147483647) : wpc kt 3 116 [.ref r0, vI a1, vI a2] T H (q_116 r0 a1 a2 T H) := by
  refine wp_enter e116 (Nat.le_of_ble_eq_true rfl) rfl ?_
  show wp _ _ 116 0 [(0, .ref r0), (1, vI a1), (2, vI a2)] [] _ H _
  refine wp_of e116 c116_0 (rw_iconst (pc' := 1) rfl ?_)
  refine wp_of e116 c116_1 (rw_istore_n (pc' := 2) (z := 0) (L' := [(3, vI 0), (0, .ref r0), (1, vI a1), (2, vI a2)]) rfl rfl rfl ?_)
  refine wp_of e116 c116_2 (rw_iconst (pc' := 3) rfl ?_)
  refine wp_of e116 c116_3 (rw_istore (pc' := 5) (z := 0) (L' := [(4, vI 0), (3, vI 0), (0, .ref r0), (1, vI a1), (2, vI a2)]) rfl rfl rfl ?_)
  have lp33301 : ∀ (n33302 : Nat) (v33304 : Int) (v33305 : Int), (0 ≤ v33304 ∧ v33304 ≤ 6) → (0 ≤ v33305 ∧ v33305 ≤ 16777215) → (6 - v33304).toNat = n33302 → wp kt 2 116 5 [(4, vI v33304), (3, vI v33305), (0, .ref r0), (1, vI a1), (2, vI a2)] [] T H (q_116 r0 a1 a2 T H) := by
    intro n33302
    induction n33302 using Nat.strongRecOn with
    | _ n33302 ih33303 =>
      intro v33304 v33305 b33308 b33309 m33310
      refine wp_of e116 c116_5 (rw_iload (pc' := 7) (z := v33304) rfl rfl ?_)
      refine wp_of e116 c116_7 (rw_aload_n (pc' := 8) (v := .ref r0) rfl rfl rfl ?_)
      refine wp_of e116 c116_8 (xg_I (pc' := 11) lf_4_75 hW g0 sh_27 (by decide) (by decide) ty_27_10 rfl rfl (fun b33311 b33312 => ?_))
      refine wp_of e116 c116_11 (rw_icmp_ge (p1 := 41) (p2 := 14) (by decide) rfl ⟨by omega, by omega⟩ ⟨by omega, by omega⟩ (fun c33313 => ?_) (fun c33313 => ?_))
      · refine wp_of e116 c116_41 (rw_iload_n (pc' := 42) (z := v33305) rfl rfl ?_)
        exact wp_ireturn e116 c116_42 rfl ⟨rfl, rfl, v33305, rfl, ⟨by omega, by omega⟩⟩
      · refine wp_of e116 c116_14 (rw_aload_n (pc' := 15) (v := .ref r0) rfl rfl rfl ?_)
        refine wp_of e116 c116_15 (rw_iload_n (pc' := 16) (z := a1) rfl rfl ?_)
        refine wp_of e116 c116_16 (rw_iload (pc' := 18) (z := v33304) rfl rfl ?_)
        refine wp_of e116 c116_18 (xc_S (pc' := 21) (as := [.ref r0, vI a1, vI v33304]) (st := []) (lm_4_132) rfl rfl (Nat.le_of_ble_eq_true rfl) rfl (by decide) (s_111 hW g0 ⟨by omega, by omega⟩ ⟨by omega, by omega⟩) (fun R33314 T33315 H33316 p33317 => ?_))
        obtain ⟨e33318, e33320, z33321, e33319, b33322⟩ := p33317
        subst e33318
        subst e33319
        subst e33320
        show wp _ _ 116 21 [(4, vI v33304), (3, vI v33305), (0, .ref r0), (1, vI a1), (2, vI a2)] [vI z33321] _ H _
        refine wp_of e116 c116_21 (rw_iload_n (pc' := 22) (z := a2) rfl rfl ?_)
        refine wp_of e116 c116_22 (xc_S (pc' := 25) (as := [vI z33321, vI a2]) (st := []) (lm_4_122) rfl rfl (Nat.le_of_ble_eq_true rfl) rfl (by decide) (s_36 hW ⟨by omega, by omega⟩ ⟨by omega, by omega⟩) (fun R33323 T33324 H33325 p33326 => ?_))
        obtain ⟨e33327, e33329, z33330, e33328, b33331⟩ := p33326
        subst e33327
        subst e33328
        subst e33329
        show wp _ _ 116 25 [(4, vI v33304), (3, vI v33305), (0, .ref r0), (1, vI a1), (2, vI a2)] [vI z33330] _ H _
        refine wp_of e116 c116_25 (rw_if_eq (p1 := 35) (p2 := 28) (by decide) rfl ⟨by omega, by omega⟩ (fun c33332 => ?_) (fun c33332 => ?_))
        · refine wp_of e116 c116_35 (rw_iinc (pc' := 38) (z := v33304) (L' := [(4, vI (v33304 + 1)), (3, vI v33305), (0, .ref r0), (1, vI a1), (2, vI a2)]) rfl rfl rfl rfl ?_)
          refine wp_of e116 c116_38 (rw_goto (p1 := 5) (by decide) ?_)
          exact wp_lc (ks := [4, 3, 0, 1, 2]) (wl_c rfl (wl_c rfl (wl_c rfl (wl_c rfl (wl_c rfl wl_n))))) rfl (by decide) (ih33303 _ (by omega) (v33304 + 1) v33305 ⟨by omega, by omega⟩ ⟨by omega, by omega⟩ rfl)
        · refine wp_of e116 c116_28 (rw_iload_n (pc' := 29) (z := v33305) rfl rfl ?_)
          refine wp_of e116 c116_29 (rw_iconst (pc' := 30) rfl ?_)
          refine wp_of e116 c116_30 (rw_iload (pc' := 32) (z := v33304) rfl rfl ?_)
          refine wp_of e116 c116_32 (rw_ishl (pc' := 33) rfl ?_)
          obtain ⟨v33333, e33334⟩ : ∃ x : Int, x = wq_shl 1 v33304 := ⟨_, rfl⟩
          rw [← e33334]
          have b33335 : 1 ≤ v33333 ∧ v33333 ≤ 64 := by
            rw [e33334]
            exact wq_shl1_6 ⟨by omega, by omega⟩
          refine wp_of e116 c116_33 (rw_ior (pc' := 34) rfl ?_)
          obtain ⟨v33336, e33337⟩ : ∃ x : Int, x = wq_or v33305 v33333 := ⟨_, rfl⟩
          rw [← e33337]
          have b33338 : 0 ≤ v33336 ∧ v33336 ≤ 16777215 := by
            rw [e33337]
            exact wq_or_24 ⟨by omega, by omega⟩ ⟨by omega, by omega⟩
          refine wp_of e116 c116_34 (rw_istore_n (pc' := 35) (z := v33336) (L' := [(3, vI v33336), (4, vI v33304), (0, .ref r0), (1, vI a1), (2, vI a2)]) rfl rfl rfl ?_)
          refine wp_of e116 c116_35 (rw_iinc (pc' := 38) (z := v33304) (L' := [(4, vI (v33304 + 1)), (3, vI v33336), (0, .ref r0), (1, vI a1), (2, vI a2)]) rfl rfl rfl rfl ?_)
          refine wp_of e116 c116_38 (rw_goto (p1 := 5) (by decide) ?_)
          exact wp_lc (ks := [4, 3, 0, 1, 2]) (wl_c rfl (wl_c rfl (wl_c rfl (wl_c rfl (wl_c rfl wl_n))))) rfl (by decide) (ih33303 _ (by omega) (v33304 + 1) v33336 ⟨by omega, by omega⟩ ⟨by omega, by omega⟩ rfl)
  exact wp_lc (ks := [4, 3, 0, 1, 2]) (wl_c rfl (wl_c rfl (wl_c rfl (wl_c rfl (wl_c rfl wl_n))))) rfl (by decide) (lp33301 _ 0 0 ⟨by omega, by omega⟩ ⟨by omega, by omega⟩ rfl)
