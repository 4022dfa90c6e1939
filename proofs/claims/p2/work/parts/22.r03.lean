/-! methods of the reference (own work, written by wip/gen2/sx.py) -/
/-! StrikeAwakeModel.readHours()I -/
theorem e201 : wq_en 201 = some (9, 2, false, some FieldType.int) := rfl
theorem c201_0 : mc_cd 201 0 = some (.aload_n 0, 1) := by decide +kernel
theorem c201_1 : mc_cd 201 1 = some (.invokevirtual 273, 3) := by decide +kernel
theorem c201_4 : mc_cd 201 4 = some (.istore_n 1, 1) := by decide +kernel
theorem c201_5 : mc_cd 201 5 = some (.aload_n 0, 1) := by decide +kernel
theorem c201_6 : mc_cd 201 6 = some (.aload_n 0, 1) := by decide +kernel
theorem c201_7 : mc_cd 201 7 = some (.iconst 0, 1) := by decide +kernel
theorem c201_8 : mc_cd 201 8 = some (.bipush 23, 2) := by decide +kernel
theorem c201_10 : mc_cd 201 10 = some (.invokevirtual 137, 3) := by decide +kernel
theorem c201_13 : mc_cd 201 13 = some (.putfield 300, 3) := by decide +kernel
theorem c201_16 : mc_cd 201 16 = some (.aload_n 0, 1) := by decide +kernel
theorem c201_17 : mc_cd 201 17 = some (.aload_n 0, 1) := by decide +kernel
theorem c201_18 : mc_cd 201 18 = some (.ldc 233, 2) := by decide +kernel
theorem c201_20 : mc_cd 201 20 = some (.aload_n 0, 1) := by decide +kernel
theorem c201_21 : mc_cd 201 21 = some (.getfield 300, 3) := by decide +kernel
theorem c201_24 : mc_cd 201 24 = some (.iconst 1, 1) := by decide +kernel
theorem c201_25 : mc_cd 201 25 = some (.iadd, 1) := by decide +kernel
theorem c201_26 : mc_cd 201 26 = some (.bipush 24, 2) := by decide +kernel
theorem c201_28 : mc_cd 201 28 = some (.invokevirtual 216, 3) := by decide +kernel
theorem c201_31 : mc_cd 201 31 = some (.putfield 303, 3) := by decide +kernel
theorem c201_34 : mc_cd 201 34 = some (.iload_n 1, 1) := by decide +kernel
theorem c201_35 : mc_cd 201 35 = some (.ireturn, 1) := by decide +kernel
abbrev q_201 (r0 : Nat) (rp : Nat) (T : wq_T) (H : wq_H) : Option Value → wq_T → wq_H → Prop := fun r T' H' => T = T' ∧ WT T H' ∧ wfr [(42, 8), (42, 9), (42, 10), (42, 11), (42, 12), (42, 13), (42, 14), (42, 15), (42, 17), (42, 18)] T H H' ∧ ∃ z : Int, some (vI z) = r ∧ (0 ≤ z ∧ z ≤ 5) ∧ (wJ H' r0 = 1) ∧ (H r0 10 ≤ H' r0 10) ∧ (wOV H r0 ≤ wOV H' r0) ∧ (wOV H' r0 ≤ 1)
set_option maxHeartbeats 4000000 in
theorem s_201 {kt : Nat → Option mc_E} {T : wq_T} {H : wq_H} {r0 : Nat} {rp : Nat} (hW : WT T H) (g0 : T.2.2.2 r0 = some 42) (qrp : H r0 4 = (rp : Int)) (grp : T.2.2.2 rp = some 54) (p0 : wJ H r0 = 1) : wpc kt 6 201 [.ref r0] T H (q_201 r0 rp T H) := by
  refine wp_enter e201 (Nat.le_of_ble_eq_true rfl) rfl ?_
  have f0 : wfr [(42, 8), (42, 9), (42, 10), (42, 11), (42, 12), (42, 13), (42, 14), (42, 15), (42, 17), (42, 18)] T H H := wfr.rf
  show wp _ _ 201 0 [(0, .ref r0)] [] _ H _
  have hb0 := wOV_b (H := H) (m := r0)
  refine wp_of e201 c201_0 (rw_aload_n (pc' := 1) (v := .ref r0) rfl rfl rfl ?_)
  refine wp_of e201 c201_1 (xc_V (pc' := 4) (r := r0) (as := []) (st := []) (lm_9_273) rfl rfl (Nat.le_of_ble_eq_true rfl) hW g0 sh_42 (by decide) rfl (by decide) (s_194 hW g0 qrp grp (by omega)) (fun R89791 T89792 H89793 p89794 => ?_))
  obtain ⟨e89795, w89797, f89798, z89803, e89796, b89804, p89799, p89800, p89801, p89802⟩ := p89794
  subst e89795
  subst e89796
  have f89805 := f0.tr f89798 rfl
  show wp _ _ 201 4 [(0, .ref r0)] [vI z89803] _ H89793 _
  refine wp_of e201 c201_4 (rw_istore_n (pc' := 5) (z := z89803) (L' := [(1, vI z89803), (0, .ref r0)]) rfl rfl rfl ?_)
  refine wp_of e201 c201_5 (rw_aload_n (pc' := 6) (v := .ref r0) rfl rfl rfl ?_)
  refine wp_of e201 c201_6 (rw_aload_n (pc' := 7) (v := .ref r0) rfl rfl rfl ?_)
  refine wp_of e201 c201_7 (rw_iconst (pc' := 8) rfl ?_)
  refine wp_of e201 c201_8 (rw_bipush (pc' := 10) (z := 23) rfl (by decide) ?_)
  refine wp_of e201 c201_10 (xc_V (pc' := 13) (r := r0) (as := [vI 0, vI 23]) (st := [.ref r0]) (lm_9_137) rfl rfl (Nat.le_of_ble_eq_true rfl) w89797 g0 sh_42 (by decide) rfl (by decide) (s_184 w89797 g0 ⟨by omega, by omega⟩ ⟨by omega, by omega⟩ (by omega)) (fun R89806 T89807 H89808 p89809 => ?_))
  obtain ⟨e89810, w89812, f89813, z89819, e89811, b89820, p89814, p89815, p89816, p89817, p89818⟩ := p89809
  subst e89810
  subst e89811
  have f89821 := f89805.tr f89813 rfl
  show wp _ _ 201 13 [(1, vI z89803), (0, .ref r0)] [vI z89819, .ref r0] _ H89808 _
  refine wp_of e201 c201_13 (xp_I (pc' := 16) lf_9_300 w89812 g0 sh_42 (by decide) (by decide) ty_42_17 rfl rfl (by omega) (by omega) ⟨by omega, by omega⟩ rfl (fun H89822 e89823 w89824 => ?_))
  have f89825 := f89821.put' e89823 g0 rfl
  have k89826 : H89822 r0 17 = z89819 := wq_u_s e89823
  refine wp_of e201 c201_16 (rw_aload_n (pc' := 17) (v := .ref r0) rfl rfl rfl ?_)
  refine wp_of e201 c201_17 (rw_aload_n (pc' := 18) (v := .ref r0) rfl rfl rfl ?_)
  refine wp_of e201 c201_18 (rw_ldcS (pc' := 20) (k := 87) rfl rfl rfl rfl ?_)
  refine wp_of e201 c201_20 (rw_aload_n (pc' := 21) (v := .ref r0) rfl rfl rfl ?_)
  refine wp_of e201 c201_21 (xg_I (pc' := 24) lf_9_300 w89824 g0 sh_42 (by decide) (by decide) ty_42_17 rfl rfl (fun b89827 b89828 => ?_))
  refine wp_of e201 c201_24 (rw_iconst (pc' := 25) rfl ?_)
  refine wp_of e201 c201_25 (rw_iadd (pc' := 26) rfl ?_)
  refine wp_of e201 c201_26 (rw_bipush (pc' := 28) (z := 24) rfl (by decide) ?_)
  have k89829 : wJ H89822 r0 = wJ H89808 r0 := (wJ_fr w89812 g0 ((wfr.rf (l := [(42, 17)])).put' e89823 g0 rfl) rfl)
  have k89830 : wOV H89822 r0 = wOV H89808 r0 := (wOV_fr w89812 g0 ((wfr.rf (l := [(42, 17)])).put' e89823 g0 rfl) rfl)
  have k89831 : H89822 r0 10 = H89808 r0 10 := (wq_u_j e89823 rfl)
  refine wp_of e201 c201_28 (xc_V (pc' := 31) (r := r0) (as := [.ref 87, vI ((H89822 r0 17) + 1), vI 24]) (st := [.ref r0]) (lm_9_216) rfl rfl (Nat.le_of_ble_eq_true rfl) w89824 g0 sh_42 (by decide) rfl (by decide) (s_182 w89824 g0 rfl ⟨by omega, by omega⟩ ⟨by omega, by omega⟩ (by omega)) (fun R89832 T89833 H89834 p89835 => ?_))
  obtain ⟨e89836, w89838, f89839, z89845, e89837, b89846, p89840, p89841, p89842, p89843, p89844⟩ := p89835
  subst e89836
  subst e89837
  have f89847 := f89825.tr f89839 rfl
  show wp _ _ 201 31 [(1, vI z89803), (0, .ref r0)] [vI z89845, .ref r0] _ H89834 _
  refine wp_of e201 c201_31 (xp_I (pc' := 34) lf_9_303 w89838 g0 sh_42 (by decide) (by decide) ty_42_18 rfl rfl (by omega) (by omega) ⟨by omega, by omega⟩ rfl (fun H89848 e89849 w89850 => ?_))
  have f89851 := f89847.put' e89849 g0 rfl
  have k89852 : H89848 r0 18 = z89845 := wq_u_s e89849
  refine wp_of e201 c201_34 (rw_iload_n (pc' := 35) (z := z89803) rfl rfl ?_)
  have k89853 : H89848 r0 10 = H89834 r0 10 := (wq_u_j e89849 rfl)
  have k89854 : wOV H89848 r0 = wOV H89834 r0 := (wOV_fr w89838 g0 ((wfr.rf (l := [(42, 18)])).put' e89849 g0 rfl) rfl)
  have k89855 : wJ H89848 r0 = wJ H89834 r0 := (wJ_fr w89838 g0 ((wfr.rf (l := [(42, 18)])).put' e89849 g0 rfl) rfl)
  exact wp_ireturn e201 c201_35 rfl ⟨rfl, w89850, f89851, z89803, rfl, ⟨by omega, by omega⟩, by omega, by omega, by omega, by omega⟩
/-! StrikeAwakeModel.hoursFrom(II)I -/
theorem e202 : wq_en 202 = some (9, 4, false, some FieldType.int) := rfl
theorem c202_0 : mc_cd 202 0 = some (.iconst 0, 1) := by decide +kernel
theorem c202_1 : mc_cd 202 1 = some (.istore_n 2, 1) := by decide +kernel
theorem c202_2 : mc_cd 202 2 = some (.iload_n 0, 1) := by decide +kernel
theorem c202_3 : mc_cd 202 3 = some (.istore_n 3, 1) := by decide +kernel
theorem c202_4 : mc_cd 202 4 = some (.iload_n 3, 1) := by decide +kernel
theorem c202_5 : mc_cd 202 5 = some (.iload_n 1, 1) := by decide +kernel
theorem c202_6 : mc_cd 202 6 = some (.if_icmp .ge 21, 3) := by decide +kernel
theorem c202_9 : mc_cd 202 9 = some (.iload_n 3, 1) := by decide +kernel
theorem c202_10 : mc_cd 202 10 = some (.bipush 24, 2) := by decide +kernel
theorem c202_12 : mc_cd 202 12 = some (.if_icmp .ge 15, 3) := by decide +kernel
theorem c202_15 : mc_cd 202 15 = some (.iload_n 2, 1) := by decide +kernel
theorem c202_16 : mc_cd 202 16 = some (.iconst 1, 1) := by decide +kernel
theorem c202_17 : mc_cd 202 17 = some (.iload_n 3, 1) := by decide +kernel
theorem c202_18 : mc_cd 202 18 = some (.ishl, 1) := by decide +kernel
theorem c202_19 : mc_cd 202 19 = some (.ior, 1) := by decide +kernel
theorem c202_20 : mc_cd 202 20 = some (.istore_n 2, 1) := by decide +kernel
theorem c202_21 : mc_cd 202 21 = some (.iinc 3 1, 3) := by decide +kernel
theorem c202_24 : mc_cd 202 24 = some (.goto (-20), 3) := by decide +kernel
theorem c202_27 : mc_cd 202 27 = some (.iload_n 2, 1) := by decide +kernel
theorem c202_28 : mc_cd 202 28 = some (.ireturn, 1) := by decide +kernel
abbrev q_202 (a0 : Int) (a1 : Int) (T : wq_T) (H : wq_H) : Option Value → wq_T → wq_H → Prop := fun r T' H' => T = T' ∧ H = H' ∧ ∃ z : Int, some (vI z) = r ∧ ((-2147483648) ≤ z ∧ z ≤ 2147483647)
set_option maxHeartbeats 4000000 in
theorem s_202 {kt : Nat → Option mc_E} {T : wq_T} {H : wq_H} {a0 : Int} {a1 : Int} (hW : WT T H) (i0 : (-2147483648) ≤ a0 ∧ a0 ≤ 2147483647) (i1 : (-2147483648) ≤ a1 ∧ a1 ≤ 2147483647) : wpc kt 1 202 [vI a0, vI a1] T H (q_202 a0 a1 T H) := by
  refine wp_enter e202 (Nat.le_of_ble_eq_true rfl) rfl ?_
  show wp _ _ 202 0 [(0, vI a0), (1, vI a1)] [] _ H _
  refine wp_of e202 c202_0 (rw_iconst (pc' := 1) rfl ?_)
  refine wp_of e202 c202_1 (rw_istore_n (pc' := 2) (z := 0) (L' := [(2, vI 0), (0, vI a0), (1, vI a1)]) rfl rfl rfl ?_)
  refine wp_of e202 c202_2 (rw_iload_n (pc' := 3) (z := a0) rfl rfl ?_)
  refine wp_of e202 c202_3 (rw_istore_n (pc' := 4) (z := a0) (L' := [(3, vI a0), (2, vI 0), (0, vI a0), (1, vI a1)]) rfl rfl rfl ?_)
  have lp89887 : ∀ (n89888 : Nat) (v89890 : Int) (v89891 : Int), ((-2147483648) ≤ v89890 ∧ v89890 ≤ 2147483647) → ((-2147483648) ≤ v89891 ∧ v89891 ≤ 2147483647) → (2147483647 - v89890).toNat = n89888 → wp kt 0 202 4 [(3, vI v89890), (2, vI v89891), (1, vI a1)] [] T H (q_202 a0 a1 T H) := by
    intro n89888
    induction n89888 using Nat.strongRecOn with
    | _ n89888 ih89889 =>
      intro v89890 v89891 b89894 b89895 m89896
      refine wp_of e202 c202_4 (rw_iload_n (pc' := 5) (z := v89890) rfl rfl ?_)
      refine wp_of e202 c202_5 (rw_iload_n (pc' := 6) (z := a1) rfl rfl ?_)
      refine wp_of e202 c202_6 (rw_icmp_ge (p1 := 27) (p2 := 9) (by decide) rfl ⟨by omega, by omega⟩ ⟨by omega, by omega⟩ (fun c89897 => ?_) (fun c89897 => ?_))
      · refine wp_of e202 c202_27 (rw_iload_n (pc' := 28) (z := v89891) rfl rfl ?_)
        exact wp_ireturn e202 c202_28 rfl ⟨rfl, rfl, v89891, rfl, ⟨by omega, by omega⟩⟩
      · refine wp_of e202 c202_9 (rw_iload_n (pc' := 10) (z := v89890) rfl rfl ?_)
        refine wp_of e202 c202_10 (rw_bipush (pc' := 12) (z := 24) rfl (by decide) ?_)
        refine wp_of e202 c202_12 (rw_icmp_ge (p1 := 27) (p2 := 15) (by decide) rfl ⟨by omega, by omega⟩ ⟨by omega, by omega⟩ (fun c89898 => ?_) (fun c89898 => ?_))
        · refine wp_of e202 c202_27 (rw_iload_n (pc' := 28) (z := v89891) rfl rfl ?_)
          exact wp_ireturn e202 c202_28 rfl ⟨rfl, rfl, v89891, rfl, ⟨by omega, by omega⟩⟩
        · refine wp_of e202 c202_15 (rw_iload_n (pc' := 16) (z := v89891) rfl rfl ?_)
          refine wp_of e202 c202_16 (rw_iconst (pc' := 17) rfl ?_)
          refine wp_of e202 c202_17 (rw_iload_n (pc' := 18) (z := v89890) rfl rfl ?_)
          refine wp_of e202 c202_18 (rw_ishl (pc' := 19) rfl ?_)
          obtain ⟨v89899, e89900⟩ : ∃ x : Int, x = wq_shl 1 v89890 := ⟨_, rfl⟩
          rw [← e89900]
          have b89901 : -2147483648 ≤ v89899 ∧ v89899 ≤ 2147483647 := by
            rw [e89900]
            exact wI_shl _ _
          refine wp_of e202 c202_19 (rw_ior (pc' := 20) rfl ?_)
          obtain ⟨v89902, e89903⟩ : ∃ x : Int, x = wq_or v89891 v89899 := ⟨_, rfl⟩
          rw [← e89903]
          have b89904 : -2147483648 ≤ v89902 ∧ v89902 ≤ 2147483647 := by
            rw [e89903]
            exact wI_or _ _
          refine wp_of e202 c202_20 (rw_istore_n (pc' := 21) (z := v89902) (L' := [(2, vI v89902), (3, vI v89890), (1, vI a1)]) rfl rfl rfl ?_)
          refine wp_of e202 c202_21 (rw_iinc (pc' := 24) (z := v89890) (L' := [(3, vI (v89890 + 1)), (2, vI v89902), (1, vI a1)]) rfl rfl rfl rfl ?_)
          refine wp_of e202 c202_24 (rw_goto (p1 := 4) (by decide) ?_)
          exact wp_lc (ks := [3, 2, 1]) (wl_c rfl (wl_c rfl (wl_c rfl wl_n))) rfl (by decide) (ih89889 _ (by omega) (v89890 + 1) v89902 ⟨by omega, by omega⟩ ⟨by omega, by omega⟩ rfl)
  exact wp_lc (ks := [3, 2, 0, 1]) (wl_c rfl (wl_c rfl (wl_c rfl wl_n))) rfl (by decide) (lp89887 _ a0 0 ⟨by omega, by omega⟩ ⟨by omega, by omega⟩ rfl)
/-! StrikeAwakeModel.readTold()V -/
theorem e200 : wq_en 200 = some (9, 2, false, none) := rfl
theorem c200_0 : mc_cd 200 0 = some (.aload_n 0, 1) := by decide +kernel
theorem c200_1 : mc_cd 200 1 = some (.aload_n 0, 1) := by decide +kernel
theorem c200_2 : mc_cd 200 2 = some (.getfield 166, 3) := by decide +kernel
theorem c200_5 : mc_cd 200 5 = some (.getfield 306, 3) := by decide +kernel
theorem c200_8 : mc_cd 200 8 = some (.iconst 4, 1) := by decide +kernel
theorem c200_9 : mc_cd 200 9 = some (.invokevirtual 228, 3) := by decide +kernel
theorem c200_12 : mc_cd 200 12 = some (.aload_n 0, 1) := by decide +kernel
theorem c200_13 : mc_cd 200 13 = some (.invokevirtual 309, 3) := by decide +kernel
theorem c200_16 : mc_cd 200 16 = some (.istore_n 1, 1) := by decide +kernel
theorem c200_17 : mc_cd 200 17 = some (.aload_n 0, 1) := by decide +kernel
theorem c200_18 : mc_cd 200 18 = some (.getfield 75, 3) := by decide +kernel
theorem c200_21 : mc_cd 200 21 = some (.iconst 5, 1) := by decide +kernel
theorem c200_22 : mc_cd 200 22 = some (.if_icmp .ne 4, 3) := by decide +kernel
theorem c200_25 : mc_cd 200 25 = some (.return_, 1) := by decide +kernel
theorem c200_26 : mc_cd 200 26 = some (.aload_n 0, 1) := by decide +kernel
theorem c200_27 : mc_cd 200 27 = some (.getfield 166, 3) := by decide +kernel
theorem c200_30 : mc_cd 200 30 = some (.getfield 312, 3) := by decide +kernel
theorem c200_33 : mc_cd 200 33 = some (.aload_n 0, 1) := by decide +kernel
theorem c200_34 : mc_cd 200 34 = some (.getfield 166, 3) := by decide +kernel
theorem c200_37 : mc_cd 200 37 = some (.getfield 306, 3) := by decide +kernel
theorem c200_40 : mc_cd 200 40 = some (.iload_n 1, 1) := by decide +kernel
theorem c200_41 : mc_cd 200 41 = some (.iastore, 1) := by decide +kernel
theorem c200_42 : mc_cd 200 42 = some (.aload_n 0, 1) := by decide +kernel
theorem c200_43 : mc_cd 200 43 = some (.getfield 166, 3) := by decide +kernel
theorem c200_46 : mc_cd 200 46 = some (.getfield 315, 3) := by decide +kernel
theorem c200_49 : mc_cd 200 49 = some (.aload_n 0, 1) := by decide +kernel
theorem c200_50 : mc_cd 200 50 = some (.getfield 166, 3) := by decide +kernel
theorem c200_53 : mc_cd 200 53 = some (.getfield 306, 3) := by decide +kernel
theorem c200_56 : mc_cd 200 56 = some (.aload_n 0, 1) := by decide +kernel
theorem c200_57 : mc_cd 200 57 = some (.getfield 300, 3) := by decide +kernel
theorem c200_60 : mc_cd 200 60 = some (.aload_n 0, 1) := by decide +kernel
theorem c200_61 : mc_cd 200 61 = some (.getfield 303, 3) := by decide +kernel
theorem c200_64 : mc_cd 200 64 = some (.invokestatic 318, 3) := by decide +kernel
theorem c200_67 : mc_cd 200 67 = some (.iastore, 1) := by decide +kernel
theorem c200_68 : mc_cd 200 68 = some (.aload_n 0, 1) := by decide +kernel
theorem c200_69 : mc_cd 200 69 = some (.getfield 166, 3) := by decide +kernel
theorem c200_72 : mc_cd 200 72 = some (.dup, 1) := by decide +kernel
theorem c200_73 : mc_cd 200 73 = some (.getfield 306, 3) := by decide +kernel
theorem c200_76 : mc_cd 200 76 = some (.iconst 1, 1) := by decide +kernel
theorem c200_77 : mc_cd 200 77 = some (.iadd, 1) := by decide +kernel
theorem c200_78 : mc_cd 200 78 = some (.putfield 306, 3) := by decide +kernel
theorem c200_81 : mc_cd 200 81 = some (.return_, 1) := by decide +kernel
abbrev q_200 (r0 : Nat) (rp : Nat) (T : wq_T) (H : wq_H) : Option Value → wq_T → wq_H → Prop := fun r T' H' => T = T' ∧ WT T H' ∧ wfr [(54, 6), (42, 8), (42, 9), (42, 10), (42, 11), (42, 12), (42, 13), (42, 14), (42, 15), (42, 17), (42, 18), (68, 999), (69, 999)] T H H' ∧ none = r ∧ (wJ H' r0 = 1) ∧ (H r0 10 ≤ H' r0 10) ∧ (wOV H r0 ≤ wOV H' r0) ∧ (wOV H' r0 ≤ 1)
set_option maxHeartbeats 4000000 in
theorem s_200 {kt : Nat → Option mc_E} {T : wq_T} {H : wq_H} {r0 : Nat} {rp : Nat} (hW : WT T H) (g0 : T.2.2.2 r0 = some 42) (qrp : H r0 4 = (rp : Int)) (grp : T.2.2.2 rp = some 54) (p0 : wJ H r0 = 1) : wpc kt 7 200 [.ref r0] T H (q_200 r0 rp T H) := by
  refine wp_enter e200 (Nat.le_of_ble_eq_true rfl) rfl ?_
  have f0 : wfr [(54, 6), (42, 8), (42, 9), (42, 10), (42, 11), (42, 12), (42, 13), (42, 14), (42, 15), (42, 17), (42, 18), (68, 999), (69, 999)] T H H := wfr.rf
  show wp _ _ 200 0 [(0, .ref r0)] [] _ H _
  have hb0 := wOV_b (H := H) (m := r0)
  refine wp_of e200 c200_0 (rw_aload_n (pc' := 1) (v := .ref r0) rfl rfl rfl ?_)
  refine wp_of e200 c200_1 (rw_aload_n (pc' := 2) (v := .ref r0) rfl rfl rfl ?_)
  refine wp_of e200 c200_2 (xg_K (pc' := 5) lf_9_166 hW g0 sh_42 (by decide) (by decide) rfl qrp rfl ?_)
  refine wp_of e200 c200_5 (xg_I (pc' := 8) lf_9_306 hW grp sh_54 (by decide) (by decide) ty_54_6 rfl rfl (fun b89993 b89994 => ?_))
  refine wp_of e200 c200_8 (rw_iconst (pc' := 9) rfl ?_)
  refine wp_of e200 c200_9 (xc_V (pc' := 12) (r := r0) (as := [vI (H rp 6), vI 4]) (st := []) (lm_9_228) rfl rfl (Nat.le_of_ble_eq_true rfl) hW g0 sh_42 (by decide) rfl (by decide) (s_188 hW g0 ⟨by omega, by omega⟩ ⟨by omega, by omega⟩ (by omega)) (fun R89995 T89996 H89997 p89998 => ?_))
  obtain ⟨e89999, w90001, f90002, e90000, p90003, p90004, p90005, p90006, p90007⟩ := p89998
  subst e89999
  subst e90000
  have f90008 := f0.tr f90002 rfl
  show wp _ _ 200 12 [(0, .ref r0)] [] _ H89997 _
  refine wp_of e200 c200_12 (rw_aload_n (pc' := 13) (v := .ref r0) rfl rfl rfl ?_)
  have k90009 : H89997 r0 4 = H r0 4 := (f90002 r0 4 _ g0 rfl)
  have q90010 : H89997 r0 4 = (rp : Int) := k90009.trans qrp
  refine wp_of e200 c200_13 (xc_V (pc' := 16) (r := r0) (as := []) (st := []) (lm_9_309) rfl rfl (Nat.le_of_ble_eq_true rfl) w90001 g0 sh_42 (by decide) rfl (by decide) (s_201 w90001 g0 q90010 grp (by omega)) (fun R90011 T90012 H90013 p90014 => ?_))
  obtain ⟨e90015, w90017, f90018, z90023, e90016, b90024, p90019, p90020, p90021, p90022⟩ := p90014
  subst e90015
  subst e90016
  have f90025 := f90008.tr f90018 rfl
  show wp _ _ 200 16 [(0, .ref r0)] [vI z90023] _ H90013 _
  refine wp_of e200 c200_16 (rw_istore_n (pc' := 17) (z := z90023) (L' := [(1, vI z90023), (0, .ref r0)]) rfl rfl rfl ?_)
  refine wp_of e200 c200_17 (rw_aload_n (pc' := 18) (v := .ref r0) rfl rfl rfl ?_)
  refine wp_of e200 c200_18 (xg_I (pc' := 21) lf_9_75 w90017 g0 sh_42 (by decide) (by decide) ty_42_9 rfl rfl (fun b90026 b90027 => ?_))
  have k90028 := wOV_e (H := H90013) (m := r0)
  refine wp_of e200 c200_21 (rw_iconst (pc' := 22) rfl ?_)
  refine wp_of e200 c200_22 (rw_icmp_ne (p1 := 26) (p2 := 25) (by decide) rfl ⟨by omega, by omega⟩ ⟨by omega, by omega⟩ (fun c90029 => ?_) (fun c90029 => ?_))
  · refine wp_of e200 c200_26 (rw_aload_n (pc' := 27) (v := .ref r0) rfl rfl rfl ?_)
    have k90030 : H90013 r0 4 = H89997 r0 4 := (f90018 r0 4 _ g0 rfl)
    have q90031 : H90013 r0 4 = (rp : Int) := k90030.trans q90010
    refine wp_of e200 c200_27 (xg_K (pc' := 30) lf_9_166 w90017 g0 sh_42 (by decide) (by decide) rfl q90031 rfl ?_)
    refine wp_of e200 c200_30 (xg_R (pc' := 33) lf_9_312 w90017 grp sh_54 (by decide) (by decide) ty_54_22 rfl rfl (fun r90032 q90033 g90034 => ?_))
    refine wp_of e200 c200_33 (rw_aload_n (pc' := 34) (v := .ref r0) rfl rfl rfl ?_)
    refine wp_of e200 c200_34 (xg_K (pc' := 37) lf_9_166 w90017 g0 sh_42 (by decide) (by decide) rfl q90031 rfl ?_)
    have k90035 : H90013 rp 6 = H rp 6 := ((f90018 rp 6 _ grp rfl).trans (f90002 rp 6 _ grp rfl))
    refine wp_of e200 c200_37 (xg_I (pc' := 40) lf_9_306 w90017 grp sh_54 (by decide) (by decide) ty_54_6 rfl rfl (fun b90036 b90037 => ?_))
    refine wp_of e200 c200_40 (rw_iload_n (pc' := 41) (z := z90023) rfl rfl ?_)
    refine wp_of e200 c200_41 (xs_I (pc' := 42) w90017 g90034 (by decide) sh_68 (by decide) (ty_68 _) (by omega) (by omega) ⟨by omega, by omega⟩ (by omega) (by omega) rfl (fun H90038 e90039 w90040 => ?_))
    have f90041 := f90025.put' e90039 g90034 rfl
    refine wp_of e200 c200_42 (rw_aload_n (pc' := 43) (v := .ref r0) rfl rfl rfl ?_)
    have k90042 : H90038 r0 4 = H90013 r0 4 := (wq_u_t e90039 g90034 g0 rfl 4)
    have q90043 : H90038 r0 4 = (rp : Int) := k90042.trans q90031
    refine wp_of e200 c200_43 (xg_K (pc' := 46) lf_9_166 w90040 g0 sh_42 (by decide) (by decide) rfl q90043 rfl ?_)
    refine wp_of e200 c200_46 (xg_R (pc' := 49) lf_9_315 w90040 grp sh_54 (by decide) (by decide) ty_54_23 rfl rfl (fun r90044 q90045 g90046 => ?_))
    refine wp_of e200 c200_49 (rw_aload_n (pc' := 50) (v := .ref r0) rfl rfl rfl ?_)
    refine wp_of e200 c200_50 (xg_K (pc' := 53) lf_9_166 w90040 g0 sh_42 (by decide) (by decide) rfl q90043 rfl ?_)
    have k90047 : H90038 rp 6 = H90013 rp 6 := (wq_u_t e90039 g90034 grp rfl 6)
    refine wp_of e200 c200_53 (xg_I (pc' := 56) lf_9_306 w90040 grp sh_54 (by decide) (by decide) ty_54_6 rfl rfl (fun b90048 b90049 => ?_))
    refine wp_of e200 c200_56 (rw_aload_n (pc' := 57) (v := .ref r0) rfl rfl rfl ?_)
    refine wp_of e200 c200_57 (xg_I (pc' := 60) lf_9_300 w90040 g0 sh_42 (by decide) (by decide) ty_42_17 rfl rfl (fun b90050 b90051 => ?_))
    refine wp_of e200 c200_60 (rw_aload_n (pc' := 61) (v := .ref r0) rfl rfl rfl ?_)
    refine wp_of e200 c200_61 (xg_I (pc' := 64) lf_9_303 w90040 g0 sh_42 (by decide) (by decide) ty_42_18 rfl rfl (fun b90052 b90053 => ?_))
    refine wp_of e200 c200_64 (xc_S (pc' := 67) (as := [vI (H90038 r0 17), vI (H90038 r0 18)]) (st := [vI (H90038 rp 6), .ref r90044]) (lm_9_318) rfl rfl (Nat.le_of_ble_eq_true rfl) rfl (by decide) (s_202 w90040 ⟨by omega, by omega⟩ ⟨by omega, by omega⟩) (fun R90054 T90055 H90056 p90057 => ?_))
    obtain ⟨e90058, e90060, z90061, e90059, b90062⟩ := p90057
    subst e90058
    subst e90059
    subst e90060
    show wp _ _ 200 67 [(1, vI z90023), (0, .ref r0)] [vI z90061, vI (H90038 rp 6), .ref r90044] _ H90038 _
    refine wp_of e200 c200_67 (xs_I (pc' := 68) w90040 g90046 (by decide) sh_69 (by decide) (ty_69 _) (by omega) (by omega) ⟨by omega, by omega⟩ (by omega) (by omega) rfl (fun H90063 e90064 w90065 => ?_))
    have f90066 := f90041.put' e90064 g90046 rfl
    refine wp_of e200 c200_68 (rw_aload_n (pc' := 69) (v := .ref r0) rfl rfl rfl ?_)
    have k90067 : H90063 r0 4 = H90038 r0 4 := (wq_u_t e90064 g90046 g0 rfl 4)
    have q90068 : H90063 r0 4 = (rp : Int) := k90067.trans q90043
    refine wp_of e200 c200_69 (xg_K (pc' := 72) lf_9_166 w90065 g0 sh_42 (by decide) (by decide) rfl q90068 rfl ?_)
    refine wp_of e200 c200_72 (rw_dup (pc' := 73) rfl rfl ?_)
    have k90069 : H90063 rp 6 = H90038 rp 6 := (wq_u_t e90064 g90046 grp rfl 6)
    refine wp_of e200 c200_73 (xg_I (pc' := 76) lf_9_306 w90065 grp sh_54 (by decide) (by decide) ty_54_6 rfl rfl (fun b90070 b90071 => ?_))
    refine wp_of e200 c200_76 (rw_iconst (pc' := 77) rfl ?_)
    refine wp_of e200 c200_77 (rw_iadd (pc' := 78) rfl ?_)
    refine wp_of e200 c200_78 (xp_I (pc' := 81) lf_9_306 w90065 grp sh_54 (by decide) (by decide) ty_54_6 rfl rfl (by omega) (by omega) ⟨by omega, by omega⟩ rfl (fun H90072 e90073 w90074 => ?_))
    have f90075 := f90066.put' e90073 grp rfl
    have k90076 : H90072 rp 6 = (H90063 rp 6) + 1 := wq_u_s e90073
    have k90077 : H90072 r0 9 = H90013 r0 9 := ((wq_u_t e90073 grp g0 rfl 9).trans ((wq_u_t e90064 g90046 g0 rfl 9).trans (wq_u_t e90039 g90034 g0 rfl 9)))
    have k90078 : H90072 r0 10 = H90013 r0 10 := ((wq_u_t e90073 grp g0 rfl 10).trans ((wq_u_t e90064 g90046 g0 rfl 10).trans (wq_u_t e90039 g90034 g0 rfl 10)))
    have k90079 : wOV H90072 r0 = wOV H90013 r0 := ((wOV_fr w90065 g0 ((wfr.rf (l := [(54, 6)])).put' e90073 grp rfl) rfl).trans ((wOV_fr w90040 g0 ((wfr.rf (l := [(69, 999)])).put' e90064 g90046 rfl) rfl).trans (wOV_fr w90017 g0 ((wfr.rf (l := [(68, 999)])).put' e90039 g90034 rfl) rfl)))
    have k90080 : wJ H90072 r0 = wJ H90013 r0 := ((wJ_fr w90065 g0 ((wfr.rf (l := [(54, 6)])).put' e90073 grp rfl) rfl).trans ((wJ_fr w90040 g0 ((wfr.rf (l := [(69, 999)])).put' e90064 g90046 rfl) rfl).trans (wJ_fr w90017 g0 ((wfr.rf (l := [(68, 999)])).put' e90039 g90034 rfl) rfl)))
    exact wp_return e200 c200_81 rfl ⟨rfl, w90074, f90075, rfl, by omega, by omega, by omega, by omega⟩
  · exact wp_return e200 c200_25 rfl ⟨rfl, w90017, f90025, rfl, by omega, by omega, by omega, by omega⟩
/-! StrikeAwakeModel.readOffer()V -/
theorem e203 : wq_en 203 = some (9, 2, false, none) := rfl
theorem c203_0 : mc_cd 203 0 = some (.aload_n 0, 1) := by decide +kernel
theorem c203_1 : mc_cd 203 1 = some (.aload_n 0, 1) := by decide +kernel
theorem c203_2 : mc_cd 203 2 = some (.getfield 166, 3) := by decide +kernel
theorem c203_5 : mc_cd 203 5 = some (.getfield 321, 3) := by decide +kernel
theorem c203_8 : mc_cd 203 8 = some (.bipush 6, 2) := by decide +kernel
theorem c203_10 : mc_cd 203 10 = some (.invokevirtual 228, 3) := by decide +kernel
theorem c203_13 : mc_cd 203 13 = some (.aload_n 0, 1) := by decide +kernel
theorem c203_14 : mc_cd 203 14 = some (.invokevirtual 309, 3) := by decide +kernel
theorem c203_17 : mc_cd 203 17 = some (.istore_n 1, 1) := by decide +kernel
theorem c203_18 : mc_cd 203 18 = some (.aload_n 0, 1) := by decide +kernel
theorem c203_19 : mc_cd 203 19 = some (.getfield 75, 3) := by decide +kernel
theorem c203_22 : mc_cd 203 22 = some (.iconst 5, 1) := by decide +kernel
theorem c203_23 : mc_cd 203 23 = some (.if_icmp .ne 4, 3) := by decide +kernel
theorem c203_26 : mc_cd 203 26 = some (.return_, 1) := by decide +kernel
theorem c203_27 : mc_cd 203 27 = some (.aload_n 0, 1) := by decide +kernel
theorem c203_28 : mc_cd 203 28 = some (.getfield 166, 3) := by decide +kernel
theorem c203_31 : mc_cd 203 31 = some (.getfield 324, 3) := by decide +kernel
theorem c203_34 : mc_cd 203 34 = some (.aload_n 0, 1) := by decide +kernel
theorem c203_35 : mc_cd 203 35 = some (.getfield 166, 3) := by decide +kernel
theorem c203_38 : mc_cd 203 38 = some (.getfield 321, 3) := by decide +kernel
theorem c203_41 : mc_cd 203 41 = some (.iload_n 1, 1) := by decide +kernel
theorem c203_42 : mc_cd 203 42 = some (.iastore, 1) := by decide +kernel
theorem c203_43 : mc_cd 203 43 = some (.aload_n 0, 1) := by decide +kernel
theorem c203_44 : mc_cd 203 44 = some (.getfield 166, 3) := by decide +kernel
theorem c203_47 : mc_cd 203 47 = some (.getfield 327, 3) := by decide +kernel
theorem c203_50 : mc_cd 203 50 = some (.aload_n 0, 1) := by decide +kernel
theorem c203_51 : mc_cd 203 51 = some (.getfield 166, 3) := by decide +kernel
theorem c203_54 : mc_cd 203 54 = some (.getfield 321, 3) := by decide +kernel
theorem c203_57 : mc_cd 203 57 = some (.aload_n 0, 1) := by decide +kernel
theorem c203_58 : mc_cd 203 58 = some (.getfield 300, 3) := by decide +kernel
theorem c203_61 : mc_cd 203 61 = some (.aload_n 0, 1) := by decide +kernel
theorem c203_62 : mc_cd 203 62 = some (.getfield 303, 3) := by decide +kernel
theorem c203_65 : mc_cd 203 65 = some (.invokestatic 318, 3) := by decide +kernel
theorem c203_68 : mc_cd 203 68 = some (.iastore, 1) := by decide +kernel
theorem c203_69 : mc_cd 203 69 = some (.aload_n 0, 1) := by decide +kernel
theorem c203_70 : mc_cd 203 70 = some (.getfield 166, 3) := by decide +kernel
theorem c203_73 : mc_cd 203 73 = some (.dup, 1) := by decide +kernel
theorem c203_74 : mc_cd 203 74 = some (.getfield 321, 3) := by decide +kernel
theorem c203_77 : mc_cd 203 77 = some (.iconst 1, 1) := by decide +kernel
theorem c203_78 : mc_cd 203 78 = some (.iadd, 1) := by decide +kernel
theorem c203_79 : mc_cd 203 79 = some (.putfield 321, 3) := by decide +kernel
theorem c203_82 : mc_cd 203 82 = some (.return_, 1) := by decide +kernel
abbrev q_203 (r0 : Nat) (rp : Nat) (T : wq_T) (H : wq_H) : Option Value → wq_T → wq_H → Prop := fun r T' H' => T = T' ∧ WT T H' ∧ wfr [(54, 7), (42, 8), (42, 9), (42, 10), (42, 11), (42, 12), (42, 13), (42, 14), (42, 15), (42, 17), (42, 18), (72, 999), (71, 999)] T H H' ∧ none = r ∧ (wJ H' r0 = 1) ∧ (H r0 10 ≤ H' r0 10) ∧ (wOV H r0 ≤ wOV H' r0) ∧ (wOV H' r0 ≤ 1)
set_option maxHeartbeats 4000000 in
theorem s_203 {kt : Nat → Option mc_E} {T : wq_T} {H : wq_H} {r0 : Nat} {rp : Nat} (hW : WT T H) (g0 : T.2.2.2 r0 = some 42) (qrp : H r0 4 = (rp : Int)) (grp : T.2.2.2 rp = some 54) (p0 : wJ H r0 = 1) : wpc kt 7 203 [.ref r0] T H (q_203 r0 rp T H) := by
  refine wp_enter e203 (Nat.le_of_ble_eq_true rfl) rfl ?_
  have f0 : wfr [(54, 7), (42, 8), (42, 9), (42, 10), (42, 11), (42, 12), (42, 13), (42, 14), (42, 15), (42, 17), (42, 18), (72, 999), (71, 999)] T H H := wfr.rf
  show wp _ _ 203 0 [(0, .ref r0)] [] _ H _
  have hb0 := wOV_b (H := H) (m := r0)
  refine wp_of e203 c203_0 (rw_aload_n (pc' := 1) (v := .ref r0) rfl rfl rfl ?_)
  refine wp_of e203 c203_1 (rw_aload_n (pc' := 2) (v := .ref r0) rfl rfl rfl ?_)
  refine wp_of e203 c203_2 (xg_K (pc' := 5) lf_9_166 hW g0 sh_42 (by decide) (by decide) rfl qrp rfl ?_)
  refine wp_of e203 c203_5 (xg_I (pc' := 8) lf_9_321 hW grp sh_54 (by decide) (by decide) ty_54_7 rfl rfl (fun b90169 b90170 => ?_))
  refine wp_of e203 c203_8 (rw_bipush (pc' := 10) (z := 6) rfl (by decide) ?_)
  refine wp_of e203 c203_10 (xc_V (pc' := 13) (r := r0) (as := [vI (H rp 7), vI 6]) (st := []) (lm_9_228) rfl rfl (Nat.le_of_ble_eq_true rfl) hW g0 sh_42 (by decide) rfl (by decide) (s_188 hW g0 ⟨by omega, by omega⟩ ⟨by omega, by omega⟩ (by omega)) (fun R90171 T90172 H90173 p90174 => ?_))
  obtain ⟨e90175, w90177, f90178, e90176, p90179, p90180, p90181, p90182, p90183⟩ := p90174
  subst e90175
  subst e90176
  have f90184 := f0.tr f90178 rfl
  show wp _ _ 203 13 [(0, .ref r0)] [] _ H90173 _
  refine wp_of e203 c203_13 (rw_aload_n (pc' := 14) (v := .ref r0) rfl rfl rfl ?_)
  have k90185 : H90173 r0 4 = H r0 4 := (f90178 r0 4 _ g0 rfl)
  have q90186 : H90173 r0 4 = (rp : Int) := k90185.trans qrp
  refine wp_of e203 c203_14 (xc_V (pc' := 17) (r := r0) (as := []) (st := []) (lm_9_309) rfl rfl (Nat.le_of_ble_eq_true rfl) w90177 g0 sh_42 (by decide) rfl (by decide) (s_201 w90177 g0 q90186 grp (by omega)) (fun R90187 T90188 H90189 p90190 => ?_))
  obtain ⟨e90191, w90193, f90194, z90199, e90192, b90200, p90195, p90196, p90197, p90198⟩ := p90190
  subst e90191
  subst e90192
  have f90201 := f90184.tr f90194 rfl
  show wp _ _ 203 17 [(0, .ref r0)] [vI z90199] _ H90189 _
  refine wp_of e203 c203_17 (rw_istore_n (pc' := 18) (z := z90199) (L' := [(1, vI z90199), (0, .ref r0)]) rfl rfl rfl ?_)
  refine wp_of e203 c203_18 (rw_aload_n (pc' := 19) (v := .ref r0) rfl rfl rfl ?_)
  refine wp_of e203 c203_19 (xg_I (pc' := 22) lf_9_75 w90193 g0 sh_42 (by decide) (by decide) ty_42_9 rfl rfl (fun b90202 b90203 => ?_))
  have k90204 := wOV_e (H := H90189) (m := r0)
  refine wp_of e203 c203_22 (rw_iconst (pc' := 23) rfl ?_)
  refine wp_of e203 c203_23 (rw_icmp_ne (p1 := 27) (p2 := 26) (by decide) rfl ⟨by omega, by omega⟩ ⟨by omega, by omega⟩ (fun c90205 => ?_) (fun c90205 => ?_))
  · refine wp_of e203 c203_27 (rw_aload_n (pc' := 28) (v := .ref r0) rfl rfl rfl ?_)
    have k90206 : H90189 r0 4 = H90173 r0 4 := (f90194 r0 4 _ g0 rfl)
    have q90207 : H90189 r0 4 = (rp : Int) := k90206.trans q90186
    refine wp_of e203 c203_28 (xg_K (pc' := 31) lf_9_166 w90193 g0 sh_42 (by decide) (by decide) rfl q90207 rfl ?_)
    refine wp_of e203 c203_31 (xg_R (pc' := 34) lf_9_324 w90193 grp sh_54 (by decide) (by decide) ty_54_25 rfl rfl (fun r90208 q90209 g90210 => ?_))
    refine wp_of e203 c203_34 (rw_aload_n (pc' := 35) (v := .ref r0) rfl rfl rfl ?_)
    refine wp_of e203 c203_35 (xg_K (pc' := 38) lf_9_166 w90193 g0 sh_42 (by decide) (by decide) rfl q90207 rfl ?_)
    have k90211 : H90189 rp 7 = H rp 7 := ((f90194 rp 7 _ grp rfl).trans (f90178 rp 7 _ grp rfl))
    refine wp_of e203 c203_38 (xg_I (pc' := 41) lf_9_321 w90193 grp sh_54 (by decide) (by decide) ty_54_7 rfl rfl (fun b90212 b90213 => ?_))
    refine wp_of e203 c203_41 (rw_iload_n (pc' := 42) (z := z90199) rfl rfl ?_)
    refine wp_of e203 c203_42 (xs_I (pc' := 43) w90193 g90210 (by decide) sh_71 (by decide) (ty_71 _) (by omega) (by omega) ⟨by omega, by omega⟩ (by omega) (by omega) rfl (fun H90214 e90215 w90216 => ?_))
    have f90217 := f90201.put' e90215 g90210 rfl
    refine wp_of e203 c203_43 (rw_aload_n (pc' := 44) (v := .ref r0) rfl rfl rfl ?_)
    have k90218 : H90214 r0 4 = H90189 r0 4 := (wq_u_t e90215 g90210 g0 rfl 4)
    have q90219 : H90214 r0 4 = (rp : Int) := k90218.trans q90207
    refine wp_of e203 c203_44 (xg_K (pc' := 47) lf_9_166 w90216 g0 sh_42 (by decide) (by decide) rfl q90219 rfl ?_)
    refine wp_of e203 c203_47 (xg_R (pc' := 50) lf_9_327 w90216 grp sh_54 (by decide) (by decide) ty_54_26 rfl rfl (fun r90220 q90221 g90222 => ?_))
    refine wp_of e203 c203_50 (rw_aload_n (pc' := 51) (v := .ref r0) rfl rfl rfl ?_)
    refine wp_of e203 c203_51 (xg_K (pc' := 54) lf_9_166 w90216 g0 sh_42 (by decide) (by decide) rfl q90219 rfl ?_)
    have k90223 : H90214 rp 7 = H90189 rp 7 := (wq_u_t e90215 g90210 grp rfl 7)
    refine wp_of e203 c203_54 (xg_I (pc' := 57) lf_9_321 w90216 grp sh_54 (by decide) (by decide) ty_54_7 rfl rfl (fun b90224 b90225 => ?_))
    refine wp_of e203 c203_57 (rw_aload_n (pc' := 58) (v := .ref r0) rfl rfl rfl ?_)
    refine wp_of e203 c203_58 (xg_I (pc' := 61) lf_9_300 w90216 g0 sh_42 (by decide) (by decide) ty_42_17 rfl rfl (fun b90226 b90227 => ?_))
    refine wp_of e203 c203_61 (rw_aload_n (pc' := 62) (v := .ref r0) rfl rfl rfl ?_)
    refine wp_of e203 c203_62 (xg_I (pc' := 65) lf_9_303 w90216 g0 sh_42 (by decide) (by decide) ty_42_18 rfl rfl (fun b90228 b90229 => ?_))
    refine wp_of e203 c203_65 (xc_S (pc' := 68) (as := [vI (H90214 r0 17), vI (H90214 r0 18)]) (st := [vI (H90214 rp 7), .ref r90220]) (lm_9_318) rfl rfl (Nat.le_of_ble_eq_true rfl) rfl (by decide) (s_202 w90216 ⟨by omega, by omega⟩ ⟨by omega, by omega⟩) (fun R90230 T90231 H90232 p90233 => ?_))
    obtain ⟨e90234, e90236, z90237, e90235, b90238⟩ := p90233
    subst e90234
    subst e90235
    subst e90236
    show wp _ _ 203 68 [(1, vI z90199), (0, .ref r0)] [vI z90237, vI (H90214 rp 7), .ref r90220] _ H90214 _
    refine wp_of e203 c203_68 (xs_I (pc' := 69) w90216 g90222 (by decide) sh_72 (by decide) (ty_72 _) (by omega) (by omega) ⟨by omega, by omega⟩ (by omega) (by omega) rfl (fun H90239 e90240 w90241 => ?_))
    have f90242 := f90217.put' e90240 g90222 rfl
    refine wp_of e203 c203_69 (rw_aload_n (pc' := 70) (v := .ref r0) rfl rfl rfl ?_)
    have k90243 : H90239 r0 4 = H90214 r0 4 := (wq_u_t e90240 g90222 g0 rfl 4)
    have q90244 : H90239 r0 4 = (rp : Int) := k90243.trans q90219
    refine wp_of e203 c203_70 (xg_K (pc' := 73) lf_9_166 w90241 g0 sh_42 (by decide) (by decide) rfl q90244 rfl ?_)
    refine wp_of e203 c203_73 (rw_dup (pc' := 74) rfl rfl ?_)
    have k90245 : H90239 rp 7 = H90214 rp 7 := (wq_u_t e90240 g90222 grp rfl 7)
    refine wp_of e203 c203_74 (xg_I (pc' := 77) lf_9_321 w90241 grp sh_54 (by decide) (by decide) ty_54_7 rfl rfl (fun b90246 b90247 => ?_))
    refine wp_of e203 c203_77 (rw_iconst (pc' := 78) rfl ?_)
    refine wp_of e203 c203_78 (rw_iadd (pc' := 79) rfl ?_)
    refine wp_of e203 c203_79 (xp_I (pc' := 82) lf_9_321 w90241 grp sh_54 (by decide) (by decide) ty_54_7 rfl rfl (by omega) (by omega) ⟨by omega, by omega⟩ rfl (fun H90248 e90249 w90250 => ?_))
    have f90251 := f90242.put' e90249 grp rfl
    have k90252 : H90248 rp 7 = (H90239 rp 7) + 1 := wq_u_s e90249
    have k90253 : H90248 r0 9 = H90189 r0 9 := ((wq_u_t e90249 grp g0 rfl 9).trans ((wq_u_t e90240 g90222 g0 rfl 9).trans (wq_u_t e90215 g90210 g0 rfl 9)))
    have k90254 : H90248 r0 10 = H90189 r0 10 := ((wq_u_t e90249 grp g0 rfl 10).trans ((wq_u_t e90240 g90222 g0 rfl 10).trans (wq_u_t e90215 g90210 g0 rfl 10)))
    have k90255 : wOV H90248 r0 = wOV H90189 r0 := ((wOV_fr w90241 g0 ((wfr.rf (l := [(54, 7)])).put' e90249 grp rfl) rfl).trans ((wOV_fr w90216 g0 ((wfr.rf (l := [(72, 999)])).put' e90240 g90222 rfl) rfl).trans (wOV_fr w90193 g0 ((wfr.rf (l := [(71, 999)])).put' e90215 g90210 rfl) rfl)))
    have k90256 : wJ H90248 r0 = wJ H90189 r0 := ((wJ_fr w90241 g0 ((wfr.rf (l := [(54, 7)])).put' e90249 grp rfl) rfl).trans ((wJ_fr w90216 g0 ((wfr.rf (l := [(72, 999)])).put' e90240 g90222 rfl) rfl).trans (wJ_fr w90193 g0 ((wfr.rf (l := [(71, 999)])).put' e90215 g90210 rfl) rfl)))
    exact wp_return e203 c203_82 rfl ⟨rfl, w90250, f90251, rfl, by omega, by omega, by omega, by omega⟩
  · exact wp_return e203 c203_26 rfl ⟨rfl, w90193, f90201, rfl, by omega, by omega, by omega, by omega⟩
/-! StrikeAwakeModel.readLine()V -/
theorem e177 : wq_en 177 = some (9, 1, false, none) := rfl
theorem c177_0 : mc_cd 177 0 = some (.aload_n 0, 1) := by decide +kernel
theorem c177_1 : mc_cd 177 1 = some (.ldc 140, 2) := by decide +kernel
theorem c177_3 : mc_cd 177 3 = some (.invokevirtual 114, 3) := by decide +kernel
theorem c177_6 : mc_cd 177 6 = some (.ifCond .eq 10, 3) := by decide +kernel
theorem c177_9 : mc_cd 177 9 = some (.aload_n 0, 1) := by decide +kernel
theorem c177_10 : mc_cd 177 10 = some (.invokevirtual 191, 3) := by decide +kernel
theorem c177_13 : mc_cd 177 13 = some (.goto 120, 3) := by decide +kernel
theorem c177_16 : mc_cd 177 16 = some (.aload_n 0, 1) := by decide +kernel
theorem c177_17 : mc_cd 177 17 = some (.ldc 142, 2) := by decide +kernel
theorem c177_19 : mc_cd 177 19 = some (.invokevirtual 114, 3) := by decide +kernel
theorem c177_22 : mc_cd 177 22 = some (.ifCond .eq 10, 3) := by decide +kernel
theorem c177_25 : mc_cd 177 25 = some (.aload_n 0, 1) := by decide +kernel
theorem c177_26 : mc_cd 177 26 = some (.invokevirtual 194, 3) := by decide +kernel
theorem c177_29 : mc_cd 177 29 = some (.goto 104, 3) := by decide +kernel
theorem c177_32 : mc_cd 177 32 = some (.aload_n 0, 1) := by decide +kernel
theorem c177_33 : mc_cd 177 33 = some (.ldc 144, 2) := by decide +kernel
theorem c177_35 : mc_cd 177 35 = some (.invokevirtual 114, 3) := by decide +kernel
theorem c177_38 : mc_cd 177 38 = some (.ifCond .eq 10, 3) := by decide +kernel
theorem c177_41 : mc_cd 177 41 = some (.aload_n 0, 1) := by decide +kernel
theorem c177_42 : mc_cd 177 42 = some (.invokevirtual 197, 3) := by decide +kernel
theorem c177_45 : mc_cd 177 45 = some (.goto 88, 3) := by decide +kernel
theorem c177_48 : mc_cd 177 48 = some (.aload_n 0, 1) := by decide +kernel
theorem c177_49 : mc_cd 177 49 = some (.ldc 146, 2) := by decide +kernel
theorem c177_51 : mc_cd 177 51 = some (.invokevirtual 114, 3) := by decide +kernel
theorem c177_54 : mc_cd 177 54 = some (.ifCond .eq 10, 3) := by decide +kernel
theorem c177_57 : mc_cd 177 57 = some (.aload_n 0, 1) := by decide +kernel
theorem c177_58 : mc_cd 177 58 = some (.invokevirtual 200, 3) := by decide +kernel
theorem c177_61 : mc_cd 177 61 = some (.goto 72, 3) := by decide +kernel
theorem c177_64 : mc_cd 177 64 = some (.aload_n 0, 1) := by decide +kernel
theorem c177_65 : mc_cd 177 65 = some (.ldc 148, 2) := by decide +kernel
theorem c177_67 : mc_cd 177 67 = some (.invokevirtual 114, 3) := by decide +kernel
theorem c177_70 : mc_cd 177 70 = some (.ifCond .eq 10, 3) := by decide +kernel
theorem c177_73 : mc_cd 177 73 = some (.aload_n 0, 1) := by decide +kernel
theorem c177_74 : mc_cd 177 74 = some (.invokevirtual 203, 3) := by decide +kernel
theorem c177_77 : mc_cd 177 77 = some (.goto 56, 3) := by decide +kernel
theorem c177_80 : mc_cd 177 80 = some (.aload_n 0, 1) := by decide +kernel
theorem c177_81 : mc_cd 177 81 = some (.ldc 150, 2) := by decide +kernel
theorem c177_83 : mc_cd 177 83 = some (.invokevirtual 114, 3) := by decide +kernel
theorem c177_86 : mc_cd 177 86 = some (.ifCond .eq 10, 3) := by decide +kernel
theorem c177_89 : mc_cd 177 89 = some (.aload_n 0, 1) := by decide +kernel
theorem c177_90 : mc_cd 177 90 = some (.invokevirtual 206, 3) := by decide +kernel
theorem c177_93 : mc_cd 177 93 = some (.goto 40, 3) := by decide +kernel
theorem c177_96 : mc_cd 177 96 = some (.aload_n 0, 1) := by decide +kernel
theorem c177_97 : mc_cd 177 97 = some (.ldc 152, 2) := by decide +kernel
theorem c177_99 : mc_cd 177 99 = some (.invokevirtual 114, 3) := by decide +kernel
theorem c177_102 : mc_cd 177 102 = some (.ifCond .eq 10, 3) := by decide +kernel
theorem c177_105 : mc_cd 177 105 = some (.aload_n 0, 1) := by decide +kernel
theorem c177_106 : mc_cd 177 106 = some (.invokevirtual 209, 3) := by decide +kernel
theorem c177_109 : mc_cd 177 109 = some (.goto 24, 3) := by decide +kernel
theorem c177_112 : mc_cd 177 112 = some (.aload_n 0, 1) := by decide +kernel
theorem c177_113 : mc_cd 177 113 = some (.ldc 154, 2) := by decide +kernel
theorem c177_115 : mc_cd 177 115 = some (.invokevirtual 114, 3) := by decide +kernel
theorem c177_118 : mc_cd 177 118 = some (.ifCond .eq 10, 3) := by decide +kernel
theorem c177_121 : mc_cd 177 121 = some (.aload_n 0, 1) := by decide +kernel
theorem c177_122 : mc_cd 177 122 = some (.invokevirtual 212, 3) := by decide +kernel
theorem c177_125 : mc_cd 177 125 = some (.goto 8, 3) := by decide +kernel
theorem c177_128 : mc_cd 177 128 = some (.aload_n 0, 1) := by decide +kernel
theorem c177_129 : mc_cd 177 129 = some (.iconst 1, 1) := by decide +kernel
theorem c177_130 : mc_cd 177 130 = some (.invokevirtual 121, 3) := by decide +kernel
theorem c177_133 : mc_cd 177 133 = some (.return_, 1) := by decide +kernel
abbrev q_177 (r0 : Nat) (rp : Nat) (T : wq_T) (H : wq_H) : Option Value → wq_T → wq_H → Prop := fun r T' H' => T = T' ∧ WT T H' ∧ wfr [(54, 0), (54, 1), (54, 2), (54, 3), (54, 4), (54, 5), (54, 6), (54, 7), (54, 8), (42, 8), (42, 9), (42, 10), (42, 11), (42, 12), (42, 13), (42, 14), (42, 15), (42, 16), (42, 17), (42, 18), (64, 999), (65, 999), (56, 999), (57, 999), (66, 999), (60, 999), (63, 999), (58, 999), (59, 999), (55, 999), (61, 999), (62, 999), (72, 999), (71, 999), (67, 999), (68, 999), (69, 999)] T H H' ∧ none = r ∧ (wJ H' r0 = 1) ∧ (H r0 10 ≤ H' r0 10) ∧ (wOV H r0 ≤ wOV H' r0) ∧ (wOV H' r0 ≤ 1) ∧ (wPI H' rp = 1) ∧ (∀ a, a ≠ rp → T.2.2.2 a = some 54 → H' a 3 = H a 3)
set_option maxHeartbeats 4000000 in
theorem s_177 {kt : Nat → Option mc_E} {T : wq_T} {H : wq_H} {r0 : Nat} {rp : Nat} (hW : WT T H) (g0 : T.2.2.2 r0 = some 42) (qrp : H r0 4 = (rp : Int)) (grp : T.2.2.2 rp = some 54) (p0 : wJ H r0 = 1) (p1 : wPI H rp = 1) : wpc kt 8 177 [.ref r0] T H (q_177 r0 rp T H) := by
  refine wp_enter e177 (Nat.le_of_ble_eq_true rfl) rfl ?_
  have f0 : wfr [(54, 0), (54, 1), (54, 2), (54, 3), (54, 4), (54, 5), (54, 6), (54, 7), (54, 8), (42, 8), (42, 9), (42, 10), (42, 11), (42, 12), (42, 13), (42, 14), (42, 15), (42, 16), (42, 17), (42, 18), (64, 999), (65, 999), (56, 999), (57, 999), (66, 999), (60, 999), (63, 999), (58, 999), (59, 999), (55, 999), (61, 999), (62, 999), (72, 999), (71, 999), (67, 999), (68, 999), (69, 999)] T H H := wfr.rf
  show wp _ _ 177 0 [(0, .ref r0)] [] _ H _
  have hb0 := wOV_b (H := H) (m := r0)
  refine wp_of e177 c177_0 (rw_aload_n (pc' := 1) (v := .ref r0) rfl rfl rfl ?_)
  refine wp_of e177 c177_1 (rw_ldcS (pc' := 3) (k := 72) rfl rfl rfl rfl ?_)
  refine wp_of e177 c177_3 (xc_V (pc' := 6) (r := r0) (as := [.ref 72]) (st := []) (lm_9_114) rfl rfl (Nat.le_of_ble_eq_true rfl) hW g0 sh_42 (by decide) rfl (by decide) (s_178 hW g0 rfl) (fun R90467 T90468 H90469 p90470 => ?_))
  obtain ⟨e90471, e90473, z90474, e90472, b90475⟩ := p90470
  subst e90471
  subst e90472
  subst e90473
  show wp _ _ 177 6 [(0, .ref r0)] [vI z90474] _ H _
  refine wp_of e177 c177_6 (rw_if_eq (p1 := 16) (p2 := 9) (by decide) rfl ⟨by omega, by omega⟩ (fun c90476 => ?_) (fun c90476 => ?_))
  · refine wp_of e177 c177_16 (rw_aload_n (pc' := 17) (v := .ref r0) rfl rfl rfl ?_)
    refine wp_of e177 c177_17 (rw_ldcS (pc' := 19) (k := 76) rfl rfl rfl rfl ?_)
    refine wp_of e177 c177_19 (xc_V (pc' := 22) (r := r0) (as := [.ref 76]) (st := []) (lm_9_114) rfl rfl (Nat.le_of_ble_eq_true rfl) hW g0 sh_42 (by decide) rfl (by decide) (s_178 hW g0 rfl) (fun R90477 T90478 H90479 p90480 => ?_))
    obtain ⟨e90481, e90483, z90484, e90482, b90485⟩ := p90480
    subst e90481
    subst e90482
    subst e90483
    show wp _ _ 177 22 [(0, .ref r0)] [vI z90484] _ H _
    refine wp_of e177 c177_22 (rw_if_eq (p1 := 32) (p2 := 25) (by decide) rfl ⟨by omega, by omega⟩ (fun c90486 => ?_) (fun c90486 => ?_))
    · refine wp_of e177 c177_32 (rw_aload_n (pc' := 33) (v := .ref r0) rfl rfl rfl ?_)
      refine wp_of e177 c177_33 (rw_ldcS (pc' := 35) (k := 77) rfl rfl rfl rfl ?_)
      refine wp_of e177 c177_35 (xc_V (pc' := 38) (r := r0) (as := [.ref 77]) (st := []) (lm_9_114) rfl rfl (Nat.le_of_ble_eq_true rfl) hW g0 sh_42 (by decide) rfl (by decide) (s_178 hW g0 rfl) (fun R90487 T90488 H90489 p90490 => ?_))
      obtain ⟨e90491, e90493, z90494, e90492, b90495⟩ := p90490
      subst e90491
      subst e90492
      subst e90493
      show wp _ _ 177 38 [(0, .ref r0)] [vI z90494] _ H _
      refine wp_of e177 c177_38 (rw_if_eq (p1 := 48) (p2 := 41) (by decide) rfl ⟨by omega, by omega⟩ (fun c90496 => ?_) (fun c90496 => ?_))
      · refine wp_of e177 c177_48 (rw_aload_n (pc' := 49) (v := .ref r0) rfl rfl rfl ?_)
        refine wp_of e177 c177_49 (rw_ldcS (pc' := 51) (k := 78) rfl rfl rfl rfl ?_)
        refine wp_of e177 c177_51 (xc_V (pc' := 54) (r := r0) (as := [.ref 78]) (st := []) (lm_9_114) rfl rfl (Nat.le_of_ble_eq_true rfl) hW g0 sh_42 (by decide) rfl (by decide) (s_178 hW g0 rfl) (fun R90497 T90498 H90499 p90500 => ?_))
        obtain ⟨e90501, e90503, z90504, e90502, b90505⟩ := p90500
        subst e90501
        subst e90502
        subst e90503
        show wp _ _ 177 54 [(0, .ref r0)] [vI z90504] _ H _
        refine wp_of e177 c177_54 (rw_if_eq (p1 := 64) (p2 := 57) (by decide) rfl ⟨by omega, by omega⟩ (fun c90506 => ?_) (fun c90506 => ?_))
        · refine wp_of e177 c177_64 (rw_aload_n (pc' := 65) (v := .ref r0) rfl rfl rfl ?_)
          refine wp_of e177 c177_65 (rw_ldcS (pc' := 67) (k := 79) rfl rfl rfl rfl ?_)
          refine wp_of e177 c177_67 (xc_V (pc' := 70) (r := r0) (as := [.ref 79]) (st := []) (lm_9_114) rfl rfl (Nat.le_of_ble_eq_true rfl) hW g0 sh_42 (by decide) rfl (by decide) (s_178 hW g0 rfl) (fun R90507 T90508 H90509 p90510 => ?_))
          obtain ⟨e90511, e90513, z90514, e90512, b90515⟩ := p90510
          subst e90511
          subst e90512
          subst e90513
          show wp _ _ 177 70 [(0, .ref r0)] [vI z90514] _ H _
          refine wp_of e177 c177_70 (rw_if_eq (p1 := 80) (p2 := 73) (by decide) rfl ⟨by omega, by omega⟩ (fun c90516 => ?_) (fun c90516 => ?_))
          · refine wp_of e177 c177_80 (rw_aload_n (pc' := 81) (v := .ref r0) rfl rfl rfl ?_)
            refine wp_of e177 c177_81 (rw_ldcS (pc' := 83) (k := 80) rfl rfl rfl rfl ?_)
            refine wp_of e177 c177_83 (xc_V (pc' := 86) (r := r0) (as := [.ref 80]) (st := []) (lm_9_114) rfl rfl (Nat.le_of_ble_eq_true rfl) hW g0 sh_42 (by decide) rfl (by decide) (s_178 hW g0 rfl) (fun R90517 T90518 H90519 p90520 => ?_))
            obtain ⟨e90521, e90523, z90524, e90522, b90525⟩ := p90520
            subst e90521
            subst e90522
            subst e90523
            show wp _ _ 177 86 [(0, .ref r0)] [vI z90524] _ H _
            refine wp_of e177 c177_86 (rw_if_eq (p1 := 96) (p2 := 89) (by decide) rfl ⟨by omega, by omega⟩ (fun c90526 => ?_) (fun c90526 => ?_))
            · refine wp_of e177 c177_96 (rw_aload_n (pc' := 97) (v := .ref r0) rfl rfl rfl ?_)
              refine wp_of e177 c177_97 (rw_ldcS (pc' := 99) (k := 81) rfl rfl rfl rfl ?_)
              refine wp_of e177 c177_99 (xc_V (pc' := 102) (r := r0) (as := [.ref 81]) (st := []) (lm_9_114) rfl rfl (Nat.le_of_ble_eq_true rfl) hW g0 sh_42 (by decide) rfl (by decide) (s_178 hW g0 rfl) (fun R90527 T90528 H90529 p90530 => ?_))
              obtain ⟨e90531, e90533, z90534, e90532, b90535⟩ := p90530
              subst e90531
              subst e90532
              subst e90533
              show wp _ _ 177 102 [(0, .ref r0)] [vI z90534] _ H _
              refine wp_of e177 c177_102 (rw_if_eq (p1 := 112) (p2 := 105) (by decide) rfl ⟨by omega, by omega⟩ (fun c90536 => ?_) (fun c90536 => ?_))
              · refine wp_of e177 c177_112 (rw_aload_n (pc' := 113) (v := .ref r0) rfl rfl rfl ?_)
                refine wp_of e177 c177_113 (rw_ldcS (pc' := 115) (k := 82) rfl rfl rfl rfl ?_)
                refine wp_of e177 c177_115 (xc_V (pc' := 118) (r := r0) (as := [.ref 82]) (st := []) (lm_9_114) rfl rfl (Nat.le_of_ble_eq_true rfl) hW g0 sh_42 (by decide) rfl (by decide) (s_178 hW g0 rfl) (fun R90537 T90538 H90539 p90540 => ?_))
                obtain ⟨e90541, e90543, z90544, e90542, b90545⟩ := p90540
                subst e90541
                subst e90542
                subst e90543
                show wp _ _ 177 118 [(0, .ref r0)] [vI z90544] _ H _
                refine wp_of e177 c177_118 (rw_if_eq (p1 := 128) (p2 := 121) (by decide) rfl ⟨by omega, by omega⟩ (fun c90546 => ?_) (fun c90546 => ?_))
                · refine wp_of e177 c177_128 (rw_aload_n (pc' := 129) (v := .ref r0) rfl rfl rfl ?_)
                  refine wp_of e177 c177_129 (rw_iconst (pc' := 130) rfl ?_)
                  refine wp_of e177 c177_130 (xc_V (pc' := 133) (r := r0) (as := [vI 1]) (st := []) (lm_9_121) rfl rfl (Nat.le_of_ble_eq_true rfl) hW g0 sh_42 (by decide) rfl (by decide) (s_181 hW g0 ⟨by omega, by omega⟩ (by omega)) (fun R90547 T90548 H90549 p90550 => ?_))
                  obtain ⟨e90551, w90553, f90554, e90552, p90555, p90556, p90557, p90558, p90559, p90560⟩ := p90550
                  subst e90551
                  subst e90552
                  have f90561 := f0.tr f90554 rfl
                  show wp _ _ 177 133 [(0, .ref r0)] [] _ H90549 _
                  have k90562 : H90549 r0 8 = H r0 8 := (f90554 r0 8 _ g0 rfl)
                  have k90563 : wPI H90549 rp = wPI H rp := (wPI_fr hW grp f90554 rfl)
                  exact wp_return e177 c177_133 rfl ⟨rfl, w90553, f90561, rfl, by omega, by omega, by omega, by omega, by omega, fun a ha ga => (f90554 a 3 _ ga rfl)⟩
                · refine wp_of e177 c177_121 (rw_aload_n (pc' := 122) (v := .ref r0) rfl rfl rfl ?_)
                  refine wp_of e177 c177_122 (xc_V (pc' := 125) (r := r0) (as := []) (st := []) (lm_9_212) rfl rfl (Nat.le_of_ble_eq_true rfl) hW g0 sh_42 (by decide) rfl (by decide) (s_203 hW g0 qrp grp (by omega)) (fun R90564 T90565 H90566 p90567 => ?_))
                  obtain ⟨e90568, w90570, f90571, e90569, p90572, p90573, p90574, p90575⟩ := p90567
                  subst e90568
                  subst e90569
                  have f90576 := f0.tr f90571 rfl
                  show wp _ _ 177 125 [(0, .ref r0)] [] _ H90566 _
                  refine wp_of e177 c177_125 (rw_goto (p1 := 133) (by decide) ?_)
                  have k90577 : wPI H90566 rp = wPI H rp := (wPI_fr hW grp f90571 rfl)
                  exact wp_return e177 c177_133 rfl ⟨rfl, w90570, f90576, rfl, by omega, by omega, by omega, by omega, by omega, fun a ha ga => (f90571 a 3 _ ga rfl)⟩
              · refine wp_of e177 c177_105 (rw_aload_n (pc' := 106) (v := .ref r0) rfl rfl rfl ?_)
                refine wp_of e177 c177_106 (xc_V (pc' := 109) (r := r0) (as := []) (st := []) (lm_9_209) rfl rfl (Nat.le_of_ble_eq_true rfl) hW g0 sh_42 (by decide) rfl (by decide) (s_200 hW g0 qrp grp (by omega)) (fun R90578 T90579 H90580 p90581 => ?_))
                obtain ⟨e90582, w90584, f90585, e90583, p90586, p90587, p90588, p90589⟩ := p90581
                subst e90582
                subst e90583
                have f90590 := f0.tr f90585 rfl
                show wp _ _ 177 109 [(0, .ref r0)] [] _ H90580 _
                refine wp_of e177 c177_109 (rw_goto (p1 := 133) (by decide) ?_)
                have k90591 : wPI H90580 rp = wPI H rp := (wPI_fr hW grp f90585 rfl)
                exact wp_return e177 c177_133 rfl ⟨rfl, w90584, f90590, rfl, by omega, by omega, by omega, by omega, by omega, fun a ha ga => (f90585 a 3 _ ga rfl)⟩
            · refine wp_of e177 c177_89 (rw_aload_n (pc' := 90) (v := .ref r0) rfl rfl rfl ?_)
              refine wp_of e177 c177_90 (xc_V (pc' := 93) (r := r0) (as := []) (st := []) (lm_9_206) rfl rfl (Nat.le_of_ble_eq_true rfl) hW g0 sh_42 (by decide) rfl (by decide) (s_199 hW g0 qrp grp (by omega)) (fun R90592 T90593 H90594 p90595 => ?_))
              obtain ⟨e90596, w90598, f90599, e90597, p90600, p90601, p90602, p90603⟩ := p90595
              subst e90596
              subst e90597
              have f90604 := f0.tr f90599 rfl
              show wp _ _ 177 93 [(0, .ref r0)] [] _ H90594 _
              refine wp_of e177 c177_93 (rw_goto (p1 := 133) (by decide) ?_)
              have k90605 : wPI H90594 rp = wPI H rp := (wPI_fr hW grp f90599 rfl)
              exact wp_return e177 c177_133 rfl ⟨rfl, w90598, f90604, rfl, by omega, by omega, by omega, by omega, by omega, fun a ha ga => (f90599 a 3 _ ga rfl)⟩
          · refine wp_of e177 c177_73 (rw_aload_n (pc' := 74) (v := .ref r0) rfl rfl rfl ?_)
            refine wp_of e177 c177_74 (xc_V (pc' := 77) (r := r0) (as := []) (st := []) (lm_9_203) rfl rfl (Nat.le_of_ble_eq_true rfl) hW g0 sh_42 (by decide) rfl (by decide) (s_198 hW g0 qrp grp (by omega)) (fun R90606 T90607 H90608 p90609 => ?_))
            obtain ⟨e90610, w90612, f90613, e90611, p90614, p90615, p90616, p90617⟩ := p90609
            subst e90610
            subst e90611
            have f90618 := f0.tr f90613 rfl
            show wp _ _ 177 77 [(0, .ref r0)] [] _ H90608 _
            refine wp_of e177 c177_77 (rw_goto (p1 := 133) (by decide) ?_)
            have k90619 : wPI H90608 rp = wPI H rp := (wPI_fr hW grp f90613 rfl)
            exact wp_return e177 c177_133 rfl ⟨rfl, w90612, f90618, rfl, by omega, by omega, by omega, by omega, by omega, fun a ha ga => (f90613 a 3 _ ga rfl)⟩
        · refine wp_of e177 c177_57 (rw_aload_n (pc' := 58) (v := .ref r0) rfl rfl rfl ?_)
          refine wp_of e177 c177_58 (xc_V (pc' := 61) (r := r0) (as := []) (st := []) (lm_9_200) rfl rfl (Nat.le_of_ble_eq_true rfl) hW g0 sh_42 (by decide) rfl (by decide) (s_196 hW g0 qrp grp (by omega)) (fun R90620 T90621 H90622 p90623 => ?_))
          obtain ⟨e90624, w90626, f90627, e90625, p90628, p90629, p90630, p90631⟩ := p90623
          subst e90624
          subst e90625
          have f90632 := f0.tr f90627 rfl
          show wp _ _ 177 61 [(0, .ref r0)] [] _ H90622 _
          refine wp_of e177 c177_61 (rw_goto (p1 := 133) (by decide) ?_)
          have k90633 : wPI H90622 rp = wPI H rp := (wPI_fr hW grp f90627 rfl)
          exact wp_return e177 c177_133 rfl ⟨rfl, w90626, f90632, rfl, by omega, by omega, by omega, by omega, by omega, fun a ha ga => (f90627 a 3 _ ga rfl)⟩
      · refine wp_of e177 c177_41 (rw_aload_n (pc' := 42) (v := .ref r0) rfl rfl rfl ?_)
        refine wp_of e177 c177_42 (xc_V (pc' := 45) (r := r0) (as := []) (st := []) (lm_9_197) rfl rfl (Nat.le_of_ble_eq_true rfl) hW g0 sh_42 (by decide) rfl (by decide) (s_193 hW g0 qrp grp (by omega)) (fun R90634 T90635 H90636 p90637 => ?_))
        obtain ⟨e90638, w90640, f90641, e90639, p90642, p90643, p90644, p90645⟩ := p90637
        subst e90638
        subst e90639
        have f90646 := f0.tr f90641 rfl
        show wp _ _ 177 45 [(0, .ref r0)] [] _ H90636 _
        refine wp_of e177 c177_45 (rw_goto (p1 := 133) (by decide) ?_)
        have k90647 : wPI H90636 rp = wPI H rp := (wPI_fr hW grp f90641 rfl)
        exact wp_return e177 c177_133 rfl ⟨rfl, w90640, f90646, rfl, by omega, by omega, by omega, by omega, by omega, fun a ha ga => (f90641 a 3 _ ga rfl)⟩
    · refine wp_of e177 c177_25 (rw_aload_n (pc' := 26) (v := .ref r0) rfl rfl rfl ?_)
      refine wp_of e177 c177_26 (xc_V (pc' := 29) (r := r0) (as := []) (st := []) (lm_9_194) rfl rfl (Nat.le_of_ble_eq_true rfl) hW g0 sh_42 (by decide) rfl (by decide) (s_187 hW g0 qrp grp (by omega) (by omega)) (fun R90648 T90649 H90650 p90651 => ?_))
      obtain ⟨e90652, w90654, f90655, e90653, p90656, p90657, p90658, p90659, p90660, p90661⟩ := p90651
      subst e90652
      subst e90653
      have f90662 := f0.tr f90655 rfl
      show wp _ _ 177 29 [(0, .ref r0)] [] _ H90650 _
      refine wp_of e177 c177_29 (rw_goto (p1 := 133) (by decide) ?_)
      exact wp_return e177 c177_133 rfl ⟨rfl, w90654, f90662, rfl, by omega, by omega, by omega, by omega, by omega, fun a ha ga => (p90661 a ha ga)⟩
  · refine wp_of e177 c177_9 (rw_aload_n (pc' := 10) (v := .ref r0) rfl rfl rfl ?_)
    refine wp_of e177 c177_10 (xc_V (pc' := 13) (r := r0) (as := []) (st := []) (lm_9_191) rfl rfl (Nat.le_of_ble_eq_true rfl) hW g0 sh_42 (by decide) rfl (by decide) (s_180 hW g0 qrp grp (by omega)) (fun R90663 T90664 H90665 p90666 => ?_))
    obtain ⟨e90667, w90669, f90670, e90668, p90671, p90672, p90673, p90674⟩ := p90666
    subst e90667
    subst e90668
    have f90675 := f0.tr f90670 rfl
    show wp _ _ 177 13 [(0, .ref r0)] [] _ H90665 _
    refine wp_of e177 c177_13 (rw_goto (p1 := 133) (by decide) ?_)
    have k90676 : wPI H90665 rp = wPI H rp := (wPI_fr hW grp f90670 rfl)
    exact wp_return e177 c177_133 rfl ⟨rfl, w90669, f90675, rfl, by omega, by omega, by omega, by omega, by omega, fun a ha ga => (f90670 a 3 _ ga rfl)⟩
/-! StrikeAwakeModel.eatsSign(I)Z -/
theorem e204 : wq_en 204 = some (9, 3, false, some FieldType.boolean) := rfl
theorem c204_0 : mc_cd 204 0 = some (.aload_n 0, 1) := by decide +kernel
theorem c204_1 : mc_cd 204 1 = some (.getfield 75, 3) := by decide +kernel
theorem c204_4 : mc_cd 204 4 = some (.iconst 4, 1) := by decide +kernel
theorem c204_5 : mc_cd 204 5 = some (.if_icmp .ne 15, 3) := by decide +kernel
theorem c204_8 : mc_cd 204 8 = some (.aload_n 0, 1) := by decide +kernel
theorem c204_9 : mc_cd 204 9 = some (.getfield 87, 3) := by decide +kernel
theorem c204_12 : mc_cd 204 12 = some (.iload_n 1, 1) := by decide +kernel
theorem c204_13 : mc_cd 204 13 = some (.if_icmp .ne 7, 3) := by decide +kernel
theorem c204_16 : mc_cd 204 16 = some (.iconst 1, 1) := by decide +kernel
theorem c204_17 : mc_cd 204 17 = some (.goto 4, 3) := by decide +kernel
theorem c204_20 : mc_cd 204 20 = some (.iconst 0, 1) := by decide +kernel
theorem c204_21 : mc_cd 204 21 = some (.istore_n 2, 1) := by decide +kernel
theorem c204_22 : mc_cd 204 22 = some (.iload_n 2, 1) := by decide +kernel
theorem c204_23 : mc_cd 204 23 = some (.ifCond .eq 7, 3) := by decide +kernel
theorem c204_26 : mc_cd 204 26 = some (.aload_n 0, 1) := by decide +kernel
theorem c204_27 : mc_cd 204 27 = some (.invokevirtual 118, 3) := by decide +kernel
theorem c204_30 : mc_cd 204 30 = some (.iload_n 2, 1) := by decide +kernel
theorem c204_31 : mc_cd 204 31 = some (.ireturn, 1) := by decide +kernel
abbrev q_204 (r0 : Nat) (a1 : Int) (T : wq_T) (H : wq_H) : Option Value → wq_T → wq_H → Prop := fun r T' H' => T = T' ∧ WT T H' ∧ wfr [(42, 8), (42, 9), (42, 10), (42, 11), (42, 12), (42, 15)] T H H' ∧ ∃ z : Int, some (vI z) = r ∧ (0 ≤ z ∧ z ≤ 1) ∧ (wJ H' r0 = 1) ∧ (H r0 10 ≤ H' r0 10) ∧ (wOV H r0 ≤ wOV H' r0) ∧ (wOV H' r0 ≤ 1) ∧ (z = 0 ∨ (H r0 10 < H' r0 10 ∧ H' r0 10 ≤ 900))
set_option maxHeartbeats 4000000 in
theorem s_204 {kt : Nat → Option mc_E} {T : wq_T} {H : wq_H} {r0 : Nat} {a1 : Int} (hW : WT T H) (g0 : T.2.2.2 r0 = some 42) (i1 : (-2147483648) ≤ a1 ∧ a1 ≤ 2147483647) (p0 : wJ H r0 = 1) : wpc kt 3 204 [.ref r0, vI a1] T H (q_204 r0 a1 T H) := by
  refine wp_enter e204 (Nat.le_of_ble_eq_true rfl) rfl ?_
  have f0 : wfr [(42, 8), (42, 9), (42, 10), (42, 11), (42, 12), (42, 15)] T H H := wfr.rf
  show wp _ _ 204 0 [(0, .ref r0), (1, vI a1)] [] _ H _
  have hb0 := wOV_b (H := H) (m := r0)
  have hj := wJ_1.mp p0
  have ho := wOV_e (H := H) (m := r0)
  refine wp_of e204 c204_0 (rw_aload_n (pc' := 1) (v := .ref r0) rfl rfl rfl ?_)
  refine wp_of e204 c204_1 (xg_I (pc' := 4) lf_9_75 hW g0 sh_42 (by decide) (by decide) ty_42_9 rfl rfl (fun b90702 b90703 => ?_))
  have k90704 := wOV_e (H := H) (m := r0)
  refine wp_of e204 c204_4 (rw_iconst (pc' := 5) rfl ?_)
  refine wp_of e204 c204_5 (rw_icmp_ne (p1 := 20) (p2 := 8) (by decide) rfl ⟨by omega, by omega⟩ ⟨by omega, by omega⟩ (fun c90705 => ?_) (fun c90705 => ?_))
  · refine wp_of e204 c204_20 (rw_iconst (pc' := 21) rfl ?_)
    refine wp_of e204 c204_21 (rw_istore_n (pc' := 22) (z := 0) (L' := [(2, vI 0), (0, .ref r0), (1, vI a1)]) rfl rfl rfl ?_)
    refine wp_of e204 c204_22 (rw_iload_n (pc' := 23) (z := 0) rfl rfl ?_)
    refine wp_of e204 c204_23 (rw_if_eq (p1 := 30) (p2 := 26) (by decide) rfl ⟨by omega, by omega⟩ (fun c90706 => ?_) (fun c90706 => ?_))
    · refine wp_of e204 c204_30 (rw_iload_n (pc' := 31) (z := 0) rfl rfl ?_)
      exact wp_zreturn e204 c204_31 rfl (by omega) ⟨rfl, hW, f0, 0, rfl, ⟨by omega, by omega⟩, by omega, by omega, by omega, by omega, by omega⟩
    · exfalso
      omega
  · refine wp_of e204 c204_8 (rw_aload_n (pc' := 9) (v := .ref r0) rfl rfl rfl ?_)
    refine wp_of e204 c204_9 (xg_I (pc' := 12) lf_9_87 hW g0 sh_42 (by decide) (by decide) ty_42_11 rfl rfl (fun b90707 b90708 => ?_))
    refine wp_of e204 c204_12 (rw_iload_n (pc' := 13) (z := a1) rfl rfl ?_)
    refine wp_of e204 c204_13 (rw_icmp_ne (p1 := 20) (p2 := 16) (by decide) rfl ⟨by omega, by omega⟩ ⟨by omega, by omega⟩ (fun c90709 => ?_) (fun c90709 => ?_))
    · refine wp_of e204 c204_20 (rw_iconst (pc' := 21) rfl ?_)
      refine wp_of e204 c204_21 (rw_istore_n (pc' := 22) (z := 0) (L' := [(2, vI 0), (0, .ref r0), (1, vI a1)]) rfl rfl rfl ?_)
      refine wp_of e204 c204_22 (rw_iload_n (pc' := 23) (z := 0) rfl rfl ?_)
      refine wp_of e204 c204_23 (rw_if_eq (p1 := 30) (p2 := 26) (by decide) rfl ⟨by omega, by omega⟩ (fun c90710 => ?_) (fun c90710 => ?_))
      · refine wp_of e204 c204_30 (rw_iload_n (pc' := 31) (z := 0) rfl rfl ?_)
        exact wp_zreturn e204 c204_31 rfl (by omega) ⟨rfl, hW, f0, 0, rfl, ⟨by omega, by omega⟩, by omega, by omega, by omega, by omega, by omega⟩
      · exfalso
        omega
    · refine wp_of e204 c204_16 (rw_iconst (pc' := 17) rfl ?_)
      refine wp_of e204 c204_17 (rw_goto (p1 := 21) (by decide) ?_)
      refine wp_of e204 c204_21 (rw_istore_n (pc' := 22) (z := 1) (L' := [(2, vI 1), (0, .ref r0), (1, vI a1)]) rfl rfl rfl ?_)
      refine wp_of e204 c204_22 (rw_iload_n (pc' := 23) (z := 1) rfl rfl ?_)
      refine wp_of e204 c204_23 (rw_if_eq (p1 := 30) (p2 := 26) (by decide) rfl ⟨by omega, by omega⟩ (fun c90711 => ?_) (fun c90711 => ?_))
      · exfalso
        omega
      · refine wp_of e204 c204_26 (rw_aload_n (pc' := 27) (v := .ref r0) rfl rfl rfl ?_)
        refine wp_of e204 c204_27 (xc_V (pc' := 30) (r := r0) (as := []) (st := []) (lm_9_118) rfl rfl (Nat.le_of_ble_eq_true rfl) hW g0 sh_42 (by decide) rfl (by decide) (s_172 hW g0 (by omega)) (fun R90712 T90713 H90714 p90715 => ?_))
        obtain ⟨e90716, w90718, f90719, e90717, p90720, p90721, p90722, p90723, p90724, p90725⟩ := p90715
        subst e90716
        subst e90717
        have f90726 := f0.tr f90719 rfl
        show wp _ _ 204 30 [(2, vI 1), (0, .ref r0), (1, vI a1)] [] _ H90714 _
        refine wp_of e204 c204_30 (rw_iload_n (pc' := 31) (z := 1) rfl rfl ?_)
        exact wp_zreturn e204 c204_31 rfl (by omega) ⟨rfl, w90718, f90726, 1, rfl, ⟨by omega, by omega⟩, by omega, by omega, by omega, by omega, by omega⟩
/-! StrikeAwakeModel.readParish()V -/
theorem e176 : wq_en 176 = some (9, 2, false, none) := rfl
theorem c176_0 : mc_cd 176 0 = some (.iconst 1, 1) := by decide +kernel
theorem c176_1 : mc_cd 176 1 = some (.istore_n 1, 1) := by decide +kernel
theorem c176_2 : mc_cd 176 2 = some (.iload_n 1, 1) := by decide +kernel
theorem c176_3 : mc_cd 176 3 = some (.ifCond .eq 17, 3) := by decide +kernel
theorem c176_6 : mc_cd 176 6 = some (.aload_n 0, 1) := by decide +kernel
theorem c176_7 : mc_cd 176 7 = some (.invokevirtual 179, 3) := by decide +kernel
theorem c176_10 : mc_cd 176 10 = some (.aload_n 0, 1) := by decide +kernel
theorem c176_11 : mc_cd 176 11 = some (.bipush 59, 2) := by decide +kernel
theorem c176_13 : mc_cd 176 13 = some (.invokevirtual 182, 3) := by decide +kernel
theorem c176_16 : mc_cd 176 16 = some (.istore_n 1, 1) := by decide +kernel
theorem c176_17 : mc_cd 176 17 = some (.goto (-15), 3) := by decide +kernel
theorem c176_20 : mc_cd 176 20 = some (.aload_n 0, 1) := by decide +kernel
theorem c176_21 : mc_cd 176 21 = some (.getfield 75, 3) := by decide +kernel
theorem c176_24 : mc_cd 176 24 = some (.iconst 1, 1) := by decide +kernel
theorem c176_25 : mc_cd 176 25 = some (.if_icmp .eq 8, 3) := by decide +kernel
theorem c176_28 : mc_cd 176 28 = some (.aload_n 0, 1) := by decide +kernel
theorem c176_29 : mc_cd 176 29 = some (.iconst 1, 1) := by decide +kernel
theorem c176_30 : mc_cd 176 30 = some (.invokevirtual 121, 3) := by decide +kernel
theorem c176_33 : mc_cd 176 33 = some (.aload_n 0, 1) := by decide +kernel
theorem c176_34 : mc_cd 176 34 = some (.getfield 166, 3) := by decide +kernel
theorem c176_37 : mc_cd 176 37 = some (.getfield 185, 3) := by decide +kernel
theorem c176_40 : mc_cd 176 40 = some (.ifCond .eq 13, 3) := by decide +kernel
theorem c176_43 : mc_cd 176 43 = some (.aload_n 0, 1) := by decide +kernel
theorem c176_44 : mc_cd 176 44 = some (.getfield 166, 3) := by decide +kernel
theorem c176_47 : mc_cd 176 47 = some (.getfield 188, 3) := by decide +kernel
theorem c176_50 : mc_cd 176 50 = some (.ifCond .ne 9, 3) := by decide +kernel
theorem c176_53 : mc_cd 176 53 = some (.aload_n 0, 1) := by decide +kernel
theorem c176_54 : mc_cd 176 54 = some (.bipush 6, 2) := by decide +kernel
theorem c176_56 : mc_cd 176 56 = some (.invokevirtual 121, 3) := by decide +kernel
theorem c176_59 : mc_cd 176 59 = some (.return_, 1) := by decide +kernel
abbrev q_176 (r0 : Nat) (rp : Nat) (T : wq_T) (H : wq_H) : Option Value → wq_T → wq_H → Prop := fun r T' H' => T = T' ∧ WT T H' ∧ wfr [(54, 0), (54, 1), (54, 2), (54, 3), (54, 4), (54, 5), (54, 6), (54, 7), (54, 8), (42, 8), (42, 9), (42, 10), (42, 11), (42, 12), (42, 13), (42, 14), (42, 15), (42, 16), (42, 17), (42, 18), (64, 999), (65, 999), (56, 999), (57, 999), (66, 999), (60, 999), (63, 999), (58, 999), (59, 999), (55, 999), (61, 999), (62, 999), (72, 999), (71, 999), (67, 999), (68, 999), (69, 999)] T H H' ∧ none = r ∧ (wJ H' r0 = 1) ∧ (H r0 10 ≤ H' r0 10) ∧ (wOV H r0 ≤ wOV H' r0) ∧ (wOV H' r0 ≤ 1) ∧ (wPI H' rp = 1) ∧ (∀ a, a ≠ rp → T.2.2.2 a = some 54 → H' a 3 = H a 3)
set_option maxHeartbeats 4000000 in
theorem s_176 {kt : Nat → Option mc_E} {T : wq_T} {H : wq_H} {r0 : Nat} {rp : Nat} (hW : WT T H) (g0 : T.2.2.2 r0 = some 42) (qrp : H r0 4 = (rp : Int)) (grp : T.2.2.2 rp = some 54) (p0 : wJ H r0 = 1) (p1 : wPI H rp = 1) : wpc kt 9 176 [.ref r0] T H (q_176 r0 rp T H) := by
  refine wp_enter e176 (Nat.le_of_ble_eq_true rfl) rfl ?_
  have f0 : wfr [(54, 0), (54, 1), (54, 2), (54, 3), (54, 4), (54, 5), (54, 6), (54, 7), (54, 8), (42, 8), (42, 9), (42, 10), (42, 11), (42, 12), (42, 13), (42, 14), (42, 15), (42, 16), (42, 17), (42, 18), (64, 999), (65, 999), (56, 999), (57, 999), (66, 999), (60, 999), (63, 999), (58, 999), (59, 999), (55, 999), (61, 999), (62, 999), (72, 999), (71, 999), (67, 999), (68, 999), (69, 999)] T H H := wfr.rf
  show wp _ _ 176 0 [(0, .ref r0)] [] _ H _
  have hb0 := wOV_b (H := H) (m := r0)
  refine wp_of e176 c176_0 (rw_iconst (pc' := 1) rfl ?_)
  refine wp_of e176 c176_1 (rw_istore_n (pc' := 2) (z := 1) (L' := [(1, vI 1), (0, .ref r0)]) rfl rfl rfl ?_)
  have lp91019 : ∀ (n91020 : Nat) (v91022 : Int) (H91023 : wq_H), WT T H91023 → wfr [(54, 0), (54, 1), (54, 2), (54, 3), (54, 4), (54, 5), (54, 6), (54, 7), (54, 8), (42, 8), (42, 9), (42, 10), (42, 11), (42, 12), (42, 13), (42, 14), (42, 15), (42, 16), (42, 17), (42, 18), (64, 999), (65, 999), (56, 999), (57, 999), (66, 999), (60, 999), (63, 999), (58, 999), (59, 999), (55, 999), (61, 999), (62, 999), (72, 999), (71, 999), (67, 999), (68, 999), (69, 999)] T H H91023 → (0 ≤ v91022 ∧ v91022 ≤ 1) → (wJ H91023 r0 = 1) → (H r0 10 ≤ H91023 r0 10) → (wOV H r0 ≤ wOV H91023 r0) → (wPI H91023 rp = 1) → (∀ a, a ≠ rp → T.2.2.2 a = some 54 → H91023 a 3 = H a 3) → (901 - H91023 r0 10).toNat = n91020 → wp kt 8 176 2 [(1, vI v91022), (0, .ref r0)] [] T H91023 (q_176 r0 rp T H) := by
    intro n91020
    induction n91020 using Nat.strongRecOn with
    | _ n91020 ih91021 =>
      intro v91022 H91023 w91024 f91025 b91026 x91027 x91028 x91029 x91030 x91031 m91032
      have f91033 := f0.tr f91025 rfl
      refine wp_of e176 c176_2 (rw_iload_n (pc' := 3) (z := v91022) rfl rfl ?_)
      refine wp_of e176 c176_3 (rw_if_eq (p1 := 20) (p2 := 6) (by decide) rfl ⟨by omega, by omega⟩ (fun c91034 => ?_) (fun c91034 => ?_))
      · refine wp_of e176 c176_20 (rw_aload_n (pc' := 21) (v := .ref r0) rfl rfl rfl ?_)
        refine wp_of e176 c176_21 (xg_I (pc' := 24) lf_9_75 w91024 g0 sh_42 (by decide) (by decide) ty_42_9 rfl rfl (fun b91035 b91036 => ?_))
        have k91037 := wOV_e (H := H91023) (m := r0)
        refine wp_of e176 c176_24 (rw_iconst (pc' := 25) rfl ?_)
        refine wp_of e176 c176_25 (rw_icmp_eq (p1 := 33) (p2 := 28) (by decide) rfl ⟨by omega, by omega⟩ ⟨by omega, by omega⟩ (fun c91038 => ?_) (fun c91038 => ?_))
        · refine wp_of e176 c176_33 (rw_aload_n (pc' := 34) (v := .ref r0) rfl rfl rfl ?_)
          have k91039 : H91023 r0 4 = H r0 4 := (f91025 r0 4 _ g0 rfl)
          have q91040 : H91023 r0 4 = (rp : Int) := k91039.trans qrp
          refine wp_of e176 c176_34 (xg_K (pc' := 37) lf_9_166 w91024 g0 sh_42 (by decide) (by decide) rfl q91040 rfl ?_)
          refine wp_of e176 c176_37 (xg_I (pc' := 40) lf_9_185 w91024 grp sh_54 (by decide) (by decide) ty_54_0 rfl rfl (fun b91041 b91042 => ?_))
          refine wp_of e176 c176_40 (rw_if_eq (p1 := 53) (p2 := 43) (by decide) rfl ⟨by omega, by omega⟩ (fun c91043 => ?_) (fun c91043 => ?_))
          · refine wp_of e176 c176_53 (rw_aload_n (pc' := 54) (v := .ref r0) rfl rfl rfl ?_)
            refine wp_of e176 c176_54 (rw_bipush (pc' := 56) (z := 6) rfl (by decide) ?_)
            refine wp_of e176 c176_56 (xc_V (pc' := 59) (r := r0) (as := [vI 6]) (st := []) (lm_9_121) rfl rfl (Nat.le_of_ble_eq_true rfl) w91024 g0 sh_42 (by decide) rfl (by decide) (s_181 w91024 g0 ⟨by omega, by omega⟩ (by omega)) (fun R91044 T91045 H91046 p91047 => ?_))
            obtain ⟨e91048, w91050, f91051, e91049, p91052, p91053, p91054, p91055, p91056, p91057⟩ := p91047
            subst e91048
            subst e91049
            have f91058 := f91033.tr f91051 rfl
            show wp _ _ 176 59 [(1, vI v91022), (0, .ref r0)] [] _ H91046 _
            have k91059 : wPI H91046 rp = wPI H91023 rp := (wPI_fr w91024 grp f91051 rfl)
            exact wp_return e176 c176_59 rfl ⟨rfl, w91050, f91058, rfl, by omega, by omega, by omega, by omega, by omega, fun a ha ga => ((f91051 a 3 _ ga rfl).trans (x91031 a ha ga))⟩
          · refine wp_of e176 c176_43 (rw_aload_n (pc' := 44) (v := .ref r0) rfl rfl rfl ?_)
            refine wp_of e176 c176_44 (xg_K (pc' := 47) lf_9_166 w91024 g0 sh_42 (by decide) (by decide) rfl q91040 rfl ?_)
            refine wp_of e176 c176_47 (xg_I (pc' := 50) lf_9_188 w91024 grp sh_54 (by decide) (by decide) ty_54_3 rfl rfl (fun b91060 b91061 => ?_))
            refine wp_of e176 c176_50 (rw_if_ne (p1 := 59) (p2 := 53) (by decide) rfl ⟨by omega, by omega⟩ (fun c91062 => ?_) (fun c91062 => ?_))
            · exact wp_return e176 c176_59 rfl ⟨rfl, w91024, f91033, rfl, by omega, by omega, by omega, by omega, by omega, fun a ha ga => (x91031 a ha ga)⟩
            · refine wp_of e176 c176_53 (rw_aload_n (pc' := 54) (v := .ref r0) rfl rfl rfl ?_)
              refine wp_of e176 c176_54 (rw_bipush (pc' := 56) (z := 6) rfl (by decide) ?_)
              refine wp_of e176 c176_56 (xc_V (pc' := 59) (r := r0) (as := [vI 6]) (st := []) (lm_9_121) rfl rfl (Nat.le_of_ble_eq_true rfl) w91024 g0 sh_42 (by decide) rfl (by decide) (s_181 w91024 g0 ⟨by omega, by omega⟩ (by omega)) (fun R91063 T91064 H91065 p91066 => ?_))
              obtain ⟨e91067, w91069, f91070, e91068, p91071, p91072, p91073, p91074, p91075, p91076⟩ := p91066
              subst e91067
              subst e91068
              have f91077 := f91033.tr f91070 rfl
              show wp _ _ 176 59 [(1, vI v91022), (0, .ref r0)] [] _ H91065 _
              have k91078 : wPI H91065 rp = wPI H91023 rp := (wPI_fr w91024 grp f91070 rfl)
              exact wp_return e176 c176_59 rfl ⟨rfl, w91069, f91077, rfl, by omega, by omega, by omega, by omega, by omega, fun a ha ga => ((f91070 a 3 _ ga rfl).trans (x91031 a ha ga))⟩
        · refine wp_of e176 c176_28 (rw_aload_n (pc' := 29) (v := .ref r0) rfl rfl rfl ?_)
          refine wp_of e176 c176_29 (rw_iconst (pc' := 30) rfl ?_)
          refine wp_of e176 c176_30 (xc_V (pc' := 33) (r := r0) (as := [vI 1]) (st := []) (lm_9_121) rfl rfl (Nat.le_of_ble_eq_true rfl) w91024 g0 sh_42 (by decide) rfl (by decide) (s_181 w91024 g0 ⟨by omega, by omega⟩ (by omega)) (fun R91079 T91080 H91081 p91082 => ?_))
          obtain ⟨e91083, w91085, f91086, e91084, p91087, p91088, p91089, p91090, p91091, p91092⟩ := p91082
          subst e91083
          subst e91084
          have f91093 := f91033.tr f91086 rfl
          show wp _ _ 176 33 [(1, vI v91022), (0, .ref r0)] [] _ H91081 _
          refine wp_of e176 c176_33 (rw_aload_n (pc' := 34) (v := .ref r0) rfl rfl rfl ?_)
          have k91094 : H91081 r0 4 = H r0 4 := ((f91086 r0 4 _ g0 rfl).trans (f91025 r0 4 _ g0 rfl))
          have q91095 : H91081 r0 4 = (rp : Int) := k91094.trans qrp
          refine wp_of e176 c176_34 (xg_K (pc' := 37) lf_9_166 w91085 g0 sh_42 (by decide) (by decide) rfl q91095 rfl ?_)
          refine wp_of e176 c176_37 (xg_I (pc' := 40) lf_9_185 w91085 grp sh_54 (by decide) (by decide) ty_54_0 rfl rfl (fun b91096 b91097 => ?_))
          refine wp_of e176 c176_40 (rw_if_eq (p1 := 53) (p2 := 43) (by decide) rfl ⟨by omega, by omega⟩ (fun c91098 => ?_) (fun c91098 => ?_))
          · refine wp_of e176 c176_53 (rw_aload_n (pc' := 54) (v := .ref r0) rfl rfl rfl ?_)
            refine wp_of e176 c176_54 (rw_bipush (pc' := 56) (z := 6) rfl (by decide) ?_)
            refine wp_of e176 c176_56 (xc_V (pc' := 59) (r := r0) (as := [vI 6]) (st := []) (lm_9_121) rfl rfl (Nat.le_of_ble_eq_true rfl) w91085 g0 sh_42 (by decide) rfl (by decide) (s_181 w91085 g0 ⟨by omega, by omega⟩ (by omega)) (fun R91099 T91100 H91101 p91102 => ?_))
            obtain ⟨e91103, w91105, f91106, e91104, p91107, p91108, p91109, p91110, p91111, p91112⟩ := p91102
            subst e91103
            subst e91104
            have f91113 := f91093.tr f91106 rfl
            show wp _ _ 176 59 [(1, vI v91022), (0, .ref r0)] [] _ H91101 _
            have k91114 : wPI H91101 rp = wPI H91023 rp := ((wPI_fr w91085 grp f91106 rfl).trans (wPI_fr w91024 grp f91086 rfl))
            exact wp_return e176 c176_59 rfl ⟨rfl, w91105, f91113, rfl, by omega, by omega, by omega, by omega, by omega, fun a ha ga => ((f91106 a 3 _ ga rfl).trans ((f91086 a 3 _ ga rfl).trans (x91031 a ha ga)))⟩
          · refine wp_of e176 c176_43 (rw_aload_n (pc' := 44) (v := .ref r0) rfl rfl rfl ?_)
            refine wp_of e176 c176_44 (xg_K (pc' := 47) lf_9_166 w91085 g0 sh_42 (by decide) (by decide) rfl q91095 rfl ?_)
            refine wp_of e176 c176_47 (xg_I (pc' := 50) lf_9_188 w91085 grp sh_54 (by decide) (by decide) ty_54_3 rfl rfl (fun b91115 b91116 => ?_))
            refine wp_of e176 c176_50 (rw_if_ne (p1 := 59) (p2 := 53) (by decide) rfl ⟨by omega, by omega⟩ (fun c91117 => ?_) (fun c91117 => ?_))
            · have k91118 : wPI H91081 rp = wPI H91023 rp := (wPI_fr w91024 grp f91086 rfl)
              exact wp_return e176 c176_59 rfl ⟨rfl, w91085, f91093, rfl, by omega, by omega, by omega, by omega, by omega, fun a ha ga => ((f91086 a 3 _ ga rfl).trans (x91031 a ha ga))⟩
            · refine wp_of e176 c176_53 (rw_aload_n (pc' := 54) (v := .ref r0) rfl rfl rfl ?_)
              refine wp_of e176 c176_54 (rw_bipush (pc' := 56) (z := 6) rfl (by decide) ?_)
              refine wp_of e176 c176_56 (xc_V (pc' := 59) (r := r0) (as := [vI 6]) (st := []) (lm_9_121) rfl rfl (Nat.le_of_ble_eq_true rfl) w91085 g0 sh_42 (by decide) rfl (by decide) (s_181 w91085 g0 ⟨by omega, by omega⟩ (by omega)) (fun R91119 T91120 H91121 p91122 => ?_))
              obtain ⟨e91123, w91125, f91126, e91124, p91127, p91128, p91129, p91130, p91131, p91132⟩ := p91122
              subst e91123
              subst e91124
              have f91133 := f91093.tr f91126 rfl
              show wp _ _ 176 59 [(1, vI v91022), (0, .ref r0)] [] _ H91121 _
              have k91134 : wPI H91121 rp = wPI H91023 rp := ((wPI_fr w91085 grp f91126 rfl).trans (wPI_fr w91024 grp f91086 rfl))
              exact wp_return e176 c176_59 rfl ⟨rfl, w91125, f91133, rfl, by omega, by omega, by omega, by omega, by omega, fun a ha ga => ((f91126 a 3 _ ga rfl).trans ((f91086 a 3 _ ga rfl).trans (x91031 a ha ga)))⟩
      · refine wp_of e176 c176_6 (rw_aload_n (pc' := 7) (v := .ref r0) rfl rfl rfl ?_)
        have k91135 : H91023 r0 4 = H r0 4 := (f91025 r0 4 _ g0 rfl)
        have q91136 : H91023 r0 4 = (rp : Int) := k91135.trans qrp
        refine wp_of e176 c176_7 (xc_V (pc' := 10) (r := r0) (as := []) (st := []) (lm_9_179) rfl rfl (Nat.le_of_ble_eq_true rfl) w91024 g0 sh_42 (by decide) rfl (by decide) (s_177 w91024 g0 q91136 grp (by omega) (by omega)) (fun R91137 T91138 H91139 p91140 => ?_))
        obtain ⟨e91141, w91143, f91144, e91142, p91145, p91146, p91147, p91148, p91149, p91150⟩ := p91140
        subst e91141
        subst e91142
        have f91151 := f91033.tr f91144 rfl
        have f91152 := f91025.tr f91144 rfl
        show wp _ _ 176 10 [(1, vI v91022), (0, .ref r0)] [] _ H91139 _
        refine wp_of e176 c176_10 (rw_aload_n (pc' := 11) (v := .ref r0) rfl rfl rfl ?_)
        refine wp_of e176 c176_11 (rw_bipush (pc' := 13) (z := 59) rfl (by decide) ?_)
        refine wp_of e176 c176_13 (xc_V (pc' := 16) (r := r0) (as := [vI 59]) (st := []) (lm_9_182) rfl rfl (Nat.le_of_ble_eq_true rfl) w91143 g0 sh_42 (by decide) rfl (by decide) (s_204 w91143 g0 ⟨by omega, by omega⟩ (by omega)) (fun R91153 T91154 H91155 p91156 => ?_))
        obtain ⟨e91157, w91159, f91160, z91166, e91158, b91167, p91161, p91162, p91163, p91164, p91165⟩ := p91156
        subst e91157
        subst e91158
        have f91168 := f91151.tr f91160 rfl
        have f91169 := f91152.tr f91160 rfl
        show wp _ _ 176 16 [(1, vI v91022), (0, .ref r0)] [vI z91166] _ H91155 _
        refine wp_of e176 c176_16 (rw_istore_n (pc' := 17) (z := z91166) (L' := [(1, vI z91166), (0, .ref r0)]) rfl rfl rfl ?_)
        refine wp_of e176 c176_17 (rw_goto (p1 := 2) (by decide) ?_)
        have k91170 : wPI H91155 rp = wPI H91139 rp := (wPI_fr w91143 grp f91160 rfl)
        exact wp_lc (ks := [1, 0]) (wl_c rfl (wl_c rfl wl_n)) rfl (by decide) (ih91021 _ (by omega) z91166 H91155 w91159 f91169 ⟨by omega, by omega⟩ (by omega) (by omega) (by omega) (by omega) (fun a ha ga => ((f91160 a 3 _ ga rfl).trans ((p91150 a ha ga).trans (x91031 a ha ga)))) rfl)
  exact wp_lc (ks := [1, 0]) (wl_c rfl (wl_c rfl wl_n)) rfl (by decide) (lp91019 _ 1 H hW wfr.rf ⟨by omega, by omega⟩ (by omega) (by omega) (by omega) (by omega) (fun _ _ _ => rfl) rfl)
/-! StrikeAwakeModel.has(II)Z -/
theorem e205 : wq_en 205 = some (9, 2, false, some FieldType.boolean) := rfl
theorem c205_0 : mc_cd 205 0 = some (.iload_n 0, 1) := by decide +kernel
theorem c205_1 : mc_cd 205 1 = some (.iload_n 1, 1) := by decide +kernel
theorem c205_2 : mc_cd 205 2 = some (.ishr, 1) := by decide +kernel
theorem c205_3 : mc_cd 205 3 = some (.iconst 1, 1) := by decide +kernel
theorem c205_4 : mc_cd 205 4 = some (.iand, 1) := by decide +kernel
theorem c205_5 : mc_cd 205 5 = some (.iconst 1, 1) := by decide +kernel
theorem c205_6 : mc_cd 205 6 = some (.if_icmp .ne 7, 3) := by decide +kernel
theorem c205_9 : mc_cd 205 9 = some (.iconst 1, 1) := by decide +kernel
theorem c205_10 : mc_cd 205 10 = some (.goto 4, 3) := by decide +kernel
theorem c205_13 : mc_cd 205 13 = some (.iconst 0, 1) := by decide +kernel
theorem c205_14 : mc_cd 205 14 = some (.ireturn, 1) := by decide +kernel
abbrev q_205 (a0 : Int) (a1 : Int) (T : wq_T) (H : wq_H) : Option Value → wq_T → wq_H → Prop := fun r T' H' => T = T' ∧ H = H' ∧ ∃ z : Int, some (vI z) = r ∧ (0 ≤ z ∧ z ≤ 1)
set_option maxHeartbeats 4000000 in
theorem s_205 {kt : Nat → Option mc_E} {T : wq_T} {H : wq_H} {a0 : Int} {a1 : Int} (hW : WT T H) (i0 : (-2147483648) ≤ a0 ∧ a0 ≤ 2147483647) (i1 : (-2147483648) ≤ a1 ∧ a1 ≤ 2147483647) : wpc kt 1 205 [vI a0, vI a1] T H (q_205 a0 a1 T H) := by
  refine wp_enter e205 (Nat.le_of_ble_eq_true rfl) rfl ?_
  show wp _ _ 205 0 [(0, vI a0), (1, vI a1)] [] _ H _
  refine wp_of e205 c205_0 (rw_iload_n (pc' := 1) (z := a0) rfl rfl ?_)
  refine wp_of e205 c205_1 (rw_iload_n (pc' := 2) (z := a1) rfl rfl ?_)
  refine wp_of e205 c205_2 (rw_ishr (pc' := 3) rfl ?_)
  obtain ⟨v91176, e91177⟩ : ∃ x : Int, x = wq_shr a0 a1 := ⟨_, rfl⟩
  rw [← e91177]
  have b91178 : -2147483648 ≤ v91176 ∧ v91176 ≤ 2147483647 := by
    rw [e91177]
    exact wI_shr _ _
  refine wp_of e205 c205_3 (rw_iconst (pc' := 4) rfl ?_)
  refine wp_of e205 c205_4 (rw_iand (pc' := 5) rfl ?_)
  obtain ⟨v91179, e91180⟩ : ∃ x : Int, x = wq_and v91176 1 := ⟨_, rfl⟩
  rw [← e91180]
  have b91181 : 0 ≤ v91179 ∧ v91179 ≤ 1 := by
    rw [e91180]
    exact wq_and_b _ (by omega) (by omega)
  refine wp_of e205 c205_5 (rw_iconst (pc' := 6) rfl ?_)
  refine wp_of e205 c205_6 (rw_icmp_ne (p1 := 13) (p2 := 9) (by decide) rfl ⟨by omega, by omega⟩ ⟨by omega, by omega⟩ (fun c91182 => ?_) (fun c91182 => ?_))
  · refine wp_of e205 c205_13 (rw_iconst (pc' := 14) rfl ?_)
    exact wp_zreturn e205 c205_14 rfl (by omega) ⟨rfl, rfl, 0, rfl, ⟨by omega, by omega⟩⟩
  · refine wp_of e205 c205_9 (rw_iconst (pc' := 10) rfl ?_)
    refine wp_of e205 c205_10 (rw_goto (p1 := 14) (by decide) ?_)
    exact wp_zreturn e205 c205_14 rfl (by omega) ⟨rfl, rfl, 1, rfl, ⟨by omega, by omega⟩⟩
/-! StrikeAwakeModel.struckHours()I -/
theorem e207 : wq_en 207 = some (9, 3, false, some FieldType.int) := rfl
theorem c207_0 : mc_cd 207 0 = some (.iconst 0, 1) := by decide +kernel
theorem c207_1 : mc_cd 207 1 = some (.istore_n 1, 1) := by decide +kernel
theorem c207_2 : mc_cd 207 2 = some (.iconst 0, 1) := by decide +kernel
theorem c207_3 : mc_cd 207 3 = some (.istore_n 2, 1) := by decide +kernel
theorem c207_4 : mc_cd 207 4 = some (.iload_n 2, 1) := by decide +kernel
theorem c207_5 : mc_cd 207 5 = some (.bipush 24, 2) := by decide +kernel
theorem c207_7 : mc_cd 207 7 = some (.if_icmp .ge 28, 3) := by decide +kernel
theorem c207_10 : mc_cd 207 10 = some (.iload_n 1, 1) := by decide +kernel
theorem c207_11 : mc_cd 207 11 = some (.aload_n 0, 1) := by decide +kernel
theorem c207_12 : mc_cd 207 12 = some (.getfield 17, 3) := by decide +kernel
theorem c207_15 : mc_cd 207 15 = some (.iload_n 2, 1) := by decide +kernel
theorem c207_16 : mc_cd 207 16 = some (.iaload, 1) := by decide +kernel
theorem c207_17 : mc_cd 207 17 = some (.ifCond .le 9, 3) := by decide +kernel
theorem c207_20 : mc_cd 207 20 = some (.iconst 1, 1) := by decide +kernel
theorem c207_21 : mc_cd 207 21 = some (.iload_n 2, 1) := by decide +kernel
theorem c207_22 : mc_cd 207 22 = some (.ishl, 1) := by decide +kernel
theorem c207_23 : mc_cd 207 23 = some (.goto 4, 3) := by decide +kernel
theorem c207_26 : mc_cd 207 26 = some (.iconst 0, 1) := by decide +kernel
theorem c207_27 : mc_cd 207 27 = some (.ior, 1) := by decide +kernel
theorem c207_28 : mc_cd 207 28 = some (.istore_n 1, 1) := by decide +kernel
theorem c207_29 : mc_cd 207 29 = some (.iinc 2 1, 3) := by decide +kernel
theorem c207_32 : mc_cd 207 32 = some (.goto (-28), 3) := by decide +kernel
theorem c207_35 : mc_cd 207 35 = some (.iload_n 1, 1) := by decide +kernel
theorem c207_36 : mc_cd 207 36 = some (.ireturn, 1) := by decide +kernel
abbrev q_207 (r0 : Nat) (T : wq_T) (H : wq_H) : Option Value → wq_T → wq_H → Prop := fun r T' H' => T = T' ∧ H = H' ∧ ∃ z : Int, some (vI z) = r ∧ (0 ≤ z ∧ z ≤ 16777215)
set_option maxHeartbeats 4000000 in
theorem s_207 {kt : Nat → Option mc_E} {T : wq_T} {H : wq_H} {r0 : Nat} (hW : WT T H) (g0 : T.2.2.2 r0 = some 42) : wpc kt 1 207 [.ref r0] T H (q_207 r0 T H) := by
  refine wp_enter e207 (Nat.le_of_ble_eq_true rfl) rfl ?_
  show wp _ _ 207 0 [(0, .ref r0)] [] _ H _
  refine wp_of e207 c207_0 (rw_iconst (pc' := 1) rfl ?_)
  refine wp_of e207 c207_1 (rw_istore_n (pc' := 2) (z := 0) (L' := [(1, vI 0), (0, .ref r0)]) rfl rfl rfl ?_)
  refine wp_of e207 c207_2 (rw_iconst (pc' := 3) rfl ?_)
  refine wp_of e207 c207_3 (rw_istore_n (pc' := 4) (z := 0) (L' := [(2, vI 0), (1, vI 0), (0, .ref r0)]) rfl rfl rfl ?_)
  have lp91405 : ∀ (n91406 : Nat) (v91408 : Int) (v91409 : Int), (0 ≤ v91408 ∧ v91408 ≤ 24) → (0 ≤ v91409 ∧ v91409 ≤ 16777215) → (24 - v91408).toNat = n91406 → wp kt 0 207 4 [(2, vI v91408), (1, vI v91409), (0, .ref r0)] [] T H (q_207 r0 T H) := by
    intro n91406
    induction n91406 using Nat.strongRecOn with
    | _ n91406 ih91407 =>
      intro v91408 v91409 b91412 b91413 m91414
      refine wp_of e207 c207_4 (rw_iload_n (pc' := 5) (z := v91408) rfl rfl ?_)
      refine wp_of e207 c207_5 (rw_bipush (pc' := 7) (z := 24) rfl (by decide) ?_)
      refine wp_of e207 c207_7 (rw_icmp_ge (p1 := 35) (p2 := 10) (by decide) rfl ⟨by omega, by omega⟩ ⟨by omega, by omega⟩ (fun c91415 => ?_) (fun c91415 => ?_))
      · refine wp_of e207 c207_35 (rw_iload_n (pc' := 36) (z := v91409) rfl rfl ?_)
        exact wp_ireturn e207 c207_36 rfl ⟨rfl, rfl, v91409, rfl, ⟨by omega, by omega⟩⟩
      · refine wp_of e207 c207_10 (rw_iload_n (pc' := 11) (z := v91409) rfl rfl ?_)
        refine wp_of e207 c207_11 (rw_aload_n (pc' := 12) (v := .ref r0) rfl rfl rfl ?_)
        refine wp_of e207 c207_12 (xg_R (pc' := 15) lf_9_17 hW g0 sh_42 (by decide) (by decide) ty_42_20 rfl rfl (fun r91416 q91417 g91418 => ?_))
        refine wp_of e207 c207_15 (rw_iload_n (pc' := 16) (z := v91408) rfl rfl ?_)
        refine wp_of e207 c207_16 (xa_I (so := 0) (pc' := 17) hW g91418 sh_44 (by decide) (ty_44 _) (by omega) (by omega) rfl (fun b91419 b91420 => ?_))
        refine wp_of e207 c207_17 (rw_if_le (p1 := 26) (p2 := 20) (by decide) rfl ⟨by omega, by omega⟩ (fun c91421 => ?_) (fun c91421 => ?_))
        · refine wp_of e207 c207_26 (rw_iconst (pc' := 27) rfl ?_)
          refine wp_of e207 c207_27 (rw_ior (pc' := 28) rfl ?_)
          obtain ⟨v91422, e91423⟩ : ∃ x : Int, x = wq_or v91409 0 := ⟨_, rfl⟩
          rw [← e91423]
          have b91424 : 0 ≤ v91422 ∧ v91422 ≤ 16777215 := by
            rw [e91423]
            exact wq_or_24 ⟨by omega, by omega⟩ ⟨by omega, by omega⟩
          refine wp_of e207 c207_28 (rw_istore_n (pc' := 29) (z := v91422) (L' := [(1, vI v91422), (2, vI v91408), (0, .ref r0)]) rfl rfl rfl ?_)
          refine wp_of e207 c207_29 (rw_iinc (pc' := 32) (z := v91408) (L' := [(2, vI (v91408 + 1)), (1, vI v91422), (0, .ref r0)]) rfl rfl rfl rfl ?_)
          refine wp_of e207 c207_32 (rw_goto (p1 := 4) (by decide) ?_)
          exact wp_lc (ks := [2, 1, 0]) (wl_c rfl (wl_c rfl (wl_c rfl wl_n))) rfl (by decide) (ih91407 _ (by omega) (v91408 + 1) v91422 ⟨by omega, by omega⟩ ⟨by omega, by omega⟩ rfl)
        · refine wp_of e207 c207_20 (rw_iconst (pc' := 21) rfl ?_)
          refine wp_of e207 c207_21 (rw_iload_n (pc' := 22) (z := v91408) rfl rfl ?_)
          refine wp_of e207 c207_22 (rw_ishl (pc' := 23) rfl ?_)
          obtain ⟨v91425, e91426⟩ : ∃ x : Int, x = wq_shl 1 v91408 := ⟨_, rfl⟩
          rw [← e91426]
          have b91427 : 1 ≤ v91425 ∧ v91425 ≤ 8388608 := by
            rw [e91426]
            exact wq_shl1_24 ⟨by omega, by omega⟩
          refine wp_of e207 c207_23 (rw_goto (p1 := 27) (by decide) ?_)
          refine wp_of e207 c207_27 (rw_ior (pc' := 28) rfl ?_)
          obtain ⟨v91428, e91429⟩ : ∃ x : Int, x = wq_or v91409 v91425 := ⟨_, rfl⟩
          rw [← e91429]
          have b91430 : 0 ≤ v91428 ∧ v91428 ≤ 16777215 := by
            rw [e91429]
            exact wq_or_24 ⟨by omega, by omega⟩ ⟨by omega, by omega⟩
          refine wp_of e207 c207_28 (rw_istore_n (pc' := 29) (z := v91428) (L' := [(1, vI v91428), (2, vI v91408), (0, .ref r0)]) rfl rfl rfl ?_)
          refine wp_of e207 c207_29 (rw_iinc (pc' := 32) (z := v91408) (L' := [(2, vI (v91408 + 1)), (1, vI v91428), (0, .ref r0)]) rfl rfl rfl rfl ?_)
          refine wp_of e207 c207_32 (rw_goto (p1 := 4) (by decide) ?_)
          exact wp_lc (ks := [2, 1, 0]) (wl_c rfl (wl_c rfl (wl_c rfl wl_n))) rfl (by decide) (ih91407 _ (by omega) (v91408 + 1) v91428 ⟨by omega, by omega⟩ ⟨by omega, by omega⟩ rfl)
  exact wp_lc (ks := [2, 1, 0]) (wl_c rfl (wl_c rfl (wl_c rfl wl_n))) rfl (by decide) (lp91405 _ 0 0 ⟨by omega, by omega⟩ ⟨by omega, by omega⟩ rfl)
/-! StrikeAwakeModel.lay(IIIII)V -/
theorem e208 : wq_en 208 = some (9, 7, false, none) := rfl
theorem c208_0 : mc_cd 208 0 = some (.bipush 40, 2) := by decide +kernel
theorem c208_2 : mc_cd 208 2 = some (.iload_n 1, 1) := by decide +kernel
theorem c208_3 : mc_cd 208 3 = some (.imul, 1) := by decide +kernel
theorem c208_4 : mc_cd 208 4 = some (.aload_n 0, 1) := by decide +kernel
theorem c208_5 : mc_cd 208 5 = some (.getfield 21, 3) := by decide +kernel
theorem c208_8 : mc_cd 208 8 = some (.iload_n 1, 1) := by decide +kernel
theorem c208_9 : mc_cd 208 9 = some (.iaload, 1) := by decide +kernel
theorem c208_10 : mc_cd 208 10 = some (.iadd, 1) := by decide +kernel
theorem c208_11 : mc_cd 208 11 = some (.istore 6, 2) := by decide +kernel
theorem c208_13 : mc_cd 208 13 = some (.aload_n 0, 1) := by decide +kernel
theorem c208_14 : mc_cd 208 14 = some (.getfield 24, 3) := by decide +kernel
theorem c208_17 : mc_cd 208 17 = some (.iload 6, 2) := by decide +kernel
theorem c208_19 : mc_cd 208 19 = some (.iload_n 2, 1) := by decide +kernel
theorem c208_20 : mc_cd 208 20 = some (.iastore, 1) := by decide +kernel
theorem c208_21 : mc_cd 208 21 = some (.aload_n 0, 1) := by decide +kernel
theorem c208_22 : mc_cd 208 22 = some (.getfield 27, 3) := by decide +kernel
theorem c208_25 : mc_cd 208 25 = some (.iload 6, 2) := by decide +kernel
theorem c208_27 : mc_cd 208 27 = some (.iload_n 3, 1) := by decide +kernel
theorem c208_28 : mc_cd 208 28 = some (.iastore, 1) := by decide +kernel
theorem c208_29 : mc_cd 208 29 = some (.aload_n 0, 1) := by decide +kernel
theorem c208_30 : mc_cd 208 30 = some (.getfield 30, 3) := by decide +kernel
theorem c208_33 : mc_cd 208 33 = some (.iload 6, 2) := by decide +kernel
theorem c208_35 : mc_cd 208 35 = some (.iload 4, 2) := by decide +kernel
theorem c208_37 : mc_cd 208 37 = some (.iastore, 1) := by decide +kernel
theorem c208_38 : mc_cd 208 38 = some (.aload_n 0, 1) := by decide +kernel
theorem c208_39 : mc_cd 208 39 = some (.getfield 33, 3) := by decide +kernel
theorem c208_42 : mc_cd 208 42 = some (.iload 6, 2) := by decide +kernel
theorem c208_44 : mc_cd 208 44 = some (.iload 5, 2) := by decide +kernel
theorem c208_46 : mc_cd 208 46 = some (.iastore, 1) := by decide +kernel
theorem c208_47 : mc_cd 208 47 = some (.aload_n 0, 1) := by decide +kernel
theorem c208_48 : mc_cd 208 48 = some (.getfield 21, 3) := by decide +kernel
theorem c208_51 : mc_cd 208 51 = some (.iload_n 1, 1) := by decide +kernel
theorem c208_52 : mc_cd 208 52 = some (.dup2, 1) := by decide +kernel
theorem c208_53 : mc_cd 208 53 = some (.iaload, 1) := by decide +kernel
theorem c208_54 : mc_cd 208 54 = some (.iconst 1, 1) := by decide +kernel
theorem c208_55 : mc_cd 208 55 = some (.iadd, 1) := by decide +kernel
theorem c208_56 : mc_cd 208 56 = some (.iastore, 1) := by decide +kernel
theorem c208_57 : mc_cd 208 57 = some (.return_, 1) := by decide +kernel
abbrev q_208 (r0 : Nat) (a1 : Int) (a2 : Int) (a3 : Int) (a4 : Int) (a5 : Int) (sp : Nat) (T : wq_T) (H : wq_H) : Option Value → wq_T → wq_H → Prop := fun r T' H' => T = T' ∧ WT T H' ∧ wfr [(48, 999), (49, 999), (46, 999), (47, 999), (45, 999)] T H H' ∧ none = r ∧ (H' sp (a1).toNat = H sp (a1).toNat + 1)
set_option maxHeartbeats 4000000 in
theorem s_208 {kt : Nat → Option mc_E} {T : wq_T} {H : wq_H} {r0 : Nat} {a1 : Int} {a2 : Int} {a3 : Int} {a4 : Int} {a5 : Int} {sp : Nat} (hW : WT T H) (g0 : T.2.2.2 r0 = some 42) (i1 : 0 ≤ a1 ∧ a1 ≤ 5) (i2 : 0 ≤ a2 ∧ a2 ≤ 30) (i3 : 0 ≤ a3 ∧ a3 ≤ 16) (i4 : (-2147483648) ≤ a4 ∧ a4 ≤ 2147483647) (i5 : (-2147483648) ≤ a5 ∧ a5 ≤ 2147483647) (qsp : H r0 21 = (sp : Int)) (gsp : T.2.2.2 sp = some 45) (p0 : H sp (a1).toNat ≤ 39) : wpc kt 1 208 [.ref r0, vI a1, vI a2, vI a3, vI a4, vI a5] T H (q_208 r0 a1 a2 a3 a4 a5 sp T H) := by
  refine wp_enter e208 (Nat.le_of_ble_eq_true rfl) rfl ?_
  have f0 : wfr [(48, 999), (49, 999), (46, 999), (47, 999), (45, 999)] T H H := wfr.rf
  show wp _ _ 208 0 [(0, .ref r0), (1, vI a1), (2, vI a2), (3, vI a3), (4, vI a4), (5, vI a5)] [] _ H _
  refine wp_of e208 c208_0 (rw_bipush (pc' := 2) (z := 40) rfl (by decide) ?_)
  refine wp_of e208 c208_2 (rw_iload_n (pc' := 3) (z := a1) rfl rfl ?_)
  refine wp_of e208 c208_3 (rw_imul (pc' := 4) rfl ?_)
  refine wp_of e208 c208_4 (rw_aload_n (pc' := 5) (v := .ref r0) rfl rfl rfl ?_)
  refine wp_of e208 c208_5 (xg_K (pc' := 8) lf_9_21 hW g0 sh_42 (by decide) (by decide) rfl qsp rfl ?_)
  refine wp_of e208 c208_8 (rw_iload_n (pc' := 9) (z := a1) rfl rfl ?_)
  refine wp_of e208 c208_9 (xa_I (so := 0) (pc' := 10) hW gsp sh_45 (by decide) (ty_45 _) (by omega) (by omega) rfl (fun b91470 b91471 => ?_))
  refine wp_of e208 c208_10 (rw_iadd (pc' := 11) rfl ?_)
  refine wp_of e208 c208_11 (rw_istore (pc' := 13) (z := (40 * a1) + (H sp (a1.toNat))) (L' := [(6, vI ((40 * a1) + (H sp (a1.toNat)))), (0, .ref r0), (1, vI a1), (2, vI a2), (3, vI a3), (4, vI a4), (5, vI a5)]) rfl rfl rfl ?_)
  refine wp_of e208 c208_13 (rw_aload_n (pc' := 14) (v := .ref r0) rfl rfl rfl ?_)
  refine wp_of e208 c208_14 (xg_R (pc' := 17) lf_9_24 hW g0 sh_42 (by decide) (by decide) ty_42_22 rfl rfl (fun r91472 q91473 g91474 => ?_))
  refine wp_of e208 c208_17 (rw_iload (pc' := 19) (z := (40 * a1) + (H sp (a1.toNat))) rfl rfl ?_)
  refine wp_of e208 c208_19 (rw_iload_n (pc' := 20) (z := a2) rfl rfl ?_)
  refine wp_of e208 c208_20 (xs_I (pc' := 21) hW g91474 (by decide) sh_46 (by decide) (ty_46 _) (by omega) (by omega) ⟨by omega, by omega⟩ (by omega) (by omega) rfl (fun H91475 e91476 w91477 => ?_))
  have f91478 := f0.put' e91476 g91474 rfl
  refine wp_of e208 c208_21 (rw_aload_n (pc' := 22) (v := .ref r0) rfl rfl rfl ?_)
  refine wp_of e208 c208_22 (xg_R (pc' := 25) lf_9_27 w91477 g0 sh_42 (by decide) (by decide) ty_42_23 rfl rfl (fun r91479 q91480 g91481 => ?_))
  refine wp_of e208 c208_25 (rw_iload (pc' := 27) (z := (40 * a1) + (H sp (a1.toNat))) rfl rfl ?_)
  refine wp_of e208 c208_27 (rw_iload_n (pc' := 28) (z := a3) rfl rfl ?_)
  refine wp_of e208 c208_28 (xs_I (pc' := 29) w91477 g91481 (by decide) sh_47 (by decide) (ty_47 _) (by omega) (by omega) ⟨by omega, by omega⟩ (by omega) (by omega) rfl (fun H91482 e91483 w91484 => ?_))
  have f91485 := f91478.put' e91483 g91481 rfl
  refine wp_of e208 c208_29 (rw_aload_n (pc' := 30) (v := .ref r0) rfl rfl rfl ?_)
  refine wp_of e208 c208_30 (xg_R (pc' := 33) lf_9_30 w91484 g0 sh_42 (by decide) (by decide) ty_42_24 rfl rfl (fun r91486 q91487 g91488 => ?_))
  refine wp_of e208 c208_33 (rw_iload (pc' := 35) (z := (40 * a1) + (H sp (a1.toNat))) rfl rfl ?_)
  refine wp_of e208 c208_35 (rw_iload (pc' := 37) (z := a4) rfl rfl ?_)
  refine wp_of e208 c208_37 (xs_I (pc' := 38) w91484 g91488 (by decide) sh_48 (by decide) (ty_48 _) (by omega) (by omega) ⟨by omega, by omega⟩ (by omega) (by omega) rfl (fun H91489 e91490 w91491 => ?_))
  have f91492 := f91485.put' e91490 g91488 rfl
  refine wp_of e208 c208_38 (rw_aload_n (pc' := 39) (v := .ref r0) rfl rfl rfl ?_)
  refine wp_of e208 c208_39 (xg_R (pc' := 42) lf_9_33 w91491 g0 sh_42 (by decide) (by decide) ty_42_25 rfl rfl (fun r91493 q91494 g91495 => ?_))
  refine wp_of e208 c208_42 (rw_iload (pc' := 44) (z := (40 * a1) + (H sp (a1.toNat))) rfl rfl ?_)
  refine wp_of e208 c208_44 (rw_iload (pc' := 46) (z := a5) rfl rfl ?_)
  refine wp_of e208 c208_46 (xs_I (pc' := 47) w91491 g91495 (by decide) sh_49 (by decide) (ty_49 _) (by omega) (by omega) ⟨by omega, by omega⟩ (by omega) (by omega) rfl (fun H91496 e91497 w91498 => ?_))
  have f91499 := f91492.put' e91497 g91495 rfl
  refine wp_of e208 c208_47 (rw_aload_n (pc' := 48) (v := .ref r0) rfl rfl rfl ?_)
  have k91500 : H91496 r0 21 = H r0 21 := ((wq_u_t e91497 g91495 g0 rfl 21).trans ((wq_u_t e91490 g91488 g0 rfl 21).trans ((wq_u_t e91483 g91481 g0 rfl 21).trans (wq_u_t e91476 g91474 g0 rfl 21))))
  have q91501 : H91496 r0 21 = (sp : Int) := k91500.trans qsp
  refine wp_of e208 c208_48 (xg_K (pc' := 51) lf_9_21 w91498 g0 sh_42 (by decide) (by decide) rfl q91501 rfl ?_)
  refine wp_of e208 c208_51 (rw_iload_n (pc' := 52) (z := a1) rfl rfl ?_)
  refine wp_of e208 c208_52 (rw_dup2 (pc' := 53) rfl rfl rfl ?_)
  have k91502 : H91496 sp (a1.toNat) = H sp (a1.toNat) := ((wq_u_t e91497 g91495 gsp rfl (a1.toNat)).trans ((wq_u_t e91490 g91488 gsp rfl (a1.toNat)).trans ((wq_u_t e91483 g91481 gsp rfl (a1.toNat)).trans (wq_u_t e91476 g91474 gsp rfl (a1.toNat)))))
  refine wp_of e208 c208_53 (xa_I (so := 0) (pc' := 54) w91498 gsp sh_45 (by decide) (ty_45 _) (by omega) (by omega) rfl (fun b91503 b91504 => ?_))
  refine wp_of e208 c208_54 (rw_iconst (pc' := 55) rfl ?_)
  refine wp_of e208 c208_55 (rw_iadd (pc' := 56) rfl ?_)
  refine wp_of e208 c208_56 (xs_I (pc' := 57) w91498 gsp (by decide) sh_45 (by decide) (ty_45 _) (by omega) (by omega) ⟨by omega, by omega⟩ (by omega) (by omega) rfl (fun H91505 e91506 w91507 => ?_))
  have f91508 := f91499.put' e91506 gsp rfl
  exact wp_return e208 c208_57 rfl ⟨rfl, w91507, f91508, rfl, by omega⟩
/-! StrikeAwakeModel.lays()V -/
theorem e206 : wq_en 206 = some (9, 7, false, none) := rfl
theorem c206_0 : mc_cd 206 0 = some (.aload_n 0, 1) := by decide +kernel
theorem c206_1 : mc_cd 206 1 = some (.invokevirtual 357, 3) := by decide +kernel
theorem c206_4 : mc_cd 206 4 = some (.istore_n 1, 1) := by decide +kernel
theorem c206_5 : mc_cd 206 5 = some (.iconst 0, 1) := by decide +kernel
theorem c206_6 : mc_cd 206 6 = some (.istore_n 2, 1) := by decide +kernel
theorem c206_7 : mc_cd 206 7 = some (.iload_n 2, 1) := by decide +kernel
theorem c206_8 : mc_cd 206 8 = some (.aload_n 0, 1) := by decide +kernel
theorem c206_9 : mc_cd 206 9 = some (.getfield 337, 3) := by decide +kernel
theorem c206_12 : mc_cd 206 12 = some (.getfield 188, 3) := by decide +kernel
theorem c206_15 : mc_cd 206 15 = some (.if_icmp .ge 181, 3) := by decide +kernel
theorem c206_18 : mc_cd 206 18 = some (.aload_n 0, 1) := by decide +kernel
theorem c206_19 : mc_cd 206 19 = some (.getfield 21, 3) := by decide +kernel
theorem c206_22 : mc_cd 206 22 = some (.iload_n 2, 1) := by decide +kernel
theorem c206_23 : mc_cd 206 23 = some (.iconst 0, 1) := by decide +kernel
theorem c206_24 : mc_cd 206 24 = some (.iastore, 1) := by decide +kernel
theorem c206_25 : mc_cd 206 25 = some (.aload_n 0, 1) := by decide +kernel
theorem c206_26 : mc_cd 206 26 = some (.getfield 337, 3) := by decide +kernel
theorem c206_29 : mc_cd 206 29 = some (.getfield 267, 3) := by decide +kernel
theorem c206_32 : mc_cd 206 32 = some (.iload_n 2, 1) := by decide +kernel
theorem c206_33 : mc_cd 206 33 = some (.baload, 1) := by decide +kernel
theorem c206_34 : mc_cd 206 34 = some (.ifCond .eq 15, 3) := by decide +kernel
theorem c206_37 : mc_cd 206 37 = some (.aload_n 0, 1) := by decide +kernel
theorem c206_38 : mc_cd 206 38 = some (.iload_n 2, 1) := by decide +kernel
theorem c206_39 : mc_cd 206 39 = some (.iconst 0, 1) := by decide +kernel
theorem c206_40 : mc_cd 206 40 = some (.iconst 0, 1) := by decide +kernel
theorem c206_41 : mc_cd 206 41 = some (.iconst 0, 1) := by decide +kernel
theorem c206_42 : mc_cd 206 42 = some (.iconst 0, 1) := by decide +kernel
theorem c206_43 : mc_cd 206 43 = some (.invokevirtual 360, 3) := by decide +kernel
theorem c206_46 : mc_cd 206 46 = some (.goto 144, 3) := by decide +kernel
theorem c206_49 : mc_cd 206 49 = some (.aload_n 0, 1) := by decide +kernel
theorem c206_50 : mc_cd 206 50 = some (.getfield 337, 3) := by decide +kernel
theorem c206_53 : mc_cd 206 53 = some (.getfield 261, 3) := by decide +kernel
theorem c206_56 : mc_cd 206 56 = some (.iload_n 2, 1) := by decide +kernel
theorem c206_57 : mc_cd 206 57 = some (.iaload, 1) := by decide +kernel
theorem c206_58 : mc_cd 206 58 = some (.aload_n 0, 1) := by decide +kernel
theorem c206_59 : mc_cd 206 59 = some (.getfield 337, 3) := by decide +kernel
theorem c206_62 : mc_cd 206 62 = some (.getfield 264, 3) := by decide +kernel
theorem c206_65 : mc_cd 206 65 = some (.iload_n 2, 1) := by decide +kernel
theorem c206_66 : mc_cd 206 66 = some (.iaload, 1) := by decide +kernel
theorem c206_67 : mc_cd 206 67 = some (.invokestatic 318, 3) := by decide +kernel
theorem c206_70 : mc_cd 206 70 = some (.istore_n 3, 1) := by decide +kernel
theorem c206_71 : mc_cd 206 71 = some (.aload_n 0, 1) := by decide +kernel
theorem c206_72 : mc_cd 206 72 = some (.getfield 337, 3) := by decide +kernel
theorem c206_75 : mc_cd 206 75 = some (.getfield 247, 3) := by decide +kernel
theorem c206_78 : mc_cd 206 78 = some (.iload_n 2, 1) := by decide +kernel
theorem c206_79 : mc_cd 206 79 = some (.iaload, 1) := by decide +kernel
theorem c206_80 : mc_cd 206 80 = some (.istore 4, 2) := by decide +kernel
theorem c206_82 : mc_cd 206 82 = some (.iload 4, 2) := by decide +kernel
theorem c206_84 : mc_cd 206 84 = some (.aload_n 0, 1) := by decide +kernel
theorem c206_85 : mc_cd 206 85 = some (.getfield 337, 3) := by decide +kernel
theorem c206_88 : mc_cd 206 88 = some (.getfield 250, 3) := by decide +kernel
theorem c206_91 : mc_cd 206 91 = some (.iload_n 2, 1) := by decide +kernel
theorem c206_92 : mc_cd 206 92 = some (.iaload, 1) := by decide +kernel
theorem c206_93 : mc_cd 206 93 = some (.if_icmp .gt 97, 3) := by decide +kernel
theorem c206_96 : mc_cd 206 96 = some (.aload_n 0, 1) := by decide +kernel
theorem c206_97 : mc_cd 206 97 = some (.getfield 337, 3) := by decide +kernel
theorem c206_100 : mc_cd 206 100 = some (.getfield 253, 3) := by decide +kernel
theorem c206_103 : mc_cd 206 103 = some (.iload_n 2, 1) := by decide +kernel
theorem c206_104 : mc_cd 206 104 = some (.iaload, 1) := by decide +kernel
theorem c206_105 : mc_cd 206 105 = some (.istore 5, 2) := by decide +kernel
theorem c206_107 : mc_cd 206 107 = some (.iload 5, 2) := by decide +kernel
theorem c206_109 : mc_cd 206 109 = some (.aload_n 0, 1) := by decide +kernel
theorem c206_110 : mc_cd 206 110 = some (.getfield 337, 3) := by decide +kernel
theorem c206_113 : mc_cd 206 113 = some (.getfield 256, 3) := by decide +kernel
theorem c206_116 : mc_cd 206 116 = some (.iload_n 2, 1) := by decide +kernel
theorem c206_117 : mc_cd 206 117 = some (.iaload, 1) := by decide +kernel
theorem c206_118 : mc_cd 206 118 = some (.if_icmp .gt 66, 3) := by decide +kernel
theorem c206_121 : mc_cd 206 121 = some (.iload 4, 2) := by decide +kernel
theorem c206_123 : mc_cd 206 123 = some (.iload 4, 2) := by decide +kernel
theorem c206_125 : mc_cd 206 125 = some (.iload 5, 2) := by decide +kernel
theorem c206_127 : mc_cd 206 127 = some (.iadd, 1) := by decide +kernel
theorem c206_128 : mc_cd 206 128 = some (.invokestatic 318, 3) := by decide +kernel
theorem c206_131 : mc_cd 206 131 = some (.iload_n 3, 1) := by decide +kernel
theorem c206_132 : mc_cd 206 132 = some (.ior, 1) := by decide +kernel
theorem c206_133 : mc_cd 206 133 = some (.aload_n 0, 1) := by decide +kernel
theorem c206_134 : mc_cd 206 134 = some (.getfield 343, 3) := by decide +kernel
theorem c206_137 : mc_cd 206 137 = some (.iand, 1) := by decide +kernel
theorem c206_138 : mc_cd 206 138 = some (.istore 6, 2) := by decide +kernel
theorem c206_140 : mc_cd 206 140 = some (.iload_n 2, 1) := by decide +kernel
theorem c206_141 : mc_cd 206 141 = some (.aload_n 0, 1) := by decide +kernel
theorem c206_142 : mc_cd 206 142 = some (.getfield 337, 3) := by decide +kernel
theorem c206_145 : mc_cd 206 145 = some (.getfield 271, 3) := by decide +kernel
theorem c206_148 : mc_cd 206 148 = some (.if_icmp .ne 10, 3) := by decide +kernel
theorem c206_151 : mc_cd 206 151 = some (.iload 6, 2) := by decide +kernel
theorem c206_153 : mc_cd 206 153 = some (.iload_n 1, 1) := by decide +kernel
theorem c206_154 : mc_cd 206 154 = some (.iand, 1) := by decide +kernel
theorem c206_155 : mc_cd 206 155 = some (.ifCond .ne 23, 3) := by decide +kernel
theorem c206_158 : mc_cd 206 158 = some (.aload_n 0, 1) := by decide +kernel
theorem c206_159 : mc_cd 206 159 = some (.iload_n 2, 1) := by decide +kernel
theorem c206_160 : mc_cd 206 160 = some (.iload 4, 2) := by decide +kernel
theorem c206_162 : mc_cd 206 162 = some (.iload 5, 2) := by decide +kernel
theorem c206_164 : mc_cd 206 164 = some (.iload 6, 2) := by decide +kernel
theorem c206_166 : mc_cd 206 166 = some (.aload_n 0, 1) := by decide +kernel
theorem c206_167 : mc_cd 206 167 = some (.getfield 343, 3) := by decide +kernel
theorem c206_170 : mc_cd 206 170 = some (.iload 6, 2) := by decide +kernel
theorem c206_172 : mc_cd 206 172 = some (.iconst (-1), 1) := by decide +kernel
theorem c206_173 : mc_cd 206 173 = some (.ixor, 1) := by decide +kernel
theorem c206_174 : mc_cd 206 174 = some (.iand, 1) := by decide +kernel
theorem c206_175 : mc_cd 206 175 = some (.invokevirtual 360, 3) := by decide +kernel
theorem c206_178 : mc_cd 206 178 = some (.iinc 5 1, 3) := by decide +kernel
theorem c206_181 : mc_cd 206 181 = some (.goto (-74), 3) := by decide +kernel
theorem c206_184 : mc_cd 206 184 = some (.iinc 4 1, 3) := by decide +kernel
theorem c206_187 : mc_cd 206 187 = some (.goto (-105), 3) := by decide +kernel
theorem c206_190 : mc_cd 206 190 = some (.iinc 2 1, 3) := by decide +kernel
theorem c206_193 : mc_cd 206 193 = some (.goto (-186), 3) := by decide +kernel
theorem c206_196 : mc_cd 206 196 = some (.return_, 1) := by decide +kernel
abbrev q_206 (r0 : Nat) (pp : Nat) (T : wq_T) (H : wq_H) : Option Value → wq_T → wq_H → Prop := fun r T' H' => T = T' ∧ WT T H' ∧ wfr [(48, 999), (49, 999), (46, 999), (47, 999), (45, 999)] T H H' ∧ none = r
set_option maxHeartbeats 4000000 in
theorem s_206 {kt : Nat → Option mc_E} {T : wq_T} {H : wq_H} {r0 : Nat} {pp : Nat} (hW : WT T H) (g0 : T.2.2.2 r0 = some 42) (qpp : H r0 3 = (pp : Int)) (gpp : T.2.2.2 pp = some 54) (p0 : wPI H pp = 1) : wpc kt 2 206 [.ref r0] T H (q_206 r0 pp T H) := by
  refine wp_enter e206 (Nat.le_of_ble_eq_true rfl) rfl ?_
  have f0 : wfr [(48, 999), (49, 999), (46, 999), (47, 999), (45, 999)] T H H := wfr.rf
  show wp _ _ 206 0 [(0, .ref r0)] [] _ H _
  refine wp_of e206 c206_0 (rw_aload_n (pc' := 1) (v := .ref r0) rfl rfl rfl ?_)
  refine wp_of e206 c206_1 (xc_V (pc' := 4) (r := r0) (as := []) (st := []) (lm_9_357) rfl rfl (Nat.le_of_ble_eq_true rfl) hW g0 sh_42 (by decide) rfl (by decide) (s_207 hW g0) (fun R108247 T108248 H108249 p108250 => ?_))
  obtain ⟨e108251, e108253, z108254, e108252, b108255⟩ := p108250
  subst e108251
  subst e108252
  subst e108253
  show wp _ _ 206 4 [(0, .ref r0)] [vI z108254] _ H _
  refine wp_of e206 c206_4 (rw_istore_n (pc' := 5) (z := z108254) (L' := [(1, vI z108254), (0, .ref r0)]) rfl rfl rfl ?_)
  refine wp_of e206 c206_5 (rw_iconst (pc' := 6) rfl ?_)
  refine wp_of e206 c206_6 (rw_istore_n (pc' := 7) (z := 0) (L' := [(2, vI 0), (1, vI z108254), (0, .ref r0)]) rfl rfl rfl ?_)
  have lp122893 : ∀ (n122894 : Nat) (v122896 : Int) (H122897 : wq_H), WT T H122897 → wfr [(48, 999), (49, 999), (46, 999), (47, 999), (45, 999)] T H H122897 → (0 ≤ v122896 ∧ v122896 ≤ 6) → (6 - v122896).toNat = n122894 → wp kt 1 206 7 [(2, vI v122896), (1, vI z108254), (0, .ref r0)] [] T H122897 (q_206 r0 pp T H) := by
    intro n122894
    induction n122894 using Nat.strongRecOn with
    | _ n122894 ih122895 =>
      intro v122896 H122897 w122898 f122899 b122900 m122901
      have f122902 := f0.tr f122899 rfl
      refine wp_of e206 c206_7 (rw_iload_n (pc' := 8) (z := v122896) rfl rfl ?_)
      refine wp_of e206 c206_8 (rw_aload_n (pc' := 9) (v := .ref r0) rfl rfl rfl ?_)
      have k122903 : H122897 r0 3 = H r0 3 := (f122899 r0 3 _ g0 rfl)
      have q122904 : H122897 r0 3 = (pp : Int) := k122903.trans qpp
      refine wp_of e206 c206_9 (xg_K (pc' := 12) lf_9_337 w122898 g0 sh_42 (by decide) (by decide) rfl q122904 rfl ?_)
      refine wp_of e206 c206_12 (xg_I (pc' := 15) lf_9_188 w122898 gpp sh_54 (by decide) (by decide) ty_54_3 rfl rfl (fun b122905 b122906 => ?_))
      refine wp_of e206 c206_15 (rw_icmp_ge (p1 := 196) (p2 := 18) (by decide) rfl ⟨by omega, by omega⟩ ⟨by omega, by omega⟩ (fun c122907 => ?_) (fun c122907 => ?_))
      · exact wp_return e206 c206_196 rfl ⟨rfl, w122898, f122902, rfl⟩
      · refine wp_of e206 c206_18 (rw_aload_n (pc' := 19) (v := .ref r0) rfl rfl rfl ?_)
        refine wp_of e206 c206_19 (xg_R (pc' := 22) lf_9_21 w122898 g0 sh_42 (by decide) (by decide) ty_42_21 rfl rfl (fun r122908 q122909 g122910 => ?_))
        refine wp_of e206 c206_22 (rw_iload_n (pc' := 23) (z := v122896) rfl rfl ?_)
        refine wp_of e206 c206_23 (rw_iconst (pc' := 24) rfl ?_)
        refine wp_of e206 c206_24 (xs_I (pc' := 25) w122898 g122910 (by decide) sh_45 (by decide) (ty_45 _) (by omega) (by omega) ⟨by omega, by omega⟩ (by omega) (by omega) rfl (fun H122911 e122912 w122913 => ?_))
        have f122914 := f122902.put' e122912 g122910 rfl
        have f122915 := f122899.put' e122912 g122910 rfl
        refine wp_of e206 c206_25 (rw_aload_n (pc' := 26) (v := .ref r0) rfl rfl rfl ?_)
        have k122916 : H122911 r0 3 = H122897 r0 3 := (wq_u_t e122912 g122910 g0 rfl 3)
        have q122917 : H122911 r0 3 = (pp : Int) := k122916.trans q122904
        refine wp_of e206 c206_26 (xg_K (pc' := 29) lf_9_337 w122913 g0 sh_42 (by decide) (by decide) rfl q122917 rfl ?_)
        refine wp_of e206 c206_29 (xg_R (pc' := 32) lf_9_267 w122913 gpp sh_54 (by decide) (by decide) ty_54_17 rfl rfl (fun r122918 q122919 g122920 => ?_))
        refine wp_of e206 c206_32 (rw_iload_n (pc' := 33) (z := v122896) rfl rfl ?_)
        refine wp_of e206 c206_33 (xa_B (by decide) (pc' := 34) w122913 g122920 sh_63 (by decide) (ty_63 _) (by omega) (by omega) rfl (fun b122921 b122922 => ?_))
        refine wp_of e206 c206_34 (rw_if_eq (p1 := 49) (p2 := 37) (by decide) rfl ⟨by omega, by omega⟩ (fun c122923 => ?_) (fun c122923 => ?_))
        · refine wp_of e206 c206_49 (rw_aload_n (pc' := 50) (v := .ref r0) rfl rfl rfl ?_)
          refine wp_of e206 c206_50 (xg_K (pc' := 53) lf_9_337 w122913 g0 sh_42 (by decide) (by decide) rfl q122917 rfl ?_)
          refine wp_of e206 c206_53 (xg_R (pc' := 56) lf_9_261 w122913 gpp sh_54 (by decide) (by decide) ty_54_15 rfl rfl (fun r122924 q122925 g122926 => ?_))
          refine wp_of e206 c206_56 (rw_iload_n (pc' := 57) (z := v122896) rfl rfl ?_)
          refine wp_of e206 c206_57 (xa_I (so := 0) (pc' := 58) w122913 g122926 sh_61 (by decide) (ty_61 _) (by omega) (by omega) rfl (fun b122927 b122928 => ?_))
          refine wp_of e206 c206_58 (rw_aload_n (pc' := 59) (v := .ref r0) rfl rfl rfl ?_)
          refine wp_of e206 c206_59 (xg_K (pc' := 62) lf_9_337 w122913 g0 sh_42 (by decide) (by decide) rfl q122917 rfl ?_)
          refine wp_of e206 c206_62 (xg_R (pc' := 65) lf_9_264 w122913 gpp sh_54 (by decide) (by decide) ty_54_16 rfl rfl (fun r122929 q122930 g122931 => ?_))
          refine wp_of e206 c206_65 (rw_iload_n (pc' := 66) (z := v122896) rfl rfl ?_)
          refine wp_of e206 c206_66 (xa_I (so := 0) (pc' := 67) w122913 g122931 sh_62 (by decide) (ty_62 _) (by omega) (by omega) rfl (fun b122932 b122933 => ?_))
          refine wp_of e206 c206_67 (xc_S (pc' := 70) (as := [vI (H122911 r122924 (v122896.toNat)), vI (H122911 r122929 (v122896.toNat))]) (st := []) (lm_9_318) rfl rfl (Nat.le_of_ble_eq_true rfl) rfl (by decide) (s_202 w122913 ⟨by omega, by omega⟩ ⟨by omega, by omega⟩) (fun R122934 T122935 H122936 p122937 => ?_))
          obtain ⟨e122938, e122940, z122941, e122939, b122942⟩ := p122937
          subst e122938
          subst e122939
          subst e122940
          show wp _ _ 206 70 [(2, vI v122896), (1, vI z108254), (0, .ref r0)] [vI z122941] _ H122911 _
          refine wp_of e206 c206_70 (rw_istore_n (pc' := 71) (z := z122941) (L' := [(3, vI z122941), (2, vI v122896), (1, vI z108254), (0, .ref r0)]) rfl rfl rfl ?_)
          refine wp_of e206 c206_71 (rw_aload_n (pc' := 72) (v := .ref r0) rfl rfl rfl ?_)
          refine wp_of e206 c206_72 (xg_K (pc' := 75) lf_9_337 w122913 g0 sh_42 (by decide) (by decide) rfl q122917 rfl ?_)
          refine wp_of e206 c206_75 (xg_R (pc' := 78) lf_9_247 w122913 gpp sh_54 (by decide) (by decide) ty_54_10 rfl rfl (fun r122943 q122944 g122945 => ?_))
          refine wp_of e206 c206_78 (rw_iload_n (pc' := 79) (z := v122896) rfl rfl ?_)
          refine wp_of e206 c206_79 (xa_I (so := 0) (pc' := 80) w122913 g122945 sh_56 (by decide) (ty_56 _) (by omega) (by omega) rfl (fun b122946 b122947 => ?_))
          refine wp_of e206 c206_80 (rw_istore (pc' := 82) (z := H122911 r122943 (v122896.toNat)) (L' := [(4, vI (H122911 r122943 (v122896.toNat))), (3, vI z122941), (2, vI v122896), (1, vI z108254), (0, .ref r0)]) rfl rfl rfl ?_)
          have lp124693 : ∀ (n124694 : Nat) (v124696 : Int) (H124697 : wq_H), WT T H124697 → wfr [(48, 999), (49, 999), (46, 999), (47, 999), (45, 999)] T H122911 H124697 → (0 ≤ v124696 ∧ v124696 ≤ 31) → (31 - v124696).toNat = n124694 → wp kt 1 206 82 [(4, vI v124696), (3, vI z122941), (2, vI v122896), (1, vI z108254), (0, .ref r0)] [] T H124697 (q_206 r0 pp T H) := by
            intro n124694
            induction n124694 using Nat.strongRecOn with
            | _ n124694 ih124695 =>
              intro v124696 H124697 w124698 f124699 b124700 m124701
              have f124702 := f122914.tr f124699 rfl
              have f124703 := f122915.tr f124699 rfl
              refine wp_of e206 c206_82 (rw_iload (pc' := 84) (z := v124696) rfl rfl ?_)
              refine wp_of e206 c206_84 (rw_aload_n (pc' := 85) (v := .ref r0) rfl rfl rfl ?_)
              have k124704 : H124697 r0 3 = H122911 r0 3 := (f124699 r0 3 _ g0 rfl)
              have q124705 : H124697 r0 3 = (pp : Int) := k124704.trans q122917
              refine wp_of e206 c206_85 (xg_K (pc' := 88) lf_9_337 w124698 g0 sh_42 (by decide) (by decide) rfl q124705 rfl ?_)
              refine wp_of e206 c206_88 (xg_R (pc' := 91) lf_9_250 w124698 gpp sh_54 (by decide) (by decide) ty_54_11 rfl rfl (fun r124706 q124707 g124708 => ?_))
              refine wp_of e206 c206_91 (rw_iload_n (pc' := 92) (z := v122896) rfl rfl ?_)
              refine wp_of e206 c206_92 (xa_I (so := 0) (pc' := 93) w124698 g124708 sh_57 (by decide) (ty_57 _) (by omega) (by omega) rfl (fun b124709 b124710 => ?_))
              refine wp_of e206 c206_93 (rw_icmp_gt (p1 := 190) (p2 := 96) (by decide) rfl ⟨by omega, by omega⟩ ⟨by omega, by omega⟩ (fun c124711 => ?_) (fun c124711 => ?_))
              · refine wp_of e206 c206_190 (rw_iinc (pc' := 193) (z := v122896) (L' := [(2, vI (v122896 + 1)), (4, vI v124696), (3, vI z122941), (1, vI z108254), (0, .ref r0)]) rfl rfl rfl rfl ?_)
                refine wp_of e206 c206_193 (rw_goto (p1 := 7) (by decide) ?_)
                exact wp_lc (ks := [2, 4, 3, 1, 0]) (wl_c rfl (wl_c rfl (wl_c rfl wl_n))) rfl (by decide) (ih122895 _ (by omega) (v122896 + 1) H124697 w124698 f124703 ⟨by omega, by omega⟩ rfl)
              · refine wp_of e206 c206_96 (rw_aload_n (pc' := 97) (v := .ref r0) rfl rfl rfl ?_)
                refine wp_of e206 c206_97 (xg_K (pc' := 100) lf_9_337 w124698 g0 sh_42 (by decide) (by decide) rfl q124705 rfl ?_)
                refine wp_of e206 c206_100 (xg_R (pc' := 103) lf_9_253 w124698 gpp sh_54 (by decide) (by decide) ty_54_12 rfl rfl (fun r124712 q124713 g124714 => ?_))
                refine wp_of e206 c206_103 (rw_iload_n (pc' := 104) (z := v122896) rfl rfl ?_)
                refine wp_of e206 c206_104 (xa_I (so := 0) (pc' := 105) w124698 g124714 sh_58 (by decide) (ty_58 _) (by omega) (by omega) rfl (fun b124715 b124716 => ?_))
                refine wp_of e206 c206_105 (rw_istore (pc' := 107) (z := H124697 r124712 (v122896.toNat)) (L' := [(5, vI (H124697 r124712 (v122896.toNat))), (4, vI v124696), (3, vI z122941), (2, vI v122896), (1, vI z108254), (0, .ref r0)]) rfl rfl rfl ?_)
                have lp124993 : ∀ (n124994 : Nat) (v124996 : Int) (H124997 : wq_H), WT T H124997 → wfr [(48, 999), (49, 999), (46, 999), (47, 999), (45, 999)] T H124697 H124997 → (0 ≤ v124996 ∧ v124996 ≤ 17) → (17 - v124996).toNat = n124994 → wp kt 1 206 107 [(5, vI v124996), (4, vI v124696), (3, vI z122941), (2, vI v122896), (1, vI z108254), (0, .ref r0)] [] T H124997 (q_206 r0 pp T H) := by
                  intro n124994
                  induction n124994 using Nat.strongRecOn with
                  | _ n124994 ih124995 =>
                    intro v124996 H124997 w124998 f124999 b125000 m125001
                    have f125002 := f124702.tr f124999 rfl
                    have f125003 := f124703.tr f124999 rfl
                    have f125004 := f124699.tr f124999 rfl
                    refine wp_of e206 c206_107 (rw_iload (pc' := 109) (z := v124996) rfl rfl ?_)
                    refine wp_of e206 c206_109 (rw_aload_n (pc' := 110) (v := .ref r0) rfl rfl rfl ?_)
                    have k125005 : H124997 r0 3 = H124697 r0 3 := (f124999 r0 3 _ g0 rfl)
                    have q125006 : H124997 r0 3 = (pp : Int) := k125005.trans q124705
                    refine wp_of e206 c206_110 (xg_K (pc' := 113) lf_9_337 w124998 g0 sh_42 (by decide) (by decide) rfl q125006 rfl ?_)
                    refine wp_of e206 c206_113 (xg_R (pc' := 116) lf_9_256 w124998 gpp sh_54 (by decide) (by decide) ty_54_13 rfl rfl (fun r125007 q125008 g125009 => ?_))
                    refine wp_of e206 c206_116 (rw_iload_n (pc' := 117) (z := v122896) rfl rfl ?_)
                    refine wp_of e206 c206_117 (xa_I (so := 0) (pc' := 118) w124998 g125009 sh_59 (by decide) (ty_59 _) (by omega) (by omega) rfl (fun b125010 b125011 => ?_))
                    refine wp_of e206 c206_118 (rw_icmp_gt (p1 := 184) (p2 := 121) (by decide) rfl ⟨by omega, by omega⟩ ⟨by omega, by omega⟩ (fun c125012 => ?_) (fun c125012 => ?_))
                    · refine wp_of e206 c206_184 (rw_iinc (pc' := 187) (z := v124696) (L' := [(4, vI (v124696 + 1)), (5, vI v124996), (3, vI z122941), (2, vI v122896), (1, vI z108254), (0, .ref r0)]) rfl rfl rfl rfl ?_)
                      refine wp_of e206 c206_187 (rw_goto (p1 := 82) (by decide) ?_)
                      exact wp_lc (ks := [4, 5, 3, 2, 1, 0]) (wl_c rfl (wl_c rfl (wl_c rfl (wl_c rfl (wl_c rfl wl_n))))) rfl (by decide) (ih124695 _ (by omega) (v124696 + 1) H124997 w124998 f125004 ⟨by omega, by omega⟩ rfl)
                    · refine wp_of e206 c206_121 (rw_iload (pc' := 123) (z := v124696) rfl rfl ?_)
                      refine wp_of e206 c206_123 (rw_iload (pc' := 125) (z := v124696) rfl rfl ?_)
                      refine wp_of e206 c206_125 (rw_iload (pc' := 127) (z := v124996) rfl rfl ?_)
                      refine wp_of e206 c206_127 (rw_iadd (pc' := 128) rfl ?_)
                      refine wp_of e206 c206_128 (xc_S (pc' := 131) (as := [vI v124696, vI (v124696 + v124996)]) (st := []) (lm_9_318) rfl rfl (Nat.le_of_ble_eq_true rfl) rfl (by decide) (s_202 w124998 ⟨by omega, by omega⟩ ⟨by omega, by omega⟩) (fun R125013 T125014 H125015 p125016 => ?_))
                      obtain ⟨e125017, e125019, z125020, e125018, b125021⟩ := p125016
                      subst e125017
                      subst e125018
                      subst e125019
                      show wp _ _ 206 131 [(5, vI v124996), (4, vI v124696), (3, vI z122941), (2, vI v122896), (1, vI z108254), (0, .ref r0)] [vI z125020] _ H124997 _
                      refine wp_of e206 c206_131 (rw_iload_n (pc' := 132) (z := z122941) rfl rfl ?_)
                      refine wp_of e206 c206_132 (rw_ior (pc' := 133) rfl ?_)
                      obtain ⟨v125022, e125023⟩ : ∃ x : Int, x = wq_or z125020 z122941 := ⟨_, rfl⟩
                      rw [← e125023]
                      have b125024 : -2147483648 ≤ v125022 ∧ v125022 ≤ 2147483647 := by
                        rw [e125023]
                        exact wI_or _ _
                      refine wp_of e206 c206_133 (rw_aload_n (pc' := 134) (v := .ref r0) rfl rfl rfl ?_)
                      refine wp_of e206 c206_134 (xg_I (pc' := 137) lf_9_343 w124998 g0 sh_42 (by decide) (by decide) ty_42_19 rfl rfl (fun b125025 b125026 => ?_))
                      refine wp_of e206 c206_137 (rw_iand (pc' := 138) rfl ?_)
                      obtain ⟨v125027, e125028⟩ : ∃ x : Int, x = wq_and v125022 (H124997 r0 19) := ⟨_, rfl⟩
                      rw [← e125028]
                      have b125029 : -2147483648 ≤ v125027 ∧ v125027 ≤ 2147483647 := by
                        rw [e125028]
                        exact wI_and _ _
                      refine wp_of e206 c206_138 (rw_istore (pc' := 140) (z := v125027) (L' := [(6, vI v125027), (5, vI v124996), (4, vI v124696), (3, vI z122941), (2, vI v122896), (1, vI z108254), (0, .ref r0)]) rfl rfl rfl ?_)
                      refine wp_of e206 c206_140 (rw_iload_n (pc' := 141) (z := v122896) rfl rfl ?_)
                      refine wp_of e206 c206_141 (rw_aload_n (pc' := 142) (v := .ref r0) rfl rfl rfl ?_)
                      refine wp_of e206 c206_142 (xg_K (pc' := 145) lf_9_337 w124998 g0 sh_42 (by decide) (by decide) rfl q125006 rfl ?_)
                      refine wp_of e206 c206_145 (xg_I (pc' := 148) lf_9_271 w124998 gpp sh_54 (by decide) (by decide) ty_54_8 rfl rfl (fun b125030 b125031 => ?_))
                      refine wp_of e206 c206_148 (rw_icmp_ne (p1 := 158) (p2 := 151) (by decide) rfl ⟨by omega, by omega⟩ ⟨by omega, by omega⟩ (fun c125032 => ?_) (fun c125032 => ?_))
                      · refine wp_of e206 c206_158 (rw_aload_n (pc' := 159) (v := .ref r0) rfl rfl rfl ?_)
                        refine wp_of e206 c206_159 (rw_iload_n (pc' := 160) (z := v122896) rfl rfl ?_)
                        refine wp_of e206 c206_160 (rw_iload (pc' := 162) (z := v124696) rfl rfl ?_)
                        refine wp_of e206 c206_162 (rw_iload (pc' := 164) (z := v124996) rfl rfl ?_)
                        refine wp_of e206 c206_164 (rw_iload (pc' := 166) (z := v125027) rfl rfl ?_)
                        refine wp_of e206 c206_166 (rw_aload_n (pc' := 167) (v := .ref r0) rfl rfl rfl ?_)
                        refine wp_of e206 c206_167 (xg_I (pc' := 170) lf_9_343 w124998 g0 sh_42 (by decide) (by decide) ty_42_19 rfl rfl (fun b125033 b125034 => ?_))
                        refine wp_of e206 c206_170 (rw_iload (pc' := 172) (z := v125027) rfl rfl ?_)
                        refine wp_of e206 c206_172 (rw_iconst (pc' := 173) rfl ?_)
                        refine wp_of e206 c206_173 (rw_ixor (pc' := 174) rfl ?_)
                        obtain ⟨v125035, e125036⟩ : ∃ x : Int, x = wq_xor v125027 (-1) := ⟨_, rfl⟩
                        rw [← e125036]
                        have b125037 : -2147483648 ≤ v125035 ∧ v125035 ≤ 2147483647 := by
                          rw [e125036]
                          exact wI_xor _ _
                        refine wp_of e206 c206_174 (rw_iand (pc' := 175) rfl ?_)
                        obtain ⟨v125038, e125039⟩ : ∃ x : Int, x = wq_and (H124997 r0 19) v125035 := ⟨_, rfl⟩
                        rw [← e125039]
                        have b125040 : -2147483648 ≤ v125038 ∧ v125038 ≤ 2147483647 := by
                          rw [e125039]
                          exact wI_and _ _
                        have k125041 : H124997 r0 21 = H122897 r0 21 := ((f124999 r0 21 _ g0 rfl).trans ((f124699 r0 21 _ g0 rfl).trans (wq_u_t e122912 g122910 g0 rfl 21)))
                        have q125042 : H124997 r0 21 = (r122908 : Int) := k125041.trans q122909
                        refine wp_of e206 c206_175 (xc_V (pc' := 178) (r := r0) (as := [vI v122896, vI v124696, vI v124996, vI v125027, vI v125038]) (st := []) (lm_9_360) rfl rfl (Nat.le_of_ble_eq_true rfl) w124998 g0 sh_42 (by decide) rfl (by decide) (s_208 w124998 g0 ⟨by omega, by omega⟩ ⟨by omega, by omega⟩ ⟨by omega, by omega⟩ ⟨by omega, by omega⟩ ⟨by omega, by omega⟩ q125042 g122910 (by omega)) (fun R125043 T125044 H125045 p125046 => ?_))
                        obtain ⟨e125047, w125049, f125050, e125048, p125051⟩ := p125046
                        subst e125047
                        subst e125048
                        have f125052 := f125002.tr f125050 rfl
                        have f125053 := f125003.tr f125050 rfl
                        have f125054 := f125004.tr f125050 rfl
                        have f125055 := f124999.tr f125050 rfl
                        show wp _ _ 206 178 [(6, vI v125027), (5, vI v124996), (4, vI v124696), (3, vI z122941), (2, vI v122896), (1, vI z108254), (0, .ref r0)] [] _ H125045 _
                        refine wp_of e206 c206_178 (rw_iinc (pc' := 181) (z := v124996) (L' := [(5, vI (v124996 + 1)), (6, vI v125027), (4, vI v124696), (3, vI z122941), (2, vI v122896), (1, vI z108254), (0, .ref r0)]) rfl rfl rfl rfl ?_)
                        refine wp_of e206 c206_181 (rw_goto (p1 := 107) (by decide) ?_)
                        exact wp_lc (ks := [5, 6, 4, 3, 2, 1, 0]) (wl_c rfl (wl_c rfl (wl_c rfl (wl_c rfl (wl_c rfl (wl_c rfl wl_n)))))) rfl (by decide) (ih124995 _ (by omega) (v124996 + 1) H125045 w125049 f125055 ⟨by omega, by omega⟩ rfl)
                      · refine wp_of e206 c206_151 (rw_iload (pc' := 153) (z := v125027) rfl rfl ?_)
                        refine wp_of e206 c206_153 (rw_iload_n (pc' := 154) (z := z108254) rfl rfl ?_)
                        refine wp_of e206 c206_154 (rw_iand (pc' := 155) rfl ?_)
                        obtain ⟨v125056, e125057⟩ : ∃ x : Int, x = wq_and v125027 z108254 := ⟨_, rfl⟩
                        rw [← e125057]
                        have b125058 : 0 ≤ v125056 ∧ v125056 ≤ z108254 := by
                          rw [e125057]
                          exact wq_and_b _ (by omega) (by omega)
                        refine wp_of e206 c206_155 (rw_if_ne (p1 := 178) (p2 := 158) (by decide) rfl ⟨by omega, by omega⟩ (fun c125059 => ?_) (fun c125059 => ?_))
                        · refine wp_of e206 c206_178 (rw_iinc (pc' := 181) (z := v124996) (L' := [(5, vI (v124996 + 1)), (6, vI v125027), (4, vI v124696), (3, vI z122941), (2, vI v122896), (1, vI z108254), (0, .ref r0)]) rfl rfl rfl rfl ?_)
                          refine wp_of e206 c206_181 (rw_goto (p1 := 107) (by decide) ?_)
                          exact wp_lc (ks := [5, 6, 4, 3, 2, 1, 0]) (wl_c rfl (wl_c rfl (wl_c rfl (wl_c rfl (wl_c rfl (wl_c rfl wl_n)))))) rfl (by decide) (ih124995 _ (by omega) (v124996 + 1) H124997 w124998 f124999 ⟨by omega, by omega⟩ rfl)
                        · refine wp_of e206 c206_158 (rw_aload_n (pc' := 159) (v := .ref r0) rfl rfl rfl ?_)
                          refine wp_of e206 c206_159 (rw_iload_n (pc' := 160) (z := v122896) rfl rfl ?_)
                          refine wp_of e206 c206_160 (rw_iload (pc' := 162) (z := v124696) rfl rfl ?_)
                          refine wp_of e206 c206_162 (rw_iload (pc' := 164) (z := v124996) rfl rfl ?_)
                          refine wp_of e206 c206_164 (rw_iload (pc' := 166) (z := v125027) rfl rfl ?_)
                          refine wp_of e206 c206_166 (rw_aload_n (pc' := 167) (v := .ref r0) rfl rfl rfl ?_)
                          refine wp_of e206 c206_167 (xg_I (pc' := 170) lf_9_343 w124998 g0 sh_42 (by decide) (by decide) ty_42_19 rfl rfl (fun b125060 b125061 => ?_))
                          refine wp_of e206 c206_170 (rw_iload (pc' := 172) (z := v125027) rfl rfl ?_)
                          refine wp_of e206 c206_172 (rw_iconst (pc' := 173) rfl ?_)
                          refine wp_of e206 c206_173 (rw_ixor (pc' := 174) rfl ?_)
                          obtain ⟨v125062, e125063⟩ : ∃ x : Int, x = wq_xor v125027 (-1) := ⟨_, rfl⟩
                          rw [← e125063]
                          have b125064 : -2147483648 ≤ v125062 ∧ v125062 ≤ 2147483647 := by
                            rw [e125063]
                            exact wI_xor _ _
                          refine wp_of e206 c206_174 (rw_iand (pc' := 175) rfl ?_)
                          obtain ⟨v125065, e125066⟩ : ∃ x : Int, x = wq_and (H124997 r0 19) v125062 := ⟨_, rfl⟩
                          rw [← e125066]
                          have b125067 : -2147483648 ≤ v125065 ∧ v125065 ≤ 2147483647 := by
                            rw [e125066]
                            exact wI_and _ _
                          have k125068 : H124997 r0 21 = H122897 r0 21 := ((f124999 r0 21 _ g0 rfl).trans ((f124699 r0 21 _ g0 rfl).trans (wq_u_t e122912 g122910 g0 rfl 21)))
                          have q125069 : H124997 r0 21 = (r122908 : Int) := k125068.trans q122909
                          refine wp_of e206 c206_175 (xc_V (pc' := 178) (r := r0) (as := [vI v122896, vI v124696, vI v124996, vI v125027, vI v125065]) (st := []) (lm_9_360) rfl rfl (Nat.le_of_ble_eq_true rfl) w124998 g0 sh_42 (by decide) rfl (by decide) (s_208 w124998 g0 ⟨by omega, by omega⟩ ⟨by omega, by omega⟩ ⟨by omega, by omega⟩ ⟨by omega, by omega⟩ ⟨by omega, by omega⟩ q125069 g122910 (by omega)) (fun R125070 T125071 H125072 p125073 => ?_))
                          obtain ⟨e125074, w125076, f125077, e125075, p125078⟩ := p125073
                          subst e125074
                          subst e125075
                          have f125079 := f125002.tr f125077 rfl
                          have f125080 := f125003.tr f125077 rfl
                          have f125081 := f125004.tr f125077 rfl
                          have f125082 := f124999.tr f125077 rfl
                          show wp _ _ 206 178 [(6, vI v125027), (5, vI v124996), (4, vI v124696), (3, vI z122941), (2, vI v122896), (1, vI z108254), (0, .ref r0)] [] _ H125072 _
                          refine wp_of e206 c206_178 (rw_iinc (pc' := 181) (z := v124996) (L' := [(5, vI (v124996 + 1)), (6, vI v125027), (4, vI v124696), (3, vI z122941), (2, vI v122896), (1, vI z108254), (0, .ref r0)]) rfl rfl rfl rfl ?_)
                          refine wp_of e206 c206_181 (rw_goto (p1 := 107) (by decide) ?_)
                          exact wp_lc (ks := [5, 6, 4, 3, 2, 1, 0]) (wl_c rfl (wl_c rfl (wl_c rfl (wl_c rfl (wl_c rfl (wl_c rfl wl_n)))))) rfl (by decide) (ih124995 _ (by omega) (v124996 + 1) H125072 w125076 f125082 ⟨by omega, by omega⟩ rfl)
                exact wp_lc (ks := [5, 4, 3, 2, 1, 0]) (wl_c rfl (wl_c rfl (wl_c rfl (wl_c rfl (wl_c rfl (wl_c rfl wl_n)))))) rfl (by decide) (lp124993 _ (H124697 r124712 (v122896.toNat)) H124697 w124698 wfr.rf ⟨by omega, by omega⟩ rfl)
          exact wp_lc (ks := [4, 3, 2, 1, 0]) (wl_c rfl (wl_c rfl (wl_c rfl (wl_c rfl (wl_c rfl wl_n))))) rfl (by decide) (lp124693 _ (H122911 r122943 (v122896.toNat)) H122911 w122913 wfr.rf ⟨by omega, by omega⟩ rfl)
        · refine wp_of e206 c206_37 (rw_aload_n (pc' := 38) (v := .ref r0) rfl rfl rfl ?_)
          refine wp_of e206 c206_38 (rw_iload_n (pc' := 39) (z := v122896) rfl rfl ?_)
          refine wp_of e206 c206_39 (rw_iconst (pc' := 40) rfl ?_)
          refine wp_of e206 c206_40 (rw_iconst (pc' := 41) rfl ?_)
          refine wp_of e206 c206_41 (rw_iconst (pc' := 42) rfl ?_)
          refine wp_of e206 c206_42 (rw_iconst (pc' := 43) rfl ?_)
          have k125083 : H122911 r0 21 = H122897 r0 21 := (wq_u_t e122912 g122910 g0 rfl 21)
          have q125084 : H122911 r0 21 = (r122908 : Int) := k125083.trans q122909
          refine wp_of e206 c206_43 (xc_V (pc' := 46) (r := r0) (as := [vI v122896, vI 0, vI 0, vI 0, vI 0]) (st := []) (lm_9_360) rfl rfl (Nat.le_of_ble_eq_true rfl) w122913 g0 sh_42 (by decide) rfl (by decide) (s_208 w122913 g0 ⟨by omega, by omega⟩ ⟨by omega, by omega⟩ ⟨by omega, by omega⟩ ⟨by omega, by omega⟩ ⟨by omega, by omega⟩ q125084 g122910 (by omega)) (fun R125085 T125086 H125087 p125088 => ?_))
          obtain ⟨e125089, w125091, f125092, e125090, p125093⟩ := p125088
          subst e125089
          subst e125090
          have f125094 := f122914.tr f125092 rfl
          have f125095 := f122915.tr f125092 rfl
          show wp _ _ 206 46 [(2, vI v122896), (1, vI z108254), (0, .ref r0)] [] _ H125087 _
          refine wp_of e206 c206_46 (rw_goto (p1 := 190) (by decide) ?_)
          refine wp_of e206 c206_190 (rw_iinc (pc' := 193) (z := v122896) (L' := [(2, vI (v122896 + 1)), (1, vI z108254), (0, .ref r0)]) rfl rfl rfl rfl ?_)
          refine wp_of e206 c206_193 (rw_goto (p1 := 7) (by decide) ?_)
          exact wp_lc (ks := [2, 1, 0]) (wl_c rfl (wl_c rfl (wl_c rfl wl_n))) rfl (by decide) (ih122895 _ (by omega) (v122896 + 1) H125087 w125091 f125095 ⟨by omega, by omega⟩ rfl)
  exact wp_lc (ks := [2, 1, 0]) (wl_c rfl (wl_c rfl (wl_c rfl wl_n))) rfl (by decide) (lp122893 _ 0 H hW wfr.rf ⟨by omega, by omega⟩ rfl)
