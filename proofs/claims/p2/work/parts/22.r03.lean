/-! methods of the reference (own work, written by wip/gen2/sx.py) -/
/-! StrikeAwakeModel.readHours()I -/
theorem e201 : wq_en 201 = some (9, 2, false, some FieldType.int) := rfl
theorem c201_0 : mc_cd 201 0 = some (.aload_n 0, 1) := by decide +kernel
theorem c201_1 : mc_cd 201 1 = some (.invokevirtual 273, 3) := by decide +kernel
theorem c201_4 : mc_cd 201 4 = some (.istore_n 1, 1) := by decide +kernel
theorem c201_5 : mc_cd 201 5 = some (.aload_n 0, 1) := by decide +kernel
theorem c201_6 : mc_cd 201 6 = some (.aload_n 0, 1) := by decide +kernel
theorem c201_7 : mc_cd 201 7 = some (.iconst 0, 1) := by decide +kernel
theorem c201_8 : mc_cd 201 8 = some (.bipush 23, 2) := by decide +kernel
theorem c201_10 : mc_cd 201 10 = some (.invokevirtual 137, 3) := by decide +kernel
theorem c201_13 : mc_cd 201 13 = some (.putfield 300, 3) := by decide +kernel
theorem c201_16 : mc_cd 201 16 = some (.aload_n 0, 1) := by decide +kernel
theorem c201_17 : mc_cd 201 17 = some (.aload_n 0, 1) := by decide +kernel
theorem c201_18 : mc_cd 201 18 = some (.ldc 233, 2) := by decide +kernel
theorem c201_20 : mc_cd 201 20 = some (.aload_n 0, 1) := by decide +kernel
theorem c201_21 : mc_cd 201 21 = some (.getfield 300, 3) := by decide +kernel
theorem c201_24 : mc_cd 201 24 = some (.iconst 1, 1) := by decide +kernel
theorem c201_25 : mc_cd 201 25 = some (.iadd, 1) := by decide +kernel
theorem c201_26 : mc_cd 201 26 = some (.bipush 24, 2) := by decide +kernel
theorem c201_28 : mc_cd 201 28 = some (.invokevirtual 216, 3) := by decide +kernel
theorem c201_31 : mc_cd 201 31 = some (.putfield 303, 3) := by decide +kernel
theorem c201_34 : mc_cd 201 34 = some (.iload_n 1, 1) := by decide +kernel
theorem c201_35 : mc_cd 201 35 = some (.ireturn, 1) := by decide +kernel
abbrev q_201 (r0 : Nat) (rp : Nat) (T : wq_T) (H : wq_H) : Option Value → wq_T → wq_H → Prop := fun r T' H' => T = T' ∧ WT T H' ∧ wfr [(42, 8), (42, 9), (42, 10), (42, 11), (42, 12), (42, 13), (42, 14), (42, 15), (42, 17), (42, 18)] T H H' ∧ ∃ z : Int, some (vI z) = r ∧ (0 ≤ z ∧ z ≤ 5) ∧ (wJ H' r0 = 1) ∧ (H r0 10 ≤ H' r0 10) ∧ (wOV H r0 ≤ wOV H' r0) ∧ (wOV H' r0 ≤ 1)
set_option maxHeartbeats 4000000 in
theorem s_201 {kt : Nat → Option mc_E} {T : wq_T} {H : wq_H} {r0 : Nat} {rp : Nat} (hW : WT T H) (g0 : T.2.2.2 r0 = some 42) (qrp : H r0 4 = (rp : Int)) (grp : T.2.2.2 rp = some 54) (p0 : wJ H r0 = 1) : wpc kt 6 201 [.ref r0] T H (q_201 r0 rp T H) := by
  refine wp_enter e201 (Nat.le_of_ble_eq_true rfl) rfl ?_
  have f0 : wfr [(42, 8), (42, 9), (42, 10), (42, 11), (42, 12), (42, 13), (42, 14), (42, 15), (42, 17), (42, 18)] T H H := wfr.rf
  show wp _ _ 201 0 [(0, .ref r0)] [] _ H _
  have b89843 : (-2147483648) ≤ H r0 10 ∧ H r0 10 ≤ 2147483647 := hW.box g0 (n := 33) rfl (by decide) rfl
  have b89844 : 0 ≤ H r0 9 ∧ H r0 9 ≤ 5 := hW.box g0 (n := 33) rfl (by decide) rfl
  have b89845 : 0 ≤ H r0 8 ∧ H r0 8 ≤ 900 := hW.box g0 (n := 33) rfl (by decide) rfl
  have hb0 := wOV_b (H := H) (m := r0)
  refine wp_of e201 c201_0 (rw_aload_n (pc' := 1) (v := .ref r0) rfl rfl rfl ?_)
  refine wp_of e201 c201_1 (xc_V (pc' := 4) (r := r0) (as := []) (st := []) (lm_9_273) rfl rfl (Nat.le_of_ble_eq_true rfl) hW g0 sh_42 (by decide) rfl (by decide) (s_194 hW g0 qrp grp (by omega)) (fun R89846 T89847 H89848 p89849 => ?_))
  obtain ⟨e89850, w89852, f89853, z89858, e89851, b89859, p89854, p89855, p89856, p89857⟩ := p89849
  subst e89850
  subst e89851
  have f89860 := f0.tr f89853 rfl
  show wp _ _ 201 4 [(0, .ref r0)] [vI z89858] _ H89848 _
  refine wp_of e201 c201_4 (rw_istore_n (pc' := 5) (z := z89858) (L' := [(1, vI z89858), (0, .ref r0)]) rfl rfl rfl ?_)
  refine wp_of e201 c201_5 (rw_aload_n (pc' := 6) (v := .ref r0) rfl rfl rfl ?_)
  refine wp_of e201 c201_6 (rw_aload_n (pc' := 7) (v := .ref r0) rfl rfl rfl ?_)
  refine wp_of e201 c201_7 (rw_iconst (pc' := 8) rfl ?_)
  refine wp_of e201 c201_8 (rw_bipush (pc' := 10) (z := 23) rfl (by decide) ?_)
  refine wp_of e201 c201_10 (xc_V (pc' := 13) (r := r0) (as := [vI 0, vI 23]) (st := [.ref r0]) (lm_9_137) rfl rfl (Nat.le_of_ble_eq_true rfl) w89852 g0 sh_42 (by decide) rfl (by decide) (s_184 w89852 g0 ⟨by omega, by omega⟩ ⟨by omega, by omega⟩ (by omega)) (fun R89861 T89862 H89863 p89864 => ?_))
  obtain ⟨e89865, w89867, f89868, z89874, e89866, b89875, p89869, p89870, p89871, p89872, p89873⟩ := p89864
  subst e89865
  subst e89866
  have f89876 := f89860.tr f89868 rfl
  show wp _ _ 201 13 [(1, vI z89858), (0, .ref r0)] [vI z89874, .ref r0] _ H89863 _
  refine wp_of e201 c201_13 (xp_I (pc' := 16) lf_9_300 w89867 g0 sh_42 (by decide) (by decide) ty_42_17 rfl rfl (by omega) (by omega) ⟨by omega, by omega⟩ rfl (fun H89877 e89878 w89879 => ?_))
  have f89880 := f89876.put' e89878 g0 rfl
  have k89881 : H89877 r0 17 = z89874 := wq_u_s e89878
  refine wp_of e201 c201_16 (rw_aload_n (pc' := 17) (v := .ref r0) rfl rfl rfl ?_)
  refine wp_of e201 c201_17 (rw_aload_n (pc' := 18) (v := .ref r0) rfl rfl rfl ?_)
  refine wp_of e201 c201_18 (rw_ldcS (pc' := 20) (k := 87) rfl rfl rfl rfl ?_)
  refine wp_of e201 c201_20 (rw_aload_n (pc' := 21) (v := .ref r0) rfl rfl rfl ?_)
  refine wp_of e201 c201_21 (xg_I (pc' := 24) lf_9_300 w89879 g0 sh_42 (by decide) (by decide) ty_42_17 rfl rfl (fun b89882 b89883 => ?_))
  refine wp_of e201 c201_24 (rw_iconst (pc' := 25) rfl ?_)
  refine wp_of e201 c201_25 (rw_iadd (pc' := 26) rfl ?_)
  refine wp_of e201 c201_26 (rw_bipush (pc' := 28) (z := 24) rfl (by decide) ?_)
  have k89884 : wJ H89877 r0 = wJ H89863 r0 := (wJ_fr w89867 g0 ((wfr.rf (l := [(42, 17)])).put' e89878 g0 rfl) rfl)
  have k89885 : wOV H89877 r0 = wOV H89863 r0 := (wOV_fr w89867 g0 ((wfr.rf (l := [(42, 17)])).put' e89878 g0 rfl) rfl)
  have k89886 : H89877 r0 10 = H89863 r0 10 := (wq_u_j e89878 rfl)
  refine wp_of e201 c201_28 (xc_V (pc' := 31) (r := r0) (as := [.ref 87, vI ((H89877 r0 17) + 1), vI 24]) (st := [.ref r0]) (lm_9_216) rfl rfl (Nat.le_of_ble_eq_true rfl) w89879 g0 sh_42 (by decide) rfl (by decide) (s_182 w89879 g0 rfl ⟨by omega, by omega⟩ ⟨by omega, by omega⟩ (by omega)) (fun R89887 T89888 H89889 p89890 => ?_))
  obtain ⟨e89891, w89893, f89894, z89900, e89892, b89901, p89895, p89896, p89897, p89898, p89899⟩ := p89890
  subst e89891
  subst e89892
  have f89902 := f89880.tr f89894 rfl
  show wp _ _ 201 31 [(1, vI z89858), (0, .ref r0)] [vI z89900, .ref r0] _ H89889 _
  refine wp_of e201 c201_31 (xp_I (pc' := 34) lf_9_303 w89893 g0 sh_42 (by decide) (by decide) ty_42_18 rfl rfl (by omega) (by omega) ⟨by omega, by omega⟩ rfl (fun H89903 e89904 w89905 => ?_))
  have f89906 := f89902.put' e89904 g0 rfl
  have k89907 : H89903 r0 18 = z89900 := wq_u_s e89904
  refine wp_of e201 c201_34 (rw_iload_n (pc' := 35) (z := z89858) rfl rfl ?_)
  have k89908 : H89903 r0 10 = H89889 r0 10 := (wq_u_j e89904 rfl)
  have k89909 : wOV H89903 r0 = wOV H89889 r0 := (wOV_fr w89893 g0 ((wfr.rf (l := [(42, 18)])).put' e89904 g0 rfl) rfl)
  have k89910 : wJ H89903 r0 = wJ H89889 r0 := (wJ_fr w89893 g0 ((wfr.rf (l := [(42, 18)])).put' e89904 g0 rfl) rfl)
  exact wp_ireturn e201 c201_35 rfl ⟨rfl, w89905, f89906, z89858, rfl, ⟨by omega, by omega⟩, by omega, by omega, by omega, by omega⟩
/-! StrikeAwakeModel.hoursFrom(II)I -/
theorem e202 : wq_en 202 = some (9, 4, false, some FieldType.int) := rfl
theorem c202_0 : mc_cd 202 0 = some (.iconst 0, 1) := by decide +kernel
theorem c202_1 : mc_cd 202 1 = some (.istore_n 2, 1) := by decide +kernel
theorem c202_2 : mc_cd 202 2 = some (.iload_n 0, 1) := by decide +kernel
theorem c202_3 : mc_cd 202 3 = some (.istore_n 3, 1) := by decide +kernel
theorem c202_4 : mc_cd 202 4 = some (.iload_n 3, 1) := by decide +kernel
theorem c202_5 : mc_cd 202 5 = some (.iload_n 1, 1) := by decide +kernel
theorem c202_6 : mc_cd 202 6 = some (.if_icmp .ge 21, 3) := by decide +kernel
theorem c202_9 : mc_cd 202 9 = some (.iload_n 3, 1) := by decide +kernel
theorem c202_10 : mc_cd 202 10 = some (.bipush 24, 2) := by decide +kernel
theorem c202_12 : mc_cd 202 12 = some (.if_icmp .ge 15, 3) := by decide +kernel
theorem c202_15 : mc_cd 202 15 = some (.iload_n 2, 1) := by decide +kernel
theorem c202_16 : mc_cd 202 16 = some (.iconst 1, 1) := by decide +kernel
theorem c202_17 : mc_cd 202 17 = some (.iload_n 3, 1) := by decide +kernel
theorem c202_18 : mc_cd 202 18 = some (.ishl, 1) := by decide +kernel
theorem c202_19 : mc_cd 202 19 = some (.ior, 1) := by decide +kernel
theorem c202_20 : mc_cd 202 20 = some (.istore_n 2, 1) := by decide +kernel
theorem c202_21 : mc_cd 202 21 = some (.iinc 3 1, 3) := by decide +kernel
theorem c202_24 : mc_cd 202 24 = some (.goto (-20), 3) := by decide +kernel
theorem c202_27 : mc_cd 202 27 = some (.iload_n 2, 1) := by decide +kernel
theorem c202_28 : mc_cd 202 28 = some (.ireturn, 1) := by decide +kernel
abbrev q_202 (a0 : Int) (a1 : Int) (T : wq_T) (H : wq_H) : Option Value → wq_T → wq_H → Prop := fun r T' H' => T = T' ∧ H = H' ∧ ∃ z : Int, some (vI z) = r ∧ ((-2147483648) ≤ z ∧ z ≤ 2147483647)
set_option maxHeartbeats 4000000 in
theorem s_202 {kt : Nat → Option mc_E} {T : wq_T} {H : wq_H} {a0 : Int} {a1 : Int} (hW : WT T H) (i0 : (-2147483648) ≤ a0 ∧ a0 ≤ 2147483647) (i1 : (-2147483648) ≤ a1 ∧ a1 ≤ 2147483647) : wpc kt 1 202 [vI a0, vI a1] T H (q_202 a0 a1 T H) := by
  refine wp_enter e202 (Nat.le_of_ble_eq_true rfl) rfl ?_
  show wp _ _ 202 0 [(0, vI a0), (1, vI a1)] [] _ H _
  refine wp_of e202 c202_0 (rw_iconst (pc' := 1) rfl ?_)
  refine wp_of e202 c202_1 (rw_istore_n (pc' := 2) (z := 0) (L' := [(2, vI 0), (0, vI a0), (1, vI a1)]) rfl rfl rfl ?_)
  refine wp_of e202 c202_2 (rw_iload_n (pc' := 3) (z := a0) rfl rfl ?_)
  refine wp_of e202 c202_3 (rw_istore_n (pc' := 4) (z := a0) (L' := [(3, vI a0), (2, vI 0), (0, vI a0), (1, vI a1)]) rfl rfl rfl ?_)
  have lp89942 : ∀ (n89943 : Nat) (v89945 : Int) (v89946 : Int), ((-2147483648) ≤ v89945 ∧ v89945 ≤ 2147483647) → ((-2147483648) ≤ v89946 ∧ v89946 ≤ 2147483647) → (2147483647 - v89945).toNat = n89943 → wp kt 0 202 4 [(3, vI v89945), (2, vI v89946), (1, vI a1)] [] T H (q_202 a0 a1 T H) := by
    intro n89943
    induction n89943 using Nat.strongRecOn with
    | _ n89943 ih89944 =>
      intro v89945 v89946 b89949 b89950 m89951
      refine wp_of e202 c202_4 (rw_iload_n (pc' := 5) (z := v89945) rfl rfl ?_)
      refine wp_of e202 c202_5 (rw_iload_n (pc' := 6) (z := a1) rfl rfl ?_)
      refine wp_of e202 c202_6 (rw_icmp_ge (p1 := 27) (p2 := 9) (by decide) rfl ⟨by omega, by omega⟩ ⟨by omega, by omega⟩ (fun c89952 => ?_) (fun c89952 => ?_))
      · refine wp_of e202 c202_27 (rw_iload_n (pc' := 28) (z := v89946) rfl rfl ?_)
        exact wp_ireturn e202 c202_28 rfl ⟨rfl, rfl, v89946, rfl, ⟨by omega, by omega⟩⟩
      · refine wp_of e202 c202_9 (rw_iload_n (pc' := 10) (z := v89945) rfl rfl ?_)
        refine wp_of e202 c202_10 (rw_bipush (pc' := 12) (z := 24) rfl (by decide) ?_)
        refine wp_of e202 c202_12 (rw_icmp_ge (p1 := 27) (p2 := 15) (by decide) rfl ⟨by omega, by omega⟩ ⟨by omega, by omega⟩ (fun c89953 => ?_) (fun c89953 => ?_))
        · refine wp_of e202 c202_27 (rw_iload_n (pc' := 28) (z := v89946) rfl rfl ?_)
          exact wp_ireturn e202 c202_28 rfl ⟨rfl, rfl, v89946, rfl, ⟨by omega, by omega⟩⟩
        · refine wp_of e202 c202_15 (rw_iload_n (pc' := 16) (z := v89946) rfl rfl ?_)
          refine wp_of e202 c202_16 (rw_iconst (pc' := 17) rfl ?_)
          refine wp_of e202 c202_17 (rw_iload_n (pc' := 18) (z := v89945) rfl rfl ?_)
          refine wp_of e202 c202_18 (rw_ishl (pc' := 19) rfl ?_)
          obtain ⟨v89954, e89955⟩ : ∃ x : Int, x = wq_shl 1 v89945 := ⟨_, rfl⟩
          rw [← e89955]
          have b89956 : -2147483648 ≤ v89954 ∧ v89954 ≤ 2147483647 := by
            rw [e89955]
            exact wI_shl _ _
          refine wp_of e202 c202_19 (rw_ior (pc' := 20) rfl ?_)
          obtain ⟨v89957, e89958⟩ : ∃ x : Int, x = wq_or v89946 v89954 := ⟨_, rfl⟩
          rw [← e89958]
          have b89959 : -2147483648 ≤ v89957 ∧ v89957 ≤ 2147483647 := by
            rw [e89958]
            exact wI_or _ _
          refine wp_of e202 c202_20 (rw_istore_n (pc' := 21) (z := v89957) (L' := [(2, vI v89957), (3, vI v89945), (1, vI a1)]) rfl rfl rfl ?_)
          refine wp_of e202 c202_21 (rw_iinc (pc' := 24) (z := v89945) (L' := [(3, vI (v89945 + 1)), (2, vI v89957), (1, vI a1)]) rfl rfl rfl rfl ?_)
          refine wp_of e202 c202_24 (rw_goto (p1 := 4) (by decide) ?_)
          exact wp_lc (ks := [3, 2, 1]) (wl_c rfl (wl_c rfl (wl_c rfl wl_n))) rfl (by decide) (ih89944 _ (by omega) (v89945 + 1) v89957 ⟨by omega, by omega⟩ ⟨by omega, by omega⟩ rfl)
  exact wp_lc (ks := [3, 2, 0, 1]) (wl_c rfl (wl_c rfl (wl_c rfl wl_n))) rfl (by decide) (lp89942 _ a0 0 ⟨by omega, by omega⟩ ⟨by omega, by omega⟩ rfl)
/-! StrikeAwakeModel.readTold()V -/
theorem e200 : wq_en 200 = some (9, 2, false, none) := rfl
theorem c200_0 : mc_cd 200 0 = some (.aload_n 0, 1) := by decide +kernel
theorem c200_1 : mc_cd 200 1 = some (.aload_n 0, 1) := by decide +kernel
theorem c200_2 : mc_cd 200 2 = some (.getfield 166, 3) := by decide +kernel
theorem c200_5 : mc_cd 200 5 = some (.getfield 306, 3) := by decide +kernel
theorem c200_8 : mc_cd 200 8 = some (.iconst 4, 1) := by decide +kernel
theorem c200_9 : mc_cd 200 9 = some (.invokevirtual 228, 3) := by decide +kernel
theorem c200_12 : mc_cd 200 12 = some (.aload_n 0, 1) := by decide +kernel
theorem c200_13 : mc_cd 200 13 = some (.invokevirtual 309, 3) := by decide +kernel
theorem c200_16 : mc_cd 200 16 = some (.istore_n 1, 1) := by decide +kernel
theorem c200_17 : mc_cd 200 17 = some (.aload_n 0, 1) := by decide +kernel
theorem c200_18 : mc_cd 200 18 = some (.getfield 75, 3) := by decide +kernel
theorem c200_21 : mc_cd 200 21 = some (.iconst 5, 1) := by decide +kernel
theorem c200_22 : mc_cd 200 22 = some (.if_icmp .ne 4, 3) := by decide +kernel
theorem c200_25 : mc_cd 200 25 = some (.return_, 1) := by decide +kernel
theorem c200_26 : mc_cd 200 26 = some (.aload_n 0, 1) := by decide +kernel
theorem c200_27 : mc_cd 200 27 = some (.getfield 166, 3) := by decide +kernel
theorem c200_30 : mc_cd 200 30 = some (.getfield 312, 3) := by decide +kernel
theorem c200_33 : mc_cd 200 33 = some (.aload_n 0, 1) := by decide +kernel
theorem c200_34 : mc_cd 200 34 = some (.getfield 166, 3) := by decide +kernel
theorem c200_37 : mc_cd 200 37 = some (.getfield 306, 3) := by decide +kernel
theorem c200_40 : mc_cd 200 40 = some (.iload_n 1, 1) := by decide +kernel
theorem c200_41 : mc_cd 200 41 = some (.iastore, 1) := by decide +kernel
theorem c200_42 : mc_cd 200 42 = some (.aload_n 0, 1) := by decide +kernel
theorem c200_43 : mc_cd 200 43 = some (.getfield 166, 3) := by decide +kernel
theorem c200_46 : mc_cd 200 46 = some (.getfield 315, 3) := by decide +kernel
theorem c200_49 : mc_cd 200 49 = some (.aload_n 0, 1) := by decide +kernel
theorem c200_50 : mc_cd 200 50 = some (.getfield 166, 3) := by decide +kernel
theorem c200_53 : mc_cd 200 53 = some (.getfield 306, 3) := by decide +kernel
theorem c200_56 : mc_cd 200 56 = some (.aload_n 0, 1) := by decide +kernel
theorem c200_57 : mc_cd 200 57 = some (.getfield 300, 3) := by decide +kernel
theorem c200_60 : mc_cd 200 60 = some (.aload_n 0, 1) := by decide +kernel
theorem c200_61 : mc_cd 200 61 = some (.getfield 303, 3) := by decide +kernel
theorem c200_64 : mc_cd 200 64 = some (.invokestatic 318, 3) := by decide +kernel
theorem c200_67 : mc_cd 200 67 = some (.iastore, 1) := by decide +kernel
theorem c200_68 : mc_cd 200 68 = some (.aload_n 0, 1) := by decide +kernel
theorem c200_69 : mc_cd 200 69 = some (.getfield 166, 3) := by decide +kernel
theorem c200_72 : mc_cd 200 72 = some (.dup, 1) := by decide +kernel
theorem c200_73 : mc_cd 200 73 = some (.getfield 306, 3) := by decide +kernel
theorem c200_76 : mc_cd 200 76 = some (.iconst 1, 1) := by decide +kernel
theorem c200_77 : mc_cd 200 77 = some (.iadd, 1) := by decide +kernel
theorem c200_78 : mc_cd 200 78 = some (.putfield 306, 3) := by decide +kernel
theorem c200_81 : mc_cd 200 81 = some (.return_, 1) := by decide +kernel
abbrev q_200 (r0 : Nat) (rp : Nat) (T : wq_T) (H : wq_H) : Option Value → wq_T → wq_H → Prop := fun r T' H' => T = T' ∧ WT T H' ∧ wfr [(54, 6), (42, 8), (42, 9), (42, 10), (42, 11), (42, 12), (42, 13), (42, 14), (42, 15), (42, 17), (42, 18), (68, 999), (69, 999)] T H H' ∧ none = r ∧ (wJ H' r0 = 1) ∧ (H r0 10 ≤ H' r0 10) ∧ (wOV H r0 ≤ wOV H' r0) ∧ (wOV H' r0 ≤ 1)
set_option maxHeartbeats 4000000 in
theorem s_200 {kt : Nat → Option mc_E} {T : wq_T} {H : wq_H} {r0 : Nat} {rp : Nat} (hW : WT T H) (g0 : T.2.2.2 r0 = some 42) (qrp : H r0 4 = (rp : Int)) (grp : T.2.2.2 rp = some 54) (p0 : wJ H r0 = 1) : wpc kt 7 200 [.ref r0] T H (q_200 r0 rp T H) := by
  refine wp_enter e200 (Nat.le_of_ble_eq_true rfl) rfl ?_
  have f0 : wfr [(54, 6), (42, 8), (42, 9), (42, 10), (42, 11), (42, 12), (42, 13), (42, 14), (42, 15), (42, 17), (42, 18), (68, 999), (69, 999)] T H H := wfr.rf
  show wp _ _ 200 0 [(0, .ref r0)] [] _ H _
  have b90048 : (-2147483648) ≤ H r0 10 ∧ H r0 10 ≤ 2147483647 := hW.box g0 (n := 33) rfl (by decide) rfl
  have b90049 : 0 ≤ H r0 9 ∧ H r0 9 ≤ 5 := hW.box g0 (n := 33) rfl (by decide) rfl
  have b90050 : 0 ≤ H r0 8 ∧ H r0 8 ≤ 900 := hW.box g0 (n := 33) rfl (by decide) rfl
  have hb0 := wOV_b (H := H) (m := r0)
  refine wp_of e200 c200_0 (rw_aload_n (pc' := 1) (v := .ref r0) rfl rfl rfl ?_)
  refine wp_of e200 c200_1 (rw_aload_n (pc' := 2) (v := .ref r0) rfl rfl rfl ?_)
  refine wp_of e200 c200_2 (xg_K (pc' := 5) lf_9_166 hW g0 sh_42 (by decide) (by decide) rfl qrp rfl ?_)
  refine wp_of e200 c200_5 (xg_I (pc' := 8) lf_9_306 hW grp sh_54 (by decide) (by decide) ty_54_6 rfl rfl (fun b90051 b90052 => ?_))
  refine wp_of e200 c200_8 (rw_iconst (pc' := 9) rfl ?_)
  refine wp_of e200 c200_9 (xc_V (pc' := 12) (r := r0) (as := [vI (H rp 6), vI 4]) (st := []) (lm_9_228) rfl rfl (Nat.le_of_ble_eq_true rfl) hW g0 sh_42 (by decide) rfl (by decide) (s_188 hW g0 ⟨by omega, by omega⟩ ⟨by omega, by omega⟩ (by omega)) (fun R90053 T90054 H90055 p90056 => ?_))
  obtain ⟨e90057, w90059, f90060, e90058, p90061, p90062, p90063, p90064, p90065⟩ := p90056
  subst e90057
  subst e90058
  have f90066 := f0.tr f90060 rfl
  show wp _ _ 200 12 [(0, .ref r0)] [] _ H90055 _
  refine wp_of e200 c200_12 (rw_aload_n (pc' := 13) (v := .ref r0) rfl rfl rfl ?_)
  have k90067 : H90055 r0 4 = H r0 4 := (f90060 r0 4 _ g0 rfl)
  have q90068 : H90055 r0 4 = (rp : Int) := k90067.trans qrp
  refine wp_of e200 c200_13 (xc_V (pc' := 16) (r := r0) (as := []) (st := []) (lm_9_309) rfl rfl (Nat.le_of_ble_eq_true rfl) w90059 g0 sh_42 (by decide) rfl (by decide) (s_201 w90059 g0 q90068 grp (by omega)) (fun R90069 T90070 H90071 p90072 => ?_))
  obtain ⟨e90073, w90075, f90076, z90081, e90074, b90082, p90077, p90078, p90079, p90080⟩ := p90072
  subst e90073
  subst e90074
  have f90083 := f90066.tr f90076 rfl
  show wp _ _ 200 16 [(0, .ref r0)] [vI z90081] _ H90071 _
  refine wp_of e200 c200_16 (rw_istore_n (pc' := 17) (z := z90081) (L' := [(1, vI z90081), (0, .ref r0)]) rfl rfl rfl ?_)
  refine wp_of e200 c200_17 (rw_aload_n (pc' := 18) (v := .ref r0) rfl rfl rfl ?_)
  refine wp_of e200 c200_18 (xg_I (pc' := 21) lf_9_75 w90075 g0 sh_42 (by decide) (by decide) ty_42_9 rfl rfl (fun b90084 b90085 => ?_))
  have k90086 := wOV_e (H := H90071) (m := r0)
  refine wp_of e200 c200_21 (rw_iconst (pc' := 22) rfl ?_)
  refine wp_of e200 c200_22 (rw_icmp_ne (p1 := 26) (p2 := 25) (by decide) rfl ⟨by omega, by omega⟩ ⟨by omega, by omega⟩ (fun c90087 => ?_) (fun c90087 => ?_))
  · refine wp_of e200 c200_26 (rw_aload_n (pc' := 27) (v := .ref r0) rfl rfl rfl ?_)
    have k90088 : H90071 r0 4 = H90055 r0 4 := (f90076 r0 4 _ g0 rfl)
    have q90089 : H90071 r0 4 = (rp : Int) := k90088.trans q90068
    refine wp_of e200 c200_27 (xg_K (pc' := 30) lf_9_166 w90075 g0 sh_42 (by decide) (by decide) rfl q90089 rfl ?_)
    refine wp_of e200 c200_30 (xg_R (pc' := 33) lf_9_312 w90075 grp sh_54 (by decide) (by decide) ty_54_22 rfl rfl (fun r90090 q90091 g90092 => ?_))
    refine wp_of e200 c200_33 (rw_aload_n (pc' := 34) (v := .ref r0) rfl rfl rfl ?_)
    refine wp_of e200 c200_34 (xg_K (pc' := 37) lf_9_166 w90075 g0 sh_42 (by decide) (by decide) rfl q90089 rfl ?_)
    have k90093 : H90071 rp 6 = H rp 6 := ((f90076 rp 6 _ grp rfl).trans (f90060 rp 6 _ grp rfl))
    refine wp_of e200 c200_37 (xg_I (pc' := 40) lf_9_306 w90075 grp sh_54 (by decide) (by decide) ty_54_6 rfl rfl (fun b90094 b90095 => ?_))
    refine wp_of e200 c200_40 (rw_iload_n (pc' := 41) (z := z90081) rfl rfl ?_)
    refine wp_of e200 c200_41 (xs_I (pc' := 42) w90075 g90092 (by decide) sh_68 (by decide) (ty_68 _) (by omega) (by omega) ⟨by omega, by omega⟩ (by omega) (by omega) rfl (fun H90096 e90097 w90098 => ?_))
    have f90099 := f90083.put' e90097 g90092 rfl
    refine wp_of e200 c200_42 (rw_aload_n (pc' := 43) (v := .ref r0) rfl rfl rfl ?_)
    have k90100 : H90096 r0 4 = H90071 r0 4 := (wq_u_t e90097 g90092 g0 rfl 4)
    have q90101 : H90096 r0 4 = (rp : Int) := k90100.trans q90089
    refine wp_of e200 c200_43 (xg_K (pc' := 46) lf_9_166 w90098 g0 sh_42 (by decide) (by decide) rfl q90101 rfl ?_)
    refine wp_of e200 c200_46 (xg_R (pc' := 49) lf_9_315 w90098 grp sh_54 (by decide) (by decide) ty_54_23 rfl rfl (fun r90102 q90103 g90104 => ?_))
    refine wp_of e200 c200_49 (rw_aload_n (pc' := 50) (v := .ref r0) rfl rfl rfl ?_)
    refine wp_of e200 c200_50 (xg_K (pc' := 53) lf_9_166 w90098 g0 sh_42 (by decide) (by decide) rfl q90101 rfl ?_)
    have k90105 : H90096 rp 6 = H90071 rp 6 := (wq_u_t e90097 g90092 grp rfl 6)
    refine wp_of e200 c200_53 (xg_I (pc' := 56) lf_9_306 w90098 grp sh_54 (by decide) (by decide) ty_54_6 rfl rfl (fun b90106 b90107 => ?_))
    refine wp_of e200 c200_56 (rw_aload_n (pc' := 57) (v := .ref r0) rfl rfl rfl ?_)
    refine wp_of e200 c200_57 (xg_I (pc' := 60) lf_9_300 w90098 g0 sh_42 (by decide) (by decide) ty_42_17 rfl rfl (fun b90108 b90109 => ?_))
    refine wp_of e200 c200_60 (rw_aload_n (pc' := 61) (v := .ref r0) rfl rfl rfl ?_)
    refine wp_of e200 c200_61 (xg_I (pc' := 64) lf_9_303 w90098 g0 sh_42 (by decide) (by decide) ty_42_18 rfl rfl (fun b90110 b90111 => ?_))
    refine wp_of e200 c200_64 (xc_S (pc' := 67) (as := [vI (H90096 r0 17), vI (H90096 r0 18)]) (st := [vI (H90096 rp 6), .ref r90102]) (lm_9_318) rfl rfl (Nat.le_of_ble_eq_true rfl) rfl (by decide) (s_202 w90098 ⟨by omega, by omega⟩ ⟨by omega, by omega⟩) (fun R90112 T90113 H90114 p90115 => ?_))
    obtain ⟨e90116, e90118, z90119, e90117, b90120⟩ := p90115
    subst e90116
    subst e90117
    subst e90118
    show wp _ _ 200 67 [(1, vI z90081), (0, .ref r0)] [vI z90119, vI (H90096 rp 6), .ref r90102] _ H90096 _
    refine wp_of e200 c200_67 (xs_I (pc' := 68) w90098 g90104 (by decide) sh_69 (by decide) (ty_69 _) (by omega) (by omega) ⟨by omega, by omega⟩ (by omega) (by omega) rfl (fun H90121 e90122 w90123 => ?_))
    have f90124 := f90099.put' e90122 g90104 rfl
    refine wp_of e200 c200_68 (rw_aload_n (pc' := 69) (v := .ref r0) rfl rfl rfl ?_)
    have k90125 : H90121 r0 4 = H90096 r0 4 := (wq_u_t e90122 g90104 g0 rfl 4)
    have q90126 : H90121 r0 4 = (rp : Int) := k90125.trans q90101
    refine wp_of e200 c200_69 (xg_K (pc' := 72) lf_9_166 w90123 g0 sh_42 (by decide) (by decide) rfl q90126 rfl ?_)
    refine wp_of e200 c200_72 (rw_dup (pc' := 73) rfl rfl ?_)
    have k90127 : H90121 rp 6 = H90096 rp 6 := (wq_u_t e90122 g90104 grp rfl 6)
    refine wp_of e200 c200_73 (xg_I (pc' := 76) lf_9_306 w90123 grp sh_54 (by decide) (by decide) ty_54_6 rfl rfl (fun b90128 b90129 => ?_))
    refine wp_of e200 c200_76 (rw_iconst (pc' := 77) rfl ?_)
    refine wp_of e200 c200_77 (rw_iadd (pc' := 78) rfl ?_)
    refine wp_of e200 c200_78 (xp_I (pc' := 81) lf_9_306 w90123 grp sh_54 (by decide) (by decide) ty_54_6 rfl rfl (by omega) (by omega) ⟨by omega, by omega⟩ rfl (fun H90130 e90131 w90132 => ?_))
    have f90133 := f90124.put' e90131 grp rfl
    have k90134 : H90130 rp 6 = (H90121 rp 6) + 1 := wq_u_s e90131
    have k90135 : H90130 r0 9 = H90071 r0 9 := ((wq_u_t e90131 grp g0 rfl 9).trans ((wq_u_t e90122 g90104 g0 rfl 9).trans (wq_u_t e90097 g90092 g0 rfl 9)))
    have k90136 : H90130 r0 10 = H90071 r0 10 := ((wq_u_t e90131 grp g0 rfl 10).trans ((wq_u_t e90122 g90104 g0 rfl 10).trans (wq_u_t e90097 g90092 g0 rfl 10)))
    have k90137 : wOV H90130 r0 = wOV H90071 r0 := ((wOV_fr w90123 g0 ((wfr.rf (l := [(54, 6)])).put' e90131 grp rfl) rfl).trans ((wOV_fr w90098 g0 ((wfr.rf (l := [(69, 999)])).put' e90122 g90104 rfl) rfl).trans (wOV_fr w90075 g0 ((wfr.rf (l := [(68, 999)])).put' e90097 g90092 rfl) rfl)))
    have k90138 : wJ H90130 r0 = wJ H90071 r0 := ((wJ_fr w90123 g0 ((wfr.rf (l := [(54, 6)])).put' e90131 grp rfl) rfl).trans ((wJ_fr w90098 g0 ((wfr.rf (l := [(69, 999)])).put' e90122 g90104 rfl) rfl).trans (wJ_fr w90075 g0 ((wfr.rf (l := [(68, 999)])).put' e90097 g90092 rfl) rfl)))
    exact wp_return e200 c200_81 rfl ⟨rfl, w90132, f90133, rfl, by omega, by omega, by omega, by omega⟩
  · exact wp_return e200 c200_25 rfl ⟨rfl, w90075, f90083, rfl, by omega, by omega, by omega, by omega⟩
/-! StrikeAwakeModel.readOffer()V -/
theorem e203 : wq_en 203 = some (9, 2, false, none) := rfl
theorem c203_0 : mc_cd 203 0 = some (.aload_n 0, 1) := by decide +kernel
theorem c203_1 : mc_cd 203 1 = some (.aload_n 0, 1) := by decide +kernel
theorem c203_2 : mc_cd 203 2 = some (.getfield 166, 3) := by decide +kernel
theorem c203_5 : mc_cd 203 5 = some (.getfield 321, 3) := by decide +kernel
theorem c203_8 : mc_cd 203 8 = some (.bipush 6, 2) := by decide +kernel
theorem c203_10 : mc_cd 203 10 = some (.invokevirtual 228, 3) := by decide +kernel
theorem c203_13 : mc_cd 203 13 = some (.aload_n 0, 1) := by decide +kernel
theorem c203_14 : mc_cd 203 14 = some (.invokevirtual 309, 3) := by decide +kernel
theorem c203_17 : mc_cd 203 17 = some (.istore_n 1, 1) := by decide +kernel
theorem c203_18 : mc_cd 203 18 = some (.aload_n 0, 1) := by decide +kernel
theorem c203_19 : mc_cd 203 19 = some (.getfield 75, 3) := by decide +kernel
theorem c203_22 : mc_cd 203 22 = some (.iconst 5, 1) := by decide +kernel
theorem c203_23 : mc_cd 203 23 = some (.if_icmp .ne 4, 3) := by decide +kernel
theorem c203_26 : mc_cd 203 26 = some (.return_, 1) := by decide +kernel
theorem c203_27 : mc_cd 203 27 = some (.aload_n 0, 1) := by decide +kernel
theorem c203_28 : mc_cd 203 28 = some (.getfield 166, 3) := by decide +kernel
theorem c203_31 : mc_cd 203 31 = some (.getfield 324, 3) := by decide +kernel
theorem c203_34 : mc_cd 203 34 = some (.aload_n 0, 1) := by decide +kernel
theorem c203_35 : mc_cd 203 35 = some (.getfield 166, 3) := by decide +kernel
theorem c203_38 : mc_cd 203 38 = some (.getfield 321, 3) := by decide +kernel
theorem c203_41 : mc_cd 203 41 = some (.iload_n 1, 1) := by decide +kernel
theorem c203_42 : mc_cd 203 42 = some (.iastore, 1) := by decide +kernel
theorem c203_43 : mc_cd 203 43 = some (.aload_n 0, 1) := by decide +kernel
theorem c203_44 : mc_cd 203 44 = some (.getfield 166, 3) := by decide +kernel
theorem c203_47 : mc_cd 203 47 = some (.getfield 327, 3) := by decide +kernel
theorem c203_50 : mc_cd 203 50 = some (.aload_n 0, 1) := by decide +kernel
theorem c203_51 : mc_cd 203 51 = some (.getfield 166, 3) := by decide +kernel
theorem c203_54 : mc_cd 203 54 = some (.getfield 321, 3) := by decide +kernel
theorem c203_57 : mc_cd 203 57 = some (.aload_n 0, 1) := by decide +kernel
theorem c203_58 : mc_cd 203 58 = some (.getfield 300, 3) := by decide +kernel
theorem c203_61 : mc_cd 203 61 = some (.aload_n 0, 1) := by decide +kernel
theorem c203_62 : mc_cd 203 62 = some (.getfield 303, 3) := by decide +kernel
theorem c203_65 : mc_cd 203 65 = some (.invokestatic 318, 3) := by decide +kernel
theorem c203_68 : mc_cd 203 68 = some (.iastore, 1) := by decide +kernel
theorem c203_69 : mc_cd 203 69 = some (.aload_n 0, 1) := by decide +kernel
theorem c203_70 : mc_cd 203 70 = some (.getfield 166, 3) := by decide +kernel
theorem c203_73 : mc_cd 203 73 = some (.dup, 1) := by decide +kernel
theorem c203_74 : mc_cd 203 74 = some (.getfield 321, 3) := by decide +kernel
theorem c203_77 : mc_cd 203 77 = some (.iconst 1, 1) := by decide +kernel
theorem c203_78 : mc_cd 203 78 = some (.iadd, 1) := by decide +kernel
theorem c203_79 : mc_cd 203 79 = some (.putfield 321, 3) := by decide +kernel
theorem c203_82 : mc_cd 203 82 = some (.return_, 1) := by decide +kernel
abbrev q_203 (r0 : Nat) (rp : Nat) (T : wq_T) (H : wq_H) : Option Value → wq_T → wq_H → Prop := fun r T' H' => T = T' ∧ WT T H' ∧ wfr [(54, 7), (42, 8), (42, 9), (42, 10), (42, 11), (42, 12), (42, 13), (42, 14), (42, 15), (42, 17), (42, 18), (72, 999), (71, 999)] T H H' ∧ none = r ∧ (wJ H' r0 = 1) ∧ (H r0 10 ≤ H' r0 10) ∧ (wOV H r0 ≤ wOV H' r0) ∧ (wOV H' r0 ≤ 1)
set_option maxHeartbeats 4000000 in
theorem s_203 {kt : Nat → Option mc_E} {T : wq_T} {H : wq_H} {r0 : Nat} {rp : Nat} (hW : WT T H) (g0 : T.2.2.2 r0 = some 42) (qrp : H r0 4 = (rp : Int)) (grp : T.2.2.2 rp = some 54) (p0 : wJ H r0 = 1) : wpc kt 7 203 [.ref r0] T H (q_203 r0 rp T H) := by
  refine wp_enter e203 (Nat.le_of_ble_eq_true rfl) rfl ?_
  have f0 : wfr [(54, 7), (42, 8), (42, 9), (42, 10), (42, 11), (42, 12), (42, 13), (42, 14), (42, 15), (42, 17), (42, 18), (72, 999), (71, 999)] T H H := wfr.rf
  show wp _ _ 203 0 [(0, .ref r0)] [] _ H _
  have b90227 : (-2147483648) ≤ H r0 10 ∧ H r0 10 ≤ 2147483647 := hW.box g0 (n := 33) rfl (by decide) rfl
  have b90228 : 0 ≤ H r0 9 ∧ H r0 9 ≤ 5 := hW.box g0 (n := 33) rfl (by decide) rfl
  have b90229 : 0 ≤ H r0 8 ∧ H r0 8 ≤ 900 := hW.box g0 (n := 33) rfl (by decide) rfl
  have hb0 := wOV_b (H := H) (m := r0)
  refine wp_of e203 c203_0 (rw_aload_n (pc' := 1) (v := .ref r0) rfl rfl rfl ?_)
  refine wp_of e203 c203_1 (rw_aload_n (pc' := 2) (v := .ref r0) rfl rfl rfl ?_)
  refine wp_of e203 c203_2 (xg_K (pc' := 5) lf_9_166 hW g0 sh_42 (by decide) (by decide) rfl qrp rfl ?_)
  refine wp_of e203 c203_5 (xg_I (pc' := 8) lf_9_321 hW grp sh_54 (by decide) (by decide) ty_54_7 rfl rfl (fun b90230 b90231 => ?_))
  refine wp_of e203 c203_8 (rw_bipush (pc' := 10) (z := 6) rfl (by decide) ?_)
  refine wp_of e203 c203_10 (xc_V (pc' := 13) (r := r0) (as := [vI (H rp 7), vI 6]) (st := []) (lm_9_228) rfl rfl (Nat.le_of_ble_eq_true rfl) hW g0 sh_42 (by decide) rfl (by decide) (s_188 hW g0 ⟨by omega, by omega⟩ ⟨by omega, by omega⟩ (by omega)) (fun R90232 T90233 H90234 p90235 => ?_))
  obtain ⟨e90236, w90238, f90239, e90237, p90240, p90241, p90242, p90243, p90244⟩ := p90235
  subst e90236
  subst e90237
  have f90245 := f0.tr f90239 rfl
  show wp _ _ 203 13 [(0, .ref r0)] [] _ H90234 _
  refine wp_of e203 c203_13 (rw_aload_n (pc' := 14) (v := .ref r0) rfl rfl rfl ?_)
  have k90246 : H90234 r0 4 = H r0 4 := (f90239 r0 4 _ g0 rfl)
  have q90247 : H90234 r0 4 = (rp : Int) := k90246.trans qrp
  refine wp_of e203 c203_14 (xc_V (pc' := 17) (r := r0) (as := []) (st := []) (lm_9_309) rfl rfl (Nat.le_of_ble_eq_true rfl) w90238 g0 sh_42 (by decide) rfl (by decide) (s_201 w90238 g0 q90247 grp (by omega)) (fun R90248 T90249 H90250 p90251 => ?_))
  obtain ⟨e90252, w90254, f90255, z90260, e90253, b90261, p90256, p90257, p90258, p90259⟩ := p90251
  subst e90252
  subst e90253
  have f90262 := f90245.tr f90255 rfl
  show wp _ _ 203 17 [(0, .ref r0)] [vI z90260] _ H90250 _
  refine wp_of e203 c203_17 (rw_istore_n (pc' := 18) (z := z90260) (L' := [(1, vI z90260), (0, .ref r0)]) rfl rfl rfl ?_)
  refine wp_of e203 c203_18 (rw_aload_n (pc' := 19) (v := .ref r0) rfl rfl rfl ?_)
  refine wp_of e203 c203_19 (xg_I (pc' := 22) lf_9_75 w90254 g0 sh_42 (by decide) (by decide) ty_42_9 rfl rfl (fun b90263 b90264 => ?_))
  have k90265 := wOV_e (H := H90250) (m := r0)
  refine wp_of e203 c203_22 (rw_iconst (pc' := 23) rfl ?_)
  refine wp_of e203 c203_23 (rw_icmp_ne (p1 := 27) (p2 := 26) (by decide) rfl ⟨by omega, by omega⟩ ⟨by omega, by omega⟩ (fun c90266 => ?_) (fun c90266 => ?_))
  · refine wp_of e203 c203_27 (rw_aload_n (pc' := 28) (v := .ref r0) rfl rfl rfl ?_)
    have k90267 : H90250 r0 4 = H90234 r0 4 := (f90255 r0 4 _ g0 rfl)
    have q90268 : H90250 r0 4 = (rp : Int) := k90267.trans q90247
    refine wp_of e203 c203_28 (xg_K (pc' := 31) lf_9_166 w90254 g0 sh_42 (by decide) (by decide) rfl q90268 rfl ?_)
    refine wp_of e203 c203_31 (xg_R (pc' := 34) lf_9_324 w90254 grp sh_54 (by decide) (by decide) ty_54_25 rfl rfl (fun r90269 q90270 g90271 => ?_))
    refine wp_of e203 c203_34 (rw_aload_n (pc' := 35) (v := .ref r0) rfl rfl rfl ?_)
    refine wp_of e203 c203_35 (xg_K (pc' := 38) lf_9_166 w90254 g0 sh_42 (by decide) (by decide) rfl q90268 rfl ?_)
    have k90272 : H90250 rp 7 = H rp 7 := ((f90255 rp 7 _ grp rfl).trans (f90239 rp 7 _ grp rfl))
    refine wp_of e203 c203_38 (xg_I (pc' := 41) lf_9_321 w90254 grp sh_54 (by decide) (by decide) ty_54_7 rfl rfl (fun b90273 b90274 => ?_))
    refine wp_of e203 c203_41 (rw_iload_n (pc' := 42) (z := z90260) rfl rfl ?_)
    refine wp_of e203 c203_42 (xs_I (pc' := 43) w90254 g90271 (by decide) sh_71 (by decide) (ty_71 _) (by omega) (by omega) ⟨by omega, by omega⟩ (by omega) (by omega) rfl (fun H90275 e90276 w90277 => ?_))
    have f90278 := f90262.put' e90276 g90271 rfl
    refine wp_of e203 c203_43 (rw_aload_n (pc' := 44) (v := .ref r0) rfl rfl rfl ?_)
    have k90279 : H90275 r0 4 = H90250 r0 4 := (wq_u_t e90276 g90271 g0 rfl 4)
    have q90280 : H90275 r0 4 = (rp : Int) := k90279.trans q90268
    refine wp_of e203 c203_44 (xg_K (pc' := 47) lf_9_166 w90277 g0 sh_42 (by decide) (by decide) rfl q90280 rfl ?_)
    refine wp_of e203 c203_47 (xg_R (pc' := 50) lf_9_327 w90277 grp sh_54 (by decide) (by decide) ty_54_26 rfl rfl (fun r90281 q90282 g90283 => ?_))
    refine wp_of e203 c203_50 (rw_aload_n (pc' := 51) (v := .ref r0) rfl rfl rfl ?_)
    refine wp_of e203 c203_51 (xg_K (pc' := 54) lf_9_166 w90277 g0 sh_42 (by decide) (by decide) rfl q90280 rfl ?_)
    have k90284 : H90275 rp 7 = H90250 rp 7 := (wq_u_t e90276 g90271 grp rfl 7)
    refine wp_of e203 c203_54 (xg_I (pc' := 57) lf_9_321 w90277 grp sh_54 (by decide) (by decide) ty_54_7 rfl rfl (fun b90285 b90286 => ?_))
    refine wp_of e203 c203_57 (rw_aload_n (pc' := 58) (v := .ref r0) rfl rfl rfl ?_)
    refine wp_of e203 c203_58 (xg_I (pc' := 61) lf_9_300 w90277 g0 sh_42 (by decide) (by decide) ty_42_17 rfl rfl (fun b90287 b90288 => ?_))
    refine wp_of e203 c203_61 (rw_aload_n (pc' := 62) (v := .ref r0) rfl rfl rfl ?_)
    refine wp_of e203 c203_62 (xg_I (pc' := 65) lf_9_303 w90277 g0 sh_42 (by decide) (by decide) ty_42_18 rfl rfl (fun b90289 b90290 => ?_))
    refine wp_of e203 c203_65 (xc_S (pc' := 68) (as := [vI (H90275 r0 17), vI (H90275 r0 18)]) (st := [vI (H90275 rp 7), .ref r90281]) (lm_9_318) rfl rfl (Nat.le_of_ble_eq_true rfl) rfl (by decide) (s_202 w90277 ⟨by omega, by omega⟩ ⟨by omega, by omega⟩) (fun R90291 T90292 H90293 p90294 => ?_))
    obtain ⟨e90295, e90297, z90298, e90296, b90299⟩ := p90294
    subst e90295
    subst e90296
    subst e90297
    show wp _ _ 203 68 [(1, vI z90260), (0, .ref r0)] [vI z90298, vI (H90275 rp 7), .ref r90281] _ H90275 _
    refine wp_of e203 c203_68 (xs_I (pc' := 69) w90277 g90283 (by decide) sh_72 (by decide) (ty_72 _) (by omega) (by omega) ⟨by omega, by omega⟩ (by omega) (by omega) rfl (fun H90300 e90301 w90302 => ?_))
    have f90303 := f90278.put' e90301 g90283 rfl
    refine wp_of e203 c203_69 (rw_aload_n (pc' := 70) (v := .ref r0) rfl rfl rfl ?_)
    have k90304 : H90300 r0 4 = H90275 r0 4 := (wq_u_t e90301 g90283 g0 rfl 4)
    have q90305 : H90300 r0 4 = (rp : Int) := k90304.trans q90280
    refine wp_of e203 c203_70 (xg_K (pc' := 73) lf_9_166 w90302 g0 sh_42 (by decide) (by decide) rfl q90305 rfl ?_)
    refine wp_of e203 c203_73 (rw_dup (pc' := 74) rfl rfl ?_)
    have k90306 : H90300 rp 7 = H90275 rp 7 := (wq_u_t e90301 g90283 grp rfl 7)
    refine wp_of e203 c203_74 (xg_I (pc' := 77) lf_9_321 w90302 grp sh_54 (by decide) (by decide) ty_54_7 rfl rfl (fun b90307 b90308 => ?_))
    refine wp_of e203 c203_77 (rw_iconst (pc' := 78) rfl ?_)
    refine wp_of e203 c203_78 (rw_iadd (pc' := 79) rfl ?_)
    refine wp_of e203 c203_79 (xp_I (pc' := 82) lf_9_321 w90302 grp sh_54 (by decide) (by decide) ty_54_7 rfl rfl (by omega) (by omega) ⟨by omega, by omega⟩ rfl (fun H90309 e90310 w90311 => ?_))
    have f90312 := f90303.put' e90310 grp rfl
    have k90313 : H90309 rp 7 = (H90300 rp 7) + 1 := wq_u_s e90310
    have k90314 : H90309 r0 9 = H90250 r0 9 := ((wq_u_t e90310 grp g0 rfl 9).trans ((wq_u_t e90301 g90283 g0 rfl 9).trans (wq_u_t e90276 g90271 g0 rfl 9)))
    have k90315 : H90309 r0 10 = H90250 r0 10 := ((wq_u_t e90310 grp g0 rfl 10).trans ((wq_u_t e90301 g90283 g0 rfl 10).trans (wq_u_t e90276 g90271 g0 rfl 10)))
    have k90316 : wOV H90309 r0 = wOV H90250 r0 := ((wOV_fr w90302 g0 ((wfr.rf (l := [(54, 7)])).put' e90310 grp rfl) rfl).trans ((wOV_fr w90277 g0 ((wfr.rf (l := [(72, 999)])).put' e90301 g90283 rfl) rfl).trans (wOV_fr w90254 g0 ((wfr.rf (l := [(71, 999)])).put' e90276 g90271 rfl) rfl)))
    have k90317 : wJ H90309 r0 = wJ H90250 r0 := ((wJ_fr w90302 g0 ((wfr.rf (l := [(54, 7)])).put' e90310 grp rfl) rfl).trans ((wJ_fr w90277 g0 ((wfr.rf (l := [(72, 999)])).put' e90301 g90283 rfl) rfl).trans (wJ_fr w90254 g0 ((wfr.rf (l := [(71, 999)])).put' e90276 g90271 rfl) rfl)))
    exact wp_return e203 c203_82 rfl ⟨rfl, w90311, f90312, rfl, by omega, by omega, by omega, by omega⟩
  · exact wp_return e203 c203_26 rfl ⟨rfl, w90254, f90262, rfl, by omega, by omega, by omega, by omega⟩
/-! StrikeAwakeModel.readLine()V -/
theorem e177 : wq_en 177 = some (9, 1, false, none) := rfl
theorem c177_0 : mc_cd 177 0 = some (.aload_n 0, 1) := by decide +kernel
theorem c177_1 : mc_cd 177 1 = some (.ldc 140, 2) := by decide +kernel
theorem c177_3 : mc_cd 177 3 = some (.invokevirtual 114, 3) := by decide +kernel
theorem c177_6 : mc_cd 177 6 = some (.ifCond .eq 10, 3) := by decide +kernel
theorem c177_9 : mc_cd 177 9 = some (.aload_n 0, 1) := by decide +kernel
theorem c177_10 : mc_cd 177 10 = some (.invokevirtual 191, 3) := by decide +kernel
theorem c177_13 : mc_cd 177 13 = some (.goto 120, 3) := by decide +kernel
theorem c177_16 : mc_cd 177 16 = some (.aload_n 0, 1) := by decide +kernel
theorem c177_17 : mc_cd 177 17 = some (.ldc 142, 2) := by decide +kernel
theorem c177_19 : mc_cd 177 19 = some (.invokevirtual 114, 3) := by decide +kernel
theorem c177_22 : mc_cd 177 22 = some (.ifCond .eq 10, 3) := by decide +kernel
theorem c177_25 : mc_cd 177 25 = some (.aload_n 0, 1) := by decide +kernel
theorem c177_26 : mc_cd 177 26 = some (.invokevirtual 194, 3) := by decide +kernel
theorem c177_29 : mc_cd 177 29 = some (.goto 104, 3) := by decide +kernel
theorem c177_32 : mc_cd 177 32 = some (.aload_n 0, 1) := by decide +kernel
theorem c177_33 : mc_cd 177 33 = some (.ldc 144, 2) := by decide +kernel
theorem c177_35 : mc_cd 177 35 = some (.invokevirtual 114, 3) := by decide +kernel
theorem c177_38 : mc_cd 177 38 = some (.ifCond .eq 10, 3) := by decide +kernel
theorem c177_41 : mc_cd 177 41 = some (.aload_n 0, 1) := by decide +kernel
theorem c177_42 : mc_cd 177 42 = some (.invokevirtual 197, 3) := by decide +kernel
theorem c177_45 : mc_cd 177 45 = some (.goto 88, 3) := by decide +kernel
theorem c177_48 : mc_cd 177 48 = some (.aload_n 0, 1) := by decide +kernel
theorem c177_49 : mc_cd 177 49 = some (.ldc 146, 2) := by decide +kernel
theorem c177_51 : mc_cd 177 51 = some (.invokevirtual 114, 3) := by decide +kernel
theorem c177_54 : mc_cd 177 54 = some (.ifCond .eq 10, 3) := by decide +kernel
theorem c177_57 : mc_cd 177 57 = some (.aload_n 0, 1) := by decide +kernel
theorem c177_58 : mc_cd 177 58 = some (.invokevirtual 200, 3) := by decide +kernel
theorem c177_61 : mc_cd 177 61 = some (.goto 72, 3) := by decide +kernel
theorem c177_64 : mc_cd 177 64 = some (.aload_n 0, 1) := by decide +kernel
theorem c177_65 : mc_cd 177 65 = some (.ldc 148, 2) := by decide +kernel
theorem c177_67 : mc_cd 177 67 = some (.invokevirtual 114, 3) := by decide +kernel
theorem c177_70 : mc_cd 177 70 = some (.ifCond .eq 10, 3) := by decide +kernel
theorem c177_73 : mc_cd 177 73 = some (.aload_n 0, 1) := by decide +kernel
theorem c177_74 : mc_cd 177 74 = some (.invokevirtual 203, 3) := by decide +kernel
theorem c177_77 : mc_cd 177 77 = some (.goto 56, 3) := by decide +kernel
theorem c177_80 : mc_cd 177 80 = some (.aload_n 0, 1) := by decide +kernel
theorem c177_81 : mc_cd 177 81 = some (.ldc 150, 2) := by decide +kernel
theorem c177_83 : mc_cd 177 83 = some (.invokevirtual 114, 3) := by decide +kernel
theorem c177_86 : mc_cd 177 86 = some (.ifCond .eq 10, 3) := by decide +kernel
theorem c177_89 : mc_cd 177 89 = some (.aload_n 0, 1) := by decide +kernel
theorem c177_90 : mc_cd 177 90 = some (.invokevirtual 206, 3) := by decide +kernel
theorem c177_93 : mc_cd 177 93 = some (.goto 40, 3) := by decide +kernel
theorem c177_96 : mc_cd 177 96 = some (.aload_n 0, 1) := by decide +kernel
theorem c177_97 : mc_cd 177 97 = some (.ldc 152, 2) := by decide +kernel
theorem c177_99 : mc_cd 177 99 = some (.invokevirtual 114, 3) := by decide +kernel
theorem c177_102 : mc_cd 177 102 = some (.ifCond .eq 10, 3) := by decide +kernel
theorem c177_105 : mc_cd 177 105 = some (.aload_n 0, 1) := by decide +kernel
theorem c177_106 : mc_cd 177 106 = some (.invokevirtual 209, 3) := by decide +kernel
theorem c177_109 : mc_cd 177 109 = some (.goto 24, 3) := by decide +kernel
theorem c177_112 : mc_cd 177 112 = some (.aload_n 0, 1) := by decide +kernel
theorem c177_113 : mc_cd 177 113 = some (.ldc 154, 2) := by decide +kernel
theorem c177_115 : mc_cd 177 115 = some (.invokevirtual 114, 3) := by decide +kernel
theorem c177_118 : mc_cd 177 118 = some (.ifCond .eq 10, 3) := by decide +kernel
theorem c177_121 : mc_cd 177 121 = some (.aload_n 0, 1) := by decide +kernel
theorem c177_122 : mc_cd 177 122 = some (.invokevirtual 212, 3) := by decide +kernel
theorem c177_125 : mc_cd 177 125 = some (.goto 8, 3) := by decide +kernel
theorem c177_128 : mc_cd 177 128 = some (.aload_n 0, 1) := by decide +kernel
theorem c177_129 : mc_cd 177 129 = some (.iconst 1, 1) := by decide +kernel
theorem c177_130 : mc_cd 177 130 = some (.invokevirtual 121, 3) := by decide +kernel
theorem c177_133 : mc_cd 177 133 = some (.return_, 1) := by decide +kernel
abbrev q_177 (r0 : Nat) (rp : Nat) (T : wq_T) (H : wq_H) : Option Value → wq_T → wq_H → Prop := fun r T' H' => T = T' ∧ WT T H' ∧ wfr [(54, 0), (54, 1), (54, 2), (54, 3), (54, 4), (54, 5), (54, 6), (54, 7), (54, 8), (42, 8), (42, 9), (42, 10), (42, 11), (42, 12), (42, 13), (42, 14), (42, 15), (42, 16), (42, 17), (42, 18), (64, 999), (65, 999), (56, 999), (57, 999), (66, 999), (60, 999), (63, 999), (58, 999), (59, 999), (55, 999), (61, 999), (62, 999), (72, 999), (71, 999), (67, 999), (68, 999), (69, 999)] T H H' ∧ none = r ∧ (wJ H' r0 = 1) ∧ (H r0 10 ≤ H' r0 10) ∧ (wOV H r0 ≤ wOV H' r0) ∧ (wOV H' r0 ≤ 1) ∧ (wPI H' rp = 1) ∧ (∀ a, a ≠ rp → T.2.2.2 a = some 54 → H' a 3 = H a 3)
set_option maxHeartbeats 4000000 in
theorem s_177 {kt : Nat → Option mc_E} {T : wq_T} {H : wq_H} {r0 : Nat} {rp : Nat} (hW : WT T H) (g0 : T.2.2.2 r0 = some 42) (qrp : H r0 4 = (rp : Int)) (grp : T.2.2.2 rp = some 54) (p0 : wJ H r0 = 1) (p1 : wPI H rp = 1) : wpc kt 8 177 [.ref r0] T H (q_177 r0 rp T H) := by
  refine wp_enter e177 (Nat.le_of_ble_eq_true rfl) rfl ?_
  have f0 : wfr [(54, 0), (54, 1), (54, 2), (54, 3), (54, 4), (54, 5), (54, 6), (54, 7), (54, 8), (42, 8), (42, 9), (42, 10), (42, 11), (42, 12), (42, 13), (42, 14), (42, 15), (42, 16), (42, 17), (42, 18), (64, 999), (65, 999), (56, 999), (57, 999), (66, 999), (60, 999), (63, 999), (58, 999), (59, 999), (55, 999), (61, 999), (62, 999), (72, 999), (71, 999), (67, 999), (68, 999), (69, 999)] T H H := wfr.rf
  show wp _ _ 177 0 [(0, .ref r0)] [] _ H _
  have b90528 : (-2147483648) ≤ H r0 10 ∧ H r0 10 ≤ 2147483647 := hW.box g0 (n := 33) rfl (by decide) rfl
  have b90529 : 0 ≤ H r0 9 ∧ H r0 9 ≤ 5 := hW.box g0 (n := 33) rfl (by decide) rfl
  have b90530 : 0 ≤ H r0 8 ∧ H r0 8 ≤ 900 := hW.box g0 (n := 33) rfl (by decide) rfl
  have hb0 := wOV_b (H := H) (m := r0)
  refine wp_of e177 c177_0 (rw_aload_n (pc' := 1) (v := .ref r0) rfl rfl rfl ?_)
  refine wp_of e177 c177_1 (rw_ldcS (pc' := 3) (k := 72) rfl rfl rfl rfl ?_)
  refine wp_of e177 c177_3 (xc_V (pc' := 6) (r := r0) (as := [.ref 72]) (st := []) (lm_9_114) rfl rfl (Nat.le_of_ble_eq_true rfl) hW g0 sh_42 (by decide) rfl (by decide) (s_178 hW g0 rfl) (fun R90531 T90532 H90533 p90534 => ?_))
  obtain ⟨e90535, e90537, z90538, e90536, b90539⟩ := p90534
  subst e90535
  subst e90536
  subst e90537
  show wp _ _ 177 6 [(0, .ref r0)] [vI z90538] _ H _
  refine wp_of e177 c177_6 (rw_if_eq (p1 := 16) (p2 := 9) (by decide) rfl ⟨by omega, by omega⟩ (fun c90540 => ?_) (fun c90540 => ?_))
  · refine wp_of e177 c177_16 (rw_aload_n (pc' := 17) (v := .ref r0) rfl rfl rfl ?_)
    refine wp_of e177 c177_17 (rw_ldcS (pc' := 19) (k := 76) rfl rfl rfl rfl ?_)
    refine wp_of e177 c177_19 (xc_V (pc' := 22) (r := r0) (as := [.ref 76]) (st := []) (lm_9_114) rfl rfl (Nat.le_of_ble_eq_true rfl) hW g0 sh_42 (by decide) rfl (by decide) (s_178 hW g0 rfl) (fun R90541 T90542 H90543 p90544 => ?_))
    obtain ⟨e90545, e90547, z90548, e90546, b90549⟩ := p90544
    subst e90545
    subst e90546
    subst e90547
    show wp _ _ 177 22 [(0, .ref r0)] [vI z90548] _ H _
    refine wp_of e177 c177_22 (rw_if_eq (p1 := 32) (p2 := 25) (by decide) rfl ⟨by omega, by omega⟩ (fun c90550 => ?_) (fun c90550 => ?_))
    · refine wp_of e177 c177_32 (rw_aload_n (pc' := 33) (v := .ref r0) rfl rfl rfl ?_)
      refine wp_of e177 c177_33 (rw_ldcS (pc' := 35) (k := 77) rfl rfl rfl rfl ?_)
      refine wp_of e177 c177_35 (xc_V (pc' := 38) (r := r0) (as := [.ref 77]) (st := []) (lm_9_114) rfl rfl (Nat.le_of_ble_eq_true rfl) hW g0 sh_42 (by decide) rfl (by decide) (s_178 hW g0 rfl) (fun R90551 T90552 H90553 p90554 => ?_))
      obtain ⟨e90555, e90557, z90558, e90556, b90559⟩ := p90554
      subst e90555
      subst e90556
      subst e90557
      show wp _ _ 177 38 [(0, .ref r0)] [vI z90558] _ H _
      refine wp_of e177 c177_38 (rw_if_eq (p1 := 48) (p2 := 41) (by decide) rfl ⟨by omega, by omega⟩ (fun c90560 => ?_) (fun c90560 => ?_))
      · refine wp_of e177 c177_48 (rw_aload_n (pc' := 49) (v := .ref r0) rfl rfl rfl ?_)
        refine wp_of e177 c177_49 (rw_ldcS (pc' := 51) (k := 78) rfl rfl rfl rfl ?_)
        refine wp_of e177 c177_51 (xc_V (pc' := 54) (r := r0) (as := [.ref 78]) (st := []) (lm_9_114) rfl rfl (Nat.le_of_ble_eq_true rfl) hW g0 sh_42 (by decide) rfl (by decide) (s_178 hW g0 rfl) (fun R90561 T90562 H90563 p90564 => ?_))
        obtain ⟨e90565, e90567, z90568, e90566, b90569⟩ := p90564
        subst e90565
        subst e90566
        subst e90567
        show wp _ _ 177 54 [(0, .ref r0)] [vI z90568] _ H _
        refine wp_of e177 c177_54 (rw_if_eq (p1 := 64) (p2 := 57) (by decide) rfl ⟨by omega, by omega⟩ (fun c90570 => ?_) (fun c90570 => ?_))
        · refine wp_of e177 c177_64 (rw_aload_n (pc' := 65) (v := .ref r0) rfl rfl rfl ?_)
          refine wp_of e177 c177_65 (rw_ldcS (pc' := 67) (k := 79) rfl rfl rfl rfl ?_)
          refine wp_of e177 c177_67 (xc_V (pc' := 70) (r := r0) (as := [.ref 79]) (st := []) (lm_9_114) rfl rfl (Nat.le_of_ble_eq_true rfl) hW g0 sh_42 (by decide) rfl (by decide) (s_178 hW g0 rfl) (fun R90571 T90572 H90573 p90574 => ?_))
          obtain ⟨e90575, e90577, z90578, e90576, b90579⟩ := p90574
          subst e90575
          subst e90576
          subst e90577
          show wp _ _ 177 70 [(0, .ref r0)] [vI z90578] _ H _
          refine wp_of e177 c177_70 (rw_if_eq (p1 := 80) (p2 := 73) (by decide) rfl ⟨by omega, by omega⟩ (fun c90580 => ?_) (fun c90580 => ?_))
          · refine wp_of e177 c177_80 (rw_aload_n (pc' := 81) (v := .ref r0) rfl rfl rfl ?_)
            refine wp_of e177 c177_81 (rw_ldcS (pc' := 83) (k := 80) rfl rfl rfl rfl ?_)
            refine wp_of e177 c177_83 (xc_V (pc' := 86) (r := r0) (as := [.ref 80]) (st := []) (lm_9_114) rfl rfl (Nat.le_of_ble_eq_true rfl) hW g0 sh_42 (by decide) rfl (by decide) (s_178 hW g0 rfl) (fun R90581 T90582 H90583 p90584 => ?_))
            obtain ⟨e90585, e90587, z90588, e90586, b90589⟩ := p90584
            subst e90585
            subst e90586
            subst e90587
            show wp _ _ 177 86 [(0, .ref r0)] [vI z90588] _ H _
            refine wp_of e177 c177_86 (rw_if_eq (p1 := 96) (p2 := 89) (by decide) rfl ⟨by omega, by omega⟩ (fun c90590 => ?_) (fun c90590 => ?_))
            · refine wp_of e177 c177_96 (rw_aload_n (pc' := 97) (v := .ref r0) rfl rfl rfl ?_)
              refine wp_of e177 c177_97 (rw_ldcS (pc' := 99) (k := 81) rfl rfl rfl rfl ?_)
              refine wp_of e177 c177_99 (xc_V (pc' := 102) (r := r0) (as := [.ref 81]) (st := []) (lm_9_114) rfl rfl (Nat.le_of_ble_eq_true rfl) hW g0 sh_42 (by decide) rfl (by decide) (s_178 hW g0 rfl) (fun R90591 T90592 H90593 p90594 => ?_))
              obtain ⟨e90595, e90597, z90598, e90596, b90599⟩ := p90594
              subst e90595
              subst e90596
              subst e90597
              show wp _ _ 177 102 [(0, .ref r0)] [vI z90598] _ H _
              refine wp_of e177 c177_102 (rw_if_eq (p1 := 112) (p2 := 105) (by decide) rfl ⟨by omega, by omega⟩ (fun c90600 => ?_) (fun c90600 => ?_))
              · refine wp_of e177 c177_112 (rw_aload_n (pc' := 113) (v := .ref r0) rfl rfl rfl ?_)
                refine wp_of e177 c177_113 (rw_ldcS (pc' := 115) (k := 82) rfl rfl rfl rfl ?_)
                refine wp_of e177 c177_115 (xc_V (pc' := 118) (r := r0) (as := [.ref 82]) (st := []) (lm_9_114) rfl rfl (Nat.le_of_ble_eq_true rfl) hW g0 sh_42 (by decide) rfl (by decide) (s_178 hW g0 rfl) (fun R90601 T90602 H90603 p90604 => ?_))
                obtain ⟨e90605, e90607, z90608, e90606, b90609⟩ := p90604
                subst e90605
                subst e90606
                subst e90607
                show wp _ _ 177 118 [(0, .ref r0)] [vI z90608] _ H _
                refine wp_of e177 c177_118 (rw_if_eq (p1 := 128) (p2 := 121) (by decide) rfl ⟨by omega, by omega⟩ (fun c90610 => ?_) (fun c90610 => ?_))
                · refine wp_of e177 c177_128 (rw_aload_n (pc' := 129) (v := .ref r0) rfl rfl rfl ?_)
                  refine wp_of e177 c177_129 (rw_iconst (pc' := 130) rfl ?_)
                  refine wp_of e177 c177_130 (xc_V (pc' := 133) (r := r0) (as := [vI 1]) (st := []) (lm_9_121) rfl rfl (Nat.le_of_ble_eq_true rfl) hW g0 sh_42 (by decide) rfl (by decide) (s_181 hW g0 ⟨by omega, by omega⟩ (by omega)) (fun R90611 T90612 H90613 p90614 => ?_))
                  obtain ⟨e90615, w90617, f90618, e90616, p90619, p90620, p90621, p90622, p90623, p90624⟩ := p90614
                  subst e90615
                  subst e90616
                  have f90625 := f0.tr f90618 rfl
                  show wp _ _ 177 133 [(0, .ref r0)] [] _ H90613 _
                  have k90626 : H90613 r0 8 = H r0 8 := (f90618 r0 8 _ g0 rfl)
                  have k90627 : wPI H90613 rp = wPI H rp := (wPI_fr hW grp f90618 rfl)
                  exact wp_return e177 c177_133 rfl ⟨rfl, w90617, f90625, rfl, by omega, by omega, by omega, by omega, by omega, fun a ha ga => (f90618 a 3 _ ga rfl)⟩
                · refine wp_of e177 c177_121 (rw_aload_n (pc' := 122) (v := .ref r0) rfl rfl rfl ?_)
                  refine wp_of e177 c177_122 (xc_V (pc' := 125) (r := r0) (as := []) (st := []) (lm_9_212) rfl rfl (Nat.le_of_ble_eq_true rfl) hW g0 sh_42 (by decide) rfl (by decide) (s_203 hW g0 qrp grp (by omega)) (fun R90628 T90629 H90630 p90631 => ?_))
                  obtain ⟨e90632, w90634, f90635, e90633, p90636, p90637, p90638, p90639⟩ := p90631
                  subst e90632
                  subst e90633
                  have f90640 := f0.tr f90635 rfl
                  show wp _ _ 177 125 [(0, .ref r0)] [] _ H90630 _
                  refine wp_of e177 c177_125 (rw_goto (p1 := 133) (by decide) ?_)
                  have k90641 : wPI H90630 rp = wPI H rp := (wPI_fr hW grp f90635 rfl)
                  exact wp_return e177 c177_133 rfl ⟨rfl, w90634, f90640, rfl, by omega, by omega, by omega, by omega, by omega, fun a ha ga => (f90635 a 3 _ ga rfl)⟩
              · refine wp_of e177 c177_105 (rw_aload_n (pc' := 106) (v := .ref r0) rfl rfl rfl ?_)
                refine wp_of e177 c177_106 (xc_V (pc' := 109) (r := r0) (as := []) (st := []) (lm_9_209) rfl rfl (Nat.le_of_ble_eq_true rfl) hW g0 sh_42 (by decide) rfl (by decide) (s_200 hW g0 qrp grp (by omega)) (fun R90642 T90643 H90644 p90645 => ?_))
                obtain ⟨e90646, w90648, f90649, e90647, p90650, p90651, p90652, p90653⟩ := p90645
                subst e90646
                subst e90647
                have f90654 := f0.tr f90649 rfl
                show wp _ _ 177 109 [(0, .ref r0)] [] _ H90644 _
                refine wp_of e177 c177_109 (rw_goto (p1 := 133) (by decide) ?_)
                have k90655 : wPI H90644 rp = wPI H rp := (wPI_fr hW grp f90649 rfl)
                exact wp_return e177 c177_133 rfl ⟨rfl, w90648, f90654, rfl, by omega, by omega, by omega, by omega, by omega, fun a ha ga => (f90649 a 3 _ ga rfl)⟩
            · refine wp_of e177 c177_89 (rw_aload_n (pc' := 90) (v := .ref r0) rfl rfl rfl ?_)
              refine wp_of e177 c177_90 (xc_V (pc' := 93) (r := r0) (as := []) (st := []) (lm_9_206) rfl rfl (Nat.le_of_ble_eq_true rfl) hW g0 sh_42 (by decide) rfl (by decide) (s_199 hW g0 qrp grp (by omega)) (fun R90656 T90657 H90658 p90659 => ?_))
              obtain ⟨e90660, w90662, f90663, e90661, p90664, p90665, p90666, p90667⟩ := p90659
              subst e90660
              subst e90661
              have f90668 := f0.tr f90663 rfl
              show wp _ _ 177 93 [(0, .ref r0)] [] _ H90658 _
              refine wp_of e177 c177_93 (rw_goto (p1 := 133) (by decide) ?_)
              have k90669 : wPI H90658 rp = wPI H rp := (wPI_fr hW grp f90663 rfl)
              exact wp_return e177 c177_133 rfl ⟨rfl, w90662, f90668, rfl, by omega, by omega, by omega, by omega, by omega, fun a ha ga => (f90663 a 3 _ ga rfl)⟩
          · refine wp_of e177 c177_73 (rw_aload_n (pc' := 74) (v := .ref r0) rfl rfl rfl ?_)
            refine wp_of e177 c177_74 (xc_V (pc' := 77) (r := r0) (as := []) (st := []) (lm_9_203) rfl rfl (Nat.le_of_ble_eq_true rfl) hW g0 sh_42 (by decide) rfl (by decide) (s_198 hW g0 qrp grp (by omega)) (fun R90670 T90671 H90672 p90673 => ?_))
            obtain ⟨e90674, w90676, f90677, e90675, p90678, p90679, p90680, p90681⟩ := p90673
            subst e90674
            subst e90675
            have f90682 := f0.tr f90677 rfl
            show wp _ _ 177 77 [(0, .ref r0)] [] _ H90672 _
            refine wp_of e177 c177_77 (rw_goto (p1 := 133) (by decide) ?_)
            have k90683 : wPI H90672 rp = wPI H rp := (wPI_fr hW grp f90677 rfl)
            exact wp_return e177 c177_133 rfl ⟨rfl, w90676, f90682, rfl, by omega, by omega, by omega, by omega, by omega, fun a ha ga => (f90677 a 3 _ ga rfl)⟩
        · refine wp_of e177 c177_57 (rw_aload_n (pc' := 58) (v := .ref r0) rfl rfl rfl ?_)
          refine wp_of e177 c177_58 (xc_V (pc' := 61) (r := r0) (as := []) (st := []) (lm_9_200) rfl rfl (Nat.le_of_ble_eq_true rfl) hW g0 sh_42 (by decide) rfl (by decide) (s_196 hW g0 qrp grp (by omega)) (fun R90684 T90685 H90686 p90687 => ?_))
          obtain ⟨e90688, w90690, f90691, e90689, p90692, p90693, p90694, p90695⟩ := p90687
          subst e90688
          subst e90689
          have f90696 := f0.tr f90691 rfl
          show wp _ _ 177 61 [(0, .ref r0)] [] _ H90686 _
          refine wp_of e177 c177_61 (rw_goto (p1 := 133) (by decide) ?_)
          have k90697 : wPI H90686 rp = wPI H rp := (wPI_fr hW grp f90691 rfl)
          exact wp_return e177 c177_133 rfl ⟨rfl, w90690, f90696, rfl, by omega, by omega, by omega, by omega, by omega, fun a ha ga => (f90691 a 3 _ ga rfl)⟩
      · refine wp_of e177 c177_41 (rw_aload_n (pc' := 42) (v := .ref r0) rfl rfl rfl ?_)
        refine wp_of e177 c177_42 (xc_V (pc' := 45) (r := r0) (as := []) (st := []) (lm_9_197) rfl rfl (Nat.le_of_ble_eq_true rfl) hW g0 sh_42 (by decide) rfl (by decide) (s_193 hW g0 qrp grp (by omega)) (fun R90698 T90699 H90700 p90701 => ?_))
        obtain ⟨e90702, w90704, f90705, e90703, p90706, p90707, p90708, p90709⟩ := p90701
        subst e90702
        subst e90703
        have f90710 := f0.tr f90705 rfl
        show wp _ _ 177 45 [(0, .ref r0)] [] _ H90700 _
        refine wp_of e177 c177_45 (rw_goto (p1 := 133) (by decide) ?_)
        have k90711 : wPI H90700 rp = wPI H rp := (wPI_fr hW grp f90705 rfl)
        exact wp_return e177 c177_133 rfl ⟨rfl, w90704, f90710, rfl, by omega, by omega, by omega, by omega, by omega, fun a ha ga => (f90705 a 3 _ ga rfl)⟩
    · refine wp_of e177 c177_25 (rw_aload_n (pc' := 26) (v := .ref r0) rfl rfl rfl ?_)
      refine wp_of e177 c177_26 (xc_V (pc' := 29) (r := r0) (as := []) (st := []) (lm_9_194) rfl rfl (Nat.le_of_ble_eq_true rfl) hW g0 sh_42 (by decide) rfl (by decide) (s_187 hW g0 qrp grp (by omega) (by omega)) (fun R90712 T90713 H90714 p90715 => ?_))
      obtain ⟨e90716, w90718, f90719, e90717, p90720, p90721, p90722, p90723, p90724, p90725⟩ := p90715
      subst e90716
      subst e90717
      have f90726 := f0.tr f90719 rfl
      show wp _ _ 177 29 [(0, .ref r0)] [] _ H90714 _
      refine wp_of e177 c177_29 (rw_goto (p1 := 133) (by decide) ?_)
      exact wp_return e177 c177_133 rfl ⟨rfl, w90718, f90726, rfl, by omega, by omega, by omega, by omega, by omega, fun a ha ga => (p90725 a ha ga)⟩
  · refine wp_of e177 c177_9 (rw_aload_n (pc' := 10) (v := .ref r0) rfl rfl rfl ?_)
    refine wp_of e177 c177_10 (xc_V (pc' := 13) (r := r0) (as := []) (st := []) (lm_9_191) rfl rfl (Nat.le_of_ble_eq_true rfl) hW g0 sh_42 (by decide) rfl (by decide) (s_180 hW g0 qrp grp (by omega)) (fun R90727 T90728 H90729 p90730 => ?_))
    obtain ⟨e90731, w90733, f90734, e90732, p90735, p90736, p90737, p90738⟩ := p90730
    subst e90731
    subst e90732
    have f90739 := f0.tr f90734 rfl
    show wp _ _ 177 13 [(0, .ref r0)] [] _ H90729 _
    refine wp_of e177 c177_13 (rw_goto (p1 := 133) (by decide) ?_)
    have k90740 : wPI H90729 rp = wPI H rp := (wPI_fr hW grp f90734 rfl)
    exact wp_return e177 c177_133 rfl ⟨rfl, w90733, f90739, rfl, by omega, by omega, by omega, by omega, by omega, fun a ha ga => (f90734 a 3 _ ga rfl)⟩
/-! StrikeAwakeModel.eatsSign(I)Z -/
theorem e204 : wq_en 204 = some (9, 3, false, some FieldType.boolean) := rfl
theorem c204_0 : mc_cd 204 0 = some (.aload_n 0, 1) := by decide +kernel
theorem c204_1 : mc_cd 204 1 = some (.getfield 75, 3) := by decide +kernel
theorem c204_4 : mc_cd 204 4 = some (.iconst 4, 1) := by decide +kernel
theorem c204_5 : mc_cd 204 5 = some (.if_icmp .ne 15, 3) := by decide +kernel
theorem c204_8 : mc_cd 204 8 = some (.aload_n 0, 1) := by decide +kernel
theorem c204_9 : mc_cd 204 9 = some (.getfield 87, 3) := by decide +kernel
theorem c204_12 : mc_cd 204 12 = some (.iload_n 1, 1) := by decide +kernel
theorem c204_13 : mc_cd 204 13 = some (.if_icmp .ne 7, 3) := by decide +kernel
theorem c204_16 : mc_cd 204 16 = some (.iconst 1, 1) := by decide +kernel
theorem c204_17 : mc_cd 204 17 = some (.goto 4, 3) := by decide +kernel
theorem c204_20 : mc_cd 204 20 = some (.iconst 0, 1) := by decide +kernel
theorem c204_21 : mc_cd 204 21 = some (.istore_n 2, 1) := by decide +kernel
theorem c204_22 : mc_cd 204 22 = some (.iload_n 2, 1) := by decide +kernel
theorem c204_23 : mc_cd 204 23 = some (.ifCond .eq 7, 3) := by decide +kernel
theorem c204_26 : mc_cd 204 26 = some (.aload_n 0, 1) := by decide +kernel
theorem c204_27 : mc_cd 204 27 = some (.invokevirtual 118, 3) := by decide +kernel
theorem c204_30 : mc_cd 204 30 = some (.iload_n 2, 1) := by decide +kernel
theorem c204_31 : mc_cd 204 31 = some (.ireturn, 1) := by decide +kernel
abbrev q_204 (r0 : Nat) (a1 : Int) (T : wq_T) (H : wq_H) : Option Value → wq_T → wq_H → Prop := fun r T' H' => T = T' ∧ WT T H' ∧ wfr [(42, 8), (42, 9), (42, 10), (42, 11), (42, 12), (42, 15)] T H H' ∧ ∃ z : Int, some (vI z) = r ∧ (0 ≤ z ∧ z ≤ 1) ∧ (wJ H' r0 = 1) ∧ (H r0 10 ≤ H' r0 10) ∧ (wOV H r0 ≤ wOV H' r0) ∧ (wOV H' r0 ≤ 1) ∧ (z = 0 ∨ (H r0 10 < H' r0 10 ∧ H' r0 10 ≤ 900))
set_option maxHeartbeats 4000000 in
theorem s_204 {kt : Nat → Option mc_E} {T : wq_T} {H : wq_H} {r0 : Nat} {a1 : Int} (hW : WT T H) (g0 : T.2.2.2 r0 = some 42) (i1 : (-2147483648) ≤ a1 ∧ a1 ≤ 2147483647) (p0 : wJ H r0 = 1) : wpc kt 3 204 [.ref r0, vI a1] T H (q_204 r0 a1 T H) := by
  refine wp_enter e204 (Nat.le_of_ble_eq_true rfl) rfl ?_
  have f0 : wfr [(42, 8), (42, 9), (42, 10), (42, 11), (42, 12), (42, 15)] T H H := wfr.rf
  show wp _ _ 204 0 [(0, .ref r0), (1, vI a1)] [] _ H _
  have b90766 : (-2147483648) ≤ H r0 10 ∧ H r0 10 ≤ 2147483647 := hW.box g0 (n := 33) rfl (by decide) rfl
  have b90767 : 0 ≤ H r0 9 ∧ H r0 9 ≤ 5 := hW.box g0 (n := 33) rfl (by decide) rfl
  have b90768 : 0 ≤ H r0 8 ∧ H r0 8 ≤ 900 := hW.box g0 (n := 33) rfl (by decide) rfl
  have hb0 := wOV_b (H := H) (m := r0)
  have hj := wJ_1.mp p0
  have ho := wOV_e (H := H) (m := r0)
  refine wp_of e204 c204_0 (rw_aload_n (pc' := 1) (v := .ref r0) rfl rfl rfl ?_)
  refine wp_of e204 c204_1 (xg_I (pc' := 4) lf_9_75 hW g0 sh_42 (by decide) (by decide) ty_42_9 rfl rfl (fun b90769 b90770 => ?_))
  have k90771 := wOV_e (H := H) (m := r0)
  refine wp_of e204 c204_4 (rw_iconst (pc' := 5) rfl ?_)
  refine wp_of e204 c204_5 (rw_icmp_ne (p1 := 20) (p2 := 8) (by decide) rfl ⟨by omega, by omega⟩ ⟨by omega, by omega⟩ (fun c90772 => ?_) (fun c90772 => ?_))
  · refine wp_of e204 c204_20 (rw_iconst (pc' := 21) rfl ?_)
    refine wp_of e204 c204_21 (rw_istore_n (pc' := 22) (z := 0) (L' := [(2, vI 0), (0, .ref r0), (1, vI a1)]) rfl rfl rfl ?_)
    refine wp_of e204 c204_22 (rw_iload_n (pc' := 23) (z := 0) rfl rfl ?_)
    refine wp_of e204 c204_23 (rw_if_eq (p1 := 30) (p2 := 26) (by decide) rfl ⟨by omega, by omega⟩ (fun c90773 => ?_) (fun c90773 => ?_))
    · refine wp_of e204 c204_30 (rw_iload_n (pc' := 31) (z := 0) rfl rfl ?_)
      exact wp_zreturn e204 c204_31 rfl (by omega) ⟨rfl, hW, f0, 0, rfl, ⟨by omega, by omega⟩, by omega, by omega, by omega, by omega, by omega⟩
    · exfalso
      omega
  · refine wp_of e204 c204_8 (rw_aload_n (pc' := 9) (v := .ref r0) rfl rfl rfl ?_)
    refine wp_of e204 c204_9 (xg_I (pc' := 12) lf_9_87 hW g0 sh_42 (by decide) (by decide) ty_42_11 rfl rfl (fun b90774 b90775 => ?_))
    refine wp_of e204 c204_12 (rw_iload_n (pc' := 13) (z := a1) rfl rfl ?_)
    refine wp_of e204 c204_13 (rw_icmp_ne (p1 := 20) (p2 := 16) (by decide) rfl ⟨by omega, by omega⟩ ⟨by omega, by omega⟩ (fun c90776 => ?_) (fun c90776 => ?_))
    · refine wp_of e204 c204_20 (rw_iconst (pc' := 21) rfl ?_)
      refine wp_of e204 c204_21 (rw_istore_n (pc' := 22) (z := 0) (L' := [(2, vI 0), (0, .ref r0), (1, vI a1)]) rfl rfl rfl ?_)
      refine wp_of e204 c204_22 (rw_iload_n (pc' := 23) (z := 0) rfl rfl ?_)
      refine wp_of e204 c204_23 (rw_if_eq (p1 := 30) (p2 := 26) (by decide) rfl ⟨by omega, by omega⟩ (fun c90777 => ?_) (fun c90777 => ?_))
      · refine wp_of e204 c204_30 (rw_iload_n (pc' := 31) (z := 0) rfl rfl ?_)
        exact wp_zreturn e204 c204_31 rfl (by omega) ⟨rfl, hW, f0, 0, rfl, ⟨by omega, by omega⟩, by omega, by omega, by omega, by omega, by omega⟩
      · exfalso
        omega
    · refine wp_of e204 c204_16 (rw_iconst (pc' := 17) rfl ?_)
      refine wp_of e204 c204_17 (rw_goto (p1 := 21) (by decide) ?_)
      refine wp_of e204 c204_21 (rw_istore_n (pc' := 22) (z := 1) (L' := [(2, vI 1), (0, .ref r0), (1, vI a1)]) rfl rfl rfl ?_)
      refine wp_of e204 c204_22 (rw_iload_n (pc' := 23) (z := 1) rfl rfl ?_)
      refine wp_of e204 c204_23 (rw_if_eq (p1 := 30) (p2 := 26) (by decide) rfl ⟨by omega, by omega⟩ (fun c90778 => ?_) (fun c90778 => ?_))
      · exfalso
        omega
      · refine wp_of e204 c204_26 (rw_aload_n (pc' := 27) (v := .ref r0) rfl rfl rfl ?_)
        refine wp_of e204 c204_27 (xc_V (pc' := 30) (r := r0) (as := []) (st := []) (lm_9_118) rfl rfl (Nat.le_of_ble_eq_true rfl) hW g0 sh_42 (by decide) rfl (by decide) (s_172 hW g0 (by omega)) (fun R90779 T90780 H90781 p90782 => ?_))
        obtain ⟨e90783, w90785, f90786, e90784, p90787, p90788, p90789, p90790, p90791, p90792⟩ := p90782
        subst e90783
        subst e90784
        have f90793 := f0.tr f90786 rfl
        show wp _ _ 204 30 [(2, vI 1), (0, .ref r0), (1, vI a1)] [] _ H90781 _
        refine wp_of e204 c204_30 (rw_iload_n (pc' := 31) (z := 1) rfl rfl ?_)
        exact wp_zreturn e204 c204_31 rfl (by omega) ⟨rfl, w90785, f90793, 1, rfl, ⟨by omega, by omega⟩, by omega, by omega, by omega, by omega, by omega⟩
/-! StrikeAwakeModel.readParish()V -/
theorem e176 : wq_en 176 = some (9, 2, false, none) := rfl
theorem c176_0 : mc_cd 176 0 = some (.iconst 1, 1) := by decide +kernel
theorem c176_1 : mc_cd 176 1 = some (.istore_n 1, 1) := by decide +kernel
theorem c176_2 : mc_cd 176 2 = some (.iload_n 1, 1) := by decide +kernel
theorem c176_3 : mc_cd 176 3 = some (.ifCond .eq 17, 3) := by decide +kernel
theorem c176_6 : mc_cd 176 6 = some (.aload_n 0, 1) := by decide +kernel
theorem c176_7 : mc_cd 176 7 = some (.invokevirtual 179, 3) := by decide +kernel
theorem c176_10 : mc_cd 176 10 = some (.aload_n 0, 1) := by decide +kernel
theorem c176_11 : mc_cd 176 11 = some (.bipush 59, 2) := by decide +kernel
theorem c176_13 : mc_cd 176 13 = some (.invokevirtual 182, 3) := by decide +kernel
theorem c176_16 : mc_cd 176 16 = some (.istore_n 1, 1) := by decide +kernel
theorem c176_17 : mc_cd 176 17 = some (.goto (-15), 3) := by decide +kernel
theorem c176_20 : mc_cd 176 20 = some (.aload_n 0, 1) := by decide +kernel
theorem c176_21 : mc_cd 176 21 = some (.getfield 75, 3) := by decide +kernel
theorem c176_24 : mc_cd 176 24 = some (.iconst 1, 1) := by decide +kernel
theorem c176_25 : mc_cd 176 25 = some (.if_icmp .eq 8, 3) := by decide +kernel
theorem c176_28 : mc_cd 176 28 = some (.aload_n 0, 1) := by decide +kernel
theorem c176_29 : mc_cd 176 29 = some (.iconst 1, 1) := by decide +kernel
theorem c176_30 : mc_cd 176 30 = some (.invokevirtual 121, 3) := by decide +kernel
theorem c176_33 : mc_cd 176 33 = some (.aload_n 0, 1) := by decide +kernel
theorem c176_34 : mc_cd 176 34 = some (.getfield 166, 3) := by decide +kernel
theorem c176_37 : mc_cd 176 37 = some (.getfield 185, 3) := by decide +kernel
theorem c176_40 : mc_cd 176 40 = some (.ifCond .eq 13, 3) := by decide +kernel
theorem c176_43 : mc_cd 176 43 = some (.aload_n 0, 1) := by decide +kernel
theorem c176_44 : mc_cd 176 44 = some (.getfield 166, 3) := by decide +kernel
theorem c176_47 : mc_cd 176 47 = some (.getfield 188, 3) := by decide +kernel
theorem c176_50 : mc_cd 176 50 = some (.ifCond .ne 9, 3) := by decide +kernel
theorem c176_53 : mc_cd 176 53 = some (.aload_n 0, 1) := by decide +kernel
theorem c176_54 : mc_cd 176 54 = some (.bipush 6, 2) := by decide +kernel
theorem c176_56 : mc_cd 176 56 = some (.invokevirtual 121, 3) := by decide +kernel
theorem c176_59 : mc_cd 176 59 = some (.return_, 1) := by decide +kernel
abbrev q_176 (r0 : Nat) (rp : Nat) (T : wq_T) (H : wq_H) : Option Value → wq_T → wq_H → Prop := fun r T' H' => T = T' ∧ WT T H' ∧ wfr [(54, 0), (54, 1), (54, 2), (54, 3), (54, 4), (54, 5), (54, 6), (54, 7), (54, 8), (42, 8), (42, 9), (42, 10), (42, 11), (42, 12), (42, 13), (42, 14), (42, 15), (42, 16), (42, 17), (42, 18), (64, 999), (65, 999), (56, 999), (57, 999), (66, 999), (60, 999), (63, 999), (58, 999), (59, 999), (55, 999), (61, 999), (62, 999), (72, 999), (71, 999), (67, 999), (68, 999), (69, 999)] T H H' ∧ none = r ∧ (wJ H' r0 = 1) ∧ (H r0 10 ≤ H' r0 10) ∧ (wOV H r0 ≤ wOV H' r0) ∧ (wOV H' r0 ≤ 1) ∧ (wPI H' rp = 1) ∧ (∀ a, a ≠ rp → T.2.2.2 a = some 54 → H' a 3 = H a 3)
set_option maxHeartbeats 4000000 in
theorem s_176 {kt : Nat → Option mc_E} {T : wq_T} {H : wq_H} {r0 : Nat} {rp : Nat} (hW : WT T H) (g0 : T.2.2.2 r0 = some 42) (qrp : H r0 4 = (rp : Int)) (grp : T.2.2.2 rp = some 54) (p0 : wJ H r0 = 1) (p1 : wPI H rp = 1) : wpc kt 9 176 [.ref r0] T H (q_176 r0 rp T H) := by
  refine wp_enter e176 (Nat.le_of_ble_eq_true rfl) rfl ?_
  have f0 : wfr [(54, 0), (54, 1), (54, 2), (54, 3), (54, 4), (54, 5), (54, 6), (54, 7), (54, 8), (42, 8), (42, 9), (42, 10), (42, 11), (42, 12), (42, 13), (42, 14), (42, 15), (42, 16), (42, 17), (42, 18), (64, 999), (65, 999), (56, 999), (57, 999), (66, 999), (60, 999), (63, 999), (58, 999), (59, 999), (55, 999), (61, 999), (62, 999), (72, 999), (71, 999), (67, 999), (68, 999), (69, 999)] T H H := wfr.rf
  show wp _ _ 176 0 [(0, .ref r0)] [] _ H _
  have b91016 : (-2147483648) ≤ H r0 10 ∧ H r0 10 ≤ 2147483647 := hW.box g0 (n := 33) rfl (by decide) rfl
  have b91017 : 0 ≤ H r0 9 ∧ H r0 9 ≤ 5 := hW.box g0 (n := 33) rfl (by decide) rfl
  have b91018 : 0 ≤ H r0 8 ∧ H r0 8 ≤ 900 := hW.box g0 (n := 33) rfl (by decide) rfl
  have hb0 := wOV_b (H := H) (m := r0)
  refine wp_of e176 c176_0 (rw_iconst (pc' := 1) rfl ?_)
  refine wp_of e176 c176_1 (rw_istore_n (pc' := 2) (z := 1) (L' := [(1, vI 1), (0, .ref r0)]) rfl rfl rfl ?_)
  have lp91094 : ∀ (n91095 : Nat) (v91097 : Int) (H91098 : wq_H), WT T H91098 → wfr [(54, 0), (54, 1), (54, 2), (54, 3), (54, 4), (54, 5), (54, 6), (54, 7), (54, 8), (42, 8), (42, 9), (42, 10), (42, 11), (42, 12), (42, 13), (42, 14), (42, 15), (42, 16), (42, 17), (42, 18), (64, 999), (65, 999), (56, 999), (57, 999), (66, 999), (60, 999), (63, 999), (58, 999), (59, 999), (55, 999), (61, 999), (62, 999), (72, 999), (71, 999), (67, 999), (68, 999), (69, 999)] T H H91098 → (0 ≤ v91097 ∧ v91097 ≤ 1) → (wJ H91098 r0 = 1) → (H r0 10 ≤ H91098 r0 10) → (wOV H r0 ≤ wOV H91098 r0) → (wPI H91098 rp = 1) → (∀ a, a ≠ rp → T.2.2.2 a = some 54 → H91098 a 3 = H a 3) → (901 - H91098 r0 10).toNat + (v91097).toNat = n91095 → wp kt 8 176 2 [(1, vI v91097), (0, .ref r0)] [] T H91098 (q_176 r0 rp T H) := by
    intro n91095
    induction n91095 using Nat.strongRecOn with
    | _ n91095 ih91096 =>
      intro v91097 H91098 w91099 f91100 b91101 x91102 x91103 x91104 x91105 x91106 m91107
      have f91108 := f0.tr f91100 rfl
      refine wp_of e176 c176_2 (rw_iload_n (pc' := 3) (z := v91097) rfl rfl ?_)
      refine wp_of e176 c176_3 (rw_if_eq (p1 := 20) (p2 := 6) (by decide) rfl ⟨by omega, by omega⟩ (fun c91109 => ?_) (fun c91109 => ?_))
      · refine wp_of e176 c176_20 (rw_aload_n (pc' := 21) (v := .ref r0) rfl rfl rfl ?_)
        refine wp_of e176 c176_21 (xg_I (pc' := 24) lf_9_75 w91099 g0 sh_42 (by decide) (by decide) ty_42_9 rfl rfl (fun b91110 b91111 => ?_))
        have k91112 := wOV_e (H := H91098) (m := r0)
        refine wp_of e176 c176_24 (rw_iconst (pc' := 25) rfl ?_)
        refine wp_of e176 c176_25 (rw_icmp_eq (p1 := 33) (p2 := 28) (by decide) rfl ⟨by omega, by omega⟩ ⟨by omega, by omega⟩ (fun c91113 => ?_) (fun c91113 => ?_))
        · refine wp_of e176 c176_33 (rw_aload_n (pc' := 34) (v := .ref r0) rfl rfl rfl ?_)
          have k91114 : H91098 r0 4 = H r0 4 := (f91100 r0 4 _ g0 rfl)
          have q91115 : H91098 r0 4 = (rp : Int) := k91114.trans qrp
          refine wp_of e176 c176_34 (xg_K (pc' := 37) lf_9_166 w91099 g0 sh_42 (by decide) (by decide) rfl q91115 rfl ?_)
          refine wp_of e176 c176_37 (xg_I (pc' := 40) lf_9_185 w91099 grp sh_54 (by decide) (by decide) ty_54_0 rfl rfl (fun b91116 b91117 => ?_))
          refine wp_of e176 c176_40 (rw_if_eq (p1 := 53) (p2 := 43) (by decide) rfl ⟨by omega, by omega⟩ (fun c91118 => ?_) (fun c91118 => ?_))
          · refine wp_of e176 c176_53 (rw_aload_n (pc' := 54) (v := .ref r0) rfl rfl rfl ?_)
            refine wp_of e176 c176_54 (rw_bipush (pc' := 56) (z := 6) rfl (by decide) ?_)
            refine wp_of e176 c176_56 (xc_V (pc' := 59) (r := r0) (as := [vI 6]) (st := []) (lm_9_121) rfl rfl (Nat.le_of_ble_eq_true rfl) w91099 g0 sh_42 (by decide) rfl (by decide) (s_181 w91099 g0 ⟨by omega, by omega⟩ (by omega)) (fun R91119 T91120 H91121 p91122 => ?_))
            obtain ⟨e91123, w91125, f91126, e91124, p91127, p91128, p91129, p91130, p91131, p91132⟩ := p91122
            subst e91123
            subst e91124
            have f91133 := f91108.tr f91126 rfl
            show wp _ _ 176 59 [(1, vI v91097), (0, .ref r0)] [] _ H91121 _
            have k91134 : wPI H91121 rp = wPI H91098 rp := (wPI_fr w91099 grp f91126 rfl)
            exact wp_return e176 c176_59 rfl ⟨rfl, w91125, f91133, rfl, by omega, by omega, by omega, by omega, by omega, fun a ha ga => ((f91126 a 3 _ ga rfl).trans (x91106 a ha ga))⟩
          · refine wp_of e176 c176_43 (rw_aload_n (pc' := 44) (v := .ref r0) rfl rfl rfl ?_)
            refine wp_of e176 c176_44 (xg_K (pc' := 47) lf_9_166 w91099 g0 sh_42 (by decide) (by decide) rfl q91115 rfl ?_)
            refine wp_of e176 c176_47 (xg_I (pc' := 50) lf_9_188 w91099 grp sh_54 (by decide) (by decide) ty_54_3 rfl rfl (fun b91135 b91136 => ?_))
            refine wp_of e176 c176_50 (rw_if_ne (p1 := 59) (p2 := 53) (by decide) rfl ⟨by omega, by omega⟩ (fun c91137 => ?_) (fun c91137 => ?_))
            · exact wp_return e176 c176_59 rfl ⟨rfl, w91099, f91108, rfl, by omega, by omega, by omega, by omega, by omega, fun a ha ga => (x91106 a ha ga)⟩
            · refine wp_of e176 c176_53 (rw_aload_n (pc' := 54) (v := .ref r0) rfl rfl rfl ?_)
              refine wp_of e176 c176_54 (rw_bipush (pc' := 56) (z := 6) rfl (by decide) ?_)
              refine wp_of e176 c176_56 (xc_V (pc' := 59) (r := r0) (as := [vI 6]) (st := []) (lm_9_121) rfl rfl (Nat.le_of_ble_eq_true rfl) w91099 g0 sh_42 (by decide) rfl (by decide) (s_181 w91099 g0 ⟨by omega, by omega⟩ (by omega)) (fun R91138 T91139 H91140 p91141 => ?_))
              obtain ⟨e91142, w91144, f91145, e91143, p91146, p91147, p91148, p91149, p91150, p91151⟩ := p91141
              subst e91142
              subst e91143
              have f91152 := f91108.tr f91145 rfl
              show wp _ _ 176 59 [(1, vI v91097), (0, .ref r0)] [] _ H91140 _
              have k91153 : wPI H91140 rp = wPI H91098 rp := (wPI_fr w91099 grp f91145 rfl)
              exact wp_return e176 c176_59 rfl ⟨rfl, w91144, f91152, rfl, by omega, by omega, by omega, by omega, by omega, fun a ha ga => ((f91145 a 3 _ ga rfl).trans (x91106 a ha ga))⟩
        · refine wp_of e176 c176_28 (rw_aload_n (pc' := 29) (v := .ref r0) rfl rfl rfl ?_)
          refine wp_of e176 c176_29 (rw_iconst (pc' := 30) rfl ?_)
          refine wp_of e176 c176_30 (xc_V (pc' := 33) (r := r0) (as := [vI 1]) (st := []) (lm_9_121) rfl rfl (Nat.le_of_ble_eq_true rfl) w91099 g0 sh_42 (by decide) rfl (by decide) (s_181 w91099 g0 ⟨by omega, by omega⟩ (by omega)) (fun R91154 T91155 H91156 p91157 => ?_))
          obtain ⟨e91158, w91160, f91161, e91159, p91162, p91163, p91164, p91165, p91166, p91167⟩ := p91157
          subst e91158
          subst e91159
          have f91168 := f91108.tr f91161 rfl
          show wp _ _ 176 33 [(1, vI v91097), (0, .ref r0)] [] _ H91156 _
          refine wp_of e176 c176_33 (rw_aload_n (pc' := 34) (v := .ref r0) rfl rfl rfl ?_)
          have k91169 : H91156 r0 4 = H r0 4 := ((f91161 r0 4 _ g0 rfl).trans (f91100 r0 4 _ g0 rfl))
          have q91170 : H91156 r0 4 = (rp : Int) := k91169.trans qrp
          refine wp_of e176 c176_34 (xg_K (pc' := 37) lf_9_166 w91160 g0 sh_42 (by decide) (by decide) rfl q91170 rfl ?_)
          refine wp_of e176 c176_37 (xg_I (pc' := 40) lf_9_185 w91160 grp sh_54 (by decide) (by decide) ty_54_0 rfl rfl (fun b91171 b91172 => ?_))
          refine wp_of e176 c176_40 (rw_if_eq (p1 := 53) (p2 := 43) (by decide) rfl ⟨by omega, by omega⟩ (fun c91173 => ?_) (fun c91173 => ?_))
          · refine wp_of e176 c176_53 (rw_aload_n (pc' := 54) (v := .ref r0) rfl rfl rfl ?_)
            refine wp_of e176 c176_54 (rw_bipush (pc' := 56) (z := 6) rfl (by decide) ?_)
            refine wp_of e176 c176_56 (xc_V (pc' := 59) (r := r0) (as := [vI 6]) (st := []) (lm_9_121) rfl rfl (Nat.le_of_ble_eq_true rfl) w91160 g0 sh_42 (by decide) rfl (by decide) (s_181 w91160 g0 ⟨by omega, by omega⟩ (by omega)) (fun R91174 T91175 H91176 p91177 => ?_))
            obtain ⟨e91178, w91180, f91181, e91179, p91182, p91183, p91184, p91185, p91186, p91187⟩ := p91177
            subst e91178
            subst e91179
            have f91188 := f91168.tr f91181 rfl
            show wp _ _ 176 59 [(1, vI v91097), (0, .ref r0)] [] _ H91176 _
            have k91189 : wPI H91176 rp = wPI H91098 rp := ((wPI_fr w91160 grp f91181 rfl).trans (wPI_fr w91099 grp f91161 rfl))
            exact wp_return e176 c176_59 rfl ⟨rfl, w91180, f91188, rfl, by omega, by omega, by omega, by omega, by omega, fun a ha ga => ((f91181 a 3 _ ga rfl).trans ((f91161 a 3 _ ga rfl).trans (x91106 a ha ga)))⟩
          · refine wp_of e176 c176_43 (rw_aload_n (pc' := 44) (v := .ref r0) rfl rfl rfl ?_)
            refine wp_of e176 c176_44 (xg_K (pc' := 47) lf_9_166 w91160 g0 sh_42 (by decide) (by decide) rfl q91170 rfl ?_)
            refine wp_of e176 c176_47 (xg_I (pc' := 50) lf_9_188 w91160 grp sh_54 (by decide) (by decide) ty_54_3 rfl rfl (fun b91190 b91191 => ?_))
            refine wp_of e176 c176_50 (rw_if_ne (p1 := 59) (p2 := 53) (by decide) rfl ⟨by omega, by omega⟩ (fun c91192 => ?_) (fun c91192 => ?_))
            · have k91193 : wPI H91156 rp = wPI H91098 rp := (wPI_fr w91099 grp f91161 rfl)
              exact wp_return e176 c176_59 rfl ⟨rfl, w91160, f91168, rfl, by omega, by omega, by omega, by omega, by omega, fun a ha ga => ((f91161 a 3 _ ga rfl).trans (x91106 a ha ga))⟩
            · refine wp_of e176 c176_53 (rw_aload_n (pc' := 54) (v := .ref r0) rfl rfl rfl ?_)
              refine wp_of e176 c176_54 (rw_bipush (pc' := 56) (z := 6) rfl (by decide) ?_)
              refine wp_of e176 c176_56 (xc_V (pc' := 59) (r := r0) (as := [vI 6]) (st := []) (lm_9_121) rfl rfl (Nat.le_of_ble_eq_true rfl) w91160 g0 sh_42 (by decide) rfl (by decide) (s_181 w91160 g0 ⟨by omega, by omega⟩ (by omega)) (fun R91194 T91195 H91196 p91197 => ?_))
              obtain ⟨e91198, w91200, f91201, e91199, p91202, p91203, p91204, p91205, p91206, p91207⟩ := p91197
              subst e91198
              subst e91199
              have f91208 := f91168.tr f91201 rfl
              show wp _ _ 176 59 [(1, vI v91097), (0, .ref r0)] [] _ H91196 _
              have k91209 : wPI H91196 rp = wPI H91098 rp := ((wPI_fr w91160 grp f91201 rfl).trans (wPI_fr w91099 grp f91161 rfl))
              exact wp_return e176 c176_59 rfl ⟨rfl, w91200, f91208, rfl, by omega, by omega, by omega, by omega, by omega, fun a ha ga => ((f91201 a 3 _ ga rfl).trans ((f91161 a 3 _ ga rfl).trans (x91106 a ha ga)))⟩
      · refine wp_of e176 c176_6 (rw_aload_n (pc' := 7) (v := .ref r0) rfl rfl rfl ?_)
        have k91210 : H91098 r0 4 = H r0 4 := (f91100 r0 4 _ g0 rfl)
        have q91211 : H91098 r0 4 = (rp : Int) := k91210.trans qrp
        refine wp_of e176 c176_7 (xc_V (pc' := 10) (r := r0) (as := []) (st := []) (lm_9_179) rfl rfl (Nat.le_of_ble_eq_true rfl) w91099 g0 sh_42 (by decide) rfl (by decide) (s_177 w91099 g0 q91211 grp (by omega) (by omega)) (fun R91212 T91213 H91214 p91215 => ?_))
        obtain ⟨e91216, w91218, f91219, e91217, p91220, p91221, p91222, p91223, p91224, p91225⟩ := p91215
        subst e91216
        subst e91217
        have f91226 := f91108.tr f91219 rfl
        have f91227 := f91100.tr f91219 rfl
        show wp _ _ 176 10 [(1, vI v91097), (0, .ref r0)] [] _ H91214 _
        refine wp_of e176 c176_10 (rw_aload_n (pc' := 11) (v := .ref r0) rfl rfl rfl ?_)
        refine wp_of e176 c176_11 (rw_bipush (pc' := 13) (z := 59) rfl (by decide) ?_)
        refine wp_of e176 c176_13 (xc_V (pc' := 16) (r := r0) (as := [vI 59]) (st := []) (lm_9_182) rfl rfl (Nat.le_of_ble_eq_true rfl) w91218 g0 sh_42 (by decide) rfl (by decide) (s_204 w91218 g0 ⟨by omega, by omega⟩ (by omega)) (fun R91228 T91229 H91230 p91231 => ?_))
        obtain ⟨e91232, w91234, f91235, z91241, e91233, b91242, p91236, p91237, p91238, p91239, p91240⟩ := p91231
        subst e91232
        subst e91233
        have f91243 := f91226.tr f91235 rfl
        have f91244 := f91227.tr f91235 rfl
        show wp _ _ 176 16 [(1, vI v91097), (0, .ref r0)] [vI z91241] _ H91230 _
        refine wp_of e176 c176_16 (rw_istore_n (pc' := 17) (z := z91241) (L' := [(1, vI z91241), (0, .ref r0)]) rfl rfl rfl ?_)
        refine wp_of e176 c176_17 (rw_goto (p1 := 2) (by decide) ?_)
        have k91245 : wPI H91230 rp = wPI H91214 rp := (wPI_fr w91218 grp f91235 rfl)
        exact wp_lc (ks := [1, 0]) (wl_c rfl (wl_c rfl wl_n)) rfl (by decide) (ih91096 _ (by omega) z91241 H91230 w91234 f91244 ⟨by omega, by omega⟩ (by omega) (by omega) (by omega) (by omega) (fun a ha ga => ((f91235 a 3 _ ga rfl).trans ((p91225 a ha ga).trans (x91106 a ha ga)))) rfl)
  exact wp_lc (ks := [1, 0]) (wl_c rfl (wl_c rfl wl_n)) rfl (by decide) (lp91094 _ 1 H hW wfr.rf ⟨by omega, by omega⟩ (by omega) (by omega) (by omega) (by omega) (fun _ _ _ => rfl) rfl)
/-! StrikeAwakeModel.has(II)Z -/
theorem e205 : wq_en 205 = some (9, 2, false, some FieldType.boolean) := rfl
theorem c205_0 : mc_cd 205 0 = some (.iload_n 0, 1) := by decide +kernel
theorem c205_1 : mc_cd 205 1 = some (.iload_n 1, 1) := by decide +kernel
theorem c205_2 : mc_cd 205 2 = some (.ishr, 1) := by decide +kernel
theorem c205_3 : mc_cd 205 3 = some (.iconst 1, 1) := by decide +kernel
theorem c205_4 : mc_cd 205 4 = some (.iand, 1) := by decide +kernel
theorem c205_5 : mc_cd 205 5 = some (.iconst 1, 1) := by decide +kernel
theorem c205_6 : mc_cd 205 6 = some (.if_icmp .ne 7, 3) := by decide +kernel
theorem c205_9 : mc_cd 205 9 = some (.iconst 1, 1) := by decide +kernel
theorem c205_10 : mc_cd 205 10 = some (.goto 4, 3) := by decide +kernel
theorem c205_13 : mc_cd 205 13 = some (.iconst 0, 1) := by decide +kernel
theorem c205_14 : mc_cd 205 14 = some (.ireturn, 1) := by decide +kernel
abbrev q_205 (a0 : Int) (a1 : Int) (T : wq_T) (H : wq_H) : Option Value → wq_T → wq_H → Prop := fun r T' H' => T = T' ∧ H = H' ∧ ∃ z : Int, some (vI z) = r ∧ (0 ≤ z ∧ z ≤ 1)
set_option maxHeartbeats 4000000 in
theorem s_205 {kt : Nat → Option mc_E} {T : wq_T} {H : wq_H} {a0 : Int} {a1 : Int} (hW : WT T H) (i0 : (-2147483648) ≤ a0 ∧ a0 ≤ 2147483647) (i1 : (-2147483648) ≤ a1 ∧ a1 ≤ 2147483647) : wpc kt 1 205 [vI a0, vI a1] T H (q_205 a0 a1 T H) := by
  refine wp_enter e205 (Nat.le_of_ble_eq_true rfl) rfl ?_
  show wp _ _ 205 0 [(0, vI a0), (1, vI a1)] [] _ H _
  refine wp_of e205 c205_0 (rw_iload_n (pc' := 1) (z := a0) rfl rfl ?_)
  refine wp_of e205 c205_1 (rw_iload_n (pc' := 2) (z := a1) rfl rfl ?_)
  refine wp_of e205 c205_2 (rw_ishr (pc' := 3) rfl ?_)
  obtain ⟨v91251, e91252⟩ : ∃ x : Int, x = wq_shr a0 a1 := ⟨_, rfl⟩
  rw [← e91252]
  have b91253 : -2147483648 ≤ v91251 ∧ v91251 ≤ 2147483647 := by
    rw [e91252]
    exact wI_shr _ _
  refine wp_of e205 c205_3 (rw_iconst (pc' := 4) rfl ?_)
  refine wp_of e205 c205_4 (rw_iand (pc' := 5) rfl ?_)
  obtain ⟨v91254, e91255⟩ : ∃ x : Int, x = wq_and v91251 1 := ⟨_, rfl⟩
  rw [← e91255]
  have b91256 : 0 ≤ v91254 ∧ v91254 ≤ 1 := by
    rw [e91255]
    exact wq_and_b _ (by omega) (by omega)
  refine wp_of e205 c205_5 (rw_iconst (pc' := 6) rfl ?_)
  refine wp_of e205 c205_6 (rw_icmp_ne (p1 := 13) (p2 := 9) (by decide) rfl ⟨by omega, by omega⟩ ⟨by omega, by omega⟩ (fun c91257 => ?_) (fun c91257 => ?_))
  · refine wp_of e205 c205_13 (rw_iconst (pc' := 14) rfl ?_)
    exact wp_zreturn e205 c205_14 rfl (by omega) ⟨rfl, rfl, 0, rfl, ⟨by omega, by omega⟩⟩
  · refine wp_of e205 c205_9 (rw_iconst (pc' := 10) rfl ?_)
    refine wp_of e205 c205_10 (rw_goto (p1 := 14) (by decide) ?_)
    exact wp_zreturn e205 c205_14 rfl (by omega) ⟨rfl, rfl, 1, rfl, ⟨by omega, by omega⟩⟩
/-! StrikeAwakeModel.struckHours()I -/
theorem e207 : wq_en 207 = some (9, 3, false, some FieldType.int) := rfl
theorem c207_0 : mc_cd 207 0 = some (.iconst 0, 1) := by decide +kernel
theorem c207_1 : mc_cd 207 1 = some (.istore_n 1, 1) := by decide +kernel
theorem c207_2 : mc_cd 207 2 = some (.iconst 0, 1) := by decide +kernel
theorem c207_3 : mc_cd 207 3 = some (.istore_n 2, 1) := by decide +kernel
theorem c207_4 : mc_cd 207 4 = some (.iload_n 2, 1) := by decide +kernel
theorem c207_5 : mc_cd 207 5 = some (.bipush 24, 2) := by decide +kernel
theorem c207_7 : mc_cd 207 7 = some (.if_icmp .ge 28, 3) := by decide +kernel
theorem c207_10 : mc_cd 207 10 = some (.iload_n 1, 1) := by decide +kernel
theorem c207_11 : mc_cd 207 11 = some (.aload_n 0, 1) := by decide +kernel
theorem c207_12 : mc_cd 207 12 = some (.getfield 17, 3) := by decide +kernel
theorem c207_15 : mc_cd 207 15 = some (.iload_n 2, 1) := by decide +kernel
theorem c207_16 : mc_cd 207 16 = some (.iaload, 1) := by decide +kernel
theorem c207_17 : mc_cd 207 17 = some (.ifCond .le 9, 3) := by decide +kernel
theorem c207_20 : mc_cd 207 20 = some (.iconst 1, 1) := by decide +kernel
theorem c207_21 : mc_cd 207 21 = some (.iload_n 2, 1) := by decide +kernel
theorem c207_22 : mc_cd 207 22 = some (.ishl, 1) := by decide +kernel
theorem c207_23 : mc_cd 207 23 = some (.goto 4, 3) := by decide +kernel
theorem c207_26 : mc_cd 207 26 = some (.iconst 0, 1) := by decide +kernel
theorem c207_27 : mc_cd 207 27 = some (.ior, 1) := by decide +kernel
theorem c207_28 : mc_cd 207 28 = some (.istore_n 1, 1) := by decide +kernel
theorem c207_29 : mc_cd 207 29 = some (.iinc 2 1, 3) := by decide +kernel
theorem c207_32 : mc_cd 207 32 = some (.goto (-28), 3) := by decide +kernel
theorem c207_35 : mc_cd 207 35 = some (.iload_n 1, 1) := by decide +kernel
theorem c207_36 : mc_cd 207 36 = some (.ireturn, 1) := by decide +kernel
abbrev q_207 (r0 : Nat) (T : wq_T) (H : wq_H) : Option Value → wq_T → wq_H → Prop := fun r T' H' => T = T' ∧ H = H' ∧ ∃ z : Int, some (vI z) = r ∧ (0 ≤ z ∧ z ≤ 16777215)
set_option maxHeartbeats 4000000 in
theorem s_207 {kt : Nat → Option mc_E} {T : wq_T} {H : wq_H} {r0 : Nat} (hW : WT T H) (g0 : T.2.2.2 r0 = some 42) : wpc kt 1 207 [.ref r0] T H (q_207 r0 T H) := by
  refine wp_enter e207 (Nat.le_of_ble_eq_true rfl) rfl ?_
  show wp _ _ 207 0 [(0, .ref r0)] [] _ H _
  refine wp_of e207 c207_0 (rw_iconst (pc' := 1) rfl ?_)
  refine wp_of e207 c207_1 (rw_istore_n (pc' := 2) (z := 0) (L' := [(1, vI 0), (0, .ref r0)]) rfl rfl rfl ?_)
  refine wp_of e207 c207_2 (rw_iconst (pc' := 3) rfl ?_)
  refine wp_of e207 c207_3 (rw_istore_n (pc' := 4) (z := 0) (L' := [(2, vI 0), (1, vI 0), (0, .ref r0)]) rfl rfl rfl ?_)
  have lp91480 : ∀ (n91481 : Nat) (v91483 : Int) (v91484 : Int), (0 ≤ v91483 ∧ v91483 ≤ 24) → (0 ≤ v91484 ∧ v91484 ≤ 16777215) → (24 - v91483).toNat = n91481 → wp kt 0 207 4 [(2, vI v91483), (1, vI v91484), (0, .ref r0)] [] T H (q_207 r0 T H) := by
    intro n91481
    induction n91481 using Nat.strongRecOn with
    | _ n91481 ih91482 =>
      intro v91483 v91484 b91487 b91488 m91489
      refine wp_of e207 c207_4 (rw_iload_n (pc' := 5) (z := v91483) rfl rfl ?_)
      refine wp_of e207 c207_5 (rw_bipush (pc' := 7) (z := 24) rfl (by decide) ?_)
      refine wp_of e207 c207_7 (rw_icmp_ge (p1 := 35) (p2 := 10) (by decide) rfl ⟨by omega, by omega⟩ ⟨by omega, by omega⟩ (fun c91490 => ?_) (fun c91490 => ?_))
      · refine wp_of e207 c207_35 (rw_iload_n (pc' := 36) (z := v91484) rfl rfl ?_)
        exact wp_ireturn e207 c207_36 rfl ⟨rfl, rfl, v91484, rfl, ⟨by omega, by omega⟩⟩
      · refine wp_of e207 c207_10 (rw_iload_n (pc' := 11) (z := v91484) rfl rfl ?_)
        refine wp_of e207 c207_11 (rw_aload_n (pc' := 12) (v := .ref r0) rfl rfl rfl ?_)
        refine wp_of e207 c207_12 (xg_R (pc' := 15) lf_9_17 hW g0 sh_42 (by decide) (by decide) ty_42_20 rfl rfl (fun r91491 q91492 g91493 => ?_))
        refine wp_of e207 c207_15 (rw_iload_n (pc' := 16) (z := v91483) rfl rfl ?_)
        refine wp_of e207 c207_16 (xa_I (so := 0) (pc' := 17) hW g91493 sh_44 (by decide) (ty_44 _) (by omega) (by omega) rfl (fun b91494 b91495 => ?_))
        refine wp_of e207 c207_17 (rw_if_le (p1 := 26) (p2 := 20) (by decide) rfl ⟨by omega, by omega⟩ (fun c91496 => ?_) (fun c91496 => ?_))
        · refine wp_of e207 c207_26 (rw_iconst (pc' := 27) rfl ?_)
          refine wp_of e207 c207_27 (rw_ior (pc' := 28) rfl ?_)
          obtain ⟨v91497, e91498⟩ : ∃ x : Int, x = wq_or v91484 0 := ⟨_, rfl⟩
          rw [← e91498]
          have b91499 : 0 ≤ v91497 ∧ v91497 ≤ 16777215 := by
            rw [e91498]
            exact wq_or_24 ⟨by omega, by omega⟩ ⟨by omega, by omega⟩
          refine wp_of e207 c207_28 (rw_istore_n (pc' := 29) (z := v91497) (L' := [(1, vI v91497), (2, vI v91483), (0, .ref r0)]) rfl rfl rfl ?_)
          refine wp_of e207 c207_29 (rw_iinc (pc' := 32) (z := v91483) (L' := [(2, vI (v91483 + 1)), (1, vI v91497), (0, .ref r0)]) rfl rfl rfl rfl ?_)
          refine wp_of e207 c207_32 (rw_goto (p1 := 4) (by decide) ?_)
          exact wp_lc (ks := [2, 1, 0]) (wl_c rfl (wl_c rfl (wl_c rfl wl_n))) rfl (by decide) (ih91482 _ (by omega) (v91483 + 1) v91497 ⟨by omega, by omega⟩ ⟨by omega, by omega⟩ rfl)
        · refine wp_of e207 c207_20 (rw_iconst (pc' := 21) rfl ?_)
          refine wp_of e207 c207_21 (rw_iload_n (pc' := 22) (z := v91483) rfl rfl ?_)
          refine wp_of e207 c207_22 (rw_ishl (pc' := 23) rfl ?_)
          obtain ⟨v91500, e91501⟩ : ∃ x : Int, x = wq_shl 1 v91483 := ⟨_, rfl⟩
          rw [← e91501]
          have b91502 : 1 ≤ v91500 ∧ v91500 ≤ 8388608 := by
            rw [e91501]
            exact wq_shl1_24 ⟨by omega, by omega⟩
          refine wp_of e207 c207_23 (rw_goto (p1 := 27) (by decide) ?_)
          refine wp_of e207 c207_27 (rw_ior (pc' := 28) rfl ?_)
          obtain ⟨v91503, e91504⟩ : ∃ x : Int, x = wq_or v91484 v91500 := ⟨_, rfl⟩
          rw [← e91504]
          have b91505 : 0 ≤ v91503 ∧ v91503 ≤ 16777215 := by
            rw [e91504]
            exact wq_or_24 ⟨by omega, by omega⟩ ⟨by omega, by omega⟩
          refine wp_of e207 c207_28 (rw_istore_n (pc' := 29) (z := v91503) (L' := [(1, vI v91503), (2, vI v91483), (0, .ref r0)]) rfl rfl rfl ?_)
          refine wp_of e207 c207_29 (rw_iinc (pc' := 32) (z := v91483) (L' := [(2, vI (v91483 + 1)), (1, vI v91503), (0, .ref r0)]) rfl rfl rfl rfl ?_)
          refine wp_of e207 c207_32 (rw_goto (p1 := 4) (by decide) ?_)
          exact wp_lc (ks := [2, 1, 0]) (wl_c rfl (wl_c rfl (wl_c rfl wl_n))) rfl (by decide) (ih91482 _ (by omega) (v91483 + 1) v91503 ⟨by omega, by omega⟩ ⟨by omega, by omega⟩ rfl)
  exact wp_lc (ks := [2, 1, 0]) (wl_c rfl (wl_c rfl (wl_c rfl wl_n))) rfl (by decide) (lp91480 _ 0 0 ⟨by omega, by omega⟩ ⟨by omega, by omega⟩ rfl)
/-! StrikeAwakeModel.lay(IIIII)V -/
theorem e208 : wq_en 208 = some (9, 7, false, none) := rfl
theorem c208_0 : mc_cd 208 0 = some (.bipush 40, 2) := by decide +kernel
theorem c208_2 : mc_cd 208 2 = some (.iload_n 1, 1) := by decide +kernel
theorem c208_3 : mc_cd 208 3 = some (.imul, 1) := by decide +kernel
theorem c208_4 : mc_cd 208 4 = some (.aload_n 0, 1) := by decide +kernel
theorem c208_5 : mc_cd 208 5 = some (.getfield 21, 3) := by decide +kernel
theorem c208_8 : mc_cd 208 8 = some (.iload_n 1, 1) := by decide +kernel
theorem c208_9 : mc_cd 208 9 = some (.iaload, 1) := by decide +kernel
theorem c208_10 : mc_cd 208 10 = some (.iadd, 1) := by decide +kernel
theorem c208_11 : mc_cd 208 11 = some (.istore 6, 2) := by decide +kernel
theorem c208_13 : mc_cd 208 13 = some (.aload_n 0, 1) := by decide +kernel
theorem c208_14 : mc_cd 208 14 = some (.getfield 24, 3) := by decide +kernel
theorem c208_17 : mc_cd 208 17 = some (.iload 6, 2) := by decide +kernel
theorem c208_19 : mc_cd 208 19 = some (.iload_n 2, 1) := by decide +kernel
theorem c208_20 : mc_cd 208 20 = some (.iastore, 1) := by decide +kernel
theorem c208_21 : mc_cd 208 21 = some (.aload_n 0, 1) := by decide +kernel
theorem c208_22 : mc_cd 208 22 = some (.getfield 27, 3) := by decide +kernel
theorem c208_25 : mc_cd 208 25 = some (.iload 6, 2) := by decide +kernel
theorem c208_27 : mc_cd 208 27 = some (.iload_n 3, 1) := by decide +kernel
theorem c208_28 : mc_cd 208 28 = some (.iastore, 1) := by decide +kernel
theorem c208_29 : mc_cd 208 29 = some (.aload_n 0, 1) := by decide +kernel
theorem c208_30 : mc_cd 208 30 = some (.getfield 30, 3) := by decide +kernel
theorem c208_33 : mc_cd 208 33 = some (.iload 6, 2) := by decide +kernel
theorem c208_35 : mc_cd 208 35 = some (.iload 4, 2) := by decide +kernel
theorem c208_37 : mc_cd 208 37 = some (.iastore, 1) := by decide +kernel
theorem c208_38 : mc_cd 208 38 = some (.aload_n 0, 1) := by decide +kernel
theorem c208_39 : mc_cd 208 39 = some (.getfield 33, 3) := by decide +kernel
theorem c208_42 : mc_cd 208 42 = some (.iload 6, 2) := by decide +kernel
theorem c208_44 : mc_cd 208 44 = some (.iload 5, 2) := by decide +kernel
theorem c208_46 : mc_cd 208 46 = some (.iastore, 1) := by decide +kernel
theorem c208_47 : mc_cd 208 47 = some (.aload_n 0, 1) := by decide +kernel
theorem c208_48 : mc_cd 208 48 = some (.getfield 21, 3) := by decide +kernel
theorem c208_51 : mc_cd 208 51 = some (.iload_n 1, 1) := by decide +kernel
theorem c208_52 : mc_cd 208 52 = some (.dup2, 1) := by decide +kernel
theorem c208_53 : mc_cd 208 53 = some (.iaload, 1) := by decide +kernel
theorem c208_54 : mc_cd 208 54 = some (.iconst 1, 1) := by decide +kernel
theorem c208_55 : mc_cd 208 55 = some (.iadd, 1) := by decide +kernel
theorem c208_56 : mc_cd 208 56 = some (.iastore, 1) := by decide +kernel
theorem c208_57 : mc_cd 208 57 = some (.return_, 1) := by decide +kernel
abbrev q_208 (r0 : Nat) (a1 : Int) (a2 : Int) (a3 : Int) (a4 : Int) (a5 : Int) (sp : Nat) (T : wq_T) (H : wq_H) : Option Value → wq_T → wq_H → Prop := fun r T' H' => T = T' ∧ WT T H' ∧ wfr [(48, 999), (49, 999), (46, 999), (47, 999), (45, 999)] T H H' ∧ none = r ∧ (H' sp (a1).toNat = H sp (a1).toNat + 1)
set_option maxHeartbeats 4000000 in
theorem s_208 {kt : Nat → Option mc_E} {T : wq_T} {H : wq_H} {r0 : Nat} {a1 : Int} {a2 : Int} {a3 : Int} {a4 : Int} {a5 : Int} {sp : Nat} (hW : WT T H) (g0 : T.2.2.2 r0 = some 42) (i1 : 0 ≤ a1 ∧ a1 ≤ 5) (i2 : 0 ≤ a2 ∧ a2 ≤ 30) (i3 : 0 ≤ a3 ∧ a3 ≤ 16) (i4 : (-2147483648) ≤ a4 ∧ a4 ≤ 2147483647) (i5 : (-2147483648) ≤ a5 ∧ a5 ≤ 2147483647) (qsp : H r0 21 = (sp : Int)) (gsp : T.2.2.2 sp = some 45) (p0 : H sp (a1).toNat ≤ 39) : wpc kt 1 208 [.ref r0, vI a1, vI a2, vI a3, vI a4, vI a5] T H (q_208 r0 a1 a2 a3 a4 a5 sp T H) := by
  refine wp_enter e208 (Nat.le_of_ble_eq_true rfl) rfl ?_
  have f0 : wfr [(48, 999), (49, 999), (46, 999), (47, 999), (45, 999)] T H H := wfr.rf
  show wp _ _ 208 0 [(0, .ref r0), (1, vI a1), (2, vI a2), (3, vI a3), (4, vI a4), (5, vI a5)] [] _ H _
  refine wp_of e208 c208_0 (rw_bipush (pc' := 2) (z := 40) rfl (by decide) ?_)
  refine wp_of e208 c208_2 (rw_iload_n (pc' := 3) (z := a1) rfl rfl ?_)
  refine wp_of e208 c208_3 (rw_imul (pc' := 4) rfl ?_)
  refine wp_of e208 c208_4 (rw_aload_n (pc' := 5) (v := .ref r0) rfl rfl rfl ?_)
  refine wp_of e208 c208_5 (xg_K (pc' := 8) lf_9_21 hW g0 sh_42 (by decide) (by decide) rfl qsp rfl ?_)
  refine wp_of e208 c208_8 (rw_iload_n (pc' := 9) (z := a1) rfl rfl ?_)
  refine wp_of e208 c208_9 (xa_I (so := 0) (pc' := 10) hW gsp sh_45 (by decide) (ty_45 _) (by omega) (by omega) rfl (fun b91546 b91547 => ?_))
  refine wp_of e208 c208_10 (rw_iadd (pc' := 11) rfl ?_)
  refine wp_of e208 c208_11 (rw_istore (pc' := 13) (z := (40 * a1) + (H sp (a1.toNat))) (L' := [(6, vI ((40 * a1) + (H sp (a1.toNat)))), (0, .ref r0), (1, vI a1), (2, vI a2), (3, vI a3), (4, vI a4), (5, vI a5)]) rfl rfl rfl ?_)
  refine wp_of e208 c208_13 (rw_aload_n (pc' := 14) (v := .ref r0) rfl rfl rfl ?_)
  refine wp_of e208 c208_14 (xg_R (pc' := 17) lf_9_24 hW g0 sh_42 (by decide) (by decide) ty_42_22 rfl rfl (fun r91548 q91549 g91550 => ?_))
  refine wp_of e208 c208_17 (rw_iload (pc' := 19) (z := (40 * a1) + (H sp (a1.toNat))) rfl rfl ?_)
  refine wp_of e208 c208_19 (rw_iload_n (pc' := 20) (z := a2) rfl rfl ?_)
  refine wp_of e208 c208_20 (xs_I (pc' := 21) hW g91550 (by decide) sh_46 (by decide) (ty_46 _) (by omega) (by omega) ⟨by omega, by omega⟩ (by omega) (by omega) rfl (fun H91551 e91552 w91553 => ?_))
  have f91554 := f0.put' e91552 g91550 rfl
  refine wp_of e208 c208_21 (rw_aload_n (pc' := 22) (v := .ref r0) rfl rfl rfl ?_)
  refine wp_of e208 c208_22 (xg_R (pc' := 25) lf_9_27 w91553 g0 sh_42 (by decide) (by decide) ty_42_23 rfl rfl (fun r91555 q91556 g91557 => ?_))
  refine wp_of e208 c208_25 (rw_iload (pc' := 27) (z := (40 * a1) + (H sp (a1.toNat))) rfl rfl ?_)
  refine wp_of e208 c208_27 (rw_iload_n (pc' := 28) (z := a3) rfl rfl ?_)
  refine wp_of e208 c208_28 (xs_I (pc' := 29) w91553 g91557 (by decide) sh_47 (by decide) (ty_47 _) (by omega) (by omega) ⟨by omega, by omega⟩ (by omega) (by omega) rfl (fun H91558 e91559 w91560 => ?_))
  have f91561 := f91554.put' e91559 g91557 rfl
  refine wp_of e208 c208_29 (rw_aload_n (pc' := 30) (v := .ref r0) rfl rfl rfl ?_)
  refine wp_of e208 c208_30 (xg_R (pc' := 33) lf_9_30 w91560 g0 sh_42 (by decide) (by decide) ty_42_24 rfl rfl (fun r91562 q91563 g91564 => ?_))
  refine wp_of e208 c208_33 (rw_iload (pc' := 35) (z := (40 * a1) + (H sp (a1.toNat))) rfl rfl ?_)
  refine wp_of e208 c208_35 (rw_iload (pc' := 37) (z := a4) rfl rfl ?_)
  refine wp_of e208 c208_37 (xs_I (pc' := 38) w91560 g91564 (by decide) sh_48 (by decide) (ty_48 _) (by omega) (by omega) ⟨by omega, by omega⟩ (by omega) (by omega) rfl (fun H91565 e91566 w91567 => ?_))
  have f91568 := f91561.put' e91566 g91564 rfl
  refine wp_of e208 c208_38 (rw_aload_n (pc' := 39) (v := .ref r0) rfl rfl rfl ?_)
  refine wp_of e208 c208_39 (xg_R (pc' := 42) lf_9_33 w91567 g0 sh_42 (by decide) (by decide) ty_42_25 rfl rfl (fun r91569 q91570 g91571 => ?_))
  refine wp_of e208 c208_42 (rw_iload (pc' := 44) (z := (40 * a1) + (H sp (a1.toNat))) rfl rfl ?_)
  refine wp_of e208 c208_44 (rw_iload (pc' := 46) (z := a5) rfl rfl ?_)
  refine wp_of e208 c208_46 (xs_I (pc' := 47) w91567 g91571 (by decide) sh_49 (by decide) (ty_49 _) (by omega) (by omega) ⟨by omega, by omega⟩ (by omega) (by omega) rfl (fun H91572 e91573 w91574 => ?_))
  have f91575 := f91568.put' e91573 g91571 rfl
  refine wp_of e208 c208_47 (rw_aload_n (pc' := 48) (v := .ref r0) rfl rfl rfl ?_)
  have k91576 : H91572 r0 21 = H r0 21 := ((wq_u_t e91573 g91571 g0 rfl 21).trans ((wq_u_t e91566 g91564 g0 rfl 21).trans ((wq_u_t e91559 g91557 g0 rfl 21).trans (wq_u_t e91552 g91550 g0 rfl 21))))
  have q91577 : H91572 r0 21 = (sp : Int) := k91576.trans qsp
  refine wp_of e208 c208_48 (xg_K (pc' := 51) lf_9_21 w91574 g0 sh_42 (by decide) (by decide) rfl q91577 rfl ?_)
  refine wp_of e208 c208_51 (rw_iload_n (pc' := 52) (z := a1) rfl rfl ?_)
  refine wp_of e208 c208_52 (rw_dup2 (pc' := 53) rfl rfl rfl ?_)
  have k91578 : H91572 sp (a1.toNat) = H sp (a1.toNat) := ((wq_u_t e91573 g91571 gsp rfl (a1.toNat)).trans ((wq_u_t e91566 g91564 gsp rfl (a1.toNat)).trans ((wq_u_t e91559 g91557 gsp rfl (a1.toNat)).trans (wq_u_t e91552 g91550 gsp rfl (a1.toNat)))))
  refine wp_of e208 c208_53 (xa_I (so := 0) (pc' := 54) w91574 gsp sh_45 (by decide) (ty_45 _) (by omega) (by omega) rfl (fun b91579 b91580 => ?_))
  refine wp_of e208 c208_54 (rw_iconst (pc' := 55) rfl ?_)
  refine wp_of e208 c208_55 (rw_iadd (pc' := 56) rfl ?_)
  refine wp_of e208 c208_56 (xs_I (pc' := 57) w91574 gsp (by decide) sh_45 (by decide) (ty_45 _) (by omega) (by omega) ⟨by omega, by omega⟩ (by omega) (by omega) rfl (fun H91581 e91582 w91583 => ?_))
  have f91584 := f91575.put' e91582 gsp rfl
  have k91585 : H91581 sp (a1.toNat) = (H91572 sp (a1.toNat)) + 1 := wq_u_s e91582
  exact wp_return e208 c208_57 rfl ⟨rfl, w91583, f91584, rfl, by omega⟩
/-! StrikeAwakeModel.lays()V -/
theorem e206 : wq_en 206 = some (9, 7, false, none) := rfl
theorem c206_0 : mc_cd 206 0 = some (.aload_n 0, 1) := by decide +kernel
theorem c206_1 : mc_cd 206 1 = some (.invokevirtual 357, 3) := by decide +kernel
theorem c206_4 : mc_cd 206 4 = some (.istore_n 1, 1) := by decide +kernel
theorem c206_5 : mc_cd 206 5 = some (.iconst 0, 1) := by decide +kernel
theorem c206_6 : mc_cd 206 6 = some (.istore_n 2, 1) := by decide +kernel
theorem c206_7 : mc_cd 206 7 = some (.iload_n 2, 1) := by decide +kernel
theorem c206_8 : mc_cd 206 8 = some (.aload_n 0, 1) := by decide +kernel
theorem c206_9 : mc_cd 206 9 = some (.getfield 337, 3) := by decide +kernel
theorem c206_12 : mc_cd 206 12 = some (.getfield 188, 3) := by decide +kernel
theorem c206_15 : mc_cd 206 15 = some (.if_icmp .ge 181, 3) := by decide +kernel
theorem c206_18 : mc_cd 206 18 = some (.aload_n 0, 1) := by decide +kernel
theorem c206_19 : mc_cd 206 19 = some (.getfield 21, 3) := by decide +kernel
theorem c206_22 : mc_cd 206 22 = some (.iload_n 2, 1) := by decide +kernel
theorem c206_23 : mc_cd 206 23 = some (.iconst 0, 1) := by decide +kernel
theorem c206_24 : mc_cd 206 24 = some (.iastore, 1) := by decide +kernel
theorem c206_25 : mc_cd 206 25 = some (.aload_n 0, 1) := by decide +kernel
theorem c206_26 : mc_cd 206 26 = some (.getfield 337, 3) := by decide +kernel
theorem c206_29 : mc_cd 206 29 = some (.getfield 267, 3) := by decide +kernel
theorem c206_32 : mc_cd 206 32 = some (.iload_n 2, 1) := by decide +kernel
theorem c206_33 : mc_cd 206 33 = some (.baload, 1) := by decide +kernel
theorem c206_34 : mc_cd 206 34 = some (.ifCond .eq 15, 3) := by decide +kernel
theorem c206_37 : mc_cd 206 37 = some (.aload_n 0, 1) := by decide +kernel
theorem c206_38 : mc_cd 206 38 = some (.iload_n 2, 1) := by decide +kernel
theorem c206_39 : mc_cd 206 39 = some (.iconst 0, 1) := by decide +kernel
theorem c206_40 : mc_cd 206 40 = some (.iconst 0, 1) := by decide +kernel
theorem c206_41 : mc_cd 206 41 = some (.iconst 0, 1) := by decide +kernel
theorem c206_42 : mc_cd 206 42 = some (.iconst 0, 1) := by decide +kernel
theorem c206_43 : mc_cd 206 43 = some (.invokevirtual 360, 3) := by decide +kernel
theorem c206_46 : mc_cd 206 46 = some (.goto 144, 3) := by decide +kernel
theorem c206_49 : mc_cd 206 49 = some (.aload_n 0, 1) := by decide +kernel
theorem c206_50 : mc_cd 206 50 = some (.getfield 337, 3) := by decide +kernel
theorem c206_53 : mc_cd 206 53 = some (.getfield 261, 3) := by decide +kernel
theorem c206_56 : mc_cd 206 56 = some (.iload_n 2, 1) := by decide +kernel
theorem c206_57 : mc_cd 206 57 = some (.iaload, 1) := by decide +kernel
theorem c206_58 : mc_cd 206 58 = some (.aload_n 0, 1) := by decide +kernel
theorem c206_59 : mc_cd 206 59 = some (.getfield 337, 3) := by decide +kernel
theorem c206_62 : mc_cd 206 62 = some (.getfield 264, 3) := by decide +kernel
theorem c206_65 : mc_cd 206 65 = some (.iload_n 2, 1) := by decide +kernel
theorem c206_66 : mc_cd 206 66 = some (.iaload, 1) := by decide +kernel
theorem c206_67 : mc_cd 206 67 = some (.invokestatic 318, 3) := by decide +kernel
theorem c206_70 : mc_cd 206 70 = some (.istore_n 3, 1) := by decide +kernel
theorem c206_71 : mc_cd 206 71 = some (.aload_n 0, 1) := by decide +kernel
theorem c206_72 : mc_cd 206 72 = some (.getfield 337, 3) := by decide +kernel
theorem c206_75 : mc_cd 206 75 = some (.getfield 247, 3) := by decide +kernel
theorem c206_78 : mc_cd 206 78 = some (.iload_n 2, 1) := by decide +kernel
theorem c206_79 : mc_cd 206 79 = some (.iaload, 1) := by decide +kernel
theorem c206_80 : mc_cd 206 80 = some (.istore 4, 2) := by decide +kernel
theorem c206_82 : mc_cd 206 82 = some (.iload 4, 2) := by decide +kernel
theorem c206_84 : mc_cd 206 84 = some (.aload_n 0, 1) := by decide +kernel
theorem c206_85 : mc_cd 206 85 = some (.getfield 337, 3) := by decide +kernel
theorem c206_88 : mc_cd 206 88 = some (.getfield 250, 3) := by decide +kernel
theorem c206_91 : mc_cd 206 91 = some (.iload_n 2, 1) := by decide +kernel
theorem c206_92 : mc_cd 206 92 = some (.iaload, 1) := by decide +kernel
theorem c206_93 : mc_cd 206 93 = some (.if_icmp .gt 97, 3) := by decide +kernel
theorem c206_96 : mc_cd 206 96 = some (.aload_n 0, 1) := by decide +kernel
theorem c206_97 : mc_cd 206 97 = some (.getfield 337, 3) := by decide +kernel
theorem c206_100 : mc_cd 206 100 = some (.getfield 253, 3) := by decide +kernel
theorem c206_103 : mc_cd 206 103 = some (.iload_n 2, 1) := by decide +kernel
theorem c206_104 : mc_cd 206 104 = some (.iaload, 1) := by decide +kernel
theorem c206_105 : mc_cd 206 105 = some (.istore 5, 2) := by decide +kernel
theorem c206_107 : mc_cd 206 107 = some (.iload 5, 2) := by decide +kernel
theorem c206_109 : mc_cd 206 109 = some (.aload_n 0, 1) := by decide +kernel
theorem c206_110 : mc_cd 206 110 = some (.getfield 337, 3) := by decide +kernel
theorem c206_113 : mc_cd 206 113 = some (.getfield 256, 3) := by decide +kernel
theorem c206_116 : mc_cd 206 116 = some (.iload_n 2, 1) := by decide +kernel
theorem c206_117 : mc_cd 206 117 = some (.iaload, 1) := by decide +kernel
theorem c206_118 : mc_cd 206 118 = some (.if_icmp .gt 66, 3) := by decide +kernel
theorem c206_121 : mc_cd 206 121 = some (.iload 4, 2) := by decide +kernel
theorem c206_123 : mc_cd 206 123 = some (.iload 4, 2) := by decide +kernel
theorem c206_125 : mc_cd 206 125 = some (.iload 5, 2) := by decide +kernel
theorem c206_127 : mc_cd 206 127 = some (.iadd, 1) := by decide +kernel
theorem c206_128 : mc_cd 206 128 = some (.invokestatic 318, 3) := by decide +kernel
theorem c206_131 : mc_cd 206 131 = some (.iload_n 3, 1) := by decide +kernel
theorem c206_132 : mc_cd 206 132 = some (.ior, 1) := by decide +kernel
theorem c206_133 : mc_cd 206 133 = some (.aload_n 0, 1) := by decide +kernel
theorem c206_134 : mc_cd 206 134 = some (.getfield 343, 3) := by decide +kernel
theorem c206_137 : mc_cd 206 137 = some (.iand, 1) := by decide +kernel
theorem c206_138 : mc_cd 206 138 = some (.istore 6, 2) := by decide +kernel
theorem c206_140 : mc_cd 206 140 = some (.iload_n 2, 1) := by decide +kernel
theorem c206_141 : mc_cd 206 141 = some (.aload_n 0, 1) := by decide +kernel
theorem c206_142 : mc_cd 206 142 = some (.getfield 337, 3) := by decide +kernel
theorem c206_145 : mc_cd 206 145 = some (.getfield 271, 3) := by decide +kernel
theorem c206_148 : mc_cd 206 148 = some (.if_icmp .ne 10, 3) := by decide +kernel
theorem c206_151 : mc_cd 206 151 = some (.iload 6, 2) := by decide +kernel
theorem c206_153 : mc_cd 206 153 = some (.iload_n 1, 1) := by decide +kernel
theorem c206_154 : mc_cd 206 154 = some (.iand, 1) := by decide +kernel
theorem c206_155 : mc_cd 206 155 = some (.ifCond .ne 23, 3) := by decide +kernel
theorem c206_158 : mc_cd 206 158 = some (.aload_n 0, 1) := by decide +kernel
theorem c206_159 : mc_cd 206 159 = some (.iload_n 2, 1) := by decide +kernel
theorem c206_160 : mc_cd 206 160 = some (.iload 4, 2) := by decide +kernel
theorem c206_162 : mc_cd 206 162 = some (.iload 5, 2) := by decide +kernel
theorem c206_164 : mc_cd 206 164 = some (.iload 6, 2) := by decide +kernel
theorem c206_166 : mc_cd 206 166 = some (.aload_n 0, 1) := by decide +kernel
theorem c206_167 : mc_cd 206 167 = some (.getfield 343, 3) := by decide +kernel
theorem c206_170 : mc_cd 206 170 = some (.iload 6, 2) := by decide +kernel
theorem c206_172 : mc_cd 206 172 = some (.iconst (-1), 1) := by decide +kernel
theorem c206_173 : mc_cd 206 173 = some (.ixor, 1) := by decide +kernel
theorem c206_174 : mc_cd 206 174 = some (.iand, 1) := by decide +kernel
theorem c206_175 : mc_cd 206 175 = some (.invokevirtual 360, 3) := by decide +kernel
theorem c206_178 : mc_cd 206 178 = some (.iinc 5 1, 3) := by decide +kernel
theorem c206_181 : mc_cd 206 181 = some (.goto (-74), 3) := by decide +kernel
theorem c206_184 : mc_cd 206 184 = some (.iinc 4 1, 3) := by decide +kernel
theorem c206_187 : mc_cd 206 187 = some (.goto (-105), 3) := by decide +kernel
theorem c206_190 : mc_cd 206 190 = some (.iinc 2 1, 3) := by decide +kernel
theorem c206_193 : mc_cd 206 193 = some (.goto (-186), 3) := by decide +kernel
theorem c206_196 : mc_cd 206 196 = some (.return_, 1) := by decide +kernel
abbrev q_206 (r0 : Nat) (pp : Nat) (T : wq_T) (H : wq_H) : Option Value → wq_T → wq_H → Prop := fun r T' H' => T = T' ∧ WT T H' ∧ wfr [(48, 999), (49, 999), (46, 999), (47, 999), (45, 999)] T H H' ∧ none = r
set_option maxHeartbeats 4000000 in
theorem s_206 {kt : Nat → Option mc_E} {T : wq_T} {H : wq_H} {r0 : Nat} {pp : Nat} (hW : WT T H) (g0 : T.2.2.2 r0 = some 42) (qpp : H r0 3 = (pp : Int)) (gpp : T.2.2.2 pp = some 54) (p0 : wPI H pp = 1) : wpc kt 2 206 [.ref r0] T H (q_206 r0 pp T H) := by
  refine wp_enter e206 (Nat.le_of_ble_eq_true rfl) rfl ?_
  have f0 : wfr [(48, 999), (49, 999), (46, 999), (47, 999), (45, 999)] T H H := wfr.rf
  show wp _ _ 206 0 [(0, .ref r0)] [] _ H _
  refine wp_of e206 c206_0 (rw_aload_n (pc' := 1) (v := .ref r0) rfl rfl rfl ?_)
  refine wp_of e206 c206_1 (xc_V (pc' := 4) (r := r0) (as := []) (st := []) (lm_9_357) rfl rfl (Nat.le_of_ble_eq_true rfl) hW g0 sh_42 (by decide) rfl (by decide) (s_207 hW g0) (fun R108348 T108349 H108350 p108351 => ?_))
  obtain ⟨e108352, e108354, z108355, e108353, b108356⟩ := p108351
  subst e108352
  subst e108353
  subst e108354
  show wp _ _ 206 4 [(0, .ref r0)] [vI z108355] _ H _
  refine wp_of e206 c206_4 (rw_istore_n (pc' := 5) (z := z108355) (L' := [(1, vI z108355), (0, .ref r0)]) rfl rfl rfl ?_)
  refine wp_of e206 c206_5 (rw_iconst (pc' := 6) rfl ?_)
  refine wp_of e206 c206_6 (rw_istore_n (pc' := 7) (z := 0) (L' := [(2, vI 0), (1, vI z108355), (0, .ref r0)]) rfl rfl rfl ?_)
  have lp123015 : ∀ (n123016 : Nat) (v123018 : Int) (H123019 : wq_H), WT T H123019 → wfr [(48, 999), (49, 999), (46, 999), (47, 999), (45, 999)] T H H123019 → (0 ≤ v123018 ∧ v123018 ≤ 6) → (wPI H123019 pp = 1) → (6 - v123018).toNat = n123016 → wp kt 1 206 7 [(2, vI v123018), (1, vI z108355), (0, .ref r0)] [] T H123019 (q_206 r0 pp T H) := by
    intro n123016
    induction n123016 using Nat.strongRecOn with
    | _ n123016 ih123017 =>
      intro v123018 H123019 w123020 f123021 b123022 x123023 m123024
      have f123025 := f0.tr f123021 rfl
      have k123026 : wPI H123019 pp = wPI H pp := (wPI_fr hW gpp f123021 rfl)
      refine wp_of e206 c206_7 (rw_iload_n (pc' := 8) (z := v123018) rfl rfl ?_)
      refine wp_of e206 c206_8 (rw_aload_n (pc' := 9) (v := .ref r0) rfl rfl rfl ?_)
      have k123027 : H123019 r0 3 = H r0 3 := (f123021 r0 3 _ g0 rfl)
      have q123028 : H123019 r0 3 = (pp : Int) := k123027.trans qpp
      refine wp_of e206 c206_9 (xg_K (pc' := 12) lf_9_337 w123020 g0 sh_42 (by decide) (by decide) rfl q123028 rfl ?_)
      refine wp_of e206 c206_12 (xg_I (pc' := 15) lf_9_188 w123020 gpp sh_54 (by decide) (by decide) ty_54_3 rfl rfl (fun b123029 b123030 => ?_))
      refine wp_of e206 c206_15 (rw_icmp_ge (p1 := 196) (p2 := 18) (by decide) rfl ⟨by omega, by omega⟩ ⟨by omega, by omega⟩ (fun c123031 => ?_) (fun c123031 => ?_))
      · exact wp_return e206 c206_196 rfl ⟨rfl, w123020, f123025, rfl⟩
      · refine wp_of e206 c206_18 (rw_aload_n (pc' := 19) (v := .ref r0) rfl rfl rfl ?_)
        refine wp_of e206 c206_19 (xg_R (pc' := 22) lf_9_21 w123020 g0 sh_42 (by decide) (by decide) ty_42_21 rfl rfl (fun r123032 q123033 g123034 => ?_))
        refine wp_of e206 c206_22 (rw_iload_n (pc' := 23) (z := v123018) rfl rfl ?_)
        refine wp_of e206 c206_23 (rw_iconst (pc' := 24) rfl ?_)
        refine wp_of e206 c206_24 (xs_I (pc' := 25) w123020 g123034 (by decide) sh_45 (by decide) (ty_45 _) (by omega) (by omega) ⟨by omega, by omega⟩ (by omega) (by omega) rfl (fun H123035 e123036 w123037 => ?_))
        have f123038 := f123025.put' e123036 g123034 rfl
        have f123039 := f123021.put' e123036 g123034 rfl
        have k123040 : H123035 r123032 (v123018.toNat) = 0 := wq_u_s e123036
        refine wp_of e206 c206_25 (rw_aload_n (pc' := 26) (v := .ref r0) rfl rfl rfl ?_)
        have k123041 : H123035 r0 3 = H123019 r0 3 := (wq_u_t e123036 g123034 g0 rfl 3)
        have q123042 : H123035 r0 3 = (pp : Int) := k123041.trans q123028
        refine wp_of e206 c206_26 (xg_K (pc' := 29) lf_9_337 w123037 g0 sh_42 (by decide) (by decide) rfl q123042 rfl ?_)
        refine wp_of e206 c206_29 (xg_R (pc' := 32) lf_9_267 w123037 gpp sh_54 (by decide) (by decide) ty_54_17 rfl rfl (fun r123043 q123044 g123045 => ?_))
        refine wp_of e206 c206_32 (rw_iload_n (pc' := 33) (z := v123018) rfl rfl ?_)
        refine wp_of e206 c206_33 (xa_B (by decide) (pc' := 34) w123037 g123045 sh_63 (by decide) (ty_63 _) (by omega) (by omega) rfl (fun b123046 b123047 => ?_))
        refine wp_of e206 c206_34 (rw_if_eq (p1 := 49) (p2 := 37) (by decide) rfl ⟨by omega, by omega⟩ (fun c123048 => ?_) (fun c123048 => ?_))
        · refine wp_of e206 c206_49 (rw_aload_n (pc' := 50) (v := .ref r0) rfl rfl rfl ?_)
          refine wp_of e206 c206_50 (xg_K (pc' := 53) lf_9_337 w123037 g0 sh_42 (by decide) (by decide) rfl q123042 rfl ?_)
          refine wp_of e206 c206_53 (xg_R (pc' := 56) lf_9_261 w123037 gpp sh_54 (by decide) (by decide) ty_54_15 rfl rfl (fun r123049 q123050 g123051 => ?_))
          refine wp_of e206 c206_56 (rw_iload_n (pc' := 57) (z := v123018) rfl rfl ?_)
          refine wp_of e206 c206_57 (xa_I (so := 0) (pc' := 58) w123037 g123051 sh_61 (by decide) (ty_61 _) (by omega) (by omega) rfl (fun b123052 b123053 => ?_))
          refine wp_of e206 c206_58 (rw_aload_n (pc' := 59) (v := .ref r0) rfl rfl rfl ?_)
          refine wp_of e206 c206_59 (xg_K (pc' := 62) lf_9_337 w123037 g0 sh_42 (by decide) (by decide) rfl q123042 rfl ?_)
          refine wp_of e206 c206_62 (xg_R (pc' := 65) lf_9_264 w123037 gpp sh_54 (by decide) (by decide) ty_54_16 rfl rfl (fun r123054 q123055 g123056 => ?_))
          refine wp_of e206 c206_65 (rw_iload_n (pc' := 66) (z := v123018) rfl rfl ?_)
          refine wp_of e206 c206_66 (xa_I (so := 0) (pc' := 67) w123037 g123056 sh_62 (by decide) (ty_62 _) (by omega) (by omega) rfl (fun b123057 b123058 => ?_))
          refine wp_of e206 c206_67 (xc_S (pc' := 70) (as := [vI (H123035 r123049 (v123018.toNat)), vI (H123035 r123054 (v123018.toNat))]) (st := []) (lm_9_318) rfl rfl (Nat.le_of_ble_eq_true rfl) rfl (by decide) (s_202 w123037 ⟨by omega, by omega⟩ ⟨by omega, by omega⟩) (fun R123059 T123060 H123061 p123062 => ?_))
          obtain ⟨e123063, e123065, z123066, e123064, b123067⟩ := p123062
          subst e123063
          subst e123064
          subst e123065
          show wp _ _ 206 70 [(2, vI v123018), (1, vI z108355), (0, .ref r0)] [vI z123066] _ H123035 _
          refine wp_of e206 c206_70 (rw_istore_n (pc' := 71) (z := z123066) (L' := [(3, vI z123066), (2, vI v123018), (1, vI z108355), (0, .ref r0)]) rfl rfl rfl ?_)
          refine wp_of e206 c206_71 (rw_aload_n (pc' := 72) (v := .ref r0) rfl rfl rfl ?_)
          refine wp_of e206 c206_72 (xg_K (pc' := 75) lf_9_337 w123037 g0 sh_42 (by decide) (by decide) rfl q123042 rfl ?_)
          refine wp_of e206 c206_75 (xg_R (pc' := 78) lf_9_247 w123037 gpp sh_54 (by decide) (by decide) ty_54_10 rfl rfl (fun r123068 q123069 g123070 => ?_))
          refine wp_of e206 c206_78 (rw_iload_n (pc' := 79) (z := v123018) rfl rfl ?_)
          refine wp_of e206 c206_79 (xa_I (so := 0) (pc' := 80) w123037 g123070 sh_56 (by decide) (ty_56 _) (by omega) (by omega) rfl (fun b123071 b123072 => ?_))
          refine wp_of e206 c206_80 (rw_istore (pc' := 82) (z := H123035 r123068 (v123018.toNat)) (L' := [(4, vI (H123035 r123068 (v123018.toNat))), (3, vI z123066), (2, vI v123018), (1, vI z108355), (0, .ref r0)]) rfl rfl rfl ?_)
          have k124825 : H123035 r0 21 = H123019 r0 21 := (wq_u_t e123036 g123034 g0 rfl 21)
          have q124826 : H123035 r0 21 = (r123032 : Int) := k124825.trans q123033
          have k124827 : wPI H123035 pp = wPI H123019 pp := (wPI_fr w123020 gpp ((wfr.rf (l := [(45, 999)])).put' e123036 g123034 rfl) rfl)
          have lp124820 : ∀ (n124821 : Nat) (v124823 : Int) (H124824 : wq_H), WT T H124824 → wfr [(48, 999), (49, 999), (46, 999), (47, 999), (45, 999)] T H123035 H124824 → (0 ≤ v124823 ∧ v124823 ≤ 31) → (H124824 r123032 (v123018).toNat ≤ 5 * (v124823 - H124824 r123068 (v123018).toNat)) → (H124824 r123068 (v123018).toNat ≤ v124823) → (wPI H124824 pp = 1) → (31 - v124823).toNat = n124821 → wp kt 1 206 82 [(4, vI v124823), (3, vI z123066), (2, vI v123018), (1, vI z108355), (0, .ref r0)] [] T H124824 (q_206 r0 pp T H) := by
            intro n124821
            induction n124821 using Nat.strongRecOn with
            | _ n124821 ih124822 =>
              intro v124823 H124824 w124828 f124829 b124830 x124831 x124832 x124833 m124834
              have f124835 := f123038.tr f124829 rfl
              have f124836 := f123039.tr f124829 rfl
              have k124837 : H124824 r0 21 = H123035 r0 21 := (f124829 r0 21 _ g0 rfl)
              have q124838 : H124824 r0 21 = (r123032 : Int) := k124837.trans q124826
              have k124839 : H124824 pp 10 = H123035 pp 10 := (f124829 pp 10 _ gpp rfl)
              have q124840 : H124824 pp 10 = (r123068 : Int) := k124839.trans q123069
              have k124841 : H124824 r123068 (v123018.toNat) = H123035 r123068 (v123018.toNat) := (f124829 r123068 (v123018.toNat) _ g123070 rfl)
              have k124842 : wPI H124824 pp = wPI H123035 pp := (wPI_fr w123037 gpp f124829 rfl)
              refine wp_of e206 c206_82 (rw_iload (pc' := 84) (z := v124823) rfl rfl ?_)
              refine wp_of e206 c206_84 (rw_aload_n (pc' := 85) (v := .ref r0) rfl rfl rfl ?_)
              have k124843 : H124824 r0 3 = H123035 r0 3 := (f124829 r0 3 _ g0 rfl)
              have q124844 : H124824 r0 3 = (pp : Int) := k124843.trans q123042
              refine wp_of e206 c206_85 (xg_K (pc' := 88) lf_9_337 w124828 g0 sh_42 (by decide) (by decide) rfl q124844 rfl ?_)
              refine wp_of e206 c206_88 (xg_R (pc' := 91) lf_9_250 w124828 gpp sh_54 (by decide) (by decide) ty_54_11 rfl rfl (fun r124845 q124846 g124847 => ?_))
              refine wp_of e206 c206_91 (rw_iload_n (pc' := 92) (z := v123018) rfl rfl ?_)
              refine wp_of e206 c206_92 (xa_I (so := 0) (pc' := 93) w124828 g124847 sh_57 (by decide) (ty_57 _) (by omega) (by omega) rfl (fun b124848 b124849 => ?_))
              refine wp_of e206 c206_93 (rw_icmp_gt (p1 := 190) (p2 := 96) (by decide) rfl ⟨by omega, by omega⟩ ⟨by omega, by omega⟩ (fun c124850 => ?_) (fun c124850 => ?_))
              · refine wp_of e206 c206_190 (rw_iinc (pc' := 193) (z := v123018) (L' := [(2, vI (v123018 + 1)), (4, vI v124823), (3, vI z123066), (1, vI z108355), (0, .ref r0)]) rfl rfl rfl rfl ?_)
                refine wp_of e206 c206_193 (rw_goto (p1 := 7) (by decide) ?_)
                exact wp_lc (ks := [2, 4, 3, 1, 0]) (wl_c rfl (wl_c rfl (wl_c rfl wl_n))) rfl (by decide) (ih123017 _ (by omega) (v123018 + 1) H124824 w124828 f124836 ⟨by omega, by omega⟩ (by omega) rfl)
              · refine wp_of e206 c206_96 (rw_aload_n (pc' := 97) (v := .ref r0) rfl rfl rfl ?_)
                refine wp_of e206 c206_97 (xg_K (pc' := 100) lf_9_337 w124828 g0 sh_42 (by decide) (by decide) rfl q124844 rfl ?_)
                refine wp_of e206 c206_100 (xg_R (pc' := 103) lf_9_253 w124828 gpp sh_54 (by decide) (by decide) ty_54_12 rfl rfl (fun r124851 q124852 g124853 => ?_))
                refine wp_of e206 c206_103 (rw_iload_n (pc' := 104) (z := v123018) rfl rfl ?_)
                refine wp_of e206 c206_104 (xa_I (so := 0) (pc' := 105) w124828 g124853 sh_58 (by decide) (ty_58 _) (by omega) (by omega) rfl (fun b124854 b124855 => ?_))
                refine wp_of e206 c206_105 (rw_istore (pc' := 107) (z := H124824 r124851 (v123018.toNat)) (L' := [(5, vI (H124824 r124851 (v123018.toNat))), (4, vI v124823), (3, vI z123066), (2, vI v123018), (1, vI z108355), (0, .ref r0)]) rfl rfl rfl ?_)
                have lp125134 : ∀ (n125135 : Nat) (v125137 : Int) (H125138 : wq_H), WT T H125138 → wfr [(48, 999), (49, 999), (46, 999), (47, 999), (45, 999)] T H124824 H125138 → (0 ≤ v125137 ∧ v125137 ≤ 17) → (H125138 r123032 (v123018).toNat ≤ 5 * (v124823 - H125138 r123068 (v123018).toNat) + (v125137 - H125138 r124851 (v123018).toNat)) → (H125138 r124851 (v123018).toNat ≤ v125137) → (v125137 ≤ H125138 r124851 (v123018).toNat + 5) → (H125138 r123068 (v123018).toNat ≤ v124823) → (wPI H125138 pp = 1) → (17 - v125137).toNat = n125135 → wp kt 1 206 107 [(5, vI v125137), (4, vI v124823), (3, vI z123066), (2, vI v123018), (1, vI z108355), (0, .ref r0)] [] T H125138 (q_206 r0 pp T H) := by
                  intro n125135
                  induction n125135 using Nat.strongRecOn with
                  | _ n125135 ih125136 =>
                    intro v125137 H125138 w125139 f125140 b125141 x125142 x125143 x125144 x125145 x125146 m125147
                    have f125148 := f124835.tr f125140 rfl
                    have f125149 := f124836.tr f125140 rfl
                    have f125150 := f124829.tr f125140 rfl
                    have k125151 : H125138 r0 21 = H124824 r0 21 := (f125140 r0 21 _ g0 rfl)
                    have q125152 : H125138 r0 21 = (r123032 : Int) := k125151.trans q124838
                    have k125153 : H125138 pp 10 = H124824 pp 10 := (f125140 pp 10 _ gpp rfl)
                    have q125154 : H125138 pp 10 = (r123068 : Int) := k125153.trans q124840
                    have k125155 : H125138 r123068 (v123018.toNat) = H124824 r123068 (v123018.toNat) := (f125140 r123068 (v123018.toNat) _ g123070 rfl)
                    have k125156 : wPI H125138 pp = wPI H124824 pp := (wPI_fr w124828 gpp f125140 rfl)
                    have k125157 : H125138 pp 11 = H124824 pp 11 := (f125140 pp 11 _ gpp rfl)
                    have q125158 : H125138 pp 11 = (r124845 : Int) := k125157.trans q124846
                    have k125159 : H125138 r124845 (v123018.toNat) = H124824 r124845 (v123018.toNat) := (f125140 r124845 (v123018.toNat) _ g124847 rfl)
                    have k125160 : H125138 pp 12 = H124824 pp 12 := (f125140 pp 12 _ gpp rfl)
                    have q125161 : H125138 pp 12 = (r124851 : Int) := k125160.trans q124852
                    have k125162 : H125138 r124851 (v123018.toNat) = H124824 r124851 (v123018.toNat) := (f125140 r124851 (v123018.toNat) _ g124853 rfl)
                    obtain ⟨r125163, q125164, g125165⟩ := w125139.ref gpp (t' := 59) (n := 27) (j := 13) (p := 0) (q := 0) rfl (by decide) rfl
                    have hp := wPI_at (H := H125138) (R := pp) (by omega) q125154 q125158 q125161 q125164 (k := (v123018).toNat) (by omega)
                    refine wp_of e206 c206_107 (rw_iload (pc' := 109) (z := v125137) rfl rfl ?_)
                    refine wp_of e206 c206_109 (rw_aload_n (pc' := 110) (v := .ref r0) rfl rfl rfl ?_)
                    have k125166 : H125138 r0 3 = H124824 r0 3 := (f125140 r0 3 _ g0 rfl)
                    have q125167 : H125138 r0 3 = (pp : Int) := k125166.trans q124844
                    refine wp_of e206 c206_110 (xg_K (pc' := 113) lf_9_337 w125139 g0 sh_42 (by decide) (by decide) rfl q125167 rfl ?_)
                    refine wp_of e206 c206_113 (xg_K (pc' := 116) lf_9_256 w125139 gpp sh_54 (by decide) (by decide) rfl q125164 rfl ?_)
                    refine wp_of e206 c206_116 (rw_iload_n (pc' := 117) (z := v123018) rfl rfl ?_)
                    refine wp_of e206 c206_117 (xa_I (so := 0) (pc' := 118) w125139 g125165 sh_59 (by decide) (ty_59 _) (by omega) (by omega) rfl (fun b125168 b125169 => ?_))
                    refine wp_of e206 c206_118 (rw_icmp_gt (p1 := 184) (p2 := 121) (by decide) rfl ⟨by omega, by omega⟩ ⟨by omega, by omega⟩ (fun c125170 => ?_) (fun c125170 => ?_))
                    · refine wp_of e206 c206_184 (rw_iinc (pc' := 187) (z := v124823) (L' := [(4, vI (v124823 + 1)), (5, vI v125137), (3, vI z123066), (2, vI v123018), (1, vI z108355), (0, .ref r0)]) rfl rfl rfl rfl ?_)
                      refine wp_of e206 c206_187 (rw_goto (p1 := 82) (by decide) ?_)
                      exact wp_lc (ks := [4, 5, 3, 2, 1, 0]) (wl_c rfl (wl_c rfl (wl_c rfl (wl_c rfl (wl_c rfl wl_n))))) rfl (by decide) (ih124822 _ (by omega) (v124823 + 1) H125138 w125139 f125150 ⟨by omega, by omega⟩ (by omega) (by omega) (by omega) rfl)
                    · refine wp_of e206 c206_121 (rw_iload (pc' := 123) (z := v124823) rfl rfl ?_)
                      refine wp_of e206 c206_123 (rw_iload (pc' := 125) (z := v124823) rfl rfl ?_)
                      refine wp_of e206 c206_125 (rw_iload (pc' := 127) (z := v125137) rfl rfl ?_)
                      refine wp_of e206 c206_127 (rw_iadd (pc' := 128) rfl ?_)
                      refine wp_of e206 c206_128 (xc_S (pc' := 131) (as := [vI v124823, vI (v124823 + v125137)]) (st := []) (lm_9_318) rfl rfl (Nat.le_of_ble_eq_true rfl) rfl (by decide) (s_202 w125139 ⟨by omega, by omega⟩ ⟨by omega, by omega⟩) (fun R125171 T125172 H125173 p125174 => ?_))
                      obtain ⟨e125175, e125177, z125178, e125176, b125179⟩ := p125174
                      subst e125175
                      subst e125176
                      subst e125177
                      show wp _ _ 206 131 [(5, vI v125137), (4, vI v124823), (3, vI z123066), (2, vI v123018), (1, vI z108355), (0, .ref r0)] [vI z125178] _ H125138 _
                      refine wp_of e206 c206_131 (rw_iload_n (pc' := 132) (z := z123066) rfl rfl ?_)
                      refine wp_of e206 c206_132 (rw_ior (pc' := 133) rfl ?_)
                      obtain ⟨v125180, e125181⟩ : ∃ x : Int, x = wq_or z125178 z123066 := ⟨_, rfl⟩
                      rw [← e125181]
                      have b125182 : -2147483648 ≤ v125180 ∧ v125180 ≤ 2147483647 := by
                        rw [e125181]
                        exact wI_or _ _
                      refine wp_of e206 c206_133 (rw_aload_n (pc' := 134) (v := .ref r0) rfl rfl rfl ?_)
                      refine wp_of e206 c206_134 (xg_I (pc' := 137) lf_9_343 w125139 g0 sh_42 (by decide) (by decide) ty_42_19 rfl rfl (fun b125183 b125184 => ?_))
                      refine wp_of e206 c206_137 (rw_iand (pc' := 138) rfl ?_)
                      obtain ⟨v125185, e125186⟩ : ∃ x : Int, x = wq_and v125180 (H125138 r0 19) := ⟨_, rfl⟩
                      rw [← e125186]
                      have b125187 : -2147483648 ≤ v125185 ∧ v125185 ≤ 2147483647 := by
                        rw [e125186]
                        exact wI_and _ _
                      refine wp_of e206 c206_138 (rw_istore (pc' := 140) (z := v125185) (L' := [(6, vI v125185), (5, vI v125137), (4, vI v124823), (3, vI z123066), (2, vI v123018), (1, vI z108355), (0, .ref r0)]) rfl rfl rfl ?_)
                      refine wp_of e206 c206_140 (rw_iload_n (pc' := 141) (z := v123018) rfl rfl ?_)
                      refine wp_of e206 c206_141 (rw_aload_n (pc' := 142) (v := .ref r0) rfl rfl rfl ?_)
                      refine wp_of e206 c206_142 (xg_K (pc' := 145) lf_9_337 w125139 g0 sh_42 (by decide) (by decide) rfl q125167 rfl ?_)
                      refine wp_of e206 c206_145 (xg_I (pc' := 148) lf_9_271 w125139 gpp sh_54 (by decide) (by decide) ty_54_8 rfl rfl (fun b125188 b125189 => ?_))
                      refine wp_of e206 c206_148 (rw_icmp_ne (p1 := 158) (p2 := 151) (by decide) rfl ⟨by omega, by omega⟩ ⟨by omega, by omega⟩ (fun c125190 => ?_) (fun c125190 => ?_))
                      · refine wp_of e206 c206_158 (rw_aload_n (pc' := 159) (v := .ref r0) rfl rfl rfl ?_)
                        refine wp_of e206 c206_159 (rw_iload_n (pc' := 160) (z := v123018) rfl rfl ?_)
                        refine wp_of e206 c206_160 (rw_iload (pc' := 162) (z := v124823) rfl rfl ?_)
                        refine wp_of e206 c206_162 (rw_iload (pc' := 164) (z := v125137) rfl rfl ?_)
                        refine wp_of e206 c206_164 (rw_iload (pc' := 166) (z := v125185) rfl rfl ?_)
                        refine wp_of e206 c206_166 (rw_aload_n (pc' := 167) (v := .ref r0) rfl rfl rfl ?_)
                        refine wp_of e206 c206_167 (xg_I (pc' := 170) lf_9_343 w125139 g0 sh_42 (by decide) (by decide) ty_42_19 rfl rfl (fun b125191 b125192 => ?_))
                        refine wp_of e206 c206_170 (rw_iload (pc' := 172) (z := v125185) rfl rfl ?_)
                        refine wp_of e206 c206_172 (rw_iconst (pc' := 173) rfl ?_)
                        refine wp_of e206 c206_173 (rw_ixor (pc' := 174) rfl ?_)
                        obtain ⟨v125193, e125194⟩ : ∃ x : Int, x = wq_xor v125185 (-1) := ⟨_, rfl⟩
                        rw [← e125194]
                        have b125195 : -2147483648 ≤ v125193 ∧ v125193 ≤ 2147483647 := by
                          rw [e125194]
                          exact wI_xor _ _
                        refine wp_of e206 c206_174 (rw_iand (pc' := 175) rfl ?_)
                        obtain ⟨v125196, e125197⟩ : ∃ x : Int, x = wq_and (H125138 r0 19) v125193 := ⟨_, rfl⟩
                        rw [← e125197]
                        have b125198 : -2147483648 ≤ v125196 ∧ v125196 ≤ 2147483647 := by
                          rw [e125197]
                          exact wI_and _ _
                        refine wp_of e206 c206_175 (xc_V (pc' := 178) (r := r0) (as := [vI v123018, vI v124823, vI v125137, vI v125185, vI v125196]) (st := []) (lm_9_360) rfl rfl (Nat.le_of_ble_eq_true rfl) w125139 g0 sh_42 (by decide) rfl (by decide) (s_208 w125139 g0 ⟨by omega, by omega⟩ ⟨by omega, by omega⟩ ⟨by omega, by omega⟩ ⟨by omega, by omega⟩ ⟨by omega, by omega⟩ q125152 g123034 (by omega)) (fun R125199 T125200 H125201 p125202 => ?_))
                        obtain ⟨e125203, w125205, f125206, e125204, p125207⟩ := p125202
                        subst e125203
                        subst e125204
                        have f125208 := f125148.tr f125206 rfl
                        have f125209 := f125149.tr f125206 rfl
                        have f125210 := f125150.tr f125206 rfl
                        have f125211 := f125140.tr f125206 rfl
                        show wp _ _ 206 178 [(6, vI v125185), (5, vI v125137), (4, vI v124823), (3, vI z123066), (2, vI v123018), (1, vI z108355), (0, .ref r0)] [] _ H125201 _
                        refine wp_of e206 c206_178 (rw_iinc (pc' := 181) (z := v125137) (L' := [(5, vI (v125137 + 1)), (6, vI v125185), (4, vI v124823), (3, vI z123066), (2, vI v123018), (1, vI z108355), (0, .ref r0)]) rfl rfl rfl rfl ?_)
                        refine wp_of e206 c206_181 (rw_goto (p1 := 107) (by decide) ?_)
                        have k125212 : H125201 r0 21 = H125138 r0 21 := (f125206 r0 21 _ g0 rfl)
                        have q125213 : H125201 r0 21 = (r123032 : Int) := k125212.trans q125152
                        have k125214 : H125201 pp 10 = H125138 pp 10 := (f125206 pp 10 _ gpp rfl)
                        have q125215 : H125201 pp 10 = (r123068 : Int) := k125214.trans q125154
                        have k125216 : H125201 r123068 (v123018.toNat) = H125138 r123068 (v123018.toNat) := (f125206 r123068 (v123018.toNat) _ g123070 rfl)
                        have k125217 : wPI H125201 pp = wPI H125138 pp := (wPI_fr w125139 gpp f125206 rfl)
                        have k125218 : H125201 pp 11 = H125138 pp 11 := (f125206 pp 11 _ gpp rfl)
                        have q125219 : H125201 pp 11 = (r124845 : Int) := k125218.trans q125158
                        have k125220 : H125201 r124845 (v123018.toNat) = H125138 r124845 (v123018.toNat) := (f125206 r124845 (v123018.toNat) _ g124847 rfl)
                        have k125221 : H125201 pp 12 = H125138 pp 12 := (f125206 pp 12 _ gpp rfl)
                        have q125222 : H125201 pp 12 = (r124851 : Int) := k125221.trans q125161
                        have k125223 : H125201 r124851 (v123018.toNat) = H125138 r124851 (v123018.toNat) := (f125206 r124851 (v123018.toNat) _ g124853 rfl)
                        exact wp_lc (ks := [5, 6, 4, 3, 2, 1, 0]) (wl_c rfl (wl_c rfl (wl_c rfl (wl_c rfl (wl_c rfl (wl_c rfl wl_n)))))) rfl (by decide) (ih125136 _ (by omega) (v125137 + 1) H125201 w125205 f125211 ⟨by omega, by omega⟩ (by omega) (by omega) (by omega) (by omega) (by omega) rfl)
                      · refine wp_of e206 c206_151 (rw_iload (pc' := 153) (z := v125185) rfl rfl ?_)
                        refine wp_of e206 c206_153 (rw_iload_n (pc' := 154) (z := z108355) rfl rfl ?_)
                        refine wp_of e206 c206_154 (rw_iand (pc' := 155) rfl ?_)
                        obtain ⟨v125224, e125225⟩ : ∃ x : Int, x = wq_and v125185 z108355 := ⟨_, rfl⟩
                        rw [← e125225]
                        have b125226 : 0 ≤ v125224 ∧ v125224 ≤ z108355 := by
                          rw [e125225]
                          exact wq_and_b _ (by omega) (by omega)
                        refine wp_of e206 c206_155 (rw_if_ne (p1 := 178) (p2 := 158) (by decide) rfl ⟨by omega, by omega⟩ (fun c125227 => ?_) (fun c125227 => ?_))
                        · refine wp_of e206 c206_178 (rw_iinc (pc' := 181) (z := v125137) (L' := [(5, vI (v125137 + 1)), (6, vI v125185), (4, vI v124823), (3, vI z123066), (2, vI v123018), (1, vI z108355), (0, .ref r0)]) rfl rfl rfl rfl ?_)
                          refine wp_of e206 c206_181 (rw_goto (p1 := 107) (by decide) ?_)
                          exact wp_lc (ks := [5, 6, 4, 3, 2, 1, 0]) (wl_c rfl (wl_c rfl (wl_c rfl (wl_c rfl (wl_c rfl (wl_c rfl wl_n)))))) rfl (by decide) (ih125136 _ (by omega) (v125137 + 1) H125138 w125139 f125140 ⟨by omega, by omega⟩ (by omega) (by omega) (by omega) (by omega) (by omega) rfl)
                        · refine wp_of e206 c206_158 (rw_aload_n (pc' := 159) (v := .ref r0) rfl rfl rfl ?_)
                          refine wp_of e206 c206_159 (rw_iload_n (pc' := 160) (z := v123018) rfl rfl ?_)
                          refine wp_of e206 c206_160 (rw_iload (pc' := 162) (z := v124823) rfl rfl ?_)
                          refine wp_of e206 c206_162 (rw_iload (pc' := 164) (z := v125137) rfl rfl ?_)
                          refine wp_of e206 c206_164 (rw_iload (pc' := 166) (z := v125185) rfl rfl ?_)
                          refine wp_of e206 c206_166 (rw_aload_n (pc' := 167) (v := .ref r0) rfl rfl rfl ?_)
                          refine wp_of e206 c206_167 (xg_I (pc' := 170) lf_9_343 w125139 g0 sh_42 (by decide) (by decide) ty_42_19 rfl rfl (fun b125228 b125229 => ?_))
                          refine wp_of e206 c206_170 (rw_iload (pc' := 172) (z := v125185) rfl rfl ?_)
                          refine wp_of e206 c206_172 (rw_iconst (pc' := 173) rfl ?_)
                          refine wp_of e206 c206_173 (rw_ixor (pc' := 174) rfl ?_)
                          obtain ⟨v125230, e125231⟩ : ∃ x : Int, x = wq_xor v125185 (-1) := ⟨_, rfl⟩
                          rw [← e125231]
                          have b125232 : -2147483648 ≤ v125230 ∧ v125230 ≤ 2147483647 := by
                            rw [e125231]
                            exact wI_xor _ _
                          refine wp_of e206 c206_174 (rw_iand (pc' := 175) rfl ?_)
                          obtain ⟨v125233, e125234⟩ : ∃ x : Int, x = wq_and (H125138 r0 19) v125230 := ⟨_, rfl⟩
                          rw [← e125234]
                          have b125235 : -2147483648 ≤ v125233 ∧ v125233 ≤ 2147483647 := by
                            rw [e125234]
                            exact wI_and _ _
                          refine wp_of e206 c206_175 (xc_V (pc' := 178) (r := r0) (as := [vI v123018, vI v124823, vI v125137, vI v125185, vI v125233]) (st := []) (lm_9_360) rfl rfl (Nat.le_of_ble_eq_true rfl) w125139 g0 sh_42 (by decide) rfl (by decide) (s_208 w125139 g0 ⟨by omega, by omega⟩ ⟨by omega, by omega⟩ ⟨by omega, by omega⟩ ⟨by omega, by omega⟩ ⟨by omega, by omega⟩ q125152 g123034 (by omega)) (fun R125236 T125237 H125238 p125239 => ?_))
                          obtain ⟨e125240, w125242, f125243, e125241, p125244⟩ := p125239
                          subst e125240
                          subst e125241
                          have f125245 := f125148.tr f125243 rfl
                          have f125246 := f125149.tr f125243 rfl
                          have f125247 := f125150.tr f125243 rfl
                          have f125248 := f125140.tr f125243 rfl
                          show wp _ _ 206 178 [(6, vI v125185), (5, vI v125137), (4, vI v124823), (3, vI z123066), (2, vI v123018), (1, vI z108355), (0, .ref r0)] [] _ H125238 _
                          refine wp_of e206 c206_178 (rw_iinc (pc' := 181) (z := v125137) (L' := [(5, vI (v125137 + 1)), (6, vI v125185), (4, vI v124823), (3, vI z123066), (2, vI v123018), (1, vI z108355), (0, .ref r0)]) rfl rfl rfl rfl ?_)
                          refine wp_of e206 c206_181 (rw_goto (p1 := 107) (by decide) ?_)
                          have k125249 : H125238 r0 21 = H125138 r0 21 := (f125243 r0 21 _ g0 rfl)
                          have q125250 : H125238 r0 21 = (r123032 : Int) := k125249.trans q125152
                          have k125251 : H125238 pp 10 = H125138 pp 10 := (f125243 pp 10 _ gpp rfl)
                          have q125252 : H125238 pp 10 = (r123068 : Int) := k125251.trans q125154
                          have k125253 : H125238 r123068 (v123018.toNat) = H125138 r123068 (v123018.toNat) := (f125243 r123068 (v123018.toNat) _ g123070 rfl)
                          have k125254 : wPI H125238 pp = wPI H125138 pp := (wPI_fr w125139 gpp f125243 rfl)
                          have k125255 : H125238 pp 11 = H125138 pp 11 := (f125243 pp 11 _ gpp rfl)
                          have q125256 : H125238 pp 11 = (r124845 : Int) := k125255.trans q125158
                          have k125257 : H125238 r124845 (v123018.toNat) = H125138 r124845 (v123018.toNat) := (f125243 r124845 (v123018.toNat) _ g124847 rfl)
                          have k125258 : H125238 pp 12 = H125138 pp 12 := (f125243 pp 12 _ gpp rfl)
                          have q125259 : H125238 pp 12 = (r124851 : Int) := k125258.trans q125161
                          have k125260 : H125238 r124851 (v123018.toNat) = H125138 r124851 (v123018.toNat) := (f125243 r124851 (v123018.toNat) _ g124853 rfl)
                          exact wp_lc (ks := [5, 6, 4, 3, 2, 1, 0]) (wl_c rfl (wl_c rfl (wl_c rfl (wl_c rfl (wl_c rfl (wl_c rfl wl_n)))))) rfl (by decide) (ih125136 _ (by omega) (v125137 + 1) H125238 w125242 f125248 ⟨by omega, by omega⟩ (by omega) (by omega) (by omega) (by omega) (by omega) rfl)
                exact wp_lc (ks := [5, 4, 3, 2, 1, 0]) (wl_c rfl (wl_c rfl (wl_c rfl (wl_c rfl (wl_c rfl (wl_c rfl wl_n)))))) rfl (by decide) (lp125134 _ (H124824 r124851 (v123018.toNat)) H124824 w124828 wfr.rf ⟨by omega, by omega⟩ (by omega) (by omega) (by omega) (by omega) (by omega) rfl)
          exact wp_lc (ks := [4, 3, 2, 1, 0]) (wl_c rfl (wl_c rfl (wl_c rfl (wl_c rfl (wl_c rfl wl_n))))) rfl (by decide) (lp124820 _ (H123035 r123068 (v123018.toNat)) H123035 w123037 wfr.rf ⟨by omega, by omega⟩ (by omega) (by omega) (by omega) rfl)
        · refine wp_of e206 c206_37 (rw_aload_n (pc' := 38) (v := .ref r0) rfl rfl rfl ?_)
          refine wp_of e206 c206_38 (rw_iload_n (pc' := 39) (z := v123018) rfl rfl ?_)
          refine wp_of e206 c206_39 (rw_iconst (pc' := 40) rfl ?_)
          refine wp_of e206 c206_40 (rw_iconst (pc' := 41) rfl ?_)
          refine wp_of e206 c206_41 (rw_iconst (pc' := 42) rfl ?_)
          refine wp_of e206 c206_42 (rw_iconst (pc' := 43) rfl ?_)
          have k125261 : H123035 r0 21 = H123019 r0 21 := (wq_u_t e123036 g123034 g0 rfl 21)
          have q125262 : H123035 r0 21 = (r123032 : Int) := k125261.trans q123033
          refine wp_of e206 c206_43 (xc_V (pc' := 46) (r := r0) (as := [vI v123018, vI 0, vI 0, vI 0, vI 0]) (st := []) (lm_9_360) rfl rfl (Nat.le_of_ble_eq_true rfl) w123037 g0 sh_42 (by decide) rfl (by decide) (s_208 w123037 g0 ⟨by omega, by omega⟩ ⟨by omega, by omega⟩ ⟨by omega, by omega⟩ ⟨by omega, by omega⟩ ⟨by omega, by omega⟩ q125262 g123034 (by omega)) (fun R125263 T125264 H125265 p125266 => ?_))
          obtain ⟨e125267, w125269, f125270, e125268, p125271⟩ := p125266
          subst e125267
          subst e125268
          have f125272 := f123038.tr f125270 rfl
          have f125273 := f123039.tr f125270 rfl
          show wp _ _ 206 46 [(2, vI v123018), (1, vI z108355), (0, .ref r0)] [] _ H125265 _
          refine wp_of e206 c206_46 (rw_goto (p1 := 190) (by decide) ?_)
          refine wp_of e206 c206_190 (rw_iinc (pc' := 193) (z := v123018) (L' := [(2, vI (v123018 + 1)), (1, vI z108355), (0, .ref r0)]) rfl rfl rfl rfl ?_)
          refine wp_of e206 c206_193 (rw_goto (p1 := 7) (by decide) ?_)
          have k125274 : wPI H125265 pp = wPI H123019 pp := ((wPI_fr w123037 gpp f125270 rfl).trans (wPI_fr w123020 gpp ((wfr.rf (l := [(45, 999)])).put' e123036 g123034 rfl) rfl))
          exact wp_lc (ks := [2, 1, 0]) (wl_c rfl (wl_c rfl (wl_c rfl wl_n))) rfl (by decide) (ih123017 _ (by omega) (v123018 + 1) H125265 w125269 f125273 ⟨by omega, by omega⟩ (by omega) rfl)
  exact wp_lc (ks := [2, 1, 0]) (wl_c rfl (wl_c rfl (wl_c rfl wl_n))) rfl (by decide) (lp123015 _ 0 H hW wfr.rf ⟨by omega, by omega⟩ (by omega) rfl)
