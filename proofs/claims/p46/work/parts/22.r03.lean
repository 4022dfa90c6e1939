/-! methods of the reference (own work, written by wip/gen2/sx.py) -/
/-! StrikeAwakeModel.readHours()I -/
theorem e201 : wq_en 201 = some (9, 2, false, some FieldType.int) := rfl
theorem c201_0 : mc_cd 201 0 = some (.aload_n 0, 1) := by decide +kernel
theorem c201_1 : mc_cd 201 1 = some (.invokevirtual 273, 3) := by decide +kernel
theorem c201_4 : mc_cd 201 4 = some (.istore_n 1, 1) := by decide +kernel
theorem c201_5 : mc_cd 201 5 = some (.aload_n 0, 1) := by decide +kernel
theorem c201_6 : mc_cd 201 6 = some (.aload_n 0, 1) := by decide +kernel
theorem c201_7 : mc_cd 201 7 = some (.iconst 0, 1) := by decide +kernel
theorem c201_8 : mc_cd 201 8 = some (.bipush 23, 2) := by decide +kernel
theorem c201_10 : mc_cd 201 10 = some (.invokevirtual 137, 3) := by decide +kernel
theorem c201_13 : mc_cd 201 13 = some (.putfield 300, 3) := by decide +kernel
theorem c201_16 : mc_cd 201 16 = some (.aload_n 0, 1) := by decide +kernel
theorem c201_17 : mc_cd 201 17 = some (.aload_n 0, 1) := by decide +kernel
theorem c201_18 : mc_cd 201 18 = some (.ldc 233, 2) := by decide +kernel
theorem c201_20 : mc_cd 201 20 = some (.aload_n 0, 1) := by decide +kernel
theorem c201_21 : mc_cd 201 21 = some (.getfield 300, 3) := by decide +kernel
theorem c201_24 : mc_cd 201 24 = some (.iconst 1, 1) := by decide +kernel
theorem c201_25 : mc_cd 201 25 = some (.iadd, 1) := by decide +kernel
theorem c201_26 : mc_cd 201 26 = some (.bipush 24, 2) := by decide +kernel
theorem c201_28 : mc_cd 201 28 = some (.invokevirtual 216, 3) := by decide +kernel
theorem c201_31 : mc_cd 201 31 = some (.putfield 303, 3) := by decide +kernel
theorem c201_34 : mc_cd 201 34 = some (.iload_n 1, 1) := by decide +kernel
theorem c201_35 : mc_cd 201 35 = some (.ireturn, 1) := by decide +kernel
/-! StrikeAwakeModel.hoursFrom(II)I -/
theorem e202 : wq_en 202 = some (9, 4, false, some FieldType.int) := rfl
theorem c202_0 : mc_cd 202 0 = some (.iconst 0, 1) := by decide +kernel
theorem c202_1 : mc_cd 202 1 = some (.istore_n 2, 1) := by decide +kernel
theorem c202_2 : mc_cd 202 2 = some (.iload_n 0, 1) := by decide +kernel
theorem c202_3 : mc_cd 202 3 = some (.istore_n 3, 1) := by decide +kernel
theorem c202_4 : mc_cd 202 4 = some (.iload_n 3, 1) := by decide +kernel
theorem c202_5 : mc_cd 202 5 = some (.iload_n 1, 1) := by decide +kernel
theorem c202_6 : mc_cd 202 6 = some (.if_icmp .ge 21, 3) := by decide +kernel
theorem c202_9 : mc_cd 202 9 = some (.iload_n 3, 1) := by decide +kernel
theorem c202_10 : mc_cd 202 10 = some (.bipush 24, 2) := by decide +kernel
theorem c202_12 : mc_cd 202 12 = some (.if_icmp .ge 15, 3) := by decide +kernel
theorem c202_15 : mc_cd 202 15 = some (.iload_n 2, 1) := by decide +kernel
theorem c202_16 : mc_cd 202 16 = some (.iconst 1, 1) := by decide +kernel
theorem c202_17 : mc_cd 202 17 = some (.iload_n 3, 1) := by decide +kernel
theorem c202_18 : mc_cd 202 18 = some (.ishl, 1) := by decide +kernel
theorem c202_19 : mc_cd 202 19 = some (.ior, 1) := by decide +kernel
theorem c202_20 : mc_cd 202 20 = some (.istore_n 2, 1) := by decide +kernel
theorem c202_21 : mc_cd 202 21 = some (.iinc 3 1, 3) := by decide +kernel
theorem c202_24 : mc_cd 202 24 = some (.goto (-20), 3) := by decide +kernel
theorem c202_27 : mc_cd 202 27 = some (.iload_n 2, 1) := by decide +kernel
theorem c202_28 : mc_cd 202 28 = some (.ireturn, 1) := by decide +kernel
abbrev q_202 (a0 : Int) (a1 : Int) (T : wq_T) (H : wq_H) : Option Value → wq_T → wq_H → Prop := fun r T' H' => T = T' ∧ H = H' ∧ ∃ z : Int, some (vI z) = r ∧ ((-2147483648) ≤ z ∧ z ≤ 2147483647)
set_option maxHeartbeats 4000000 in
theorem s_202 {kt : Nat → Option mc_E} {T : wq_T} {H : wq_H} {a0 : Int} {a1 : Int} (hW : WT T H) (i0 : (-2147483648) ≤ a0 ∧ a0 ≤ 2147483647) (i1 : (-2147483648) ≤ a1 ∧ a1 ≤ 2147483647) : wpc kt 1 202 [vI a0, vI a1] T H (q_202 a0 a1 T H) := by
  refine wp_enter e202 (Nat.le_of_ble_eq_true rfl) rfl ?_
  show wp _ _ 202 0 [(0, vI a0), (1, vI a1)] [] _ H _
  refine wp_of e202 c202_0 (rw_iconst (pc' := 1) rfl ?_)
  refine wp_of e202 c202_1 (rw_istore_n (pc' := 2) (z := 0) (L' := [(2, vI 0), (0, vI a0), (1, vI a1)]) rfl rfl rfl ?_)
  refine wp_of e202 c202_2 (rw_iload_n (pc' := 3) (z := a0) rfl rfl ?_)
  refine wp_of e202 c202_3 (rw_istore_n (pc' := 4) (z := a0) (L' := [(3, vI a0), (2, vI 0), (0, vI a0), (1, vI a1)]) rfl rfl rfl ?_)
  have lp92566 : ∀ (n92567 : Nat) (v92569 : Int) (v92570 : Int), ((-2147483648) ≤ v92569 ∧ v92569 ≤ 2147483647) → ((-2147483648) ≤ v92570 ∧ v92570 ≤ 2147483647) → (2147483647 - v92569).toNat = n92567 → wp kt 0 202 4 [(3, vI v92569), (2, vI v92570), (1, vI a1)] [] T H (q_202 a0 a1 T H) := by
    intro n92567
    induction n92567 using Nat.strongRecOn with
    | _ n92567 ih92568 =>
      intro v92569 v92570 b92573 b92574 m92575
      refine wp_of e202 c202_4 (rw_iload_n (pc' := 5) (z := v92569) rfl rfl ?_)
      refine wp_of e202 c202_5 (rw_iload_n (pc' := 6) (z := a1) rfl rfl ?_)
      refine wp_of e202 c202_6 (rw_icmp_ge (p1 := 27) (p2 := 9) (by decide) rfl ⟨by omega, by omega⟩ ⟨by omega, by omega⟩ (fun c92576 => ?_) (fun c92576 => ?_))
      · refine wp_of e202 c202_27 (rw_iload_n (pc' := 28) (z := v92570) rfl rfl ?_)
        exact wp_ireturn e202 c202_28 rfl ⟨rfl, rfl, v92570, rfl, ⟨by omega, by omega⟩⟩
      · refine wp_of e202 c202_9 (rw_iload_n (pc' := 10) (z := v92569) rfl rfl ?_)
        refine wp_of e202 c202_10 (rw_bipush (pc' := 12) (z := 24) rfl (by decide) ?_)
        refine wp_of e202 c202_12 (rw_icmp_ge (p1 := 27) (p2 := 15) (by decide) rfl ⟨by omega, by omega⟩ ⟨by omega, by omega⟩ (fun c92577 => ?_) (fun c92577 => ?_))
        · refine wp_of e202 c202_27 (rw_iload_n (pc' := 28) (z := v92570) rfl rfl ?_)
          exact wp_ireturn e202 c202_28 rfl ⟨rfl, rfl, v92570, rfl, ⟨by omega, by omega⟩⟩
        · refine wp_of e202 c202_15 (rw_iload_n (pc' := 16) (z := v92570) rfl rfl ?_)
          refine wp_of e202 c202_16 (rw_iconst (pc' := 17) rfl ?_)
          refine wp_of e202 c202_17 (rw_iload_n (pc' := 18) (z := v92569) rfl rfl ?_)
          refine wp_of e202 c202_18 (rw_ishl (pc' := 19) rfl ?_)
          obtain ⟨v92578, e92579⟩ : ∃ x : Int, x = wq_shl 1 v92569 := ⟨_, rfl⟩
          rw [← e92579]
          have b92580 : -2147483648 ≤ v92578 ∧ v92578 ≤ 2147483647 := by
            rw [e92579]
            exact wI_shl _ _
          refine wp_of e202 c202_19 (rw_ior (pc' := 20) rfl ?_)
          obtain ⟨v92581, e92582⟩ : ∃ x : Int, x = wq_or v92570 v92578 := ⟨_, rfl⟩
          rw [← e92582]
          have b92583 : -2147483648 ≤ v92581 ∧ v92581 ≤ 2147483647 := by
            rw [e92582]
            exact wI_or _ _
          refine wp_of e202 c202_20 (rw_istore_n (pc' := 21) (z := v92581) (L' := [(2, vI v92581), (3, vI v92569), (1, vI a1)]) rfl rfl rfl ?_)
          refine wp_of e202 c202_21 (rw_iinc (pc' := 24) (z := v92569) (L' := [(3, vI (v92569 + 1)), (2, vI v92581), (1, vI a1)]) rfl rfl rfl rfl ?_)
          refine wp_of e202 c202_24 (rw_goto (p1 := 4) (by decide) ?_)
          exact wp_lc (ks := [3, 2, 1]) (wl_c rfl (wl_c rfl (wl_c rfl wl_n))) rfl (by decide) (ih92568 _ (by omega) (v92569 + 1) v92581 ⟨by omega, by omega⟩ ⟨by omega, by omega⟩ rfl)
  exact wp_lc (ks := [3, 2, 0, 1]) (wl_c rfl (wl_c rfl (wl_c rfl wl_n))) rfl (by decide) (lp92566 _ a0 0 ⟨by omega, by omega⟩ ⟨by omega, by omega⟩ rfl)
/-! StrikeAwakeModel.readTold()V -/
theorem e200 : wq_en 200 = some (9, 2, false, none) := rfl
theorem c200_0 : mc_cd 200 0 = some (.aload_n 0, 1) := by decide +kernel
theorem c200_1 : mc_cd 200 1 = some (.aload_n 0, 1) := by decide +kernel
theorem c200_2 : mc_cd 200 2 = some (.getfield 166, 3) := by decide +kernel
theorem c200_5 : mc_cd 200 5 = some (.getfield 306, 3) := by decide +kernel
theorem c200_8 : mc_cd 200 8 = some (.iconst 4, 1) := by decide +kernel
theorem c200_9 : mc_cd 200 9 = some (.invokevirtual 228, 3) := by decide +kernel
theorem c200_12 : mc_cd 200 12 = some (.aload_n 0, 1) := by decide +kernel
theorem c200_13 : mc_cd 200 13 = some (.invokevirtual 309, 3) := by decide +kernel
theorem c200_16 : mc_cd 200 16 = some (.istore_n 1, 1) := by decide +kernel
theorem c200_17 : mc_cd 200 17 = some (.aload_n 0, 1) := by decide +kernel
theorem c200_18 : mc_cd 200 18 = some (.getfield 75, 3) := by decide +kernel
theorem c200_21 : mc_cd 200 21 = some (.iconst 5, 1) := by decide +kernel
theorem c200_22 : mc_cd 200 22 = some (.if_icmp .ne 4, 3) := by decide +kernel
theorem c200_25 : mc_cd 200 25 = some (.return_, 1) := by decide +kernel
theorem c200_26 : mc_cd 200 26 = some (.aload_n 0, 1) := by decide +kernel
theorem c200_27 : mc_cd 200 27 = some (.getfield 166, 3) := by decide +kernel
theorem c200_30 : mc_cd 200 30 = some (.getfield 312, 3) := by decide +kernel
theorem c200_33 : mc_cd 200 33 = some (.aload_n 0, 1) := by decide +kernel
theorem c200_34 : mc_cd 200 34 = some (.getfield 166, 3) := by decide +kernel
theorem c200_37 : mc_cd 200 37 = some (.getfield 306, 3) := by decide +kernel
theorem c200_40 : mc_cd 200 40 = some (.iload_n 1, 1) := by decide +kernel
theorem c200_41 : mc_cd 200 41 = some (.iastore, 1) := by decide +kernel
theorem c200_42 : mc_cd 200 42 = some (.aload_n 0, 1) := by decide +kernel
theorem c200_43 : mc_cd 200 43 = some (.getfield 166, 3) := by decide +kernel
theorem c200_46 : mc_cd 200 46 = some (.getfield 315, 3) := by decide +kernel
theorem c200_49 : mc_cd 200 49 = some (.aload_n 0, 1) := by decide +kernel
theorem c200_50 : mc_cd 200 50 = some (.getfield 166, 3) := by decide +kernel
theorem c200_53 : mc_cd 200 53 = some (.getfield 306, 3) := by decide +kernel
theorem c200_56 : mc_cd 200 56 = some (.aload_n 0, 1) := by decide +kernel
theorem c200_57 : mc_cd 200 57 = some (.getfield 300, 3) := by decide +kernel
theorem c200_60 : mc_cd 200 60 = some (.aload_n 0, 1) := by decide +kernel
theorem c200_61 : mc_cd 200 61 = some (.getfield 303, 3) := by decide +kernel
theorem c200_64 : mc_cd 200 64 = some (.invokestatic 318, 3) := by decide +kernel
theorem c200_67 : mc_cd 200 67 = some (.iastore, 1) := by decide +kernel
theorem c200_68 : mc_cd 200 68 = some (.aload_n 0, 1) := by decide +kernel
theorem c200_69 : mc_cd 200 69 = some (.getfield 166, 3) := by decide +kernel
theorem c200_72 : mc_cd 200 72 = some (.dup, 1) := by decide +kernel
theorem c200_73 : mc_cd 200 73 = some (.getfield 306, 3) := by decide +kernel
theorem c200_76 : mc_cd 200 76 = some (.iconst 1, 1) := by decide +kernel
theorem c200_77 : mc_cd 200 77 = some (.iadd, 1) := by decide +kernel
theorem c200_78 : mc_cd 200 78 = some (.putfield 306, 3) := by decide +kernel
theorem c200_81 : mc_cd 200 81 = some (.return_, 1) := by decide +kernel
/-! StrikeAwakeModel.readOffer()V -/
theorem e203 : wq_en 203 = some (9, 2, false, none) := rfl
theorem c203_0 : mc_cd 203 0 = some (.aload_n 0, 1) := by decide +kernel
theorem c203_1 : mc_cd 203 1 = some (.aload_n 0, 1) := by decide +kernel
theorem c203_2 : mc_cd 203 2 = some (.getfield 166, 3) := by decide +kernel
theorem c203_5 : mc_cd 203 5 = some (.getfield 321, 3) := by decide +kernel
theorem c203_8 : mc_cd 203 8 = some (.bipush 6, 2) := by decide +kernel
theorem c203_10 : mc_cd 203 10 = some (.invokevirtual 228, 3) := by decide +kernel
theorem c203_13 : mc_cd 203 13 = some (.aload_n 0, 1) := by decide +kernel
theorem c203_14 : mc_cd 203 14 = some (.invokevirtual 309, 3) := by decide +kernel
theorem c203_17 : mc_cd 203 17 = some (.istore_n 1, 1) := by decide +kernel
theorem c203_18 : mc_cd 203 18 = some (.aload_n 0, 1) := by decide +kernel
theorem c203_19 : mc_cd 203 19 = some (.getfield 75, 3) := by decide +kernel
theorem c203_22 : mc_cd 203 22 = some (.iconst 5, 1) := by decide +kernel
theorem c203_23 : mc_cd 203 23 = some (.if_icmp .ne 4, 3) := by decide +kernel
theorem c203_26 : mc_cd 203 26 = some (.return_, 1) := by decide +kernel
theorem c203_27 : mc_cd 203 27 = some (.aload_n 0, 1) := by decide +kernel
theorem c203_28 : mc_cd 203 28 = some (.getfield 166, 3) := by decide +kernel
theorem c203_31 : mc_cd 203 31 = some (.getfield 324, 3) := by decide +kernel
theorem c203_34 : mc_cd 203 34 = some (.aload_n 0, 1) := by decide +kernel
theorem c203_35 : mc_cd 203 35 = some (.getfield 166, 3) := by decide +kernel
theorem c203_38 : mc_cd 203 38 = some (.getfield 321, 3) := by decide +kernel
theorem c203_41 : mc_cd 203 41 = some (.iload_n 1, 1) := by decide +kernel
theorem c203_42 : mc_cd 203 42 = some (.iastore, 1) := by decide +kernel
theorem c203_43 : mc_cd 203 43 = some (.aload_n 0, 1) := by decide +kernel
theorem c203_44 : mc_cd 203 44 = some (.getfield 166, 3) := by decide +kernel
theorem c203_47 : mc_cd 203 47 = some (.getfield 327, 3) := by decide +kernel
theorem c203_50 : mc_cd 203 50 = some (.aload_n 0, 1) := by decide +kernel
theorem c203_51 : mc_cd 203 51 = some (.getfield 166, 3) := by decide +kernel
theorem c203_54 : mc_cd 203 54 = some (.getfield 321, 3) := by decide +kernel
theorem c203_57 : mc_cd 203 57 = some (.aload_n 0, 1) := by decide +kernel
theorem c203_58 : mc_cd 203 58 = some (.getfield 300, 3) := by decide +kernel
theorem c203_61 : mc_cd 203 61 = some (.aload_n 0, 1) := by decide +kernel
theorem c203_62 : mc_cd 203 62 = some (.getfield 303, 3) := by decide +kernel
theorem c203_65 : mc_cd 203 65 = some (.invokestatic 318, 3) := by decide +kernel
theorem c203_68 : mc_cd 203 68 = some (.iastore, 1) := by decide +kernel
theorem c203_69 : mc_cd 203 69 = some (.aload_n 0, 1) := by decide +kernel
theorem c203_70 : mc_cd 203 70 = some (.getfield 166, 3) := by decide +kernel
theorem c203_73 : mc_cd 203 73 = some (.dup, 1) := by decide +kernel
theorem c203_74 : mc_cd 203 74 = some (.getfield 321, 3) := by decide +kernel
theorem c203_77 : mc_cd 203 77 = some (.iconst 1, 1) := by decide +kernel
theorem c203_78 : mc_cd 203 78 = some (.iadd, 1) := by decide +kernel
theorem c203_79 : mc_cd 203 79 = some (.putfield 321, 3) := by decide +kernel
theorem c203_82 : mc_cd 203 82 = some (.return_, 1) := by decide +kernel
/-! StrikeAwakeModel.readLine()V -/
theorem e177 : wq_en 177 = some (9, 1, false, none) := rfl
theorem c177_0 : mc_cd 177 0 = some (.aload_n 0, 1) := by decide +kernel
theorem c177_1 : mc_cd 177 1 = some (.ldc 140, 2) := by decide +kernel
theorem c177_3 : mc_cd 177 3 = some (.invokevirtual 114, 3) := by decide +kernel
theorem c177_6 : mc_cd 177 6 = some (.ifCond .eq 10, 3) := by decide +kernel
theorem c177_9 : mc_cd 177 9 = some (.aload_n 0, 1) := by decide +kernel
theorem c177_10 : mc_cd 177 10 = some (.invokevirtual 191, 3) := by decide +kernel
theorem c177_13 : mc_cd 177 13 = some (.goto 120, 3) := by decide +kernel
theorem c177_16 : mc_cd 177 16 = some (.aload_n 0, 1) := by decide +kernel
theorem c177_17 : mc_cd 177 17 = some (.ldc 142, 2) := by decide +kernel
theorem c177_19 : mc_cd 177 19 = some (.invokevirtual 114, 3) := by decide +kernel
theorem c177_22 : mc_cd 177 22 = some (.ifCond .eq 10, 3) := by decide +kernel
theorem c177_25 : mc_cd 177 25 = some (.aload_n 0, 1) := by decide +kernel
theorem c177_26 : mc_cd 177 26 = some (.invokevirtual 194, 3) := by decide +kernel
theorem c177_29 : mc_cd 177 29 = some (.goto 104, 3) := by decide +kernel
theorem c177_32 : mc_cd 177 32 = some (.aload_n 0, 1) := by decide +kernel
theorem c177_33 : mc_cd 177 33 = some (.ldc 144, 2) := by decide +kernel
theorem c177_35 : mc_cd 177 35 = some (.invokevirtual 114, 3) := by decide +kernel
theorem c177_38 : mc_cd 177 38 = some (.ifCond .eq 10, 3) := by decide +kernel
theorem c177_41 : mc_cd 177 41 = some (.aload_n 0, 1) := by decide +kernel
theorem c177_42 : mc_cd 177 42 = some (.invokevirtual 197, 3) := by decide +kernel
theorem c177_45 : mc_cd 177 45 = some (.goto 88, 3) := by decide +kernel
theorem c177_48 : mc_cd 177 48 = some (.aload_n 0, 1) := by decide +kernel
theorem c177_49 : mc_cd 177 49 = some (.ldc 146, 2) := by decide +kernel
theorem c177_51 : mc_cd 177 51 = some (.invokevirtual 114, 3) := by decide +kernel
theorem c177_54 : mc_cd 177 54 = some (.ifCond .eq 10, 3) := by decide +kernel
theorem c177_57 : mc_cd 177 57 = some (.aload_n 0, 1) := by decide +kernel
theorem c177_58 : mc_cd 177 58 = some (.invokevirtual 200, 3) := by decide +kernel
theorem c177_61 : mc_cd 177 61 = some (.goto 72, 3) := by decide +kernel
theorem c177_64 : mc_cd 177 64 = some (.aload_n 0, 1) := by decide +kernel
theorem c177_65 : mc_cd 177 65 = some (.ldc 148, 2) := by decide +kernel
theorem c177_67 : mc_cd 177 67 = some (.invokevirtual 114, 3) := by decide +kernel
theorem c177_70 : mc_cd 177 70 = some (.ifCond .eq 10, 3) := by decide +kernel
theorem c177_73 : mc_cd 177 73 = some (.aload_n 0, 1) := by decide +kernel
theorem c177_74 : mc_cd 177 74 = some (.invokevirtual 203, 3) := by decide +kernel
theorem c177_77 : mc_cd 177 77 = some (.goto 56, 3) := by decide +kernel
theorem c177_80 : mc_cd 177 80 = some (.aload_n 0, 1) := by decide +kernel
theorem c177_81 : mc_cd 177 81 = some (.ldc 150, 2) := by decide +kernel
theorem c177_83 : mc_cd 177 83 = some (.invokevirtual 114, 3) := by decide +kernel
theorem c177_86 : mc_cd 177 86 = some (.ifCond .eq 10, 3) := by decide +kernel
theorem c177_89 : mc_cd 177 89 = some (.aload_n 0, 1) := by decide +kernel
theorem c177_90 : mc_cd 177 90 = some (.invokevirtual 206, 3) := by decide +kernel
theorem c177_93 : mc_cd 177 93 = some (.goto 40, 3) := by decide +kernel
theorem c177_96 : mc_cd 177 96 = some (.aload_n 0, 1) := by decide +kernel
theorem c177_97 : mc_cd 177 97 = some (.ldc 152, 2) := by decide +kernel
theorem c177_99 : mc_cd 177 99 = some (.invokevirtual 114, 3) := by decide +kernel
theorem c177_102 : mc_cd 177 102 = some (.ifCond .eq 10, 3) := by decide +kernel
theorem c177_105 : mc_cd 177 105 = some (.aload_n 0, 1) := by decide +kernel
theorem c177_106 : mc_cd 177 106 = some (.invokevirtual 209, 3) := by decide +kernel
theorem c177_109 : mc_cd 177 109 = some (.goto 24, 3) := by decide +kernel
theorem c177_112 : mc_cd 177 112 = some (.aload_n 0, 1) := by decide +kernel
theorem c177_113 : mc_cd 177 113 = some (.ldc 154, 2) := by decide +kernel
theorem c177_115 : mc_cd 177 115 = some (.invokevirtual 114, 3) := by decide +kernel
theorem c177_118 : mc_cd 177 118 = some (.ifCond .eq 10, 3) := by decide +kernel
theorem c177_121 : mc_cd 177 121 = some (.aload_n 0, 1) := by decide +kernel
theorem c177_122 : mc_cd 177 122 = some (.invokevirtual 212, 3) := by decide +kernel
theorem c177_125 : mc_cd 177 125 = some (.goto 8, 3) := by decide +kernel
theorem c177_128 : mc_cd 177 128 = some (.aload_n 0, 1) := by decide +kernel
theorem c177_129 : mc_cd 177 129 = some (.iconst 1, 1) := by decide +kernel
theorem c177_130 : mc_cd 177 130 = some (.invokevirtual 121, 3) := by decide +kernel
theorem c177_133 : mc_cd 177 133 = some (.return_, 1) := by decide +kernel
/-! StrikeAwakeModel.eatsSign(I)Z -/
theorem e204 : wq_en 204 = some (9, 3, false, some FieldType.boolean) := rfl
theorem c204_0 : mc_cd 204 0 = some (.aload_n 0, 1) := by decide +kernel
theorem c204_1 : mc_cd 204 1 = some (.getfield 75, 3) := by decide +kernel
theorem c204_4 : mc_cd 204 4 = some (.iconst 4, 1) := by decide +kernel
theorem c204_5 : mc_cd 204 5 = some (.if_icmp .ne 15, 3) := by decide +kernel
theorem c204_8 : mc_cd 204 8 = some (.aload_n 0, 1) := by decide +kernel
theorem c204_9 : mc_cd 204 9 = some (.getfield 87, 3) := by decide +kernel
theorem c204_12 : mc_cd 204 12 = some (.iload_n 1, 1) := by decide +kernel
theorem c204_13 : mc_cd 204 13 = some (.if_icmp .ne 7, 3) := by decide +kernel
theorem c204_16 : mc_cd 204 16 = some (.iconst 1, 1) := by decide +kernel
theorem c204_17 : mc_cd 204 17 = some (.goto 4, 3) := by decide +kernel
theorem c204_20 : mc_cd 204 20 = some (.iconst 0, 1) := by decide +kernel
theorem c204_21 : mc_cd 204 21 = some (.istore_n 2, 1) := by decide +kernel
theorem c204_22 : mc_cd 204 22 = some (.iload_n 2, 1) := by decide +kernel
theorem c204_23 : mc_cd 204 23 = some (.ifCond .eq 7, 3) := by decide +kernel
theorem c204_26 : mc_cd 204 26 = some (.aload_n 0, 1) := by decide +kernel
theorem c204_27 : mc_cd 204 27 = some (.invokevirtual 118, 3) := by decide +kernel
theorem c204_30 : mc_cd 204 30 = some (.iload_n 2, 1) := by decide +kernel
theorem c204_31 : mc_cd 204 31 = some (.ireturn, 1) := by decide +kernel
/-! StrikeAwakeModel.readParish()V -/
theorem e176 : wq_en 176 = some (9, 2, false, none) := rfl
theorem c176_0 : mc_cd 176 0 = some (.iconst 1, 1) := by decide +kernel
theorem c176_1 : mc_cd 176 1 = some (.istore_n 1, 1) := by decide +kernel
theorem c176_2 : mc_cd 176 2 = some (.iload_n 1, 1) := by decide +kernel
theorem c176_3 : mc_cd 176 3 = some (.ifCond .eq 17, 3) := by decide +kernel
theorem c176_6 : mc_cd 176 6 = some (.aload_n 0, 1) := by decide +kernel
theorem c176_7 : mc_cd 176 7 = some (.invokevirtual 179, 3) := by decide +kernel
theorem c176_10 : mc_cd 176 10 = some (.aload_n 0, 1) := by decide +kernel
theorem c176_11 : mc_cd 176 11 = some (.bipush 59, 2) := by decide +kernel
theorem c176_13 : mc_cd 176 13 = some (.invokevirtual 182, 3) := by decide +kernel
theorem c176_16 : mc_cd 176 16 = some (.istore_n 1, 1) := by decide +kernel
theorem c176_17 : mc_cd 176 17 = some (.goto (-15), 3) := by decide +kernel
theorem c176_20 : mc_cd 176 20 = some (.aload_n 0, 1) := by decide +kernel
theorem c176_21 : mc_cd 176 21 = some (.getfield 75, 3) := by decide +kernel
theorem c176_24 : mc_cd 176 24 = some (.iconst 1, 1) := by decide +kernel
theorem c176_25 : mc_cd 176 25 = some (.if_icmp .eq 8, 3) := by decide +kernel
theorem c176_28 : mc_cd 176 28 = some (.aload_n 0, 1) := by decide +kernel
theorem c176_29 : mc_cd 176 29 = some (.iconst 1, 1) := by decide +kernel
theorem c176_30 : mc_cd 176 30 = some (.invokevirtual 121, 3) := by decide +kernel
theorem c176_33 : mc_cd 176 33 = some (.aload_n 0, 1) := by decide +kernel
theorem c176_34 : mc_cd 176 34 = some (.getfield 166, 3) := by decide +kernel
theorem c176_37 : mc_cd 176 37 = some (.getfield 185, 3) := by decide +kernel
theorem c176_40 : mc_cd 176 40 = some (.ifCond .eq 13, 3) := by decide +kernel
theorem c176_43 : mc_cd 176 43 = some (.aload_n 0, 1) := by decide +kernel
theorem c176_44 : mc_cd 176 44 = some (.getfield 166, 3) := by decide +kernel
theorem c176_47 : mc_cd 176 47 = some (.getfield 188, 3) := by decide +kernel
theorem c176_50 : mc_cd 176 50 = some (.ifCond .ne 9, 3) := by decide +kernel
theorem c176_53 : mc_cd 176 53 = some (.aload_n 0, 1) := by decide +kernel
theorem c176_54 : mc_cd 176 54 = some (.bipush 6, 2) := by decide +kernel
theorem c176_56 : mc_cd 176 56 = some (.invokevirtual 121, 3) := by decide +kernel
theorem c176_59 : mc_cd 176 59 = some (.return_, 1) := by decide +kernel
/-! StrikeAwakeModel.has(II)Z -/
theorem e205 : wq_en 205 = some (9, 2, false, some FieldType.boolean) := rfl
theorem c205_0 : mc_cd 205 0 = some (.iload_n 0, 1) := by decide +kernel
theorem c205_1 : mc_cd 205 1 = some (.iload_n 1, 1) := by decide +kernel
theorem c205_2 : mc_cd 205 2 = some (.ishr, 1) := by decide +kernel
theorem c205_3 : mc_cd 205 3 = some (.iconst 1, 1) := by decide +kernel
theorem c205_4 : mc_cd 205 4 = some (.iand, 1) := by decide +kernel
theorem c205_5 : mc_cd 205 5 = some (.iconst 1, 1) := by decide +kernel
theorem c205_6 : mc_cd 205 6 = some (.if_icmp .ne 7, 3) := by decide +kernel
theorem c205_9 : mc_cd 205 9 = some (.iconst 1, 1) := by decide +kernel
theorem c205_10 : mc_cd 205 10 = some (.goto 4, 3) := by decide +kernel
theorem c205_13 : mc_cd 205 13 = some (.iconst 0, 1) := by decide +kernel
theorem c205_14 : mc_cd 205 14 = some (.ireturn, 1) := by decide +kernel
abbrev q_205 (a0 : Int) (a1 : Int) (T : wq_T) (H : wq_H) : Option Value → wq_T → wq_H → Prop := fun r T' H' => T = T' ∧ H = H' ∧ ∃ z : Int, some (vI z) = r ∧ (0 ≤ z ∧ z ≤ 1)
set_option maxHeartbeats 4000000 in
theorem s_205 {kt : Nat → Option mc_E} {T : wq_T} {H : wq_H} {a0 : Int} {a1 : Int} (hW : WT T H) (i0 : (-2147483648) ≤ a0 ∧ a0 ≤ 2147483647) (i1 : (-2147483648) ≤ a1 ∧ a1 ≤ 2147483647) : wpc kt 1 205 [vI a0, vI a1] T H (q_205 a0 a1 T H) := by
  refine wp_enter e205 (Nat.le_of_ble_eq_true rfl) rfl ?_
  show wp _ _ 205 0 [(0, vI a0), (1, vI a1)] [] _ H _
  refine wp_of e205 c205_0 (rw_iload_n (pc' := 1) (z := a0) rfl rfl ?_)
  refine wp_of e205 c205_1 (rw_iload_n (pc' := 2) (z := a1) rfl rfl ?_)
  refine wp_of e205 c205_2 (rw_ishr (pc' := 3) rfl ?_)
  obtain ⟨v93875, e93876⟩ : ∃ x : Int, x = wq_shr a0 a1 := ⟨_, rfl⟩
  rw [← e93876]
  have b93877 : -2147483648 ≤ v93875 ∧ v93875 ≤ 2147483647 := by
    rw [e93876]
    exact wI_shr _ _
  refine wp_of e205 c205_3 (rw_iconst (pc' := 4) rfl ?_)
  refine wp_of e205 c205_4 (rw_iand (pc' := 5) rfl ?_)
  obtain ⟨v93878, e93879⟩ : ∃ x : Int, x = wq_and v93875 1 := ⟨_, rfl⟩
  rw [← e93879]
  have b93880 : 0 ≤ v93878 ∧ v93878 ≤ 1 := by
    rw [e93879]
    exact wq_and_b _ (by omega) (by omega)
  refine wp_of e205 c205_5 (rw_iconst (pc' := 6) rfl ?_)
  refine wp_of e205 c205_6 (rw_icmp_ne (p1 := 13) (p2 := 9) (by decide) rfl ⟨by omega, by omega⟩ ⟨by omega, by omega⟩ (fun c93881 => ?_) (fun c93881 => ?_))
  · refine wp_of e205 c205_13 (rw_iconst (pc' := 14) rfl ?_)
    exact wp_zreturn e205 c205_14 rfl (by omega) ⟨rfl, rfl, 0, rfl, ⟨by omega, by omega⟩⟩
  · refine wp_of e205 c205_9 (rw_iconst (pc' := 10) rfl ?_)
    refine wp_of e205 c205_10 (rw_goto (p1 := 14) (by decide) ?_)
    exact wp_zreturn e205 c205_14 rfl (by omega) ⟨rfl, rfl, 1, rfl, ⟨by omega, by omega⟩⟩
/-! StrikeAwakeModel.struckHours()I -/
theorem e207 : wq_en 207 = some (9, 3, false, some FieldType.int) := rfl
theorem c207_0 : mc_cd 207 0 = some (.iconst 0, 1) := by decide +kernel
theorem c207_1 : mc_cd 207 1 = some (.istore_n 1, 1) := by decide +kernel
theorem c207_2 : mc_cd 207 2 = some (.iconst 0, 1) := by decide +kernel
theorem c207_3 : mc_cd 207 3 = some (.istore_n 2, 1) := by decide +kernel
theorem c207_4 : mc_cd 207 4 = some (.iload_n 2, 1) := by decide +kernel
theorem c207_5 : mc_cd 207 5 = some (.bipush 24, 2) := by decide +kernel
theorem c207_7 : mc_cd 207 7 = some (.if_icmp .ge 28, 3) := by decide +kernel
theorem c207_10 : mc_cd 207 10 = some (.iload_n 1, 1) := by decide +kernel
theorem c207_11 : mc_cd 207 11 = some (.aload_n 0, 1) := by decide +kernel
theorem c207_12 : mc_cd 207 12 = some (.getfield 17, 3) := by decide +kernel
theorem c207_15 : mc_cd 207 15 = some (.iload_n 2, 1) := by decide +kernel
theorem c207_16 : mc_cd 207 16 = some (.iaload, 1) := by decide +kernel
theorem c207_17 : mc_cd 207 17 = some (.ifCond .le 9, 3) := by decide +kernel
theorem c207_20 : mc_cd 207 20 = some (.iconst 1, 1) := by decide +kernel
theorem c207_21 : mc_cd 207 21 = some (.iload_n 2, 1) := by decide +kernel
theorem c207_22 : mc_cd 207 22 = some (.ishl, 1) := by decide +kernel
theorem c207_23 : mc_cd 207 23 = some (.goto 4, 3) := by decide +kernel
theorem c207_26 : mc_cd 207 26 = some (.iconst 0, 1) := by decide +kernel
theorem c207_27 : mc_cd 207 27 = some (.ior, 1) := by decide +kernel
theorem c207_28 : mc_cd 207 28 = some (.istore_n 1, 1) := by decide +kernel
theorem c207_29 : mc_cd 207 29 = some (.iinc 2 1, 3) := by decide +kernel
theorem c207_32 : mc_cd 207 32 = some (.goto (-28), 3) := by decide +kernel
theorem c207_35 : mc_cd 207 35 = some (.iload_n 1, 1) := by decide +kernel
theorem c207_36 : mc_cd 207 36 = some (.ireturn, 1) := by decide +kernel
abbrev q_207 (r0 : Nat) (T : wq_T) (H : wq_H) : Option Value → wq_T → wq_H → Prop := fun r T' H' => T = T' ∧ H = H' ∧ ∃ z : Int, some (vI z) = r ∧ (0 ≤ z ∧ z ≤ 16777215)
set_option maxHeartbeats 4000000 in
theorem s_207 {kt : Nat → Option mc_E} {T : wq_T} {H : wq_H} {r0 : Nat} (hW : WT T H) (g0 : T.2.2.2 r0 = some 42) : wpc kt 1 207 [.ref r0] T H (q_207 r0 T H) := by
  refine wp_enter e207 (Nat.le_of_ble_eq_true rfl) rfl ?_
  show wp _ _ 207 0 [(0, .ref r0)] [] _ H _
  refine wp_of e207 c207_0 (rw_iconst (pc' := 1) rfl ?_)
  refine wp_of e207 c207_1 (rw_istore_n (pc' := 2) (z := 0) (L' := [(1, vI 0), (0, .ref r0)]) rfl rfl rfl ?_)
  refine wp_of e207 c207_2 (rw_iconst (pc' := 3) rfl ?_)
  refine wp_of e207 c207_3 (rw_istore_n (pc' := 4) (z := 0) (L' := [(2, vI 0), (1, vI 0), (0, .ref r0)]) rfl rfl rfl ?_)
  have lp94104 : ∀ (n94105 : Nat) (v94107 : Int) (v94108 : Int), (0 ≤ v94107 ∧ v94107 ≤ 24) → (0 ≤ v94108 ∧ v94108 ≤ 16777215) → (24 - v94107).toNat = n94105 → wp kt 0 207 4 [(2, vI v94107), (1, vI v94108), (0, .ref r0)] [] T H (q_207 r0 T H) := by
    intro n94105
    induction n94105 using Nat.strongRecOn with
    | _ n94105 ih94106 =>
      intro v94107 v94108 b94111 b94112 m94113
      refine wp_of e207 c207_4 (rw_iload_n (pc' := 5) (z := v94107) rfl rfl ?_)
      refine wp_of e207 c207_5 (rw_bipush (pc' := 7) (z := 24) rfl (by decide) ?_)
      refine wp_of e207 c207_7 (rw_icmp_ge (p1 := 35) (p2 := 10) (by decide) rfl ⟨by omega, by omega⟩ ⟨by omega, by omega⟩ (fun c94114 => ?_) (fun c94114 => ?_))
      · refine wp_of e207 c207_35 (rw_iload_n (pc' := 36) (z := v94108) rfl rfl ?_)
        exact wp_ireturn e207 c207_36 rfl ⟨rfl, rfl, v94108, rfl, ⟨by omega, by omega⟩⟩
      · refine wp_of e207 c207_10 (rw_iload_n (pc' := 11) (z := v94108) rfl rfl ?_)
        refine wp_of e207 c207_11 (rw_aload_n (pc' := 12) (v := .ref r0) rfl rfl rfl ?_)
        refine wp_of e207 c207_12 (xg_R (pc' := 15) lf_9_17 hW g0 sh_42 (by decide) (by decide) ty_42_20 rfl rfl (fun r94115 q94116 g94117 => ?_))
        refine wp_of e207 c207_15 (rw_iload_n (pc' := 16) (z := v94107) rfl rfl ?_)
        refine wp_of e207 c207_16 (xa_I (so := 0) (pc' := 17) hW g94117 sh_44 (by decide) (ty_44 _) (by omega) (by omega) rfl (fun b94118 b94119 => ?_))
        refine wp_of e207 c207_17 (rw_if_le (p1 := 26) (p2 := 20) (by decide) rfl ⟨by omega, by omega⟩ (fun c94120 => ?_) (fun c94120 => ?_))
        · refine wp_of e207 c207_26 (rw_iconst (pc' := 27) rfl ?_)
          refine wp_of e207 c207_27 (rw_ior (pc' := 28) rfl ?_)
          obtain ⟨v94121, e94122⟩ : ∃ x : Int, x = wq_or v94108 0 := ⟨_, rfl⟩
          rw [← e94122]
          have b94123 : 0 ≤ v94121 ∧ v94121 ≤ 16777215 := by
            rw [e94122]
            exact wq_or_24 ⟨by omega, by omega⟩ ⟨by omega, by omega⟩
          refine wp_of e207 c207_28 (rw_istore_n (pc' := 29) (z := v94121) (L' := [(1, vI v94121), (2, vI v94107), (0, .ref r0)]) rfl rfl rfl ?_)
          refine wp_of e207 c207_29 (rw_iinc (pc' := 32) (z := v94107) (L' := [(2, vI (v94107 + 1)), (1, vI v94121), (0, .ref r0)]) rfl rfl rfl rfl ?_)
          refine wp_of e207 c207_32 (rw_goto (p1 := 4) (by decide) ?_)
          exact wp_lc (ks := [2, 1, 0]) (wl_c rfl (wl_c rfl (wl_c rfl wl_n))) rfl (by decide) (ih94106 _ (by omega) (v94107 + 1) v94121 ⟨by omega, by omega⟩ ⟨by omega, by omega⟩ rfl)
        · refine wp_of e207 c207_20 (rw_iconst (pc' := 21) rfl ?_)
          refine wp_of e207 c207_21 (rw_iload_n (pc' := 22) (z := v94107) rfl rfl ?_)
          refine wp_of e207 c207_22 (rw_ishl (pc' := 23) rfl ?_)
          obtain ⟨v94124, e94125⟩ : ∃ x : Int, x = wq_shl 1 v94107 := ⟨_, rfl⟩
          rw [← e94125]
          have b94126 : 1 ≤ v94124 ∧ v94124 ≤ 8388608 := by
            rw [e94125]
            exact wq_shl1_24 ⟨by omega, by omega⟩
          refine wp_of e207 c207_23 (rw_goto (p1 := 27) (by decide) ?_)
          refine wp_of e207 c207_27 (rw_ior (pc' := 28) rfl ?_)
          obtain ⟨v94127, e94128⟩ : ∃ x : Int, x = wq_or v94108 v94124 := ⟨_, rfl⟩
          rw [← e94128]
          have b94129 : 0 ≤ v94127 ∧ v94127 ≤ 16777215 := by
            rw [e94128]
            exact wq_or_24 ⟨by omega, by omega⟩ ⟨by omega, by omega⟩
          refine wp_of e207 c207_28 (rw_istore_n (pc' := 29) (z := v94127) (L' := [(1, vI v94127), (2, vI v94107), (0, .ref r0)]) rfl rfl rfl ?_)
          refine wp_of e207 c207_29 (rw_iinc (pc' := 32) (z := v94107) (L' := [(2, vI (v94107 + 1)), (1, vI v94127), (0, .ref r0)]) rfl rfl rfl rfl ?_)
          refine wp_of e207 c207_32 (rw_goto (p1 := 4) (by decide) ?_)
          exact wp_lc (ks := [2, 1, 0]) (wl_c rfl (wl_c rfl (wl_c rfl wl_n))) rfl (by decide) (ih94106 _ (by omega) (v94107 + 1) v94127 ⟨by omega, by omega⟩ ⟨by omega, by omega⟩ rfl)
  exact wp_lc (ks := [2, 1, 0]) (wl_c rfl (wl_c rfl (wl_c rfl wl_n))) rfl (by decide) (lp94104 _ 0 0 ⟨by omega, by omega⟩ ⟨by omega, by omega⟩ rfl)
/-! StrikeAwakeModel.lay(IIIII)V -/
theorem e208 : wq_en 208 = some (9, 7, false, none) := rfl
theorem c208_0 : mc_cd 208 0 = some (.bipush 40, 2) := by decide +kernel
theorem c208_2 : mc_cd 208 2 = some (.iload_n 1, 1) := by decide +kernel
theorem c208_3 : mc_cd 208 3 = some (.imul, 1) := by decide +kernel
theorem c208_4 : mc_cd 208 4 = some (.aload_n 0, 1) := by decide +kernel
theorem c208_5 : mc_cd 208 5 = some (.getfield 21, 3) := by decide +kernel
theorem c208_8 : mc_cd 208 8 = some (.iload_n 1, 1) := by decide +kernel
theorem c208_9 : mc_cd 208 9 = some (.iaload, 1) := by decide +kernel
theorem c208_10 : mc_cd 208 10 = some (.iadd, 1) := by decide +kernel
theorem c208_11 : mc_cd 208 11 = some (.istore 6, 2) := by decide +kernel
theorem c208_13 : mc_cd 208 13 = some (.aload_n 0, 1) := by decide +kernel
theorem c208_14 : mc_cd 208 14 = some (.getfield 24, 3) := by decide +kernel
theorem c208_17 : mc_cd 208 17 = some (.iload 6, 2) := by decide +kernel
theorem c208_19 : mc_cd 208 19 = some (.iload_n 2, 1) := by decide +kernel
theorem c208_20 : mc_cd 208 20 = some (.iastore, 1) := by decide +kernel
theorem c208_21 : mc_cd 208 21 = some (.aload_n 0, 1) := by decide +kernel
theorem c208_22 : mc_cd 208 22 = some (.getfield 27, 3) := by decide +kernel
theorem c208_25 : mc_cd 208 25 = some (.iload 6, 2) := by decide +kernel
theorem c208_27 : mc_cd 208 27 = some (.iload_n 3, 1) := by decide +kernel
theorem c208_28 : mc_cd 208 28 = some (.iastore, 1) := by decide +kernel
theorem c208_29 : mc_cd 208 29 = some (.aload_n 0, 1) := by decide +kernel
theorem c208_30 : mc_cd 208 30 = some (.getfield 30, 3) := by decide +kernel
theorem c208_33 : mc_cd 208 33 = some (.iload 6, 2) := by decide +kernel
theorem c208_35 : mc_cd 208 35 = some (.iload 4, 2) := by decide +kernel
theorem c208_37 : mc_cd 208 37 = some (.iastore, 1) := by decide +kernel
theorem c208_38 : mc_cd 208 38 = some (.aload_n 0, 1) := by decide +kernel
theorem c208_39 : mc_cd 208 39 = some (.getfield 33, 3) := by decide +kernel
theorem c208_42 : mc_cd 208 42 = some (.iload 6, 2) := by decide +kernel
theorem c208_44 : mc_cd 208 44 = some (.iload 5, 2) := by decide +kernel
theorem c208_46 : mc_cd 208 46 = some (.iastore, 1) := by decide +kernel
theorem c208_47 : mc_cd 208 47 = some (.aload_n 0, 1) := by decide +kernel
theorem c208_48 : mc_cd 208 48 = some (.getfield 21, 3) := by decide +kernel
theorem c208_51 : mc_cd 208 51 = some (.iload_n 1, 1) := by decide +kernel
theorem c208_52 : mc_cd 208 52 = some (.dup2, 1) := by decide +kernel
theorem c208_53 : mc_cd 208 53 = some (.iaload, 1) := by decide +kernel
theorem c208_54 : mc_cd 208 54 = some (.iconst 1, 1) := by decide +kernel
theorem c208_55 : mc_cd 208 55 = some (.iadd, 1) := by decide +kernel
theorem c208_56 : mc_cd 208 56 = some (.iastore, 1) := by decide +kernel
theorem c208_57 : mc_cd 208 57 = some (.return_, 1) := by decide +kernel
abbrev q_208 (r0 : Nat) (a1 : Int) (a2 : Int) (a3 : Int) (a4 : Int) (a5 : Int) (sp : Nat) (T : wq_T) (H : wq_H) : Option Value → wq_T → wq_H → Prop := fun r T' H' => T = T' ∧ WT T H' ∧ wfr [(48, 999), (49, 999), (46, 999), (47, 999), (45, 999)] T H H' ∧ none = r ∧ (H' sp (a1).toNat = H sp (a1).toNat + 1)
set_option maxHeartbeats 4000000 in
theorem s_208 {kt : Nat → Option mc_E} {T : wq_T} {H : wq_H} {r0 : Nat} {a1 : Int} {a2 : Int} {a3 : Int} {a4 : Int} {a5 : Int} {sp : Nat} (hW : WT T H) (g0 : T.2.2.2 r0 = some 42) (i1 : 0 ≤ a1 ∧ a1 ≤ 5) (i2 : 0 ≤ a2 ∧ a2 ≤ 30) (i3 : 0 ≤ a3 ∧ a3 ≤ 16) (i4 : (-2147483648) ≤ a4 ∧ a4 ≤ 2147483647) (i5 : (-2147483648) ≤ a5 ∧ a5 ≤ 2147483647) (qsp : H r0 21 = (sp : Int)) (gsp : T.2.2.2 sp = some 45) (p0 : H sp (a1).toNat ≤ 39) : wpc kt 1 208 [.ref r0, vI a1, vI a2, vI a3, vI a4, vI a5] T H (q_208 r0 a1 a2 a3 a4 a5 sp T H) := by
  refine wp_enter e208 (Nat.le_of_ble_eq_true rfl) rfl ?_
  have f0 : wfr [(48, 999), (49, 999), (46, 999), (47, 999), (45, 999)] T H H := wfr.rf
  show wp _ _ 208 0 [(0, .ref r0), (1, vI a1), (2, vI a2), (3, vI a3), (4, vI a4), (5, vI a5)] [] _ H _
  refine wp_of e208 c208_0 (rw_bipush (pc' := 2) (z := 40) rfl (by decide) ?_)
  refine wp_of e208 c208_2 (rw_iload_n (pc' := 3) (z := a1) rfl rfl ?_)
  refine wp_of e208 c208_3 (rw_imul (pc' := 4) rfl ?_)
  refine wp_of e208 c208_4 (rw_aload_n (pc' := 5) (v := .ref r0) rfl rfl rfl ?_)
  refine wp_of e208 c208_5 (xg_K (pc' := 8) lf_9_21 hW g0 sh_42 (by decide) (by decide) rfl qsp rfl ?_)
  refine wp_of e208 c208_8 (rw_iload_n (pc' := 9) (z := a1) rfl rfl ?_)
  refine wp_of e208 c208_9 (xa_I (so := 0) (pc' := 10) hW gsp sh_45 (by decide) (ty_45 _) (by omega) (by omega) rfl (fun b94170 b94171 => ?_))
  refine wp_of e208 c208_10 (rw_iadd (pc' := 11) rfl ?_)
  refine wp_of e208 c208_11 (rw_istore (pc' := 13) (z := (40 * a1) + (H sp (a1.toNat))) (L' := [(6, vI ((40 * a1) + (H sp (a1.toNat)))), (0, .ref r0), (1, vI a1), (2, vI a2), (3, vI a3), (4, vI a4), (5, vI a5)]) rfl rfl rfl ?_)
  refine wp_of e208 c208_13 (rw_aload_n (pc' := 14) (v := .ref r0) rfl rfl rfl ?_)
  refine wp_of e208 c208_14 (xg_R (pc' := 17) lf_9_24 hW g0 sh_42 (by decide) (by decide) ty_42_22 rfl rfl (fun r94172 q94173 g94174 => ?_))
  refine wp_of e208 c208_17 (rw_iload (pc' := 19) (z := (40 * a1) + (H sp (a1.toNat))) rfl rfl ?_)
  refine wp_of e208 c208_19 (rw_iload_n (pc' := 20) (z := a2) rfl rfl ?_)
  refine wp_of e208 c208_20 (xs_I (pc' := 21) hW g94174 (by decide) sh_46 (by decide) (ty_46 _) (by omega) (by omega) ⟨by omega, by omega⟩ (by omega) (by omega) rfl (fun H94175 e94176 w94177 => ?_))
  have f94178 := f0.put' e94176 g94174 rfl
  refine wp_of e208 c208_21 (rw_aload_n (pc' := 22) (v := .ref r0) rfl rfl rfl ?_)
  refine wp_of e208 c208_22 (xg_R (pc' := 25) lf_9_27 w94177 g0 sh_42 (by decide) (by decide) ty_42_23 rfl rfl (fun r94179 q94180 g94181 => ?_))
  refine wp_of e208 c208_25 (rw_iload (pc' := 27) (z := (40 * a1) + (H sp (a1.toNat))) rfl rfl ?_)
  refine wp_of e208 c208_27 (rw_iload_n (pc' := 28) (z := a3) rfl rfl ?_)
  refine wp_of e208 c208_28 (xs_I (pc' := 29) w94177 g94181 (by decide) sh_47 (by decide) (ty_47 _) (by omega) (by omega) ⟨by omega, by omega⟩ (by omega) (by omega) rfl (fun H94182 e94183 w94184 => ?_))
  have f94185 := f94178.put' e94183 g94181 rfl
  refine wp_of e208 c208_29 (rw_aload_n (pc' := 30) (v := .ref r0) rfl rfl rfl ?_)
  refine wp_of e208 c208_30 (xg_R (pc' := 33) lf_9_30 w94184 g0 sh_42 (by decide) (by decide) ty_42_24 rfl rfl (fun r94186 q94187 g94188 => ?_))
  refine wp_of e208 c208_33 (rw_iload (pc' := 35) (z := (40 * a1) + (H sp (a1.toNat))) rfl rfl ?_)
  refine wp_of e208 c208_35 (rw_iload (pc' := 37) (z := a4) rfl rfl ?_)
  refine wp_of e208 c208_37 (xs_I (pc' := 38) w94184 g94188 (by decide) sh_48 (by decide) (ty_48 _) (by omega) (by omega) ⟨by omega, by omega⟩ (by omega) (by omega) rfl (fun H94189 e94190 w94191 => ?_))
  have f94192 := f94185.put' e94190 g94188 rfl
  refine wp_of e208 c208_38 (rw_aload_n (pc' := 39) (v := .ref r0) rfl rfl rfl ?_)
  refine wp_of e208 c208_39 (xg_R (pc' := 42) lf_9_33 w94191 g0 sh_42 (by decide) (by decide) ty_42_25 rfl rfl (fun r94193 q94194 g94195 => ?_))
  refine wp_of e208 c208_42 (rw_iload (pc' := 44) (z := (40 * a1) + (H sp (a1.toNat))) rfl rfl ?_)
  refine wp_of e208 c208_44 (rw_iload (pc' := 46) (z := a5) rfl rfl ?_)
  refine wp_of e208 c208_46 (xs_I (pc' := 47) w94191 g94195 (by decide) sh_49 (by decide) (ty_49 _) (by omega) (by omega) ⟨by omega, by omega⟩ (by omega) (by omega) rfl (fun H94196 e94197 w94198 => ?_))
  have f94199 := f94192.put' e94197 g94195 rfl
  refine wp_of e208 c208_47 (rw_aload_n (pc' := 48) (v := .ref r0) rfl rfl rfl ?_)
  have k94200 : H94196 r0 21 = H r0 21 := ((wq_u_t e94197 g94195 g0 rfl 21).trans ((wq_u_t e94190 g94188 g0 rfl 21).trans ((wq_u_t e94183 g94181 g0 rfl 21).trans (wq_u_t e94176 g94174 g0 rfl 21))))
  have q94201 : H94196 r0 21 = (sp : Int) := k94200.trans qsp
  refine wp_of e208 c208_48 (xg_K (pc' := 51) lf_9_21 w94198 g0 sh_42 (by decide) (by decide) rfl q94201 rfl ?_)
  refine wp_of e208 c208_51 (rw_iload_n (pc' := 52) (z := a1) rfl rfl ?_)
  refine wp_of e208 c208_52 (rw_dup2 (pc' := 53) rfl rfl rfl ?_)
  have k94202 : H94196 sp (a1.toNat) = H sp (a1.toNat) := ((wq_u_t e94197 g94195 gsp rfl (a1.toNat)).trans ((wq_u_t e94190 g94188 gsp rfl (a1.toNat)).trans ((wq_u_t e94183 g94181 gsp rfl (a1.toNat)).trans (wq_u_t e94176 g94174 gsp rfl (a1.toNat)))))
  refine wp_of e208 c208_53 (xa_I (so := 0) (pc' := 54) w94198 gsp sh_45 (by decide) (ty_45 _) (by omega) (by omega) rfl (fun b94203 b94204 => ?_))
  refine wp_of e208 c208_54 (rw_iconst (pc' := 55) rfl ?_)
  refine wp_of e208 c208_55 (rw_iadd (pc' := 56) rfl ?_)
  refine wp_of e208 c208_56 (xs_I (pc' := 57) w94198 gsp (by decide) sh_45 (by decide) (ty_45 _) (by omega) (by omega) ⟨by omega, by omega⟩ (by omega) (by omega) rfl (fun H94205 e94206 w94207 => ?_))
  have f94208 := f94199.put' e94206 gsp rfl
  have k94209 : H94205 sp (a1.toNat) = (H94196 sp (a1.toNat)) + 1 := wq_u_s e94206
  exact wp_return e208 c208_57 rfl ⟨rfl, w94207, f94208, rfl, by omega⟩
/-! StrikeAwakeModel.lays()V -/
theorem e206 : wq_en 206 = some (9, 7, false, none) := rfl
theorem c206_0 : mc_cd 206 0 = some (.aload_n 0, 1) := by decide +kernel
theorem c206_1 : mc_cd 206 1 = some (.invokevirtual 357, 3) := by decide +kernel
theorem c206_4 : mc_cd 206 4 = some (.istore_n 1, 1) := by decide +kernel
theorem c206_5 : mc_cd 206 5 = some (.iconst 0, 1) := by decide +kernel
theorem c206_6 : mc_cd 206 6 = some (.istore_n 2, 1) := by decide +kernel
theorem c206_7 : mc_cd 206 7 = some (.iload_n 2, 1) := by decide +kernel
theorem c206_8 : mc_cd 206 8 = some (.aload_n 0, 1) := by decide +kernel
theorem c206_9 : mc_cd 206 9 = some (.getfield 337, 3) := by decide +kernel
theorem c206_12 : mc_cd 206 12 = some (.getfield 188, 3) := by decide +kernel
theorem c206_15 : mc_cd 206 15 = some (.if_icmp .ge 181, 3) := by decide +kernel
theorem c206_18 : mc_cd 206 18 = some (.aload_n 0, 1) := by decide +kernel
theorem c206_19 : mc_cd 206 19 = some (.getfield 21, 3) := by decide +kernel
theorem c206_22 : mc_cd 206 22 = some (.iload_n 2, 1) := by decide +kernel
theorem c206_23 : mc_cd 206 23 = some (.iconst 0, 1) := by decide +kernel
theorem c206_24 : mc_cd 206 24 = some (.iastore, 1) := by decide +kernel
theorem c206_25 : mc_cd 206 25 = some (.aload_n 0, 1) := by decide +kernel
theorem c206_26 : mc_cd 206 26 = some (.getfield 337, 3) := by decide +kernel
theorem c206_29 : mc_cd 206 29 = some (.getfield 267, 3) := by decide +kernel
theorem c206_32 : mc_cd 206 32 = some (.iload_n 2, 1) := by decide +kernel
theorem c206_33 : mc_cd 206 33 = some (.baload, 1) := by decide +kernel
theorem c206_34 : mc_cd 206 34 = some (.ifCond .eq 15, 3) := by decide +kernel
theorem c206_37 : mc_cd 206 37 = some (.aload_n 0, 1) := by decide +kernel
theorem c206_38 : mc_cd 206 38 = some (.iload_n 2, 1) := by decide +kernel
theorem c206_39 : mc_cd 206 39 = some (.iconst 0, 1) := by decide +kernel
theorem c206_40 : mc_cd 206 40 = some (.iconst 0, 1) := by decide +kernel
theorem c206_41 : mc_cd 206 41 = some (.iconst 0, 1) := by decide +kernel
theorem c206_42 : mc_cd 206 42 = some (.iconst 0, 1) := by decide +kernel
theorem c206_43 : mc_cd 206 43 = some (.invokevirtual 360, 3) := by decide +kernel
theorem c206_46 : mc_cd 206 46 = some (.goto 144, 3) := by decide +kernel
theorem c206_49 : mc_cd 206 49 = some (.aload_n 0, 1) := by decide +kernel
theorem c206_50 : mc_cd 206 50 = some (.getfield 337, 3) := by decide +kernel
theorem c206_53 : mc_cd 206 53 = some (.getfield 261, 3) := by decide +kernel
theorem c206_56 : mc_cd 206 56 = some (.iload_n 2, 1) := by decide +kernel
theorem c206_57 : mc_cd 206 57 = some (.iaload, 1) := by decide +kernel
theorem c206_58 : mc_cd 206 58 = some (.aload_n 0, 1) := by decide +kernel
theorem c206_59 : mc_cd 206 59 = some (.getfield 337, 3) := by decide +kernel
theorem c206_62 : mc_cd 206 62 = some (.getfield 264, 3) := by decide +kernel
theorem c206_65 : mc_cd 206 65 = some (.iload_n 2, 1) := by decide +kernel
theorem c206_66 : mc_cd 206 66 = some (.iaload, 1) := by decide +kernel
theorem c206_67 : mc_cd 206 67 = some (.invokestatic 318, 3) := by decide +kernel
theorem c206_70 : mc_cd 206 70 = some (.istore_n 3, 1) := by decide +kernel
theorem c206_71 : mc_cd 206 71 = some (.aload_n 0, 1) := by decide +kernel
theorem c206_72 : mc_cd 206 72 = some (.getfield 337, 3) := by decide +kernel
theorem c206_75 : mc_cd 206 75 = some (.getfield 247, 3) := by decide +kernel
theorem c206_78 : mc_cd 206 78 = some (.iload_n 2, 1) := by decide +kernel
theorem c206_79 : mc_cd 206 79 = some (.iaload, 1) := by decide +kernel
theorem c206_80 : mc_cd 206 80 = some (.istore 4, 2) := by decide +kernel
theorem c206_82 : mc_cd 206 82 = some (.iload 4, 2) := by decide +kernel
theorem c206_84 : mc_cd 206 84 = some (.aload_n 0, 1) := by decide +kernel
theorem c206_85 : mc_cd 206 85 = some (.getfield 337, 3) := by decide +kernel
theorem c206_88 : mc_cd 206 88 = some (.getfield 250, 3) := by decide +kernel
theorem c206_91 : mc_cd 206 91 = some (.iload_n 2, 1) := by decide +kernel
theorem c206_92 : mc_cd 206 92 = some (.iaload, 1) := by decide +kernel
theorem c206_93 : mc_cd 206 93 = some (.if_icmp .gt 97, 3) := by decide +kernel
theorem c206_96 : mc_cd 206 96 = some (.aload_n 0, 1) := by decide +kernel
theorem c206_97 : mc_cd 206 97 = some (.getfield 337, 3) := by decide +kernel
theorem c206_100 : mc_cd 206 100 = some (.getfield 253, 3) := by decide +kernel
theorem c206_103 : mc_cd 206 103 = some (.iload_n 2, 1) := by decide +kernel
theorem c206_104 : mc_cd 206 104 = some (.iaload, 1) := by decide +kernel
theorem c206_105 : mc_cd 206 105 = some (.istore 5, 2) := by decide +kernel
theorem c206_107 : mc_cd 206 107 = some (.iload 5, 2) := by decide +kernel
theorem c206_109 : mc_cd 206 109 = some (.aload_n 0, 1) := by decide +kernel
theorem c206_110 : mc_cd 206 110 = some (.getfield 337, 3) := by decide +kernel
theorem c206_113 : mc_cd 206 113 = some (.getfield 256, 3) := by decide +kernel
theorem c206_116 : mc_cd 206 116 = some (.iload_n 2, 1) := by decide +kernel
theorem c206_117 : mc_cd 206 117 = some (.iaload, 1) := by decide +kernel
theorem c206_118 : mc_cd 206 118 = some (.if_icmp .gt 66, 3) := by decide +kernel
theorem c206_121 : mc_cd 206 121 = some (.iload 4, 2) := by decide +kernel
theorem c206_123 : mc_cd 206 123 = some (.iload 4, 2) := by decide +kernel
theorem c206_125 : mc_cd 206 125 = some (.iload 5, 2) := by decide +kernel
theorem c206_127 : mc_cd 206 127 = some (.iadd, 1) := by decide +kernel
theorem c206_128 : mc_cd 206 128 = some (.invokestatic 318, 3) := by decide +kernel
theorem c206_131 : mc_cd 206 131 = some (.iload_n 3, 1) := by decide +kernel
theorem c206_132 : mc_cd 206 132 = some (.ior, 1) := by decide +kernel
theorem c206_133 : mc_cd 206 133 = some (.aload_n 0, 1) := by decide +kernel
theorem c206_134 : mc_cd 206 134 = some (.getfield 343, 3) := by decide +kernel
theorem c206_137 : mc_cd 206 137 = some (.iand, 1) := by decide +kernel
theorem c206_138 : mc_cd 206 138 = some (.istore 6, 2) := by decide +kernel
theorem c206_140 : mc_cd 206 140 = some (.iload_n 2, 1) := by decide +kernel
theorem c206_141 : mc_cd 206 141 = some (.aload_n 0, 1) := by decide +kernel
theorem c206_142 : mc_cd 206 142 = some (.getfield 337, 3) := by decide +kernel
theorem c206_145 : mc_cd 206 145 = some (.getfield 271, 3) := by decide +kernel
theorem c206_148 : mc_cd 206 148 = some (.if_icmp .ne 10, 3) := by decide +kernel
theorem c206_151 : mc_cd 206 151 = some (.iload 6, 2) := by decide +kernel
theorem c206_153 : mc_cd 206 153 = some (.iload_n 1, 1) := by decide +kernel
theorem c206_154 : mc_cd 206 154 = some (.iand, 1) := by decide +kernel
theorem c206_155 : mc_cd 206 155 = some (.ifCond .ne 23, 3) := by decide +kernel
theorem c206_158 : mc_cd 206 158 = some (.aload_n 0, 1) := by decide +kernel
theorem c206_159 : mc_cd 206 159 = some (.iload_n 2, 1) := by decide +kernel
theorem c206_160 : mc_cd 206 160 = some (.iload 4, 2) := by decide +kernel
theorem c206_162 : mc_cd 206 162 = some (.iload 5, 2) := by decide +kernel
theorem c206_164 : mc_cd 206 164 = some (.iload 6, 2) := by decide +kernel
theorem c206_166 : mc_cd 206 166 = some (.aload_n 0, 1) := by decide +kernel
theorem c206_167 : mc_cd 206 167 = some (.getfield 343, 3) := by decide +kernel
theorem c206_170 : mc_cd 206 170 = some (.iload 6, 2) := by decide +kernel
theorem c206_172 : mc_cd 206 172 = some (.iconst (-1), 1) := by decide +kernel
theorem c206_173 : mc_cd 206 173 = some (.ixor, 1) := by decide +kernel
theorem c206_174 : mc_cd 206 174 = some (.iand, 1) := by decide +kernel
theorem c206_175 : mc_cd 206 175 = some (.invokevirtual 360, 3) := by decide +kernel
theorem c206_178 : mc_cd 206 178 = some (.iinc 5 1, 3) := by decide +kernel
theorem c206_181 : mc_cd 206 181 = some (.goto (-74), 3) := by decide +kernel
theorem c206_184 : mc_cd 206 184 = some (.iinc 4 1, 3) := by decide +kernel
theorem c206_187 : mc_cd 206 187 = some (.goto (-105), 3) := by decide +kernel
theorem c206_190 : mc_cd 206 190 = some (.iinc 2 1, 3) := by decide +kernel
theorem c206_193 : mc_cd 206 193 = some (.goto (-186), 3) := by decide +kernel
theorem c206_196 : mc_cd 206 196 = some (.return_, 1) := by decide +kernel
abbrev q_206 (r0 : Nat) (pp : Nat) (T : wq_T) (H : wq_H) : Option Value → wq_T → wq_H → Prop := fun r T' H' => T = T' ∧ WT T H' ∧ wfr [(48, 999), (49, 999), (46, 999), (47, 999), (45, 999)] T H H' ∧ none = r
set_option maxHeartbeats 4000000 in
theorem s_206 {kt : Nat → Option mc_E} {T : wq_T} {H : wq_H} {r0 : Nat} {pp : Nat} (hW : WT T H) (g0 : T.2.2.2 r0 = some 42) (qpp : H r0 3 = (pp : Int)) (gpp : T.2.2.2 pp = some 54) (p0 : wPI H pp = 1) : wpc kt 2 206 [.ref r0] T H (q_206 r0 pp T H) := by
  refine wp_enter e206 (Nat.le_of_ble_eq_true rfl) rfl ?_
  have f0 : wfr [(48, 999), (49, 999), (46, 999), (47, 999), (45, 999)] T H H := wfr.rf
  show wp _ _ 206 0 [(0, .ref r0)] [] _ H _
  refine wp_of e206 c206_0 (rw_aload_n (pc' := 1) (v := .ref r0) rfl rfl rfl ?_)
  refine wp_of e206 c206_1 (xc_V (pc' := 4) (r := r0) (as := []) (st := []) (lm_9_357) rfl rfl (Nat.le_of_ble_eq_true rfl) hW g0 sh_42 (by decide) rfl (by decide) (s_207 hW g0) (fun R110972 T110973 H110974 p110975 => ?_))
  obtain ⟨e110976, e110978, z110979, e110977, b110980⟩ := p110975
  subst e110976
  subst e110977
  subst e110978
  show wp _ _ 206 4 [(0, .ref r0)] [vI z110979] _ H _
  refine wp_of e206 c206_4 (rw_istore_n (pc' := 5) (z := z110979) (L' := [(1, vI z110979), (0, .ref r0)]) rfl rfl rfl ?_)
  refine wp_of e206 c206_5 (rw_iconst (pc' := 6) rfl ?_)
  refine wp_of e206 c206_6 (rw_istore_n (pc' := 7) (z := 0) (L' := [(2, vI 0), (1, vI z110979), (0, .ref r0)]) rfl rfl rfl ?_)
  have lp125639 : ∀ (n125640 : Nat) (v125642 : Int) (H125643 : wq_H), WT T H125643 → wfr [(48, 999), (49, 999), (46, 999), (47, 999), (45, 999)] T H H125643 → (0 ≤ v125642 ∧ v125642 ≤ 6) → (wPI H125643 pp = 1) → (6 - v125642).toNat = n125640 → wp kt 1 206 7 [(2, vI v125642), (1, vI z110979), (0, .ref r0)] [] T H125643 (q_206 r0 pp T H) := by
    intro n125640
    induction n125640 using Nat.strongRecOn with
    | _ n125640 ih125641 =>
      intro v125642 H125643 w125644 f125645 b125646 x125647 m125648
      have f125649 := f0.tr f125645 rfl
      have k125650 : wPI H125643 pp = wPI H pp := (wPI_fr hW gpp f125645 rfl)
      refine wp_of e206 c206_7 (rw_iload_n (pc' := 8) (z := v125642) rfl rfl ?_)
      refine wp_of e206 c206_8 (rw_aload_n (pc' := 9) (v := .ref r0) rfl rfl rfl ?_)
      have k125651 : H125643 r0 3 = H r0 3 := (f125645 r0 3 _ g0 rfl)
      have q125652 : H125643 r0 3 = (pp : Int) := k125651.trans qpp
      refine wp_of e206 c206_9 (xg_K (pc' := 12) lf_9_337 w125644 g0 sh_42 (by decide) (by decide) rfl q125652 rfl ?_)
      refine wp_of e206 c206_12 (xg_I (pc' := 15) lf_9_188 w125644 gpp sh_54 (by decide) (by decide) ty_54_3 rfl rfl (fun b125653 b125654 => ?_))
      refine wp_of e206 c206_15 (rw_icmp_ge (p1 := 196) (p2 := 18) (by decide) rfl ⟨by omega, by omega⟩ ⟨by omega, by omega⟩ (fun c125655 => ?_) (fun c125655 => ?_))
      · exact wp_return e206 c206_196 rfl ⟨rfl, w125644, f125649, rfl⟩
      · refine wp_of e206 c206_18 (rw_aload_n (pc' := 19) (v := .ref r0) rfl rfl rfl ?_)
        refine wp_of e206 c206_19 (xg_R (pc' := 22) lf_9_21 w125644 g0 sh_42 (by decide) (by decide) ty_42_21 rfl rfl (fun r125656 q125657 g125658 => ?_))
        refine wp_of e206 c206_22 (rw_iload_n (pc' := 23) (z := v125642) rfl rfl ?_)
        refine wp_of e206 c206_23 (rw_iconst (pc' := 24) rfl ?_)
        refine wp_of e206 c206_24 (xs_I (pc' := 25) w125644 g125658 (by decide) sh_45 (by decide) (ty_45 _) (by omega) (by omega) ⟨by omega, by omega⟩ (by omega) (by omega) rfl (fun H125659 e125660 w125661 => ?_))
        have f125662 := f125649.put' e125660 g125658 rfl
        have f125663 := f125645.put' e125660 g125658 rfl
        have k125664 : H125659 r125656 (v125642.toNat) = 0 := wq_u_s e125660
        refine wp_of e206 c206_25 (rw_aload_n (pc' := 26) (v := .ref r0) rfl rfl rfl ?_)
        have k125665 : H125659 r0 3 = H125643 r0 3 := (wq_u_t e125660 g125658 g0 rfl 3)
        have q125666 : H125659 r0 3 = (pp : Int) := k125665.trans q125652
        refine wp_of e206 c206_26 (xg_K (pc' := 29) lf_9_337 w125661 g0 sh_42 (by decide) (by decide) rfl q125666 rfl ?_)
        refine wp_of e206 c206_29 (xg_R (pc' := 32) lf_9_267 w125661 gpp sh_54 (by decide) (by decide) ty_54_17 rfl rfl (fun r125667 q125668 g125669 => ?_))
        refine wp_of e206 c206_32 (rw_iload_n (pc' := 33) (z := v125642) rfl rfl ?_)
        refine wp_of e206 c206_33 (xa_B (by decide) (pc' := 34) w125661 g125669 sh_63 (by decide) (ty_63 _) (by omega) (by omega) rfl (fun b125670 b125671 => ?_))
        refine wp_of e206 c206_34 (rw_if_eq (p1 := 49) (p2 := 37) (by decide) rfl ⟨by omega, by omega⟩ (fun c125672 => ?_) (fun c125672 => ?_))
        · refine wp_of e206 c206_49 (rw_aload_n (pc' := 50) (v := .ref r0) rfl rfl rfl ?_)
          refine wp_of e206 c206_50 (xg_K (pc' := 53) lf_9_337 w125661 g0 sh_42 (by decide) (by decide) rfl q125666 rfl ?_)
          refine wp_of e206 c206_53 (xg_R (pc' := 56) lf_9_261 w125661 gpp sh_54 (by decide) (by decide) ty_54_15 rfl rfl (fun r125673 q125674 g125675 => ?_))
          refine wp_of e206 c206_56 (rw_iload_n (pc' := 57) (z := v125642) rfl rfl ?_)
          refine wp_of e206 c206_57 (xa_I (so := 0) (pc' := 58) w125661 g125675 sh_61 (by decide) (ty_61 _) (by omega) (by omega) rfl (fun b125676 b125677 => ?_))
          refine wp_of e206 c206_58 (rw_aload_n (pc' := 59) (v := .ref r0) rfl rfl rfl ?_)
          refine wp_of e206 c206_59 (xg_K (pc' := 62) lf_9_337 w125661 g0 sh_42 (by decide) (by decide) rfl q125666 rfl ?_)
          refine wp_of e206 c206_62 (xg_R (pc' := 65) lf_9_264 w125661 gpp sh_54 (by decide) (by decide) ty_54_16 rfl rfl (fun r125678 q125679 g125680 => ?_))
          refine wp_of e206 c206_65 (rw_iload_n (pc' := 66) (z := v125642) rfl rfl ?_)
          refine wp_of e206 c206_66 (xa_I (so := 0) (pc' := 67) w125661 g125680 sh_62 (by decide) (ty_62 _) (by omega) (by omega) rfl (fun b125681 b125682 => ?_))
          refine wp_of e206 c206_67 (xc_S (pc' := 70) (as := [vI (H125659 r125673 (v125642.toNat)), vI (H125659 r125678 (v125642.toNat))]) (st := []) (lm_9_318) rfl rfl (Nat.le_of_ble_eq_true rfl) rfl (by decide) (s_202 w125661 ⟨by omega, by omega⟩ ⟨by omega, by omega⟩) (fun R125683 T125684 H125685 p125686 => ?_))
          obtain ⟨e125687, e125689, z125690, e125688, b125691⟩ := p125686
          subst e125687
          subst e125688
          subst e125689
          show wp _ _ 206 70 [(2, vI v125642), (1, vI z110979), (0, .ref r0)] [vI z125690] _ H125659 _
          refine wp_of e206 c206_70 (rw_istore_n (pc' := 71) (z := z125690) (L' := [(3, vI z125690), (2, vI v125642), (1, vI z110979), (0, .ref r0)]) rfl rfl rfl ?_)
          refine wp_of e206 c206_71 (rw_aload_n (pc' := 72) (v := .ref r0) rfl rfl rfl ?_)
          refine wp_of e206 c206_72 (xg_K (pc' := 75) lf_9_337 w125661 g0 sh_42 (by decide) (by decide) rfl q125666 rfl ?_)
          refine wp_of e206 c206_75 (xg_R (pc' := 78) lf_9_247 w125661 gpp sh_54 (by decide) (by decide) ty_54_10 rfl rfl (fun r125692 q125693 g125694 => ?_))
          refine wp_of e206 c206_78 (rw_iload_n (pc' := 79) (z := v125642) rfl rfl ?_)
          refine wp_of e206 c206_79 (xa_I (so := 0) (pc' := 80) w125661 g125694 sh_56 (by decide) (ty_56 _) (by omega) (by omega) rfl (fun b125695 b125696 => ?_))
          refine wp_of e206 c206_80 (rw_istore (pc' := 82) (z := H125659 r125692 (v125642.toNat)) (L' := [(4, vI (H125659 r125692 (v125642.toNat))), (3, vI z125690), (2, vI v125642), (1, vI z110979), (0, .ref r0)]) rfl rfl rfl ?_)
          have k127449 : H125659 r0 21 = H125643 r0 21 := (wq_u_t e125660 g125658 g0 rfl 21)
          have q127450 : H125659 r0 21 = (r125656 : Int) := k127449.trans q125657
          have k127451 : wPI H125659 pp = wPI H125643 pp := (wPI_fr w125644 gpp ((wfr.rf (l := [(45, 999)])).put' e125660 g125658 rfl) rfl)
          have lp127444 : ∀ (n127445 : Nat) (v127447 : Int) (H127448 : wq_H), WT T H127448 → wfr [(48, 999), (49, 999), (46, 999), (47, 999), (45, 999)] T H125659 H127448 → (0 ≤ v127447 ∧ v127447 ≤ 31) → (H127448 r125656 (v125642).toNat ≤ 5 * (v127447 - H127448 r125692 (v125642).toNat)) → (H127448 r125692 (v125642).toNat ≤ v127447) → (wPI H127448 pp = 1) → (31 - v127447).toNat = n127445 → wp kt 1 206 82 [(4, vI v127447), (3, vI z125690), (2, vI v125642), (1, vI z110979), (0, .ref r0)] [] T H127448 (q_206 r0 pp T H) := by
            intro n127445
            induction n127445 using Nat.strongRecOn with
            | _ n127445 ih127446 =>
              intro v127447 H127448 w127452 f127453 b127454 x127455 x127456 x127457 m127458
              have f127459 := f125662.tr f127453 rfl
              have f127460 := f125663.tr f127453 rfl
              have k127461 : H127448 r0 21 = H125659 r0 21 := (f127453 r0 21 _ g0 rfl)
              have q127462 : H127448 r0 21 = (r125656 : Int) := k127461.trans q127450
              have k127463 : H127448 pp 10 = H125659 pp 10 := (f127453 pp 10 _ gpp rfl)
              have q127464 : H127448 pp 10 = (r125692 : Int) := k127463.trans q125693
              have k127465 : H127448 r125692 (v125642.toNat) = H125659 r125692 (v125642.toNat) := (f127453 r125692 (v125642.toNat) _ g125694 rfl)
              have k127466 : wPI H127448 pp = wPI H125659 pp := (wPI_fr w125661 gpp f127453 rfl)
              refine wp_of e206 c206_82 (rw_iload (pc' := 84) (z := v127447) rfl rfl ?_)
              refine wp_of e206 c206_84 (rw_aload_n (pc' := 85) (v := .ref r0) rfl rfl rfl ?_)
              have k127467 : H127448 r0 3 = H125659 r0 3 := (f127453 r0 3 _ g0 rfl)
              have q127468 : H127448 r0 3 = (pp : Int) := k127467.trans q125666
              refine wp_of e206 c206_85 (xg_K (pc' := 88) lf_9_337 w127452 g0 sh_42 (by decide) (by decide) rfl q127468 rfl ?_)
              refine wp_of e206 c206_88 (xg_R (pc' := 91) lf_9_250 w127452 gpp sh_54 (by decide) (by decide) ty_54_11 rfl rfl (fun r127469 q127470 g127471 => ?_))
              refine wp_of e206 c206_91 (rw_iload_n (pc' := 92) (z := v125642) rfl rfl ?_)
              refine wp_of e206 c206_92 (xa_I (so := 0) (pc' := 93) w127452 g127471 sh_57 (by decide) (ty_57 _) (by omega) (by omega) rfl (fun b127472 b127473 => ?_))
              refine wp_of e206 c206_93 (rw_icmp_gt (p1 := 190) (p2 := 96) (by decide) rfl ⟨by omega, by omega⟩ ⟨by omega, by omega⟩ (fun c127474 => ?_) (fun c127474 => ?_))
              · refine wp_of e206 c206_190 (rw_iinc (pc' := 193) (z := v125642) (L' := [(2, vI (v125642 + 1)), (4, vI v127447), (3, vI z125690), (1, vI z110979), (0, .ref r0)]) rfl rfl rfl rfl ?_)
                refine wp_of e206 c206_193 (rw_goto (p1 := 7) (by decide) ?_)
                exact wp_lc (ks := [2, 4, 3, 1, 0]) (wl_c rfl (wl_c rfl (wl_c rfl wl_n))) rfl (by decide) (ih125641 _ (by omega) (v125642 + 1) H127448 w127452 f127460 ⟨by omega, by omega⟩ (by omega) rfl)
              · refine wp_of e206 c206_96 (rw_aload_n (pc' := 97) (v := .ref r0) rfl rfl rfl ?_)
                refine wp_of e206 c206_97 (xg_K (pc' := 100) lf_9_337 w127452 g0 sh_42 (by decide) (by decide) rfl q127468 rfl ?_)
                refine wp_of e206 c206_100 (xg_R (pc' := 103) lf_9_253 w127452 gpp sh_54 (by decide) (by decide) ty_54_12 rfl rfl (fun r127475 q127476 g127477 => ?_))
                refine wp_of e206 c206_103 (rw_iload_n (pc' := 104) (z := v125642) rfl rfl ?_)
                refine wp_of e206 c206_104 (xa_I (so := 0) (pc' := 105) w127452 g127477 sh_58 (by decide) (ty_58 _) (by omega) (by omega) rfl (fun b127478 b127479 => ?_))
                refine wp_of e206 c206_105 (rw_istore (pc' := 107) (z := H127448 r127475 (v125642.toNat)) (L' := [(5, vI (H127448 r127475 (v125642.toNat))), (4, vI v127447), (3, vI z125690), (2, vI v125642), (1, vI z110979), (0, .ref r0)]) rfl rfl rfl ?_)
                have lp127758 : ∀ (n127759 : Nat) (v127761 : Int) (H127762 : wq_H), WT T H127762 → wfr [(48, 999), (49, 999), (46, 999), (47, 999), (45, 999)] T H127448 H127762 → (0 ≤ v127761 ∧ v127761 ≤ 17) → (H127762 r125656 (v125642).toNat ≤ 5 * (v127447 - H127762 r125692 (v125642).toNat) + (v127761 - H127762 r127475 (v125642).toNat)) → (H127762 r127475 (v125642).toNat ≤ v127761) → (v127761 ≤ H127762 r127475 (v125642).toNat + 5) → (H127762 r125692 (v125642).toNat ≤ v127447) → (wPI H127762 pp = 1) → (17 - v127761).toNat = n127759 → wp kt 1 206 107 [(5, vI v127761), (4, vI v127447), (3, vI z125690), (2, vI v125642), (1, vI z110979), (0, .ref r0)] [] T H127762 (q_206 r0 pp T H) := by
                  intro n127759
                  induction n127759 using Nat.strongRecOn with
                  | _ n127759 ih127760 =>
                    intro v127761 H127762 w127763 f127764 b127765 x127766 x127767 x127768 x127769 x127770 m127771
                    have f127772 := f127459.tr f127764 rfl
                    have f127773 := f127460.tr f127764 rfl
                    have f127774 := f127453.tr f127764 rfl
                    have k127775 : H127762 r0 21 = H127448 r0 21 := (f127764 r0 21 _ g0 rfl)
                    have q127776 : H127762 r0 21 = (r125656 : Int) := k127775.trans q127462
                    have k127777 : H127762 pp 10 = H127448 pp 10 := (f127764 pp 10 _ gpp rfl)
                    have q127778 : H127762 pp 10 = (r125692 : Int) := k127777.trans q127464
                    have k127779 : H127762 r125692 (v125642.toNat) = H127448 r125692 (v125642.toNat) := (f127764 r125692 (v125642.toNat) _ g125694 rfl)
                    have k127780 : wPI H127762 pp = wPI H127448 pp := (wPI_fr w127452 gpp f127764 rfl)
                    have k127781 : H127762 pp 11 = H127448 pp 11 := (f127764 pp 11 _ gpp rfl)
                    have q127782 : H127762 pp 11 = (r127469 : Int) := k127781.trans q127470
                    have k127783 : H127762 r127469 (v125642.toNat) = H127448 r127469 (v125642.toNat) := (f127764 r127469 (v125642.toNat) _ g127471 rfl)
                    have k127784 : H127762 pp 12 = H127448 pp 12 := (f127764 pp 12 _ gpp rfl)
                    have q127785 : H127762 pp 12 = (r127475 : Int) := k127784.trans q127476
                    have k127786 : H127762 r127475 (v125642.toNat) = H127448 r127475 (v125642.toNat) := (f127764 r127475 (v125642.toNat) _ g127477 rfl)
                    obtain ⟨r127787, q127788, g127789⟩ := w127763.ref gpp (t' := 59) (n := 27) (j := 13) (p := 0) (q := 0) rfl (by decide) rfl
                    have hp := wPI_at (H := H127762) (R := pp) (by omega) q127778 q127782 q127785 q127788 (k := (v125642).toNat) (by omega)
                    refine wp_of e206 c206_107 (rw_iload (pc' := 109) (z := v127761) rfl rfl ?_)
                    refine wp_of e206 c206_109 (rw_aload_n (pc' := 110) (v := .ref r0) rfl rfl rfl ?_)
                    have k127790 : H127762 r0 3 = H127448 r0 3 := (f127764 r0 3 _ g0 rfl)
                    have q127791 : H127762 r0 3 = (pp : Int) := k127790.trans q127468
                    refine wp_of e206 c206_110 (xg_K (pc' := 113) lf_9_337 w127763 g0 sh_42 (by decide) (by decide) rfl q127791 rfl ?_)
                    refine wp_of e206 c206_113 (xg_K (pc' := 116) lf_9_256 w127763 gpp sh_54 (by decide) (by decide) rfl q127788 rfl ?_)
                    refine wp_of e206 c206_116 (rw_iload_n (pc' := 117) (z := v125642) rfl rfl ?_)
                    refine wp_of e206 c206_117 (xa_I (so := 0) (pc' := 118) w127763 g127789 sh_59 (by decide) (ty_59 _) (by omega) (by omega) rfl (fun b127792 b127793 => ?_))
                    refine wp_of e206 c206_118 (rw_icmp_gt (p1 := 184) (p2 := 121) (by decide) rfl ⟨by omega, by omega⟩ ⟨by omega, by omega⟩ (fun c127794 => ?_) (fun c127794 => ?_))
                    · refine wp_of e206 c206_184 (rw_iinc (pc' := 187) (z := v127447) (L' := [(4, vI (v127447 + 1)), (5, vI v127761), (3, vI z125690), (2, vI v125642), (1, vI z110979), (0, .ref r0)]) rfl rfl rfl rfl ?_)
                      refine wp_of e206 c206_187 (rw_goto (p1 := 82) (by decide) ?_)
                      exact wp_lc (ks := [4, 5, 3, 2, 1, 0]) (wl_c rfl (wl_c rfl (wl_c rfl (wl_c rfl (wl_c rfl wl_n))))) rfl (by decide) (ih127446 _ (by omega) (v127447 + 1) H127762 w127763 f127774 ⟨by omega, by omega⟩ (by omega) (by omega) (by omega) rfl)
                    · refine wp_of e206 c206_121 (rw_iload (pc' := 123) (z := v127447) rfl rfl ?_)
                      refine wp_of e206 c206_123 (rw_iload (pc' := 125) (z := v127447) rfl rfl ?_)
                      refine wp_of e206 c206_125 (rw_iload (pc' := 127) (z := v127761) rfl rfl ?_)
                      refine wp_of e206 c206_127 (rw_iadd (pc' := 128) rfl ?_)
                      refine wp_of e206 c206_128 (xc_S (pc' := 131) (as := [vI v127447, vI (v127447 + v127761)]) (st := []) (lm_9_318) rfl rfl (Nat.le_of_ble_eq_true rfl) rfl (by decide) (s_202 w127763 ⟨by omega, by omega⟩ ⟨by omega, by omega⟩) (fun R127795 T127796 H127797 p127798 => ?_))
                      obtain ⟨e127799, e127801, z127802, e127800, b127803⟩ := p127798
                      subst e127799
                      subst e127800
                      subst e127801
                      show wp _ _ 206 131 [(5, vI v127761), (4, vI v127447), (3, vI z125690), (2, vI v125642), (1, vI z110979), (0, .ref r0)] [vI z127802] _ H127762 _
                      refine wp_of e206 c206_131 (rw_iload_n (pc' := 132) (z := z125690) rfl rfl ?_)
                      refine wp_of e206 c206_132 (rw_ior (pc' := 133) rfl ?_)
                      obtain ⟨v127804, e127805⟩ : ∃ x : Int, x = wq_or z127802 z125690 := ⟨_, rfl⟩
                      rw [← e127805]
                      have b127806 : -2147483648 ≤ v127804 ∧ v127804 ≤ 2147483647 := by
                        rw [e127805]
                        exact wI_or _ _
                      refine wp_of e206 c206_133 (rw_aload_n (pc' := 134) (v := .ref r0) rfl rfl rfl ?_)
                      refine wp_of e206 c206_134 (xg_I (pc' := 137) lf_9_343 w127763 g0 sh_42 (by decide) (by decide) ty_42_19 rfl rfl (fun b127807 b127808 => ?_))
                      refine wp_of e206 c206_137 (rw_iand (pc' := 138) rfl ?_)
                      obtain ⟨v127809, e127810⟩ : ∃ x : Int, x = wq_and v127804 (H127762 r0 19) := ⟨_, rfl⟩
                      rw [← e127810]
                      have b127811 : -2147483648 ≤ v127809 ∧ v127809 ≤ 2147483647 := by
                        rw [e127810]
                        exact wI_and _ _
                      refine wp_of e206 c206_138 (rw_istore (pc' := 140) (z := v127809) (L' := [(6, vI v127809), (5, vI v127761), (4, vI v127447), (3, vI z125690), (2, vI v125642), (1, vI z110979), (0, .ref r0)]) rfl rfl rfl ?_)
                      refine wp_of e206 c206_140 (rw_iload_n (pc' := 141) (z := v125642) rfl rfl ?_)
                      refine wp_of e206 c206_141 (rw_aload_n (pc' := 142) (v := .ref r0) rfl rfl rfl ?_)
                      refine wp_of e206 c206_142 (xg_K (pc' := 145) lf_9_337 w127763 g0 sh_42 (by decide) (by decide) rfl q127791 rfl ?_)
                      refine wp_of e206 c206_145 (xg_I (pc' := 148) lf_9_271 w127763 gpp sh_54 (by decide) (by decide) ty_54_8 rfl rfl (fun b127812 b127813 => ?_))
                      refine wp_of e206 c206_148 (rw_icmp_ne (p1 := 158) (p2 := 151) (by decide) rfl ⟨by omega, by omega⟩ ⟨by omega, by omega⟩ (fun c127814 => ?_) (fun c127814 => ?_))
                      · refine wp_of e206 c206_158 (rw_aload_n (pc' := 159) (v := .ref r0) rfl rfl rfl ?_)
                        refine wp_of e206 c206_159 (rw_iload_n (pc' := 160) (z := v125642) rfl rfl ?_)
                        refine wp_of e206 c206_160 (rw_iload (pc' := 162) (z := v127447) rfl rfl ?_)
                        refine wp_of e206 c206_162 (rw_iload (pc' := 164) (z := v127761) rfl rfl ?_)
                        refine wp_of e206 c206_164 (rw_iload (pc' := 166) (z := v127809) rfl rfl ?_)
                        refine wp_of e206 c206_166 (rw_aload_n (pc' := 167) (v := .ref r0) rfl rfl rfl ?_)
                        refine wp_of e206 c206_167 (xg_I (pc' := 170) lf_9_343 w127763 g0 sh_42 (by decide) (by decide) ty_42_19 rfl rfl (fun b127815 b127816 => ?_))
                        refine wp_of e206 c206_170 (rw_iload (pc' := 172) (z := v127809) rfl rfl ?_)
                        refine wp_of e206 c206_172 (rw_iconst (pc' := 173) rfl ?_)
                        refine wp_of e206 c206_173 (rw_ixor (pc' := 174) rfl ?_)
                        obtain ⟨v127817, e127818⟩ : ∃ x : Int, x = wq_xor v127809 (-1) := ⟨_, rfl⟩
                        rw [← e127818]
                        have b127819 : -2147483648 ≤ v127817 ∧ v127817 ≤ 2147483647 := by
                          rw [e127818]
                          exact wI_xor _ _
                        refine wp_of e206 c206_174 (rw_iand (pc' := 175) rfl ?_)
                        obtain ⟨v127820, e127821⟩ : ∃ x : Int, x = wq_and (H127762 r0 19) v127817 := ⟨_, rfl⟩
                        rw [← e127821]
                        have b127822 : -2147483648 ≤ v127820 ∧ v127820 ≤ 2147483647 := by
                          rw [e127821]
                          exact wI_and _ _
                        refine wp_of e206 c206_175 (xc_V (pc' := 178) (r := r0) (as := [vI v125642, vI v127447, vI v127761, vI v127809, vI v127820]) (st := []) (lm_9_360) rfl rfl (Nat.le_of_ble_eq_true rfl) w127763 g0 sh_42 (by decide) rfl (by decide) (s_208 w127763 g0 ⟨by omega, by omega⟩ ⟨by omega, by omega⟩ ⟨by omega, by omega⟩ ⟨by omega, by omega⟩ ⟨by omega, by omega⟩ q127776 g125658 (by omega)) (fun R127823 T127824 H127825 p127826 => ?_))
                        obtain ⟨e127827, w127829, f127830, e127828, p127831⟩ := p127826
                        subst e127827
                        subst e127828
                        have f127832 := f127772.tr f127830 rfl
                        have f127833 := f127773.tr f127830 rfl
                        have f127834 := f127774.tr f127830 rfl
                        have f127835 := f127764.tr f127830 rfl
                        show wp _ _ 206 178 [(6, vI v127809), (5, vI v127761), (4, vI v127447), (3, vI z125690), (2, vI v125642), (1, vI z110979), (0, .ref r0)] [] _ H127825 _
                        refine wp_of e206 c206_178 (rw_iinc (pc' := 181) (z := v127761) (L' := [(5, vI (v127761 + 1)), (6, vI v127809), (4, vI v127447), (3, vI z125690), (2, vI v125642), (1, vI z110979), (0, .ref r0)]) rfl rfl rfl rfl ?_)
                        refine wp_of e206 c206_181 (rw_goto (p1 := 107) (by decide) ?_)
                        have k127836 : H127825 r0 21 = H127762 r0 21 := (f127830 r0 21 _ g0 rfl)
                        have q127837 : H127825 r0 21 = (r125656 : Int) := k127836.trans q127776
                        have k127838 : H127825 pp 10 = H127762 pp 10 := (f127830 pp 10 _ gpp rfl)
                        have q127839 : H127825 pp 10 = (r125692 : Int) := k127838.trans q127778
                        have k127840 : H127825 r125692 (v125642.toNat) = H127762 r125692 (v125642.toNat) := (f127830 r125692 (v125642.toNat) _ g125694 rfl)
                        have k127841 : wPI H127825 pp = wPI H127762 pp := (wPI_fr w127763 gpp f127830 rfl)
                        have k127842 : H127825 pp 11 = H127762 pp 11 := (f127830 pp 11 _ gpp rfl)
                        have q127843 : H127825 pp 11 = (r127469 : Int) := k127842.trans q127782
                        have k127844 : H127825 r127469 (v125642.toNat) = H127762 r127469 (v125642.toNat) := (f127830 r127469 (v125642.toNat) _ g127471 rfl)
                        have k127845 : H127825 pp 12 = H127762 pp 12 := (f127830 pp 12 _ gpp rfl)
                        have q127846 : H127825 pp 12 = (r127475 : Int) := k127845.trans q127785
                        have k127847 : H127825 r127475 (v125642.toNat) = H127762 r127475 (v125642.toNat) := (f127830 r127475 (v125642.toNat) _ g127477 rfl)
                        exact wp_lc (ks := [5, 6, 4, 3, 2, 1, 0]) (wl_c rfl (wl_c rfl (wl_c rfl (wl_c rfl (wl_c rfl (wl_c rfl wl_n)))))) rfl (by decide) (ih127760 _ (by omega) (v127761 + 1) H127825 w127829 f127835 ⟨by omega, by omega⟩ (by omega) (by omega) (by omega) (by omega) (by omega) rfl)
                      · refine wp_of e206 c206_151 (rw_iload (pc' := 153) (z := v127809) rfl rfl ?_)
                        refine wp_of e206 c206_153 (rw_iload_n (pc' := 154) (z := z110979) rfl rfl ?_)
                        refine wp_of e206 c206_154 (rw_iand (pc' := 155) rfl ?_)
                        obtain ⟨v127848, e127849⟩ : ∃ x : Int, x = wq_and v127809 z110979 := ⟨_, rfl⟩
                        rw [← e127849]
                        have b127850 : 0 ≤ v127848 ∧ v127848 ≤ z110979 := by
                          rw [e127849]
                          exact wq_and_b _ (by omega) (by omega)
                        refine wp_of e206 c206_155 (rw_if_ne (p1 := 178) (p2 := 158) (by decide) rfl ⟨by omega, by omega⟩ (fun c127851 => ?_) (fun c127851 => ?_))
                        · refine wp_of e206 c206_178 (rw_iinc (pc' := 181) (z := v127761) (L' := [(5, vI (v127761 + 1)), (6, vI v127809), (4, vI v127447), (3, vI z125690), (2, vI v125642), (1, vI z110979), (0, .ref r0)]) rfl rfl rfl rfl ?_)
                          refine wp_of e206 c206_181 (rw_goto (p1 := 107) (by decide) ?_)
                          exact wp_lc (ks := [5, 6, 4, 3, 2, 1, 0]) (wl_c rfl (wl_c rfl (wl_c rfl (wl_c rfl (wl_c rfl (wl_c rfl wl_n)))))) rfl (by decide) (ih127760 _ (by omega) (v127761 + 1) H127762 w127763 f127764 ⟨by omega, by omega⟩ (by omega) (by omega) (by omega) (by omega) (by omega) rfl)
                        · refine wp_of e206 c206_158 (rw_aload_n (pc' := 159) (v := .ref r0) rfl rfl rfl ?_)
                          refine wp_of e206 c206_159 (rw_iload_n (pc' := 160) (z := v125642) rfl rfl ?_)
                          refine wp_of e206 c206_160 (rw_iload (pc' := 162) (z := v127447) rfl rfl ?_)
                          refine wp_of e206 c206_162 (rw_iload (pc' := 164) (z := v127761) rfl rfl ?_)
                          refine wp_of e206 c206_164 (rw_iload (pc' := 166) (z := v127809) rfl rfl ?_)
                          refine wp_of e206 c206_166 (rw_aload_n (pc' := 167) (v := .ref r0) rfl rfl rfl ?_)
                          refine wp_of e206 c206_167 (xg_I (pc' := 170) lf_9_343 w127763 g0 sh_42 (by decide) (by decide) ty_42_19 rfl rfl (fun b127852 b127853 => ?_))
                          refine wp_of e206 c206_170 (rw_iload (pc' := 172) (z := v127809) rfl rfl ?_)
                          refine wp_of e206 c206_172 (rw_iconst (pc' := 173) rfl ?_)
                          refine wp_of e206 c206_173 (rw_ixor (pc' := 174) rfl ?_)
                          obtain ⟨v127854, e127855⟩ : ∃ x : Int, x = wq_xor v127809 (-1) := ⟨_, rfl⟩
                          rw [← e127855]
                          have b127856 : -2147483648 ≤ v127854 ∧ v127854 ≤ 2147483647 := by
                            rw [e127855]
                            exact wI_xor _ _
                          refine wp_of e206 c206_174 (rw_iand (pc' := 175) rfl ?_)
                          obtain ⟨v127857, e127858⟩ : ∃ x : Int, x = wq_and (H127762 r0 19) v127854 := ⟨_, rfl⟩
                          rw [← e127858]
                          have b127859 : -2147483648 ≤ v127857 ∧ v127857 ≤ 2147483647 := by
                            rw [e127858]
                            exact wI_and _ _
                          refine wp_of e206 c206_175 (xc_V (pc' := 178) (r := r0) (as := [vI v125642, vI v127447, vI v127761, vI v127809, vI v127857]) (st := []) (lm_9_360) rfl rfl (Nat.le_of_ble_eq_true rfl) w127763 g0 sh_42 (by decide) rfl (by decide) (s_208 w127763 g0 ⟨by omega, by omega⟩ ⟨by omega, by omega⟩ ⟨by omega, by omega⟩ ⟨by omega, by omega⟩ ⟨by omega, by omega⟩ q127776 g125658 (by omega)) (fun R127860 T127861 H127862 p127863 => ?_))
                          obtain ⟨e127864, w127866, f127867, e127865, p127868⟩ := p127863
                          subst e127864
                          subst e127865
                          have f127869 := f127772.tr f127867 rfl
                          have f127870 := f127773.tr f127867 rfl
                          have f127871 := f127774.tr f127867 rfl
                          have f127872 := f127764.tr f127867 rfl
                          show wp _ _ 206 178 [(6, vI v127809), (5, vI v127761), (4, vI v127447), (3, vI z125690), (2, vI v125642), (1, vI z110979), (0, .ref r0)] [] _ H127862 _
                          refine wp_of e206 c206_178 (rw_iinc (pc' := 181) (z := v127761) (L' := [(5, vI (v127761 + 1)), (6, vI v127809), (4, vI v127447), (3, vI z125690), (2, vI v125642), (1, vI z110979), (0, .ref r0)]) rfl rfl rfl rfl ?_)
                          refine wp_of e206 c206_181 (rw_goto (p1 := 107) (by decide) ?_)
                          have k127873 : H127862 r0 21 = H127762 r0 21 := (f127867 r0 21 _ g0 rfl)
                          have q127874 : H127862 r0 21 = (r125656 : Int) := k127873.trans q127776
                          have k127875 : H127862 pp 10 = H127762 pp 10 := (f127867 pp 10 _ gpp rfl)
                          have q127876 : H127862 pp 10 = (r125692 : Int) := k127875.trans q127778
                          have k127877 : H127862 r125692 (v125642.toNat) = H127762 r125692 (v125642.toNat) := (f127867 r125692 (v125642.toNat) _ g125694 rfl)
                          have k127878 : wPI H127862 pp = wPI H127762 pp := (wPI_fr w127763 gpp f127867 rfl)
                          have k127879 : H127862 pp 11 = H127762 pp 11 := (f127867 pp 11 _ gpp rfl)
                          have q127880 : H127862 pp 11 = (r127469 : Int) := k127879.trans q127782
                          have k127881 : H127862 r127469 (v125642.toNat) = H127762 r127469 (v125642.toNat) := (f127867 r127469 (v125642.toNat) _ g127471 rfl)
                          have k127882 : H127862 pp 12 = H127762 pp 12 := (f127867 pp 12 _ gpp rfl)
                          have q127883 : H127862 pp 12 = (r127475 : Int) := k127882.trans q127785
                          have k127884 : H127862 r127475 (v125642.toNat) = H127762 r127475 (v125642.toNat) := (f127867 r127475 (v125642.toNat) _ g127477 rfl)
                          exact wp_lc (ks := [5, 6, 4, 3, 2, 1, 0]) (wl_c rfl (wl_c rfl (wl_c rfl (wl_c rfl (wl_c rfl (wl_c rfl wl_n)))))) rfl (by decide) (ih127760 _ (by omega) (v127761 + 1) H127862 w127866 f127872 ⟨by omega, by omega⟩ (by omega) (by omega) (by omega) (by omega) (by omega) rfl)
                exact wp_lc (ks := [5, 4, 3, 2, 1, 0]) (wl_c rfl (wl_c rfl (wl_c rfl (wl_c rfl (wl_c rfl (wl_c rfl wl_n)))))) rfl (by decide) (lp127758 _ (H127448 r127475 (v125642.toNat)) H127448 w127452 wfr.rf ⟨by omega, by omega⟩ (by omega) (by omega) (by omega) (by omega) (by omega) rfl)
          exact wp_lc (ks := [4, 3, 2, 1, 0]) (wl_c rfl (wl_c rfl (wl_c rfl (wl_c rfl (wl_c rfl wl_n))))) rfl (by decide) (lp127444 _ (H125659 r125692 (v125642.toNat)) H125659 w125661 wfr.rf ⟨by omega, by omega⟩ (by omega) (by omega) (by omega) rfl)
        · refine wp_of e206 c206_37 (rw_aload_n (pc' := 38) (v := .ref r0) rfl rfl rfl ?_)
          refine wp_of e206 c206_38 (rw_iload_n (pc' := 39) (z := v125642) rfl rfl ?_)
          refine wp_of e206 c206_39 (rw_iconst (pc' := 40) rfl ?_)
          refine wp_of e206 c206_40 (rw_iconst (pc' := 41) rfl ?_)
          refine wp_of e206 c206_41 (rw_iconst (pc' := 42) rfl ?_)
          refine wp_of e206 c206_42 (rw_iconst (pc' := 43) rfl ?_)
          have k127885 : H125659 r0 21 = H125643 r0 21 := (wq_u_t e125660 g125658 g0 rfl 21)
          have q127886 : H125659 r0 21 = (r125656 : Int) := k127885.trans q125657
          refine wp_of e206 c206_43 (xc_V (pc' := 46) (r := r0) (as := [vI v125642, vI 0, vI 0, vI 0, vI 0]) (st := []) (lm_9_360) rfl rfl (Nat.le_of_ble_eq_true rfl) w125661 g0 sh_42 (by decide) rfl (by decide) (s_208 w125661 g0 ⟨by omega, by omega⟩ ⟨by omega, by omega⟩ ⟨by omega, by omega⟩ ⟨by omega, by omega⟩ ⟨by omega, by omega⟩ q127886 g125658 (by omega)) (fun R127887 T127888 H127889 p127890 => ?_))
          obtain ⟨e127891, w127893, f127894, e127892, p127895⟩ := p127890
          subst e127891
          subst e127892
          have f127896 := f125662.tr f127894 rfl
          have f127897 := f125663.tr f127894 rfl
          show wp _ _ 206 46 [(2, vI v125642), (1, vI z110979), (0, .ref r0)] [] _ H127889 _
          refine wp_of e206 c206_46 (rw_goto (p1 := 190) (by decide) ?_)
          refine wp_of e206 c206_190 (rw_iinc (pc' := 193) (z := v125642) (L' := [(2, vI (v125642 + 1)), (1, vI z110979), (0, .ref r0)]) rfl rfl rfl rfl ?_)
          refine wp_of e206 c206_193 (rw_goto (p1 := 7) (by decide) ?_)
          have k127898 : wPI H127889 pp = wPI H125643 pp := ((wPI_fr w125661 gpp f127894 rfl).trans (wPI_fr w125644 gpp ((wfr.rf (l := [(45, 999)])).put' e125660 g125658 rfl) rfl))
          exact wp_lc (ks := [2, 1, 0]) (wl_c rfl (wl_c rfl (wl_c rfl wl_n))) rfl (by decide) (ih125641 _ (by omega) (v125642 + 1) H127889 w127893 f127897 ⟨by omega, by omega⟩ (by omega) rfl)
  exact wp_lc (ks := [2, 1, 0]) (wl_c rfl (wl_c rfl (wl_c rfl wl_n))) rfl (by decide) (lp125639 _ 0 H hW wfr.rf ⟨by omega, by omega⟩ (by omega) rfl)
