/-! methods of the reference (own work, written by wip/gen2/sx.py) -/
/-! StrikeAwakeModel.readHours()I -/
theorem e201 : wq_en 201 = some (9, 2, false, some FieldType.int) := rfl
theorem c201_0 : mc_cd 201 0 = some (.aload_n 0, 1) := by decide +kernel
theorem c201_1 : mc_cd 201 1 = some (.invokevirtual 273, 3) := by decide +kernel
theorem c201_4 : mc_cd 201 4 = some (.istore_n 1, 1) := by decide +kernel
theorem c201_5 : mc_cd 201 5 = some (.aload_n 0, 1) := by decide +kernel
theorem c201_6 : mc_cd 201 6 = some (.aload_n 0, 1) := by decide +kernel
theorem c201_7 : mc_cd 201 7 = some (.iconst 0, 1) := by decide +kernel
theorem c201_8 : mc_cd 201 8 = some (.bipush 23, 2) := by decide +kernel
theorem c201_10 : mc_cd 201 10 = some (.invokevirtual 137, 3) := by decide +kernel
theorem c201_13 : mc_cd 201 13 = some (.putfield 300, 3) := by decide +kernel
theorem c201_16 : mc_cd 201 16 = some (.aload_n 0, 1) := by decide +kernel
theorem c201_17 : mc_cd 201 17 = some (.aload_n 0, 1) := by decide +kernel
theorem c201_18 : mc_cd 201 18 = some (.ldc 233, 2) := by decide +kernel
theorem c201_20 : mc_cd 201 20 = some (.aload_n 0, 1) := by decide +kernel
theorem c201_21 : mc_cd 201 21 = some (.getfield 300, 3) := by decide +kernel
theorem c201_24 : mc_cd 201 24 = some (.iconst 1, 1) := by decide +kernel
theorem c201_25 : mc_cd 201 25 = some (.iadd, 1) := by decide +kernel
theorem c201_26 : mc_cd 201 26 = some (.bipush 24, 2) := by decide +kernel
theorem c201_28 : mc_cd 201 28 = some (.invokevirtual 216, 3) := by decide +kernel
theorem c201_31 : mc_cd 201 31 = some (.putfield 303, 3) := by decide +kernel
theorem c201_34 : mc_cd 201 34 = some (.iload_n 1, 1) := by decide +kernel
theorem c201_35 : mc_cd 201 35 = some (.ireturn, 1) := by decide +kernel
/-! StrikeAwakeModel.hoursFrom(II)I -/
theorem e202 : wq_en 202 = some (9, 4, false, some FieldType.int) := rfl
theorem c202_0 : mc_cd 202 0 = some (.iconst 0, 1) := by decide +kernel
theorem c202_1 : mc_cd 202 1 = some (.istore_n 2, 1) := by decide +kernel
theorem c202_2 : mc_cd 202 2 = some (.iload_n 0, 1) := by decide +kernel
theorem c202_3 : mc_cd 202 3 = some (.istore_n 3, 1) := by decide +kernel
theorem c202_4 : mc_cd 202 4 = some (.iload_n 3, 1) := by decide +kernel
theorem c202_5 : mc_cd 202 5 = some (.iload_n 1, 1) := by decide +kernel
theorem c202_6 : mc_cd 202 6 = some (.if_icmp .ge 21, 3) := by decide +kernel
theorem c202_9 : mc_cd 202 9 = some (.iload_n 3, 1) := by decide +kernel
theorem c202_10 : mc_cd 202 10 = some (.bipush 24, 2) := by decide +kernel
theorem c202_12 : mc_cd 202 12 = some (.if_icmp .ge 15, 3) := by decide +kernel
theorem c202_15 : mc_cd 202 15 = some (.iload_n 2, 1) := by decide +kernel
theorem c202_16 : mc_cd 202 16 = some (.iconst 1, 1) := by decide +kernel
theorem c202_17 : mc_cd 202 17 = some (.iload_n 3, 1) := by decide +kernel
theorem c202_18 : mc_cd 202 18 = some (.ishl, 1) := by decide +kernel
theorem c202_19 : mc_cd 202 19 = some (.ior, 1) := by decide +kernel
theorem c202_20 : mc_cd 202 20 = some (.istore_n 2, 1) := by decide +kernel
theorem c202_21 : mc_cd 202 21 = some (.iinc 3 1, 3) := by decide +kernel
theorem c202_24 : mc_cd 202 24 = some (.goto (-20), 3) := by decide +kernel
theorem c202_27 : mc_cd 202 27 = some (.iload_n 2, 1) := by decide +kernel
theorem c202_28 : mc_cd 202 28 = some (.ireturn, 1) := by decide +kernel
abbrev q_202 (a0 : Int) (a1 : Int) (T : wq_T) (H : wq_H) : Option Value → wq_T → wq_H → Prop := fun r T' H' => T = T' ∧ H = H' ∧ ∃ z : Int, some (vI z) = r ∧ ((-2147483648) ≤ z ∧ z ≤ 2147483647)
set_option maxHeartbeats 4000000 in
theorem s_202 {kt : Nat → Option mc_E} {T : wq_T} {H : wq_H} {a0 : Int} {a1 : Int} (hW : WT T H) (i0 : (-2147483648) ≤ a0 ∧ a0 ≤ 2147483647) (i1 : (-2147483648) ≤ a1 ∧ a1 ≤ 2147483647) : wpc kt 1 202 [vI a0, vI a1] T H (q_202 a0 a1 T H) := by
  refine wp_enter e202 (Nat.le_of_ble_eq_true rfl) rfl ?_
  show wp _ _ 202 0 [(0, vI a0), (1, vI a1)] [] _ H _
  refine wp_of e202 c202_0 (rw_iconst (pc' := 1) rfl ?_)
  refine wp_of e202 c202_1 (rw_istore_n (pc' := 2) (z := 0) (L' := [(2, vI 0), (0, vI a0), (1, vI a1)]) rfl rfl rfl ?_)
  refine wp_of e202 c202_2 (rw_iload_n (pc' := 3) (z := a0) rfl rfl ?_)
  refine wp_of e202 c202_3 (rw_istore_n (pc' := 4) (z := a0) (L' := [(3, vI a0), (2, vI 0), (0, vI a0), (1, vI a1)]) rfl rfl rfl ?_)
  have lp92912 : ∀ (n92913 : Nat) (v92915 : Int) (v92916 : Int), ((-2147483648) ≤ v92915 ∧ v92915 ≤ 2147483647) → ((-2147483648) ≤ v92916 ∧ v92916 ≤ 2147483647) → (2147483647 - v92915).toNat = n92913 → wp kt 0 202 4 [(3, vI v92915), (2, vI v92916), (1, vI a1)] [] T H (q_202 a0 a1 T H) := by
    intro n92913
    induction n92913 using Nat.strongRecOn with
    | _ n92913 ih92914 =>
      intro v92915 v92916 b92919 b92920 m92921
      refine wp_of e202 c202_4 (rw_iload_n (pc' := 5) (z := v92915) rfl rfl ?_)
      refine wp_of e202 c202_5 (rw_iload_n (pc' := 6) (z := a1) rfl rfl ?_)
      refine wp_of e202 c202_6 (rw_icmp_ge (p1 := 27) (p2 := 9) (by decide) rfl ⟨by omega, by omega⟩ ⟨by omega, by omega⟩ (fun c92922 => ?_) (fun c92922 => ?_))
      · refine wp_of e202 c202_27 (rw_iload_n (pc' := 28) (z := v92916) rfl rfl ?_)
        exact wp_ireturn e202 c202_28 rfl ⟨rfl, rfl, v92916, rfl, ⟨by omega, by omega⟩⟩
      · refine wp_of e202 c202_9 (rw_iload_n (pc' := 10) (z := v92915) rfl rfl ?_)
        refine wp_of e202 c202_10 (rw_bipush (pc' := 12) (z := 24) rfl (by decide) ?_)
        refine wp_of e202 c202_12 (rw_icmp_ge (p1 := 27) (p2 := 15) (by decide) rfl ⟨by omega, by omega⟩ ⟨by omega, by omega⟩ (fun c92923 => ?_) (fun c92923 => ?_))
        · refine wp_of e202 c202_27 (rw_iload_n (pc' := 28) (z := v92916) rfl rfl ?_)
          exact wp_ireturn e202 c202_28 rfl ⟨rfl, rfl, v92916, rfl, ⟨by omega, by omega⟩⟩
        · refine wp_of e202 c202_15 (rw_iload_n (pc' := 16) (z := v92916) rfl rfl ?_)
          refine wp_of e202 c202_16 (rw_iconst (pc' := 17) rfl ?_)
          refine wp_of e202 c202_17 (rw_iload_n (pc' := 18) (z := v92915) rfl rfl ?_)
          refine wp_of e202 c202_18 (rw_ishl (pc' := 19) rfl ?_)
          obtain ⟨v92924, e92925⟩ : ∃ x : Int, x = wq_shl 1 v92915 := ⟨_, rfl⟩
          rw [← e92925]
          have b92926 : -2147483648 ≤ v92924 ∧ v92924 ≤ 2147483647 := by
            rw [e92925]
            exact wI_shl _ _
          refine wp_of e202 c202_19 (rw_ior (pc' := 20) rfl ?_)
          obtain ⟨v92927, e92928⟩ : ∃ x : Int, x = wq_or v92916 v92924 := ⟨_, rfl⟩
          rw [← e92928]
          have b92929 : -2147483648 ≤ v92927 ∧ v92927 ≤ 2147483647 := by
            rw [e92928]
            exact wI_or _ _
          refine wp_of e202 c202_20 (rw_istore_n (pc' := 21) (z := v92927) (L' := [(2, vI v92927), (3, vI v92915), (1, vI a1)]) rfl rfl rfl ?_)
          refine wp_of e202 c202_21 (rw_iinc (pc' := 24) (z := v92915) (L' := [(3, vI (v92915 + 1)), (2, vI v92927), (1, vI a1)]) rfl rfl rfl rfl ?_)
          refine wp_of e202 c202_24 (rw_goto (p1 := 4) (by decide) ?_)
          exact wp_lc (ks := [3, 2, 1]) (wl_c rfl (wl_c rfl (wl_c rfl wl_n))) rfl (by decide) (ih92914 _ (by omega) (v92915 + 1) v92927 ⟨by omega, by omega⟩ ⟨by omega, by omega⟩ rfl)
  exact wp_lc (ks := [3, 2, 0, 1]) (wl_c rfl (wl_c rfl (wl_c rfl wl_n))) rfl (by decide) (lp92912 _ a0 0 ⟨by omega, by omega⟩ ⟨by omega, by omega⟩ rfl)
/-! StrikeAwakeModel.readTold()V -/
theorem e200 : wq_en 200 = some (9, 2, false, none) := rfl
theorem c200_0 : mc_cd 200 0 = some (.aload_n 0, 1) := by decide +kernel
theorem c200_1 : mc_cd 200 1 = some (.aload_n 0, 1) := by decide +kernel
theorem c200_2 : mc_cd 200 2 = some (.getfield 166, 3) := by decide +kernel
theorem c200_5 : mc_cd 200 5 = some (.getfield 306, 3) := by decide +kernel
theorem c200_8 : mc_cd 200 8 = some (.iconst 4, 1) := by decide +kernel
theorem c200_9 : mc_cd 200 9 = some (.invokevirtual 228, 3) := by decide +kernel
theorem c200_12 : mc_cd 200 12 = some (.aload_n 0, 1) := by decide +kernel
theorem c200_13 : mc_cd 200 13 = some (.invokevirtual 309, 3) := by decide +kernel
theorem c200_16 : mc_cd 200 16 = some (.istore_n 1, 1) := by decide +kernel
theorem c200_17 : mc_cd 200 17 = some (.aload_n 0, 1) := by decide +kernel
theorem c200_18 : mc_cd 200 18 = some (.getfield 75, 3) := by decide +kernel
theorem c200_21 : mc_cd 200 21 = some (.iconst 5, 1) := by decide +kernel
theorem c200_22 : mc_cd 200 22 = some (.if_icmp .ne 4, 3) := by decide +kernel
theorem c200_25 : mc_cd 200 25 = some (.return_, 1) := by decide +kernel
theorem c200_26 : mc_cd 200 26 = some (.aload_n 0, 1) := by decide +kernel
theorem c200_27 : mc_cd 200 27 = some (.getfield 166, 3) := by decide +kernel
theorem c200_30 : mc_cd 200 30 = some (.getfield 312, 3) := by decide +kernel
theorem c200_33 : mc_cd 200 33 = some (.aload_n 0, 1) := by decide +kernel
theorem c200_34 : mc_cd 200 34 = some (.getfield 166, 3) := by decide +kernel
theorem c200_37 : mc_cd 200 37 = some (.getfield 306, 3) := by decide +kernel
theorem c200_40 : mc_cd 200 40 = some (.iload_n 1, 1) := by decide +kernel
theorem c200_41 : mc_cd 200 41 = some (.iastore, 1) := by decide +kernel
theorem c200_42 : mc_cd 200 42 = some (.aload_n 0, 1) := by decide +kernel
theorem c200_43 : mc_cd 200 43 = some (.getfield 166, 3) := by decide +kernel
theorem c200_46 : mc_cd 200 46 = some (.getfield 315, 3) := by decide +kernel
theorem c200_49 : mc_cd 200 49 = some (.aload_n 0, 1) := by decide +kernel
theorem c200_50 : mc_cd 200 50 = some (.getfield 166, 3) := by decide +kernel
theorem c200_53 : mc_cd 200 53 = some (.getfield 306, 3) := by decide +kernel
theorem c200_56 : mc_cd 200 56 = some (.aload_n 0, 1) := by decide +kernel
theorem c200_57 : mc_cd 200 57 = some (.getfield 300, 3) := by decide +kernel
theorem c200_60 : mc_cd 200 60 = some (.aload_n 0, 1) := by decide +kernel
theorem c200_61 : mc_cd 200 61 = some (.getfield 303, 3) := by decide +kernel
theorem c200_64 : mc_cd 200 64 = some (.invokestatic 318, 3) := by decide +kernel
theorem c200_67 : mc_cd 200 67 = some (.iastore, 1) := by decide +kernel
theorem c200_68 : mc_cd 200 68 = some (.aload_n 0, 1) := by decide +kernel
theorem c200_69 : mc_cd 200 69 = some (.getfield 166, 3) := by decide +kernel
theorem c200_72 : mc_cd 200 72 = some (.dup, 1) := by decide +kernel
theorem c200_73 : mc_cd 200 73 = some (.getfield 306, 3) := by decide +kernel
theorem c200_76 : mc_cd 200 76 = some (.iconst 1, 1) := by decide +kernel
theorem c200_77 : mc_cd 200 77 = some (.iadd, 1) := by decide +kernel
theorem c200_78 : mc_cd 200 78 = some (.putfield 306, 3) := by decide +kernel
theorem c200_81 : mc_cd 200 81 = some (.return_, 1) := by decide +kernel
/-! StrikeAwakeModel.readOffer()V -/
theorem e203 : wq_en 203 = some (9, 2, false, none) := rfl
theorem c203_0 : mc_cd 203 0 = some (.aload_n 0, 1) := by decide +kernel
theorem c203_1 : mc_cd 203 1 = some (.aload_n 0, 1) := by decide +kernel
theorem c203_2 : mc_cd 203 2 = some (.getfield 166, 3) := by decide +kernel
theorem c203_5 : mc_cd 203 5 = some (.getfield 321, 3) := by decide +kernel
theorem c203_8 : mc_cd 203 8 = some (.bipush 6, 2) := by decide +kernel
theorem c203_10 : mc_cd 203 10 = some (.invokevirtual 228, 3) := by decide +kernel
theorem c203_13 : mc_cd 203 13 = some (.aload_n 0, 1) := by decide +kernel
theorem c203_14 : mc_cd 203 14 = some (.invokevirtual 309, 3) := by decide +kernel
theorem c203_17 : mc_cd 203 17 = some (.istore_n 1, 1) := by decide +kernel
theorem c203_18 : mc_cd 203 18 = some (.aload_n 0, 1) := by decide +kernel
theorem c203_19 : mc_cd 203 19 = some (.getfield 75, 3) := by decide +kernel
theorem c203_22 : mc_cd 203 22 = some (.iconst 5, 1) := by decide +kernel
theorem c203_23 : mc_cd 203 23 = some (.if_icmp .ne 4, 3) := by decide +kernel
theorem c203_26 : mc_cd 203 26 = some (.return_, 1) := by decide +kernel
theorem c203_27 : mc_cd 203 27 = some (.aload_n 0, 1) := by decide +kernel
theorem c203_28 : mc_cd 203 28 = some (.getfield 166, 3) := by decide +kernel
theorem c203_31 : mc_cd 203 31 = some (.getfield 324, 3) := by decide +kernel
theorem c203_34 : mc_cd 203 34 = some (.aload_n 0, 1) := by decide +kernel
theorem c203_35 : mc_cd 203 35 = some (.getfield 166, 3) := by decide +kernel
theorem c203_38 : mc_cd 203 38 = some (.getfield 321, 3) := by decide +kernel
theorem c203_41 : mc_cd 203 41 = some (.iload_n 1, 1) := by decide +kernel
theorem c203_42 : mc_cd 203 42 = some (.iastore, 1) := by decide +kernel
theorem c203_43 : mc_cd 203 43 = some (.aload_n 0, 1) := by decide +kernel
theorem c203_44 : mc_cd 203 44 = some (.getfield 166, 3) := by decide +kernel
theorem c203_47 : mc_cd 203 47 = some (.getfield 327, 3) := by decide +kernel
theorem c203_50 : mc_cd 203 50 = some (.aload_n 0, 1) := by decide +kernel
theorem c203_51 : mc_cd 203 51 = some (.getfield 166, 3) := by decide +kernel
theorem c203_54 : mc_cd 203 54 = some (.getfield 321, 3) := by decide +kernel
theorem c203_57 : mc_cd 203 57 = some (.aload_n 0, 1) := by decide +kernel
theorem c203_58 : mc_cd 203 58 = some (.getfield 300, 3) := by decide +kernel
theorem c203_61 : mc_cd 203 61 = some (.aload_n 0, 1) := by decide +kernel
theorem c203_62 : mc_cd 203 62 = some (.getfield 303, 3) := by decide +kernel
theorem c203_65 : mc_cd 203 65 = some (.invokestatic 318, 3) := by decide +kernel
theorem c203_68 : mc_cd 203 68 = some (.iastore, 1) := by decide +kernel
theorem c203_69 : mc_cd 203 69 = some (.aload_n 0, 1) := by decide +kernel
theorem c203_70 : mc_cd 203 70 = some (.getfield 166, 3) := by decide +kernel
theorem c203_73 : mc_cd 203 73 = some (.dup, 1) := by decide +kernel
theorem c203_74 : mc_cd 203 74 = some (.getfield 321, 3) := by decide +kernel
theorem c203_77 : mc_cd 203 77 = some (.iconst 1, 1) := by decide +kernel
theorem c203_78 : mc_cd 203 78 = some (.iadd, 1) := by decide +kernel
theorem c203_79 : mc_cd 203 79 = some (.putfield 321, 3) := by decide +kernel
theorem c203_82 : mc_cd 203 82 = some (.return_, 1) := by decide +kernel
/-! StrikeAwakeModel.readLine()V -/
theorem e177 : wq_en 177 = some (9, 1, false, none) := rfl
theorem c177_0 : mc_cd 177 0 = some (.aload_n 0, 1) := by decide +kernel
theorem c177_1 : mc_cd 177 1 = some (.ldc 140, 2) := by decide +kernel
theorem c177_3 : mc_cd 177 3 = some (.invokevirtual 114, 3) := by decide +kernel
theorem c177_6 : mc_cd 177 6 = some (.ifCond .eq 10, 3) := by decide +kernel
theorem c177_9 : mc_cd 177 9 = some (.aload_n 0, 1) := by decide +kernel
theorem c177_10 : mc_cd 177 10 = some (.invokevirtual 191, 3) := by decide +kernel
theorem c177_13 : mc_cd 177 13 = some (.goto 120, 3) := by decide +kernel
theorem c177_16 : mc_cd 177 16 = some (.aload_n 0, 1) := by decide +kernel
theorem c177_17 : mc_cd 177 17 = some (.ldc 142, 2) := by decide +kernel
theorem c177_19 : mc_cd 177 19 = some (.invokevirtual 114, 3) := by decide +kernel
theorem c177_22 : mc_cd 177 22 = some (.ifCond .eq 10, 3) := by decide +kernel
theorem c177_25 : mc_cd 177 25 = some (.aload_n 0, 1) := by decide +kernel
theorem c177_26 : mc_cd 177 26 = some (.invokevirtual 194, 3) := by decide +kernel
theorem c177_29 : mc_cd 177 29 = some (.goto 104, 3) := by decide +kernel
theorem c177_32 : mc_cd 177 32 = some (.aload_n 0, 1) := by decide +kernel
theorem c177_33 : mc_cd 177 33 = some (.ldc 144, 2) := by decide +kernel
theorem c177_35 : mc_cd 177 35 = some (.invokevirtual 114, 3) := by decide +kernel
theorem c177_38 : mc_cd 177 38 = some (.ifCond .eq 10, 3) := by decide +kernel
theorem c177_41 : mc_cd 177 41 = some (.aload_n 0, 1) := by decide +kernel
theorem c177_42 : mc_cd 177 42 = some (.invokevirtual 197, 3) := by decide +kernel
theorem c177_45 : mc_cd 177 45 = some (.goto 88, 3) := by decide +kernel
theorem c177_48 : mc_cd 177 48 = some (.aload_n 0, 1) := by decide +kernel
theorem c177_49 : mc_cd 177 49 = some (.ldc 146, 2) := by decide +kernel
theorem c177_51 : mc_cd 177 51 = some (.invokevirtual 114, 3) := by decide +kernel
theorem c177_54 : mc_cd 177 54 = some (.ifCond .eq 10, 3) := by decide +kernel
theorem c177_57 : mc_cd 177 57 = some (.aload_n 0, 1) := by decide +kernel
theorem c177_58 : mc_cd 177 58 = some (.invokevirtual 200, 3) := by decide +kernel
theorem c177_61 : mc_cd 177 61 = some (.goto 72, 3) := by decide +kernel
theorem c177_64 : mc_cd 177 64 = some (.aload_n 0, 1) := by decide +kernel
theorem c177_65 : mc_cd 177 65 = some (.ldc 148, 2) := by decide +kernel
theorem c177_67 : mc_cd 177 67 = some (.invokevirtual 114, 3) := by decide +kernel
theorem c177_70 : mc_cd 177 70 = some (.ifCond .eq 10, 3) := by decide +kernel
theorem c177_73 : mc_cd 177 73 = some (.aload_n 0, 1) := by decide +kernel
theorem c177_74 : mc_cd 177 74 = some (.invokevirtual 203, 3) := by decide +kernel
theorem c177_77 : mc_cd 177 77 = some (.goto 56, 3) := by decide +kernel
theorem c177_80 : mc_cd 177 80 = some (.aload_n 0, 1) := by decide +kernel
theorem c177_81 : mc_cd 177 81 = some (.ldc 150, 2) := by decide +kernel
theorem c177_83 : mc_cd 177 83 = some (.invokevirtual 114, 3) := by decide +kernel
theorem c177_86 : mc_cd 177 86 = some (.ifCond .eq 10, 3) := by decide +kernel
theorem c177_89 : mc_cd 177 89 = some (.aload_n 0, 1) := by decide +kernel
theorem c177_90 : mc_cd 177 90 = some (.invokevirtual 206, 3) := by decide +kernel
theorem c177_93 : mc_cd 177 93 = some (.goto 40, 3) := by decide +kernel
theorem c177_96 : mc_cd 177 96 = some (.aload_n 0, 1) := by decide +kernel
theorem c177_97 : mc_cd 177 97 = some (.ldc 152, 2) := by decide +kernel
theorem c177_99 : mc_cd 177 99 = some (.invokevirtual 114, 3) := by decide +kernel
theorem c177_102 : mc_cd 177 102 = some (.ifCond .eq 10, 3) := by decide +kernel
theorem c177_105 : mc_cd 177 105 = some (.aload_n 0, 1) := by decide +kernel
theorem c177_106 : mc_cd 177 106 = some (.invokevirtual 209, 3) := by decide +kernel
theorem c177_109 : mc_cd 177 109 = some (.goto 24, 3) := by decide +kernel
theorem c177_112 : mc_cd 177 112 = some (.aload_n 0, 1) := by decide +kernel
theorem c177_113 : mc_cd 177 113 = some (.ldc 154, 2) := by decide +kernel
theorem c177_115 : mc_cd 177 115 = some (.invokevirtual 114, 3) := by decide +kernel
theorem c177_118 : mc_cd 177 118 = some (.ifCond .eq 10, 3) := by decide +kernel
theorem c177_121 : mc_cd 177 121 = some (.aload_n 0, 1) := by decide +kernel
theorem c177_122 : mc_cd 177 122 = some (.invokevirtual 212, 3) := by decide +kernel
theorem c177_125 : mc_cd 177 125 = some (.goto 8, 3) := by decide +kernel
theorem c177_128 : mc_cd 177 128 = some (.aload_n 0, 1) := by decide +kernel
theorem c177_129 : mc_cd 177 129 = some (.iconst 1, 1) := by decide +kernel
theorem c177_130 : mc_cd 177 130 = some (.invokevirtual 121, 3) := by decide +kernel
theorem c177_133 : mc_cd 177 133 = some (.return_, 1) := by decide +kernel
/-! StrikeAwakeModel.eatsSign(I)Z -/
theorem e204 : wq_en 204 = some (9, 3, false, some FieldType.boolean) := rfl
theorem c204_0 : mc_cd 204 0 = some (.aload_n 0, 1) := by decide +kernel
theorem c204_1 : mc_cd 204 1 = some (.getfield 75, 3) := by decide +kernel
theorem c204_4 : mc_cd 204 4 = some (.iconst 4, 1) := by decide +kernel
theorem c204_5 : mc_cd 204 5 = some (.if_icmp .ne 15, 3) := by decide +kernel
theorem c204_8 : mc_cd 204 8 = some (.aload_n 0, 1) := by decide +kernel
theorem c204_9 : mc_cd 204 9 = some (.getfield 87, 3) := by decide +kernel
theorem c204_12 : mc_cd 204 12 = some (.iload_n 1, 1) := by decide +kernel
theorem c204_13 : mc_cd 204 13 = some (.if_icmp .ne 7, 3) := by decide +kernel
theorem c204_16 : mc_cd 204 16 = some (.iconst 1, 1) := by decide +kernel
theorem c204_17 : mc_cd 204 17 = some (.goto 4, 3) := by decide +kernel
theorem c204_20 : mc_cd 204 20 = some (.iconst 0, 1) := by decide +kernel
theorem c204_21 : mc_cd 204 21 = some (.istore_n 2, 1) := by decide +kernel
theorem c204_22 : mc_cd 204 22 = some (.iload_n 2, 1) := by decide +kernel
theorem c204_23 : mc_cd 204 23 = some (.ifCond .eq 7, 3) := by decide +kernel
theorem c204_26 : mc_cd 204 26 = some (.aload_n 0, 1) := by decide +kernel
theorem c204_27 : mc_cd 204 27 = some (.invokevirtual 118, 3) := by decide +kernel
theorem c204_30 : mc_cd 204 30 = some (.iload_n 2, 1) := by decide +kernel
theorem c204_31 : mc_cd 204 31 = some (.ireturn, 1) := by decide +kernel
/-! StrikeAwakeModel.readParish()V -/
theorem e176 : wq_en 176 = some (9, 2, false, none) := rfl
theorem c176_0 : mc_cd 176 0 = some (.iconst 1, 1) := by decide +kernel
theorem c176_1 : mc_cd 176 1 = some (.istore_n 1, 1) := by decide +kernel
theorem c176_2 : mc_cd 176 2 = some (.iload_n 1, 1) := by decide +kernel
theorem c176_3 : mc_cd 176 3 = some (.ifCond .eq 17, 3) := by decide +kernel
theorem c176_6 : mc_cd 176 6 = some (.aload_n 0, 1) := by decide +kernel
theorem c176_7 : mc_cd 176 7 = some (.invokevirtual 179, 3) := by decide +kernel
theorem c176_10 : mc_cd 176 10 = some (.aload_n 0, 1) := by decide +kernel
theorem c176_11 : mc_cd 176 11 = some (.bipush 59, 2) := by decide +kernel
theorem c176_13 : mc_cd 176 13 = some (.invokevirtual 182, 3) := by decide +kernel
theorem c176_16 : mc_cd 176 16 = some (.istore_n 1, 1) := by decide +kernel
theorem c176_17 : mc_cd 176 17 = some (.goto (-15), 3) := by decide +kernel
theorem c176_20 : mc_cd 176 20 = some (.aload_n 0, 1) := by decide +kernel
theorem c176_21 : mc_cd 176 21 = some (.getfield 75, 3) := by decide +kernel
theorem c176_24 : mc_cd 176 24 = some (.iconst 1, 1) := by decide +kernel
theorem c176_25 : mc_cd 176 25 = some (.if_icmp .eq 8, 3) := by decide +kernel
theorem c176_28 : mc_cd 176 28 = some (.aload_n 0, 1) := by decide +kernel
theorem c176_29 : mc_cd 176 29 = some (.iconst 1, 1) := by decide +kernel
theorem c176_30 : mc_cd 176 30 = some (.invokevirtual 121, 3) := by decide +kernel
theorem c176_33 : mc_cd 176 33 = some (.aload_n 0, 1) := by decide +kernel
theorem c176_34 : mc_cd 176 34 = some (.getfield 166, 3) := by decide +kernel
theorem c176_37 : mc_cd 176 37 = some (.getfield 185, 3) := by decide +kernel
theorem c176_40 : mc_cd 176 40 = some (.ifCond .eq 13, 3) := by decide +kernel
theorem c176_43 : mc_cd 176 43 = some (.aload_n 0, 1) := by decide +kernel
theorem c176_44 : mc_cd 176 44 = some (.getfield 166, 3) := by decide +kernel
theorem c176_47 : mc_cd 176 47 = some (.getfield 188, 3) := by decide +kernel
theorem c176_50 : mc_cd 176 50 = some (.ifCond .ne 9, 3) := by decide +kernel
theorem c176_53 : mc_cd 176 53 = some (.aload_n 0, 1) := by decide +kernel
theorem c176_54 : mc_cd 176 54 = some (.bipush 6, 2) := by decide +kernel
theorem c176_56 : mc_cd 176 56 = some (.invokevirtual 121, 3) := by decide +kernel
theorem c176_59 : mc_cd 176 59 = some (.return_, 1) := by decide +kernel
/-! StrikeAwakeModel.has(II)Z -/
theorem e205 : wq_en 205 = some (9, 2, false, some FieldType.boolean) := rfl
theorem c205_0 : mc_cd 205 0 = some (.iload_n 0, 1) := by decide +kernel
theorem c205_1 : mc_cd 205 1 = some (.iload_n 1, 1) := by decide +kernel
theorem c205_2 : mc_cd 205 2 = some (.ishr, 1) := by decide +kernel
theorem c205_3 : mc_cd 205 3 = some (.iconst 1, 1) := by decide +kernel
theorem c205_4 : mc_cd 205 4 = some (.iand, 1) := by decide +kernel
theorem c205_5 : mc_cd 205 5 = some (.iconst 1, 1) := by decide +kernel
theorem c205_6 : mc_cd 205 6 = some (.if_icmp .ne 7, 3) := by decide +kernel
theorem c205_9 : mc_cd 205 9 = some (.iconst 1, 1) := by decide +kernel
theorem c205_10 : mc_cd 205 10 = some (.goto 4, 3) := by decide +kernel
theorem c205_13 : mc_cd 205 13 = some (.iconst 0, 1) := by decide +kernel
theorem c205_14 : mc_cd 205 14 = some (.ireturn, 1) := by decide +kernel
abbrev q_205 (a0 : Int) (a1 : Int) (T : wq_T) (H : wq_H) : Option Value → wq_T → wq_H → Prop := fun r T' H' => T = T' ∧ H = H' ∧ ∃ z : Int, some (vI z) = r ∧ (0 ≤ z ∧ z ≤ 1)
set_option maxHeartbeats 4000000 in
theorem s_205 {kt : Nat → Option mc_E} {T : wq_T} {H : wq_H} {a0 : Int} {a1 : Int} (hW : WT T H) (i0 : (-2147483648) ≤ a0 ∧ a0 ≤ 2147483647) (i1 : (-2147483648) ≤ a1 ∧ a1 ≤ 2147483647) : wpc kt 1 205 [vI a0, vI a1] T H (q_205 a0 a1 T H) := by
  refine wp_enter e205 (Nat.le_of_ble_eq_true rfl) rfl ?_
  show wp _ _ 205 0 [(0, vI a0), (1, vI a1)] [] _ H _
  refine wp_of e205 c205_0 (rw_iload_n (pc' := 1) (z := a0) rfl rfl ?_)
  refine wp_of e205 c205_1 (rw_iload_n (pc' := 2) (z := a1) rfl rfl ?_)
  refine wp_of e205 c205_2 (rw_ishr (pc' := 3) rfl ?_)
  obtain ⟨v94221, e94222⟩ : ∃ x : Int, x = wq_shr a0 a1 := ⟨_, rfl⟩
  rw [← e94222]
  have b94223 : -2147483648 ≤ v94221 ∧ v94221 ≤ 2147483647 := by
    rw [e94222]
    exact wI_shr _ _
  refine wp_of e205 c205_3 (rw_iconst (pc' := 4) rfl ?_)
  refine wp_of e205 c205_4 (rw_iand (pc' := 5) rfl ?_)
  obtain ⟨v94224, e94225⟩ : ∃ x : Int, x = wq_and v94221 1 := ⟨_, rfl⟩
  rw [← e94225]
  have b94226 : 0 ≤ v94224 ∧ v94224 ≤ 1 := by
    rw [e94225]
    exact wq_and_b _ (by omega) (by omega)
  refine wp_of e205 c205_5 (rw_iconst (pc' := 6) rfl ?_)
  refine wp_of e205 c205_6 (rw_icmp_ne (p1 := 13) (p2 := 9) (by decide) rfl ⟨by omega, by omega⟩ ⟨by omega, by omega⟩ (fun c94227 => ?_) (fun c94227 => ?_))
  · refine wp_of e205 c205_13 (rw_iconst (pc' := 14) rfl ?_)
    exact wp_zreturn e205 c205_14 rfl (by omega) ⟨rfl, rfl, 0, rfl, ⟨by omega, by omega⟩⟩
  · refine wp_of e205 c205_9 (rw_iconst (pc' := 10) rfl ?_)
    refine wp_of e205 c205_10 (rw_goto (p1 := 14) (by decide) ?_)
    exact wp_zreturn e205 c205_14 rfl (by omega) ⟨rfl, rfl, 1, rfl, ⟨by omega, by omega⟩⟩
/-! StrikeAwakeModel.struckHours()I -/
theorem e207 : wq_en 207 = some (9, 3, false, some FieldType.int) := rfl
theorem c207_0 : mc_cd 207 0 = some (.iconst 0, 1) := by decide +kernel
theorem c207_1 : mc_cd 207 1 = some (.istore_n 1, 1) := by decide +kernel
theorem c207_2 : mc_cd 207 2 = some (.iconst 0, 1) := by decide +kernel
theorem c207_3 : mc_cd 207 3 = some (.istore_n 2, 1) := by decide +kernel
theorem c207_4 : mc_cd 207 4 = some (.iload_n 2, 1) := by decide +kernel
theorem c207_5 : mc_cd 207 5 = some (.bipush 24, 2) := by decide +kernel
theorem c207_7 : mc_cd 207 7 = some (.if_icmp .ge 28, 3) := by decide +kernel
theorem c207_10 : mc_cd 207 10 = some (.iload_n 1, 1) := by decide +kernel
theorem c207_11 : mc_cd 207 11 = some (.aload_n 0, 1) := by decide +kernel
theorem c207_12 : mc_cd 207 12 = some (.getfield 17, 3) := by decide +kernel
theorem c207_15 : mc_cd 207 15 = some (.iload_n 2, 1) := by decide +kernel
theorem c207_16 : mc_cd 207 16 = some (.iaload, 1) := by decide +kernel
theorem c207_17 : mc_cd 207 17 = some (.ifCond .le 9, 3) := by decide +kernel
theorem c207_20 : mc_cd 207 20 = some (.iconst 1, 1) := by decide +kernel
theorem c207_21 : mc_cd 207 21 = some (.iload_n 2, 1) := by decide +kernel
theorem c207_22 : mc_cd 207 22 = some (.ishl, 1) := by decide +kernel
theorem c207_23 : mc_cd 207 23 = some (.goto 4, 3) := by decide +kernel
theorem c207_26 : mc_cd 207 26 = some (.iconst 0, 1) := by decide +kernel
theorem c207_27 : mc_cd 207 27 = some (.ior, 1) := by decide +kernel
theorem c207_28 : mc_cd 207 28 = some (.istore_n 1, 1) := by decide +kernel
theorem c207_29 : mc_cd 207 29 = some (.iinc 2 1, 3) := by decide +kernel
theorem c207_32 : mc_cd 207 32 = some (.goto (-28), 3) := by decide +kernel
theorem c207_35 : mc_cd 207 35 = some (.iload_n 1, 1) := by decide +kernel
theorem c207_36 : mc_cd 207 36 = some (.ireturn, 1) := by decide +kernel
abbrev q_207 (r0 : Nat) (T : wq_T) (H : wq_H) : Option Value → wq_T → wq_H → Prop := fun r T' H' => T = T' ∧ H = H' ∧ ∃ z : Int, some (vI z) = r ∧ (0 ≤ z ∧ z ≤ 16777215)
set_option maxHeartbeats 4000000 in
theorem s_207 {kt : Nat → Option mc_E} {T : wq_T} {H : wq_H} {r0 : Nat} (hW : WT T H) (g0 : T.2.2.2 r0 = some 42) : wpc kt 1 207 [.ref r0] T H (q_207 r0 T H) := by
  refine wp_enter e207 (Nat.le_of_ble_eq_true rfl) rfl ?_
  show wp _ _ 207 0 [(0, .ref r0)] [] _ H _
  refine wp_of e207 c207_0 (rw_iconst (pc' := 1) rfl ?_)
  refine wp_of e207 c207_1 (rw_istore_n (pc' := 2) (z := 0) (L' := [(1, vI 0), (0, .ref r0)]) rfl rfl rfl ?_)
  refine wp_of e207 c207_2 (rw_iconst (pc' := 3) rfl ?_)
  refine wp_of e207 c207_3 (rw_istore_n (pc' := 4) (z := 0) (L' := [(2, vI 0), (1, vI 0), (0, .ref r0)]) rfl rfl rfl ?_)
  have lp94450 : ∀ (n94451 : Nat) (v94453 : Int) (v94454 : Int), (0 ≤ v94453 ∧ v94453 ≤ 24) → (0 ≤ v94454 ∧ v94454 ≤ 16777215) → (24 - v94453).toNat = n94451 → wp kt 0 207 4 [(2, vI v94453), (1, vI v94454), (0, .ref r0)] [] T H (q_207 r0 T H) := by
    intro n94451
    induction n94451 using Nat.strongRecOn with
    | _ n94451 ih94452 =>
      intro v94453 v94454 b94457 b94458 m94459
      refine wp_of e207 c207_4 (rw_iload_n (pc' := 5) (z := v94453) rfl rfl ?_)
      refine wp_of e207 c207_5 (rw_bipush (pc' := 7) (z := 24) rfl (by decide) ?_)
      refine wp_of e207 c207_7 (rw_icmp_ge (p1 := 35) (p2 := 10) (by decide) rfl ⟨by omega, by omega⟩ ⟨by omega, by omega⟩ (fun c94460 => ?_) (fun c94460 => ?_))
      · refine wp_of e207 c207_35 (rw_iload_n (pc' := 36) (z := v94454) rfl rfl ?_)
        exact wp_ireturn e207 c207_36 rfl ⟨rfl, rfl, v94454, rfl, ⟨by omega, by omega⟩⟩
      · refine wp_of e207 c207_10 (rw_iload_n (pc' := 11) (z := v94454) rfl rfl ?_)
        refine wp_of e207 c207_11 (rw_aload_n (pc' := 12) (v := .ref r0) rfl rfl rfl ?_)
        refine wp_of e207 c207_12 (xg_R (pc' := 15) lf_9_17 hW g0 sh_42 (by decide) (by decide) ty_42_20 rfl rfl (fun r94461 q94462 g94463 => ?_))
        refine wp_of e207 c207_15 (rw_iload_n (pc' := 16) (z := v94453) rfl rfl ?_)
        refine wp_of e207 c207_16 (xa_I (so := 0) (pc' := 17) hW g94463 sh_44 (by decide) (ty_44 _) (by omega) (by omega) rfl (fun b94464 b94465 => ?_))
        refine wp_of e207 c207_17 (rw_if_le (p1 := 26) (p2 := 20) (by decide) rfl ⟨by omega, by omega⟩ (fun c94466 => ?_) (fun c94466 => ?_))
        · refine wp_of e207 c207_26 (rw_iconst (pc' := 27) rfl ?_)
          refine wp_of e207 c207_27 (rw_ior (pc' := 28) rfl ?_)
          obtain ⟨v94467, e94468⟩ : ∃ x : Int, x = wq_or v94454 0 := ⟨_, rfl⟩
          rw [← e94468]
          have b94469 : 0 ≤ v94467 ∧ v94467 ≤ 16777215 := by
            rw [e94468]
            exact wq_or_24 ⟨by omega, by omega⟩ ⟨by omega, by omega⟩
          refine wp_of e207 c207_28 (rw_istore_n (pc' := 29) (z := v94467) (L' := [(1, vI v94467), (2, vI v94453), (0, .ref r0)]) rfl rfl rfl ?_)
          refine wp_of e207 c207_29 (rw_iinc (pc' := 32) (z := v94453) (L' := [(2, vI (v94453 + 1)), (1, vI v94467), (0, .ref r0)]) rfl rfl rfl rfl ?_)
          refine wp_of e207 c207_32 (rw_goto (p1 := 4) (by decide) ?_)
          exact wp_lc (ks := [2, 1, 0]) (wl_c rfl (wl_c rfl (wl_c rfl wl_n))) rfl (by decide) (ih94452 _ (by omega) (v94453 + 1) v94467 ⟨by omega, by omega⟩ ⟨by omega, by omega⟩ rfl)
        · refine wp_of e207 c207_20 (rw_iconst (pc' := 21) rfl ?_)
          refine wp_of e207 c207_21 (rw_iload_n (pc' := 22) (z := v94453) rfl rfl ?_)
          refine wp_of e207 c207_22 (rw_ishl (pc' := 23) rfl ?_)
          obtain ⟨v94470, e94471⟩ : ∃ x : Int, x = wq_shl 1 v94453 := ⟨_, rfl⟩
          rw [← e94471]
          have b94472 : 1 ≤ v94470 ∧ v94470 ≤ 8388608 := by
            rw [e94471]
            exact wq_shl1_24 ⟨by omega, by omega⟩
          refine wp_of e207 c207_23 (rw_goto (p1 := 27) (by decide) ?_)
          refine wp_of e207 c207_27 (rw_ior (pc' := 28) rfl ?_)
          obtain ⟨v94473, e94474⟩ : ∃ x : Int, x = wq_or v94454 v94470 := ⟨_, rfl⟩
          rw [← e94474]
          have b94475 : 0 ≤ v94473 ∧ v94473 ≤ 16777215 := by
            rw [e94474]
            exact wq_or_24 ⟨by omega, by omega⟩ ⟨by omega, by omega⟩
          refine wp_of e207 c207_28 (rw_istore_n (pc' := 29) (z := v94473) (L' := [(1, vI v94473), (2, vI v94453), (0, .ref r0)]) rfl rfl rfl ?_)
          refine wp_of e207 c207_29 (rw_iinc (pc' := 32) (z := v94453) (L' := [(2, vI (v94453 + 1)), (1, vI v94473), (0, .ref r0)]) rfl rfl rfl rfl ?_)
          refine wp_of e207 c207_32 (rw_goto (p1 := 4) (by decide) ?_)
          exact wp_lc (ks := [2, 1, 0]) (wl_c rfl (wl_c rfl (wl_c rfl wl_n))) rfl (by decide) (ih94452 _ (by omega) (v94453 + 1) v94473 ⟨by omega, by omega⟩ ⟨by omega, by omega⟩ rfl)
  exact wp_lc (ks := [2, 1, 0]) (wl_c rfl (wl_c rfl (wl_c rfl wl_n))) rfl (by decide) (lp94450 _ 0 0 ⟨by omega, by omega⟩ ⟨by omega, by omega⟩ rfl)
/-! StrikeAwakeModel.lay(IIIII)V -/
theorem e208 : wq_en 208 = some (9, 7, false, none) := rfl
theorem c208_0 : mc_cd 208 0 = some (.bipush 40, 2) := by decide +kernel
theorem c208_2 : mc_cd 208 2 = some (.iload_n 1, 1) := by decide +kernel
theorem c208_3 : mc_cd 208 3 = some (.imul, 1) := by decide +kernel
theorem c208_4 : mc_cd 208 4 = some (.aload_n 0, 1) := by decide +kernel
theorem c208_5 : mc_cd 208 5 = some (.getfield 21, 3) := by decide +kernel
theorem c208_8 : mc_cd 208 8 = some (.iload_n 1, 1) := by decide +kernel
theorem c208_9 : mc_cd 208 9 = some (.iaload, 1) := by decide +kernel
theorem c208_10 : mc_cd 208 10 = some (.iadd, 1) := by decide +kernel
theorem c208_11 : mc_cd 208 11 = some (.istore 6, 2) := by decide +kernel
theorem c208_13 : mc_cd 208 13 = some (.aload_n 0, 1) := by decide +kernel
theorem c208_14 : mc_cd 208 14 = some (.getfield 24, 3) := by decide +kernel
theorem c208_17 : mc_cd 208 17 = some (.iload 6, 2) := by decide +kernel
theorem c208_19 : mc_cd 208 19 = some (.iload_n 2, 1) := by decide +kernel
theorem c208_20 : mc_cd 208 20 = some (.iastore, 1) := by decide +kernel
theorem c208_21 : mc_cd 208 21 = some (.aload_n 0, 1) := by decide +kernel
theorem c208_22 : mc_cd 208 22 = some (.getfield 27, 3) := by decide +kernel
theorem c208_25 : mc_cd 208 25 = some (.iload 6, 2) := by decide +kernel
theorem c208_27 : mc_cd 208 27 = some (.iload_n 3, 1) := by decide +kernel
theorem c208_28 : mc_cd 208 28 = some (.iastore, 1) := by decide +kernel
theorem c208_29 : mc_cd 208 29 = some (.aload_n 0, 1) := by decide +kernel
theorem c208_30 : mc_cd 208 30 = some (.getfield 30, 3) := by decide +kernel
theorem c208_33 : mc_cd 208 33 = some (.iload 6, 2) := by decide +kernel
theorem c208_35 : mc_cd 208 35 = some (.iload 4, 2) := by decide +kernel
theorem c208_37 : mc_cd 208 37 = some (.iastore, 1) := by decide +kernel
theorem c208_38 : mc_cd 208 38 = some (.aload_n 0, 1) := by decide +kernel
theorem c208_39 : mc_cd 208 39 = some (.getfield 33, 3) := by decide +kernel
theorem c208_42 : mc_cd 208 42 = some (.iload 6, 2) := by decide +kernel
theorem c208_44 : mc_cd 208 44 = some (.iload 5, 2) := by decide +kernel
theorem c208_46 : mc_cd 208 46 = some (.iastore, 1) := by decide +kernel
theorem c208_47 : mc_cd 208 47 = some (.aload_n 0, 1) := by decide +kernel
theorem c208_48 : mc_cd 208 48 = some (.getfield 21, 3) := by decide +kernel
theorem c208_51 : mc_cd 208 51 = some (.iload_n 1, 1) := by decide +kernel
theorem c208_52 : mc_cd 208 52 = some (.dup2, 1) := by decide +kernel
theorem c208_53 : mc_cd 208 53 = some (.iaload, 1) := by decide +kernel
theorem c208_54 : mc_cd 208 54 = some (.iconst 1, 1) := by decide +kernel
theorem c208_55 : mc_cd 208 55 = some (.iadd, 1) := by decide +kernel
theorem c208_56 : mc_cd 208 56 = some (.iastore, 1) := by decide +kernel
theorem c208_57 : mc_cd 208 57 = some (.return_, 1) := by decide +kernel
abbrev q_208 (r0 : Nat) (a1 : Int) (a2 : Int) (a3 : Int) (a4 : Int) (a5 : Int) (sp : Nat) (T : wq_T) (H : wq_H) : Option Value → wq_T → wq_H → Prop := fun r T' H' => T = T' ∧ WT T H' ∧ wfr [(48, 999), (49, 999), (46, 999), (47, 999), (45, 999)] T H H' ∧ none = r ∧ (H' sp (a1).toNat = H sp (a1).toNat + 1)
set_option maxHeartbeats 4000000 in
theorem s_208 {kt : Nat → Option mc_E} {T : wq_T} {H : wq_H} {r0 : Nat} {a1 : Int} {a2 : Int} {a3 : Int} {a4 : Int} {a5 : Int} {sp : Nat} (hW : WT T H) (g0 : T.2.2.2 r0 = some 42) (i1 : 0 ≤ a1 ∧ a1 ≤ 5) (i2 : 0 ≤ a2 ∧ a2 ≤ 30) (i3 : 0 ≤ a3 ∧ a3 ≤ 16) (i4 : (-2147483648) ≤ a4 ∧ a4 ≤ 2147483647) (i5 : (-2147483648) ≤ a5 ∧ a5 ≤ 2147483647) (qsp : H r0 21 = (sp : Int)) (gsp : T.2.2.2 sp = some 45) (p0 : H sp (a1).toNat ≤ 39) : wpc kt 1 208 [.ref r0, vI a1, vI a2, vI a3, vI a4, vI a5] T H (q_208 r0 a1 a2 a3 a4 a5 sp T H) := by
  refine wp_enter e208 (Nat.le_of_ble_eq_true rfl) rfl ?_
  have f0 : wfr [(48, 999), (49, 999), (46, 999), (47, 999), (45, 999)] T H H := wfr.rf
  show wp _ _ 208 0 [(0, .ref r0), (1, vI a1), (2, vI a2), (3, vI a3), (4, vI a4), (5, vI a5)] [] _ H _
  refine wp_of e208 c208_0 (rw_bipush (pc' := 2) (z := 40) rfl (by decide) ?_)
  refine wp_of e208 c208_2 (rw_iload_n (pc' := 3) (z := a1) rfl rfl ?_)
  refine wp_of e208 c208_3 (rw_imul (pc' := 4) rfl ?_)
  refine wp_of e208 c208_4 (rw_aload_n (pc' := 5) (v := .ref r0) rfl rfl rfl ?_)
  refine wp_of e208 c208_5 (xg_K (pc' := 8) lf_9_21 hW g0 sh_42 (by decide) (by decide) rfl qsp rfl ?_)
  refine wp_of e208 c208_8 (rw_iload_n (pc' := 9) (z := a1) rfl rfl ?_)
  refine wp_of e208 c208_9 (xa_I (so := 0) (pc' := 10) hW gsp sh_45 (by decide) (ty_45 _) (by omega) (by omega) rfl (fun b94516 b94517 => ?_))
  refine wp_of e208 c208_10 (rw_iadd (pc' := 11) rfl ?_)
  refine wp_of e208 c208_11 (rw_istore (pc' := 13) (z := (40 * a1) + (H sp (a1.toNat))) (L' := [(6, vI ((40 * a1) + (H sp (a1.toNat)))), (0, .ref r0), (1, vI a1), (2, vI a2), (3, vI a3), (4, vI a4), (5, vI a5)]) rfl rfl rfl ?_)
  refine wp_of e208 c208_13 (rw_aload_n (pc' := 14) (v := .ref r0) rfl rfl rfl ?_)
  refine wp_of e208 c208_14 (xg_R (pc' := 17) lf_9_24 hW g0 sh_42 (by decide) (by decide) ty_42_22 rfl rfl (fun r94518 q94519 g94520 => ?_))
  refine wp_of e208 c208_17 (rw_iload (pc' := 19) (z := (40 * a1) + (H sp (a1.toNat))) rfl rfl ?_)
  refine wp_of e208 c208_19 (rw_iload_n (pc' := 20) (z := a2) rfl rfl ?_)
  refine wp_of e208 c208_20 (xs_I (pc' := 21) hW g94520 (by decide) sh_46 (by decide) (ty_46 _) (by omega) (by omega) ⟨by omega, by omega⟩ (by omega) (by omega) rfl (fun H94521 e94522 w94523 => ?_))
  have f94524 := f0.put' e94522 g94520 rfl
  refine wp_of e208 c208_21 (rw_aload_n (pc' := 22) (v := .ref r0) rfl rfl rfl ?_)
  refine wp_of e208 c208_22 (xg_R (pc' := 25) lf_9_27 w94523 g0 sh_42 (by decide) (by decide) ty_42_23 rfl rfl (fun r94525 q94526 g94527 => ?_))
  refine wp_of e208 c208_25 (rw_iload (pc' := 27) (z := (40 * a1) + (H sp (a1.toNat))) rfl rfl ?_)
  refine wp_of e208 c208_27 (rw_iload_n (pc' := 28) (z := a3) rfl rfl ?_)
  refine wp_of e208 c208_28 (xs_I (pc' := 29) w94523 g94527 (by decide) sh_47 (by decide) (ty_47 _) (by omega) (by omega) ⟨by omega, by omega⟩ (by omega) (by omega) rfl (fun H94528 e94529 w94530 => ?_))
  have f94531 := f94524.put' e94529 g94527 rfl
  refine wp_of e208 c208_29 (rw_aload_n (pc' := 30) (v := .ref r0) rfl rfl rfl ?_)
  refine wp_of e208 c208_30 (xg_R (pc' := 33) lf_9_30 w94530 g0 sh_42 (by decide) (by decide) ty_42_24 rfl rfl (fun r94532 q94533 g94534 => ?_))
  refine wp_of e208 c208_33 (rw_iload (pc' := 35) (z := (40 * a1) + (H sp (a1.toNat))) rfl rfl ?_)
  refine wp_of e208 c208_35 (rw_iload (pc' := 37) (z := a4) rfl rfl ?_)
  refine wp_of e208 c208_37 (xs_I (pc' := 38) w94530 g94534 (by decide) sh_48 (by decide) (ty_48 _) (by omega) (by omega) ⟨by omega, by omega⟩ (by omega) (by omega) rfl (fun H94535 e94536 w94537 => ?_))
  have f94538 := f94531.put' e94536 g94534 rfl
  refine wp_of e208 c208_38 (rw_aload_n (pc' := 39) (v := .ref r0) rfl rfl rfl ?_)
  refine wp_of e208 c208_39 (xg_R (pc' := 42) lf_9_33 w94537 g0 sh_42 (by decide) (by decide) ty_42_25 rfl rfl (fun r94539 q94540 g94541 => ?_))
  refine wp_of e208 c208_42 (rw_iload (pc' := 44) (z := (40 * a1) + (H sp (a1.toNat))) rfl rfl ?_)
  refine wp_of e208 c208_44 (rw_iload (pc' := 46) (z := a5) rfl rfl ?_)
  refine wp_of e208 c208_46 (xs_I (pc' := 47) w94537 g94541 (by decide) sh_49 (by decide) (ty_49 _) (by omega) (by omega) ⟨by omega, by omega⟩ (by omega) (by omega) rfl (fun H94542 e94543 w94544 => ?_))
  have f94545 := f94538.put' e94543 g94541 rfl
  refine wp_of e208 c208_47 (rw_aload_n (pc' := 48) (v := .ref r0) rfl rfl rfl ?_)
  have k94546 : H94542 r0 21 = H r0 21 := ((wq_u_t e94543 g94541 g0 rfl 21).trans ((wq_u_t e94536 g94534 g0 rfl 21).trans ((wq_u_t e94529 g94527 g0 rfl 21).trans (wq_u_t e94522 g94520 g0 rfl 21))))
  have q94547 : H94542 r0 21 = (sp : Int) := k94546.trans qsp
  refine wp_of e208 c208_48 (xg_K (pc' := 51) lf_9_21 w94544 g0 sh_42 (by decide) (by decide) rfl q94547 rfl ?_)
  refine wp_of e208 c208_51 (rw_iload_n (pc' := 52) (z := a1) rfl rfl ?_)
  refine wp_of e208 c208_52 (rw_dup2 (pc' := 53) rfl rfl rfl ?_)
  have k94548 : H94542 sp (a1.toNat) = H sp (a1.toNat) := ((wq_u_t e94543 g94541 gsp rfl (a1.toNat)).trans ((wq_u_t e94536 g94534 gsp rfl (a1.toNat)).trans ((wq_u_t e94529 g94527 gsp rfl (a1.toNat)).trans (wq_u_t e94522 g94520 gsp rfl (a1.toNat)))))
  refine wp_of e208 c208_53 (xa_I (so := 0) (pc' := 54) w94544 gsp sh_45 (by decide) (ty_45 _) (by omega) (by omega) rfl (fun b94549 b94550 => ?_))
  refine wp_of e208 c208_54 (rw_iconst (pc' := 55) rfl ?_)
  refine wp_of e208 c208_55 (rw_iadd (pc' := 56) rfl ?_)
  refine wp_of e208 c208_56 (xs_I (pc' := 57) w94544 gsp (by decide) sh_45 (by decide) (ty_45 _) (by omega) (by omega) ⟨by omega, by omega⟩ (by omega) (by omega) rfl (fun H94551 e94552 w94553 => ?_))
  have f94554 := f94545.put' e94552 gsp rfl
  have k94555 : H94551 sp (a1.toNat) = (H94542 sp (a1.toNat)) + 1 := wq_u_s e94552
  exact wp_return e208 c208_57 rfl ⟨rfl, w94553, f94554, rfl, by omega⟩
/-! StrikeAwakeModel.lays()V -/
theorem e206 : wq_en 206 = some (9, 7, false, none) := rfl
theorem c206_0 : mc_cd 206 0 = some (.aload_n 0, 1) := by decide +kernel
theorem c206_1 : mc_cd 206 1 = some (.invokevirtual 357, 3) := by decide +kernel
theorem c206_4 : mc_cd 206 4 = some (.istore_n 1, 1) := by decide +kernel
theorem c206_5 : mc_cd 206 5 = some (.iconst 0, 1) := by decide +kernel
theorem c206_6 : mc_cd 206 6 = some (.istore_n 2, 1) := by decide +kernel
theorem c206_7 : mc_cd 206 7 = some (.iload_n 2, 1) := by decide +kernel
theorem c206_8 : mc_cd 206 8 = some (.aload_n 0, 1) := by decide +kernel
theorem c206_9 : mc_cd 206 9 = some (.getfield 337, 3) := by decide +kernel
theorem c206_12 : mc_cd 206 12 = some (.getfield 188, 3) := by decide +kernel
theorem c206_15 : mc_cd 206 15 = some (.if_icmp .ge 181, 3) := by decide +kernel
theorem c206_18 : mc_cd 206 18 = some (.aload_n 0, 1) := by decide +kernel
theorem c206_19 : mc_cd 206 19 = some (.getfield 21, 3) := by decide +kernel
theorem c206_22 : mc_cd 206 22 = some (.iload_n 2, 1) := by decide +kernel
theorem c206_23 : mc_cd 206 23 = some (.iconst 0, 1) := by decide +kernel
theorem c206_24 : mc_cd 206 24 = some (.iastore, 1) := by decide +kernel
theorem c206_25 : mc_cd 206 25 = some (.aload_n 0, 1) := by decide +kernel
theorem c206_26 : mc_cd 206 26 = some (.getfield 337, 3) := by decide +kernel
theorem c206_29 : mc_cd 206 29 = some (.getfield 267, 3) := by decide +kernel
theorem c206_32 : mc_cd 206 32 = some (.iload_n 2, 1) := by decide +kernel
theorem c206_33 : mc_cd 206 33 = some (.baload, 1) := by decide +kernel
theorem c206_34 : mc_cd 206 34 = some (.ifCond .eq 15, 3) := by decide +kernel
theorem c206_37 : mc_cd 206 37 = some (.aload_n 0, 1) := by decide +kernel
theorem c206_38 : mc_cd 206 38 = some (.iload_n 2, 1) := by decide +kernel
theorem c206_39 : mc_cd 206 39 = some (.iconst 0, 1) := by decide +kernel
theorem c206_40 : mc_cd 206 40 = some (.iconst 0, 1) := by decide +kernel
theorem c206_41 : mc_cd 206 41 = some (.iconst 0, 1) := by decide +kernel
theorem c206_42 : mc_cd 206 42 = some (.iconst 0, 1) := by decide +kernel
theorem c206_43 : mc_cd 206 43 = some (.invokevirtual 360, 3) := by decide +kernel
theorem c206_46 : mc_cd 206 46 = some (.goto 144, 3) := by decide +kernel
theorem c206_49 : mc_cd 206 49 = some (.aload_n 0, 1) := by decide +kernel
theorem c206_50 : mc_cd 206 50 = some (.getfield 337, 3) := by decide +kernel
theorem c206_53 : mc_cd 206 53 = some (.getfield 261, 3) := by decide +kernel
theorem c206_56 : mc_cd 206 56 = some (.iload_n 2, 1) := by decide +kernel
theorem c206_57 : mc_cd 206 57 = some (.iaload, 1) := by decide +kernel
theorem c206_58 : mc_cd 206 58 = some (.aload_n 0, 1) := by decide +kernel
theorem c206_59 : mc_cd 206 59 = some (.getfield 337, 3) := by decide +kernel
theorem c206_62 : mc_cd 206 62 = some (.getfield 264, 3) := by decide +kernel
theorem c206_65 : mc_cd 206 65 = some (.iload_n 2, 1) := by decide +kernel
theorem c206_66 : mc_cd 206 66 = some (.iaload, 1) := by decide +kernel
theorem c206_67 : mc_cd 206 67 = some (.invokestatic 318, 3) := by decide +kernel
theorem c206_70 : mc_cd 206 70 = some (.istore_n 3, 1) := by decide +kernel
theorem c206_71 : mc_cd 206 71 = some (.aload_n 0, 1) := by decide +kernel
theorem c206_72 : mc_cd 206 72 = some (.getfield 337, 3) := by decide +kernel
theorem c206_75 : mc_cd 206 75 = some (.getfield 247, 3) := by decide +kernel
theorem c206_78 : mc_cd 206 78 = some (.iload_n 2, 1) := by decide +kernel
theorem c206_79 : mc_cd 206 79 = some (.iaload, 1) := by decide +kernel
theorem c206_80 : mc_cd 206 80 = some (.istore 4, 2) := by decide +kernel
theorem c206_82 : mc_cd 206 82 = some (.iload 4, 2) := by decide +kernel
theorem c206_84 : mc_cd 206 84 = some (.aload_n 0, 1) := by decide +kernel
theorem c206_85 : mc_cd 206 85 = some (.getfield 337, 3) := by decide +kernel
theorem c206_88 : mc_cd 206 88 = some (.getfield 250, 3) := by decide +kernel
theorem c206_91 : mc_cd 206 91 = some (.iload_n 2, 1) := by decide +kernel
theorem c206_92 : mc_cd 206 92 = some (.iaload, 1) := by decide +kernel
theorem c206_93 : mc_cd 206 93 = some (.if_icmp .gt 97, 3) := by decide +kernel
theorem c206_96 : mc_cd 206 96 = some (.aload_n 0, 1) := by decide +kernel
theorem c206_97 : mc_cd 206 97 = some (.getfield 337, 3) := by decide +kernel
theorem c206_100 : mc_cd 206 100 = some (.getfield 253, 3) := by decide +kernel
theorem c206_103 : mc_cd 206 103 = some (.iload_n 2, 1) := by decide +kernel
theorem c206_104 : mc_cd 206 104 = some (.iaload, 1) := by decide +kernel
theorem c206_105 : mc_cd 206 105 = some (.istore 5, 2) := by decide +kernel
theorem c206_107 : mc_cd 206 107 = some (.iload 5, 2) := by decide +kernel
theorem c206_109 : mc_cd 206 109 = some (.aload_n 0, 1) := by decide +kernel
theorem c206_110 : mc_cd 206 110 = some (.getfield 337, 3) := by decide +kernel
theorem c206_113 : mc_cd 206 113 = some (.getfield 256, 3) := by decide +kernel
theorem c206_116 : mc_cd 206 116 = some (.iload_n 2, 1) := by decide +kernel
theorem c206_117 : mc_cd 206 117 = some (.iaload, 1) := by decide +kernel
theorem c206_118 : mc_cd 206 118 = some (.if_icmp .gt 66, 3) := by decide +kernel
theorem c206_121 : mc_cd 206 121 = some (.iload 4, 2) := by decide +kernel
theorem c206_123 : mc_cd 206 123 = some (.iload 4, 2) := by decide +kernel
theorem c206_125 : mc_cd 206 125 = some (.iload 5, 2) := by decide +kernel
theorem c206_127 : mc_cd 206 127 = some (.iadd, 1) := by decide +kernel
theorem c206_128 : mc_cd 206 128 = some (.invokestatic 318, 3) := by decide +kernel
theorem c206_131 : mc_cd 206 131 = some (.iload_n 3, 1) := by decide +kernel
theorem c206_132 : mc_cd 206 132 = some (.ior, 1) := by decide +kernel
theorem c206_133 : mc_cd 206 133 = some (.aload_n 0, 1) := by decide +kernel
theorem c206_134 : mc_cd 206 134 = some (.getfield 343, 3) := by decide +kernel
theorem c206_137 : mc_cd 206 137 = some (.iand, 1) := by decide +kernel
theorem c206_138 : mc_cd 206 138 = some (.istore 6, 2) := by decide +kernel
theorem c206_140 : mc_cd 206 140 = some (.iload_n 2, 1) := by decide +kernel
theorem c206_141 : mc_cd 206 141 = some (.aload_n 0, 1) := by decide +kernel
theorem c206_142 : mc_cd 206 142 = some (.getfield 337, 3) := by decide +kernel
theorem c206_145 : mc_cd 206 145 = some (.getfield 271, 3) := by decide +kernel
theorem c206_148 : mc_cd 206 148 = some (.if_icmp .ne 10, 3) := by decide +kernel
theorem c206_151 : mc_cd 206 151 = some (.iload 6, 2) := by decide +kernel
theorem c206_153 : mc_cd 206 153 = some (.iload_n 1, 1) := by decide +kernel
theorem c206_154 : mc_cd 206 154 = some (.iand, 1) := by decide +kernel
theorem c206_155 : mc_cd 206 155 = some (.ifCond .ne 23, 3) := by decide +kernel
theorem c206_158 : mc_cd 206 158 = some (.aload_n 0, 1) := by decide +kernel
theorem c206_159 : mc_cd 206 159 = some (.iload_n 2, 1) := by decide +kernel
theorem c206_160 : mc_cd 206 160 = some (.iload 4, 2) := by decide +kernel
theorem c206_162 : mc_cd 206 162 = some (.iload 5, 2) := by decide +kernel
theorem c206_164 : mc_cd 206 164 = some (.iload 6, 2) := by decide +kernel
theorem c206_166 : mc_cd 206 166 = some (.aload_n 0, 1) := by decide +kernel
theorem c206_167 : mc_cd 206 167 = some (.getfield 343, 3) := by decide +kernel
theorem c206_170 : mc_cd 206 170 = some (.iload 6, 2) := by decide +kernel
theorem c206_172 : mc_cd 206 172 = some (.iconst (-1), 1) := by decide +kernel
theorem c206_173 : mc_cd 206 173 = some (.ixor, 1) := by decide +kernel
theorem c206_174 : mc_cd 206 174 = some (.iand, 1) := by decide +kernel
theorem c206_175 : mc_cd 206 175 = some (.invokevirtual 360, 3) := by decide +kernel
theorem c206_178 : mc_cd 206 178 = some (.iinc 5 1, 3) := by decide +kernel
theorem c206_181 : mc_cd 206 181 = some (.goto (-74), 3) := by decide +kernel
theorem c206_184 : mc_cd 206 184 = some (.iinc 4 1, 3) := by decide +kernel
theorem c206_187 : mc_cd 206 187 = some (.goto (-105), 3) := by decide +kernel
theorem c206_190 : mc_cd 206 190 = some (.iinc 2 1, 3) := by decide +kernel
theorem c206_193 : mc_cd 206 193 = some (.goto (-186), 3) := by decide +kernel
theorem c206_196 : mc_cd 206 196 = some (.return_, 1) := by decide +kernel
abbrev q_206 (r0 : Nat) (pp : Nat) (T : wq_T) (H : wq_H) : Option Value → wq_T → wq_H → Prop := fun r T' H' => T = T' ∧ WT T H' ∧ wfr [(48, 999), (49, 999), (46, 999), (47, 999), (45, 999)] T H H' ∧ none = r
set_option maxHeartbeats 4000000 in
theorem s_206 {kt : Nat → Option mc_E} {T : wq_T} {H : wq_H} {r0 : Nat} {pp : Nat} (hW : WT T H) (g0 : T.2.2.2 r0 = some 42) (qpp : H r0 3 = (pp : Int)) (gpp : T.2.2.2 pp = some 54) (p0 : wPI H pp = 1) : wpc kt 2 206 [.ref r0] T H (q_206 r0 pp T H) := by
  refine wp_enter e206 (Nat.le_of_ble_eq_true rfl) rfl ?_
  have f0 : wfr [(48, 999), (49, 999), (46, 999), (47, 999), (45, 999)] T H H := wfr.rf
  show wp _ _ 206 0 [(0, .ref r0)] [] _ H _
  refine wp_of e206 c206_0 (rw_aload_n (pc' := 1) (v := .ref r0) rfl rfl rfl ?_)
  refine wp_of e206 c206_1 (xc_V (pc' := 4) (r := r0) (as := []) (st := []) (lm_9_357) rfl rfl (Nat.le_of_ble_eq_true rfl) hW g0 sh_42 (by decide) rfl (by decide) (s_207 hW g0) (fun R111318 T111319 H111320 p111321 => ?_))
  obtain ⟨e111322, e111324, z111325, e111323, b111326⟩ := p111321
  subst e111322
  subst e111323
  subst e111324
  show wp _ _ 206 4 [(0, .ref r0)] [vI z111325] _ H _
  refine wp_of e206 c206_4 (rw_istore_n (pc' := 5) (z := z111325) (L' := [(1, vI z111325), (0, .ref r0)]) rfl rfl rfl ?_)
  refine wp_of e206 c206_5 (rw_iconst (pc' := 6) rfl ?_)
  refine wp_of e206 c206_6 (rw_istore_n (pc' := 7) (z := 0) (L' := [(2, vI 0), (1, vI z111325), (0, .ref r0)]) rfl rfl rfl ?_)
  have lp125985 : ∀ (n125986 : Nat) (v125988 : Int) (H125989 : wq_H), WT T H125989 → wfr [(48, 999), (49, 999), (46, 999), (47, 999), (45, 999)] T H H125989 → (0 ≤ v125988 ∧ v125988 ≤ 6) → (wPI H125989 pp = 1) → (6 - v125988).toNat = n125986 → wp kt 1 206 7 [(2, vI v125988), (1, vI z111325), (0, .ref r0)] [] T H125989 (q_206 r0 pp T H) := by
    intro n125986
    induction n125986 using Nat.strongRecOn with
    | _ n125986 ih125987 =>
      intro v125988 H125989 w125990 f125991 b125992 x125993 m125994
      have f125995 := f0.tr f125991 rfl
      have k125996 : wPI H125989 pp = wPI H pp := (wPI_fr hW gpp f125991 rfl)
      refine wp_of e206 c206_7 (rw_iload_n (pc' := 8) (z := v125988) rfl rfl ?_)
      refine wp_of e206 c206_8 (rw_aload_n (pc' := 9) (v := .ref r0) rfl rfl rfl ?_)
      have k125997 : H125989 r0 3 = H r0 3 := (f125991 r0 3 _ g0 rfl)
      have q125998 : H125989 r0 3 = (pp : Int) := k125997.trans qpp
      refine wp_of e206 c206_9 (xg_K (pc' := 12) lf_9_337 w125990 g0 sh_42 (by decide) (by decide) rfl q125998 rfl ?_)
      refine wp_of e206 c206_12 (xg_I (pc' := 15) lf_9_188 w125990 gpp sh_54 (by decide) (by decide) ty_54_3 rfl rfl (fun b125999 b126000 => ?_))
      refine wp_of e206 c206_15 (rw_icmp_ge (p1 := 196) (p2 := 18) (by decide) rfl ⟨by omega, by omega⟩ ⟨by omega, by omega⟩ (fun c126001 => ?_) (fun c126001 => ?_))
      · exact wp_return e206 c206_196 rfl ⟨rfl, w125990, f125995, rfl⟩
      · refine wp_of e206 c206_18 (rw_aload_n (pc' := 19) (v := .ref r0) rfl rfl rfl ?_)
        refine wp_of e206 c206_19 (xg_R (pc' := 22) lf_9_21 w125990 g0 sh_42 (by decide) (by decide) ty_42_21 rfl rfl (fun r126002 q126003 g126004 => ?_))
        refine wp_of e206 c206_22 (rw_iload_n (pc' := 23) (z := v125988) rfl rfl ?_)
        refine wp_of e206 c206_23 (rw_iconst (pc' := 24) rfl ?_)
        refine wp_of e206 c206_24 (xs_I (pc' := 25) w125990 g126004 (by decide) sh_45 (by decide) (ty_45 _) (by omega) (by omega) ⟨by omega, by omega⟩ (by omega) (by omega) rfl (fun H126005 e126006 w126007 => ?_))
        have f126008 := f125995.put' e126006 g126004 rfl
        have f126009 := f125991.put' e126006 g126004 rfl
        have k126010 : H126005 r126002 (v125988.toNat) = 0 := wq_u_s e126006
        refine wp_of e206 c206_25 (rw_aload_n (pc' := 26) (v := .ref r0) rfl rfl rfl ?_)
        have k126011 : H126005 r0 3 = H125989 r0 3 := (wq_u_t e126006 g126004 g0 rfl 3)
        have q126012 : H126005 r0 3 = (pp : Int) := k126011.trans q125998
        refine wp_of e206 c206_26 (xg_K (pc' := 29) lf_9_337 w126007 g0 sh_42 (by decide) (by decide) rfl q126012 rfl ?_)
        refine wp_of e206 c206_29 (xg_R (pc' := 32) lf_9_267 w126007 gpp sh_54 (by decide) (by decide) ty_54_17 rfl rfl (fun r126013 q126014 g126015 => ?_))
        refine wp_of e206 c206_32 (rw_iload_n (pc' := 33) (z := v125988) rfl rfl ?_)
        refine wp_of e206 c206_33 (xa_B (by decide) (pc' := 34) w126007 g126015 sh_63 (by decide) (ty_63 _) (by omega) (by omega) rfl (fun b126016 b126017 => ?_))
        refine wp_of e206 c206_34 (rw_if_eq (p1 := 49) (p2 := 37) (by decide) rfl ⟨by omega, by omega⟩ (fun c126018 => ?_) (fun c126018 => ?_))
        · refine wp_of e206 c206_49 (rw_aload_n (pc' := 50) (v := .ref r0) rfl rfl rfl ?_)
          refine wp_of e206 c206_50 (xg_K (pc' := 53) lf_9_337 w126007 g0 sh_42 (by decide) (by decide) rfl q126012 rfl ?_)
          refine wp_of e206 c206_53 (xg_R (pc' := 56) lf_9_261 w126007 gpp sh_54 (by decide) (by decide) ty_54_15 rfl rfl (fun r126019 q126020 g126021 => ?_))
          refine wp_of e206 c206_56 (rw_iload_n (pc' := 57) (z := v125988) rfl rfl ?_)
          refine wp_of e206 c206_57 (xa_I (so := 0) (pc' := 58) w126007 g126021 sh_61 (by decide) (ty_61 _) (by omega) (by omega) rfl (fun b126022 b126023 => ?_))
          refine wp_of e206 c206_58 (rw_aload_n (pc' := 59) (v := .ref r0) rfl rfl rfl ?_)
          refine wp_of e206 c206_59 (xg_K (pc' := 62) lf_9_337 w126007 g0 sh_42 (by decide) (by decide) rfl q126012 rfl ?_)
          refine wp_of e206 c206_62 (xg_R (pc' := 65) lf_9_264 w126007 gpp sh_54 (by decide) (by decide) ty_54_16 rfl rfl (fun r126024 q126025 g126026 => ?_))
          refine wp_of e206 c206_65 (rw_iload_n (pc' := 66) (z := v125988) rfl rfl ?_)
          refine wp_of e206 c206_66 (xa_I (so := 0) (pc' := 67) w126007 g126026 sh_62 (by decide) (ty_62 _) (by omega) (by omega) rfl (fun b126027 b126028 => ?_))
          refine wp_of e206 c206_67 (xc_S (pc' := 70) (as := [vI (H126005 r126019 (v125988.toNat)), vI (H126005 r126024 (v125988.toNat))]) (st := []) (lm_9_318) rfl rfl (Nat.le_of_ble_eq_true rfl) rfl (by decide) (s_202 w126007 ⟨by omega, by omega⟩ ⟨by omega, by omega⟩) (fun R126029 T126030 H126031 p126032 => ?_))
          obtain ⟨e126033, e126035, z126036, e126034, b126037⟩ := p126032
          subst e126033
          subst e126034
          subst e126035
          show wp _ _ 206 70 [(2, vI v125988), (1, vI z111325), (0, .ref r0)] [vI z126036] _ H126005 _
          refine wp_of e206 c206_70 (rw_istore_n (pc' := 71) (z := z126036) (L' := [(3, vI z126036), (2, vI v125988), (1, vI z111325), (0, .ref r0)]) rfl rfl rfl ?_)
          refine wp_of e206 c206_71 (rw_aload_n (pc' := 72) (v := .ref r0) rfl rfl rfl ?_)
          refine wp_of e206 c206_72 (xg_K (pc' := 75) lf_9_337 w126007 g0 sh_42 (by decide) (by decide) rfl q126012 rfl ?_)
          refine wp_of e206 c206_75 (xg_R (pc' := 78) lf_9_247 w126007 gpp sh_54 (by decide) (by decide) ty_54_10 rfl rfl (fun r126038 q126039 g126040 => ?_))
          refine wp_of e206 c206_78 (rw_iload_n (pc' := 79) (z := v125988) rfl rfl ?_)
          refine wp_of e206 c206_79 (xa_I (so := 0) (pc' := 80) w126007 g126040 sh_56 (by decide) (ty_56 _) (by omega) (by omega) rfl (fun b126041 b126042 => ?_))
          refine wp_of e206 c206_80 (rw_istore (pc' := 82) (z := H126005 r126038 (v125988.toNat)) (L' := [(4, vI (H126005 r126038 (v125988.toNat))), (3, vI z126036), (2, vI v125988), (1, vI z111325), (0, .ref r0)]) rfl rfl rfl ?_)
          have k127795 : H126005 r0 21 = H125989 r0 21 := (wq_u_t e126006 g126004 g0 rfl 21)
          have q127796 : H126005 r0 21 = (r126002 : Int) := k127795.trans q126003
          have k127797 : wPI H126005 pp = wPI H125989 pp := (wPI_fr w125990 gpp ((wfr.rf (l := [(45, 999)])).put' e126006 g126004 rfl) rfl)
          have lp127790 : ∀ (n127791 : Nat) (v127793 : Int) (H127794 : wq_H), WT T H127794 → wfr [(48, 999), (49, 999), (46, 999), (47, 999), (45, 999)] T H126005 H127794 → (0 ≤ v127793 ∧ v127793 ≤ 31) → (H127794 r126002 (v125988).toNat ≤ 5 * (v127793 - H127794 r126038 (v125988).toNat)) → (H127794 r126038 (v125988).toNat ≤ v127793) → (wPI H127794 pp = 1) → (31 - v127793).toNat = n127791 → wp kt 1 206 82 [(4, vI v127793), (3, vI z126036), (2, vI v125988), (1, vI z111325), (0, .ref r0)] [] T H127794 (q_206 r0 pp T H) := by
            intro n127791
            induction n127791 using Nat.strongRecOn with
            | _ n127791 ih127792 =>
              intro v127793 H127794 w127798 f127799 b127800 x127801 x127802 x127803 m127804
              have f127805 := f126008.tr f127799 rfl
              have f127806 := f126009.tr f127799 rfl
              have k127807 : H127794 r0 21 = H126005 r0 21 := (f127799 r0 21 _ g0 rfl)
              have q127808 : H127794 r0 21 = (r126002 : Int) := k127807.trans q127796
              have k127809 : H127794 pp 10 = H126005 pp 10 := (f127799 pp 10 _ gpp rfl)
              have q127810 : H127794 pp 10 = (r126038 : Int) := k127809.trans q126039
              have k127811 : H127794 r126038 (v125988.toNat) = H126005 r126038 (v125988.toNat) := (f127799 r126038 (v125988.toNat) _ g126040 rfl)
              have k127812 : wPI H127794 pp = wPI H126005 pp := (wPI_fr w126007 gpp f127799 rfl)
              refine wp_of e206 c206_82 (rw_iload (pc' := 84) (z := v127793) rfl rfl ?_)
              refine wp_of e206 c206_84 (rw_aload_n (pc' := 85) (v := .ref r0) rfl rfl rfl ?_)
              have k127813 : H127794 r0 3 = H126005 r0 3 := (f127799 r0 3 _ g0 rfl)
              have q127814 : H127794 r0 3 = (pp : Int) := k127813.trans q126012
              refine wp_of e206 c206_85 (xg_K (pc' := 88) lf_9_337 w127798 g0 sh_42 (by decide) (by decide) rfl q127814 rfl ?_)
              refine wp_of e206 c206_88 (xg_R (pc' := 91) lf_9_250 w127798 gpp sh_54 (by decide) (by decide) ty_54_11 rfl rfl (fun r127815 q127816 g127817 => ?_))
              refine wp_of e206 c206_91 (rw_iload_n (pc' := 92) (z := v125988) rfl rfl ?_)
              refine wp_of e206 c206_92 (xa_I (so := 0) (pc' := 93) w127798 g127817 sh_57 (by decide) (ty_57 _) (by omega) (by omega) rfl (fun b127818 b127819 => ?_))
              refine wp_of e206 c206_93 (rw_icmp_gt (p1 := 190) (p2 := 96) (by decide) rfl ⟨by omega, by omega⟩ ⟨by omega, by omega⟩ (fun c127820 => ?_) (fun c127820 => ?_))
              · refine wp_of e206 c206_190 (rw_iinc (pc' := 193) (z := v125988) (L' := [(2, vI (v125988 + 1)), (4, vI v127793), (3, vI z126036), (1, vI z111325), (0, .ref r0)]) rfl rfl rfl rfl ?_)
                refine wp_of e206 c206_193 (rw_goto (p1 := 7) (by decide) ?_)
                exact wp_lc (ks := [2, 4, 3, 1, 0]) (wl_c rfl (wl_c rfl (wl_c rfl wl_n))) rfl (by decide) (ih125987 _ (by omega) (v125988 + 1) H127794 w127798 f127806 ⟨by omega, by omega⟩ (by omega) rfl)
              · refine wp_of e206 c206_96 (rw_aload_n (pc' := 97) (v := .ref r0) rfl rfl rfl ?_)
                refine wp_of e206 c206_97 (xg_K (pc' := 100) lf_9_337 w127798 g0 sh_42 (by decide) (by decide) rfl q127814 rfl ?_)
                refine wp_of e206 c206_100 (xg_R (pc' := 103) lf_9_253 w127798 gpp sh_54 (by decide) (by decide) ty_54_12 rfl rfl (fun r127821 q127822 g127823 => ?_))
                refine wp_of e206 c206_103 (rw_iload_n (pc' := 104) (z := v125988) rfl rfl ?_)
                refine wp_of e206 c206_104 (xa_I (so := 0) (pc' := 105) w127798 g127823 sh_58 (by decide) (ty_58 _) (by omega) (by omega) rfl (fun b127824 b127825 => ?_))
                refine wp_of e206 c206_105 (rw_istore (pc' := 107) (z := H127794 r127821 (v125988.toNat)) (L' := [(5, vI (H127794 r127821 (v125988.toNat))), (4, vI v127793), (3, vI z126036), (2, vI v125988), (1, vI z111325), (0, .ref r0)]) rfl rfl rfl ?_)
                have lp128104 : ∀ (n128105 : Nat) (v128107 : Int) (H128108 : wq_H), WT T H128108 → wfr [(48, 999), (49, 999), (46, 999), (47, 999), (45, 999)] T H127794 H128108 → (0 ≤ v128107 ∧ v128107 ≤ 17) → (H128108 r126002 (v125988).toNat ≤ 5 * (v127793 - H128108 r126038 (v125988).toNat) + (v128107 - H128108 r127821 (v125988).toNat)) → (H128108 r127821 (v125988).toNat ≤ v128107) → (v128107 ≤ H128108 r127821 (v125988).toNat + 5) → (H128108 r126038 (v125988).toNat ≤ v127793) → (wPI H128108 pp = 1) → (17 - v128107).toNat = n128105 → wp kt 1 206 107 [(5, vI v128107), (4, vI v127793), (3, vI z126036), (2, vI v125988), (1, vI z111325), (0, .ref r0)] [] T H128108 (q_206 r0 pp T H) := by
                  intro n128105
                  induction n128105 using Nat.strongRecOn with
                  | _ n128105 ih128106 =>
                    intro v128107 H128108 w128109 f128110 b128111 x128112 x128113 x128114 x128115 x128116 m128117
                    have f128118 := f127805.tr f128110 rfl
                    have f128119 := f127806.tr f128110 rfl
                    have f128120 := f127799.tr f128110 rfl
                    have k128121 : H128108 r0 21 = H127794 r0 21 := (f128110 r0 21 _ g0 rfl)
                    have q128122 : H128108 r0 21 = (r126002 : Int) := k128121.trans q127808
                    have k128123 : H128108 pp 10 = H127794 pp 10 := (f128110 pp 10 _ gpp rfl)
                    have q128124 : H128108 pp 10 = (r126038 : Int) := k128123.trans q127810
                    have k128125 : H128108 r126038 (v125988.toNat) = H127794 r126038 (v125988.toNat) := (f128110 r126038 (v125988.toNat) _ g126040 rfl)
                    have k128126 : wPI H128108 pp = wPI H127794 pp := (wPI_fr w127798 gpp f128110 rfl)
                    have k128127 : H128108 pp 11 = H127794 pp 11 := (f128110 pp 11 _ gpp rfl)
                    have q128128 : H128108 pp 11 = (r127815 : Int) := k128127.trans q127816
                    have k128129 : H128108 r127815 (v125988.toNat) = H127794 r127815 (v125988.toNat) := (f128110 r127815 (v125988.toNat) _ g127817 rfl)
                    have k128130 : H128108 pp 12 = H127794 pp 12 := (f128110 pp 12 _ gpp rfl)
                    have q128131 : H128108 pp 12 = (r127821 : Int) := k128130.trans q127822
                    have k128132 : H128108 r127821 (v125988.toNat) = H127794 r127821 (v125988.toNat) := (f128110 r127821 (v125988.toNat) _ g127823 rfl)
                    obtain ⟨r128133, q128134, g128135⟩ := w128109.ref gpp (t' := 59) (n := 27) (j := 13) (p := 0) (q := 0) rfl (by decide) rfl
                    have hp := wPI_at (H := H128108) (R := pp) (by omega) q128124 q128128 q128131 q128134 (k := (v125988).toNat) (by omega)
                    refine wp_of e206 c206_107 (rw_iload (pc' := 109) (z := v128107) rfl rfl ?_)
                    refine wp_of e206 c206_109 (rw_aload_n (pc' := 110) (v := .ref r0) rfl rfl rfl ?_)
                    have k128136 : H128108 r0 3 = H127794 r0 3 := (f128110 r0 3 _ g0 rfl)
                    have q128137 : H128108 r0 3 = (pp : Int) := k128136.trans q127814
                    refine wp_of e206 c206_110 (xg_K (pc' := 113) lf_9_337 w128109 g0 sh_42 (by decide) (by decide) rfl q128137 rfl ?_)
                    refine wp_of e206 c206_113 (xg_K (pc' := 116) lf_9_256 w128109 gpp sh_54 (by decide) (by decide) rfl q128134 rfl ?_)
                    refine wp_of e206 c206_116 (rw_iload_n (pc' := 117) (z := v125988) rfl rfl ?_)
                    refine wp_of e206 c206_117 (xa_I (so := 0) (pc' := 118) w128109 g128135 sh_59 (by decide) (ty_59 _) (by omega) (by omega) rfl (fun b128138 b128139 => ?_))
                    refine wp_of e206 c206_118 (rw_icmp_gt (p1 := 184) (p2 := 121) (by decide) rfl ⟨by omega, by omega⟩ ⟨by omega, by omega⟩ (fun c128140 => ?_) (fun c128140 => ?_))
                    · refine wp_of e206 c206_184 (rw_iinc (pc' := 187) (z := v127793) (L' := [(4, vI (v127793 + 1)), (5, vI v128107), (3, vI z126036), (2, vI v125988), (1, vI z111325), (0, .ref r0)]) rfl rfl rfl rfl ?_)
                      refine wp_of e206 c206_187 (rw_goto (p1 := 82) (by decide) ?_)
                      exact wp_lc (ks := [4, 5, 3, 2, 1, 0]) (wl_c rfl (wl_c rfl (wl_c rfl (wl_c rfl (wl_c rfl wl_n))))) rfl (by decide) (ih127792 _ (by omega) (v127793 + 1) H128108 w128109 f128120 ⟨by omega, by omega⟩ (by omega) (by omega) (by omega) rfl)
                    · refine wp_of e206 c206_121 (rw_iload (pc' := 123) (z := v127793) rfl rfl ?_)
                      refine wp_of e206 c206_123 (rw_iload (pc' := 125) (z := v127793) rfl rfl ?_)
                      refine wp_of e206 c206_125 (rw_iload (pc' := 127) (z := v128107) rfl rfl ?_)
                      refine wp_of e206 c206_127 (rw_iadd (pc' := 128) rfl ?_)
                      refine wp_of e206 c206_128 (xc_S (pc' := 131) (as := [vI v127793, vI (v127793 + v128107)]) (st := []) (lm_9_318) rfl rfl (Nat.le_of_ble_eq_true rfl) rfl (by decide) (s_202 w128109 ⟨by omega, by omega⟩ ⟨by omega, by omega⟩) (fun R128141 T128142 H128143 p128144 => ?_))
                      obtain ⟨e128145, e128147, z128148, e128146, b128149⟩ := p128144
                      subst e128145
                      subst e128146
                      subst e128147
                      show wp _ _ 206 131 [(5, vI v128107), (4, vI v127793), (3, vI z126036), (2, vI v125988), (1, vI z111325), (0, .ref r0)] [vI z128148] _ H128108 _
                      refine wp_of e206 c206_131 (rw_iload_n (pc' := 132) (z := z126036) rfl rfl ?_)
                      refine wp_of e206 c206_132 (rw_ior (pc' := 133) rfl ?_)
                      obtain ⟨v128150, e128151⟩ : ∃ x : Int, x = wq_or z128148 z126036 := ⟨_, rfl⟩
                      rw [← e128151]
                      have b128152 : -2147483648 ≤ v128150 ∧ v128150 ≤ 2147483647 := by
                        rw [e128151]
                        exact wI_or _ _
                      refine wp_of e206 c206_133 (rw_aload_n (pc' := 134) (v := .ref r0) rfl rfl rfl ?_)
                      refine wp_of e206 c206_134 (xg_I (pc' := 137) lf_9_343 w128109 g0 sh_42 (by decide) (by decide) ty_42_19 rfl rfl (fun b128153 b128154 => ?_))
                      refine wp_of e206 c206_137 (rw_iand (pc' := 138) rfl ?_)
                      obtain ⟨v128155, e128156⟩ : ∃ x : Int, x = wq_and v128150 (H128108 r0 19) := ⟨_, rfl⟩
                      rw [← e128156]
                      have b128157 : -2147483648 ≤ v128155 ∧ v128155 ≤ 2147483647 := by
                        rw [e128156]
                        exact wI_and _ _
                      refine wp_of e206 c206_138 (rw_istore (pc' := 140) (z := v128155) (L' := [(6, vI v128155), (5, vI v128107), (4, vI v127793), (3, vI z126036), (2, vI v125988), (1, vI z111325), (0, .ref r0)]) rfl rfl rfl ?_)
                      refine wp_of e206 c206_140 (rw_iload_n (pc' := 141) (z := v125988) rfl rfl ?_)
                      refine wp_of e206 c206_141 (rw_aload_n (pc' := 142) (v := .ref r0) rfl rfl rfl ?_)
                      refine wp_of e206 c206_142 (xg_K (pc' := 145) lf_9_337 w128109 g0 sh_42 (by decide) (by decide) rfl q128137 rfl ?_)
                      refine wp_of e206 c206_145 (xg_I (pc' := 148) lf_9_271 w128109 gpp sh_54 (by decide) (by decide) ty_54_8 rfl rfl (fun b128158 b128159 => ?_))
                      refine wp_of e206 c206_148 (rw_icmp_ne (p1 := 158) (p2 := 151) (by decide) rfl ⟨by omega, by omega⟩ ⟨by omega, by omega⟩ (fun c128160 => ?_) (fun c128160 => ?_))
                      · refine wp_of e206 c206_158 (rw_aload_n (pc' := 159) (v := .ref r0) rfl rfl rfl ?_)
                        refine wp_of e206 c206_159 (rw_iload_n (pc' := 160) (z := v125988) rfl rfl ?_)
                        refine wp_of e206 c206_160 (rw_iload (pc' := 162) (z := v127793) rfl rfl ?_)
                        refine wp_of e206 c206_162 (rw_iload (pc' := 164) (z := v128107) rfl rfl ?_)
                        refine wp_of e206 c206_164 (rw_iload (pc' := 166) (z := v128155) rfl rfl ?_)
                        refine wp_of e206 c206_166 (rw_aload_n (pc' := 167) (v := .ref r0) rfl rfl rfl ?_)
                        refine wp_of e206 c206_167 (xg_I (pc' := 170) lf_9_343 w128109 g0 sh_42 (by decide) (by decide) ty_42_19 rfl rfl (fun b128161 b128162 => ?_))
                        refine wp_of e206 c206_170 (rw_iload (pc' := 172) (z := v128155) rfl rfl ?_)
                        refine wp_of e206 c206_172 (rw_iconst (pc' := 173) rfl ?_)
                        refine wp_of e206 c206_173 (rw_ixor (pc' := 174) rfl ?_)
                        obtain ⟨v128163, e128164⟩ : ∃ x : Int, x = wq_xor v128155 (-1) := ⟨_, rfl⟩
                        rw [← e128164]
                        have b128165 : -2147483648 ≤ v128163 ∧ v128163 ≤ 2147483647 := by
                          rw [e128164]
                          exact wI_xor _ _
                        refine wp_of e206 c206_174 (rw_iand (pc' := 175) rfl ?_)
                        obtain ⟨v128166, e128167⟩ : ∃ x : Int, x = wq_and (H128108 r0 19) v128163 := ⟨_, rfl⟩
                        rw [← e128167]
                        have b128168 : -2147483648 ≤ v128166 ∧ v128166 ≤ 2147483647 := by
                          rw [e128167]
                          exact wI_and _ _
                        refine wp_of e206 c206_175 (xc_V (pc' := 178) (r := r0) (as := [vI v125988, vI v127793, vI v128107, vI v128155, vI v128166]) (st := []) (lm_9_360) rfl rfl (Nat.le_of_ble_eq_true rfl) w128109 g0 sh_42 (by decide) rfl (by decide) (s_208 w128109 g0 ⟨by omega, by omega⟩ ⟨by omega, by omega⟩ ⟨by omega, by omega⟩ ⟨by omega, by omega⟩ ⟨by omega, by omega⟩ q128122 g126004 (by omega)) (fun R128169 T128170 H128171 p128172 => ?_))
                        obtain ⟨e128173, w128175, f128176, e128174, p128177⟩ := p128172
                        subst e128173
                        subst e128174
                        have f128178 := f128118.tr f128176 rfl
                        have f128179 := f128119.tr f128176 rfl
                        have f128180 := f128120.tr f128176 rfl
                        have f128181 := f128110.tr f128176 rfl
                        show wp _ _ 206 178 [(6, vI v128155), (5, vI v128107), (4, vI v127793), (3, vI z126036), (2, vI v125988), (1, vI z111325), (0, .ref r0)] [] _ H128171 _
                        refine wp_of e206 c206_178 (rw_iinc (pc' := 181) (z := v128107) (L' := [(5, vI (v128107 + 1)), (6, vI v128155), (4, vI v127793), (3, vI z126036), (2, vI v125988), (1, vI z111325), (0, .ref r0)]) rfl rfl rfl rfl ?_)
                        refine wp_of e206 c206_181 (rw_goto (p1 := 107) (by decide) ?_)
                        have k128182 : H128171 r0 21 = H128108 r0 21 := (f128176 r0 21 _ g0 rfl)
                        have q128183 : H128171 r0 21 = (r126002 : Int) := k128182.trans q128122
                        have k128184 : H128171 pp 10 = H128108 pp 10 := (f128176 pp 10 _ gpp rfl)
                        have q128185 : H128171 pp 10 = (r126038 : Int) := k128184.trans q128124
                        have k128186 : H128171 r126038 (v125988.toNat) = H128108 r126038 (v125988.toNat) := (f128176 r126038 (v125988.toNat) _ g126040 rfl)
                        have k128187 : wPI H128171 pp = wPI H128108 pp := (wPI_fr w128109 gpp f128176 rfl)
                        have k128188 : H128171 pp 11 = H128108 pp 11 := (f128176 pp 11 _ gpp rfl)
                        have q128189 : H128171 pp 11 = (r127815 : Int) := k128188.trans q128128
                        have k128190 : H128171 r127815 (v125988.toNat) = H128108 r127815 (v125988.toNat) := (f128176 r127815 (v125988.toNat) _ g127817 rfl)
                        have k128191 : H128171 pp 12 = H128108 pp 12 := (f128176 pp 12 _ gpp rfl)
                        have q128192 : H128171 pp 12 = (r127821 : Int) := k128191.trans q128131
                        have k128193 : H128171 r127821 (v125988.toNat) = H128108 r127821 (v125988.toNat) := (f128176 r127821 (v125988.toNat) _ g127823 rfl)
                        exact wp_lc (ks := [5, 6, 4, 3, 2, 1, 0]) (wl_c rfl (wl_c rfl (wl_c rfl (wl_c rfl (wl_c rfl (wl_c rfl wl_n)))))) rfl (by decide) (ih128106 _ (by omega) (v128107 + 1) H128171 w128175 f128181 ⟨by omega, by omega⟩ (by omega) (by omega) (by omega) (by omega) (by omega) rfl)
                      · refine wp_of e206 c206_151 (rw_iload (pc' := 153) (z := v128155) rfl rfl ?_)
                        refine wp_of e206 c206_153 (rw_iload_n (pc' := 154) (z := z111325) rfl rfl ?_)
                        refine wp_of e206 c206_154 (rw_iand (pc' := 155) rfl ?_)
                        obtain ⟨v128194, e128195⟩ : ∃ x : Int, x = wq_and v128155 z111325 := ⟨_, rfl⟩
                        rw [← e128195]
                        have b128196 : 0 ≤ v128194 ∧ v128194 ≤ z111325 := by
                          rw [e128195]
                          exact wq_and_b _ (by omega) (by omega)
                        refine wp_of e206 c206_155 (rw_if_ne (p1 := 178) (p2 := 158) (by decide) rfl ⟨by omega, by omega⟩ (fun c128197 => ?_) (fun c128197 => ?_))
                        · refine wp_of e206 c206_178 (rw_iinc (pc' := 181) (z := v128107) (L' := [(5, vI (v128107 + 1)), (6, vI v128155), (4, vI v127793), (3, vI z126036), (2, vI v125988), (1, vI z111325), (0, .ref r0)]) rfl rfl rfl rfl ?_)
                          refine wp_of e206 c206_181 (rw_goto (p1 := 107) (by decide) ?_)
                          exact wp_lc (ks := [5, 6, 4, 3, 2, 1, 0]) (wl_c rfl (wl_c rfl (wl_c rfl (wl_c rfl (wl_c rfl (wl_c rfl wl_n)))))) rfl (by decide) (ih128106 _ (by omega) (v128107 + 1) H128108 w128109 f128110 ⟨by omega, by omega⟩ (by omega) (by omega) (by omega) (by omega) (by omega) rfl)
                        · refine wp_of e206 c206_158 (rw_aload_n (pc' := 159) (v := .ref r0) rfl rfl rfl ?_)
                          refine wp_of e206 c206_159 (rw_iload_n (pc' := 160) (z := v125988) rfl rfl ?_)
                          refine wp_of e206 c206_160 (rw_iload (pc' := 162) (z := v127793) rfl rfl ?_)
                          refine wp_of e206 c206_162 (rw_iload (pc' := 164) (z := v128107) rfl rfl ?_)
                          refine wp_of e206 c206_164 (rw_iload (pc' := 166) (z := v128155) rfl rfl ?_)
                          refine wp_of e206 c206_166 (rw_aload_n (pc' := 167) (v := .ref r0) rfl rfl rfl ?_)
                          refine wp_of e206 c206_167 (xg_I (pc' := 170) lf_9_343 w128109 g0 sh_42 (by decide) (by decide) ty_42_19 rfl rfl (fun b128198 b128199 => ?_))
                          refine wp_of e206 c206_170 (rw_iload (pc' := 172) (z := v128155) rfl rfl ?_)
                          refine wp_of e206 c206_172 (rw_iconst (pc' := 173) rfl ?_)
                          refine wp_of e206 c206_173 (rw_ixor (pc' := 174) rfl ?_)
                          obtain ⟨v128200, e128201⟩ : ∃ x : Int, x = wq_xor v128155 (-1) := ⟨_, rfl⟩
                          rw [← e128201]
                          have b128202 : -2147483648 ≤ v128200 ∧ v128200 ≤ 2147483647 := by
                            rw [e128201]
                            exact wI_xor _ _
                          refine wp_of e206 c206_174 (rw_iand (pc' := 175) rfl ?_)
                          obtain ⟨v128203, e128204⟩ : ∃ x : Int, x = wq_and (H128108 r0 19) v128200 := ⟨_, rfl⟩
                          rw [← e128204]
                          have b128205 : -2147483648 ≤ v128203 ∧ v128203 ≤ 2147483647 := by
                            rw [e128204]
                            exact wI_and _ _
                          refine wp_of e206 c206_175 (xc_V (pc' := 178) (r := r0) (as := [vI v125988, vI v127793, vI v128107, vI v128155, vI v128203]) (st := []) (lm_9_360) rfl rfl (Nat.le_of_ble_eq_true rfl) w128109 g0 sh_42 (by decide) rfl (by decide) (s_208 w128109 g0 ⟨by omega, by omega⟩ ⟨by omega, by omega⟩ ⟨by omega, by omega⟩ ⟨by omega, by omega⟩ ⟨by omega, by omega⟩ q128122 g126004 (by omega)) (fun R128206 T128207 H128208 p128209 => ?_))
                          obtain ⟨e128210, w128212, f128213, e128211, p128214⟩ := p128209
                          subst e128210
                          subst e128211
                          have f128215 := f128118.tr f128213 rfl
                          have f128216 := f128119.tr f128213 rfl
                          have f128217 := f128120.tr f128213 rfl
                          have f128218 := f128110.tr f128213 rfl
                          show wp _ _ 206 178 [(6, vI v128155), (5, vI v128107), (4, vI v127793), (3, vI z126036), (2, vI v125988), (1, vI z111325), (0, .ref r0)] [] _ H128208 _
                          refine wp_of e206 c206_178 (rw_iinc (pc' := 181) (z := v128107) (L' := [(5, vI (v128107 + 1)), (6, vI v128155), (4, vI v127793), (3, vI z126036), (2, vI v125988), (1, vI z111325), (0, .ref r0)]) rfl rfl rfl rfl ?_)
                          refine wp_of e206 c206_181 (rw_goto (p1 := 107) (by decide) ?_)
                          have k128219 : H128208 r0 21 = H128108 r0 21 := (f128213 r0 21 _ g0 rfl)
                          have q128220 : H128208 r0 21 = (r126002 : Int) := k128219.trans q128122
                          have k128221 : H128208 pp 10 = H128108 pp 10 := (f128213 pp 10 _ gpp rfl)
                          have q128222 : H128208 pp 10 = (r126038 : Int) := k128221.trans q128124
                          have k128223 : H128208 r126038 (v125988.toNat) = H128108 r126038 (v125988.toNat) := (f128213 r126038 (v125988.toNat) _ g126040 rfl)
                          have k128224 : wPI H128208 pp = wPI H128108 pp := (wPI_fr w128109 gpp f128213 rfl)
                          have k128225 : H128208 pp 11 = H128108 pp 11 := (f128213 pp 11 _ gpp rfl)
                          have q128226 : H128208 pp 11 = (r127815 : Int) := k128225.trans q128128
                          have k128227 : H128208 r127815 (v125988.toNat) = H128108 r127815 (v125988.toNat) := (f128213 r127815 (v125988.toNat) _ g127817 rfl)
                          have k128228 : H128208 pp 12 = H128108 pp 12 := (f128213 pp 12 _ gpp rfl)
                          have q128229 : H128208 pp 12 = (r127821 : Int) := k128228.trans q128131
                          have k128230 : H128208 r127821 (v125988.toNat) = H128108 r127821 (v125988.toNat) := (f128213 r127821 (v125988.toNat) _ g127823 rfl)
                          exact wp_lc (ks := [5, 6, 4, 3, 2, 1, 0]) (wl_c rfl (wl_c rfl (wl_c rfl (wl_c rfl (wl_c rfl (wl_c rfl wl_n)))))) rfl (by decide) (ih128106 _ (by omega) (v128107 + 1) H128208 w128212 f128218 ⟨by omega, by omega⟩ (by omega) (by omega) (by omega) (by omega) (by omega) rfl)
                exact wp_lc (ks := [5, 4, 3, 2, 1, 0]) (wl_c rfl (wl_c rfl (wl_c rfl (wl_c rfl (wl_c rfl (wl_c rfl wl_n)))))) rfl (by decide) (lp128104 _ (H127794 r127821 (v125988.toNat)) H127794 w127798 wfr.rf ⟨by omega, by omega⟩ (by omega) (by omega) (by omega) (by omega) (by omega) rfl)
          exact wp_lc (ks := [4, 3, 2, 1, 0]) (wl_c rfl (wl_c rfl (wl_c rfl (wl_c rfl (wl_c rfl wl_n))))) rfl (by decide) (lp127790 _ (H126005 r126038 (v125988.toNat)) H126005 w126007 wfr.rf ⟨by omega, by omega⟩ (by omega) (by omega) (by omega) rfl)
        · refine wp_of e206 c206_37 (rw_aload_n (pc' := 38) (v := .ref r0) rfl rfl rfl ?_)
          refine wp_of e206 c206_38 (rw_iload_n (pc' := 39) (z := v125988) rfl rfl ?_)
          refine wp_of e206 c206_39 (rw_iconst (pc' := 40) rfl ?_)
          refine wp_of e206 c206_40 (rw_iconst (pc' := 41) rfl ?_)
          refine wp_of e206 c206_41 (rw_iconst (pc' := 42) rfl ?_)
          refine wp_of e206 c206_42 (rw_iconst (pc' := 43) rfl ?_)
          have k128231 : H126005 r0 21 = H125989 r0 21 := (wq_u_t e126006 g126004 g0 rfl 21)
          have q128232 : H126005 r0 21 = (r126002 : Int) := k128231.trans q126003
          refine wp_of e206 c206_43 (xc_V (pc' := 46) (r := r0) (as := [vI v125988, vI 0, vI 0, vI 0, vI 0]) (st := []) (lm_9_360) rfl rfl (Nat.le_of_ble_eq_true rfl) w126007 g0 sh_42 (by decide) rfl (by decide) (s_208 w126007 g0 ⟨by omega, by omega⟩ ⟨by omega, by omega⟩ ⟨by omega, by omega⟩ ⟨by omega, by omega⟩ ⟨by omega, by omega⟩ q128232 g126004 (by omega)) (fun R128233 T128234 H128235 p128236 => ?_))
          obtain ⟨e128237, w128239, f128240, e128238, p128241⟩ := p128236
          subst e128237
          subst e128238
          have f128242 := f126008.tr f128240 rfl
          have f128243 := f126009.tr f128240 rfl
          show wp _ _ 206 46 [(2, vI v125988), (1, vI z111325), (0, .ref r0)] [] _ H128235 _
          refine wp_of e206 c206_46 (rw_goto (p1 := 190) (by decide) ?_)
          refine wp_of e206 c206_190 (rw_iinc (pc' := 193) (z := v125988) (L' := [(2, vI (v125988 + 1)), (1, vI z111325), (0, .ref r0)]) rfl rfl rfl rfl ?_)
          refine wp_of e206 c206_193 (rw_goto (p1 := 7) (by decide) ?_)
          have k128244 : wPI H128235 pp = wPI H125989 pp := ((wPI_fr w126007 gpp f128240 rfl).trans (wPI_fr w125990 gpp ((wfr.rf (l := [(45, 999)])).put' e126006 g126004 rfl) rfl))
          exact wp_lc (ks := [2, 1, 0]) (wl_c rfl (wl_c rfl (wl_c rfl wl_n))) rfl (by decide) (ih125987 _ (by omega) (v125988 + 1) H128235 w128239 f128243 ⟨by omega, by omega⟩ (by omega) rfl)
  exact wp_lc (ks := [2, 1, 0]) (wl_c rfl (wl_c rfl (wl_c rfl wl_n))) rfl (by decide) (lp125985 _ 0 H hW wfr.rf ⟨by omega, by omega⟩ (by omega) rfl)
