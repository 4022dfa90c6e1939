/-! methods (own work, written by wip/gen2/sx.py) -/
/-! StrikeAwake$Reader.knownPerson(LStrikeAwake$Parish;)I -/
theorem e33 : wq_en 33 = some (1, 3, false, some FieldType.int) := rfl
theorem c33_0 : mc_cd 33 0 = some (.aload_n 0, 1) := by decide +kernel
theorem c33_1 : mc_cd 33 1 = some (.invokevirtual 131, 3) := by decide +kernel
theorem c33_4 : mc_cd 33 4 = some (.ifCond .ne 11, 3) := by decide +kernel
theorem c33_7 : mc_cd 33 7 = some (.aload_n 0, 1) := by decide +kernel
theorem c33_8 : mc_cd 33 8 = some (.iconst 1, 1) := by decide +kernel
theorem c33_9 : mc_cd 33 9 = some (.invokevirtual 47, 3) := by decide +kernel
theorem c33_12 : mc_cd 33 12 = some (.pop, 1) := by decide +kernel
theorem c33_13 : mc_cd 33 13 = some (.iconst (-1), 1) := by decide +kernel
theorem c33_14 : mc_cd 33 14 = some (.ireturn, 1) := by decide +kernel
theorem c33_15 : mc_cd 33 15 = some (.aload_n 1, 1) := by decide +kernel
theorem c33_16 : mc_cd 33 16 = some (.aload_n 0, 1) := by decide +kernel
theorem c33_17 : mc_cd 33 17 = some (.getfield 12, 3) := by decide +kernel
theorem c33_20 : mc_cd 33 20 = some (.getfield 135, 3) := by decide +kernel
theorem c33_23 : mc_cd 33 23 = some (.invokevirtual 139, 3) := by decide +kernel
theorem c33_26 : mc_cd 33 26 = some (.istore_n 2, 1) := by decide +kernel
theorem c33_27 : mc_cd 33 27 = some (.iload_n 2, 1) := by decide +kernel
theorem c33_28 : mc_cd 33 28 = some (.ifCond .ge 9, 3) := by decide +kernel
theorem c33_31 : mc_cd 33 31 = some (.aload_n 0, 1) := by decide +kernel
theorem c33_32 : mc_cd 33 32 = some (.iconst 2, 1) := by decide +kernel
theorem c33_33 : mc_cd 33 33 = some (.invokevirtual 47, 3) := by decide +kernel
theorem c33_36 : mc_cd 33 36 = some (.pop, 1) := by decide +kernel
theorem c33_37 : mc_cd 33 37 = some (.iload_n 2, 1) := by decide +kernel
theorem c33_38 : mc_cd 33 38 = some (.ireturn, 1) := by decide +kernel
/-! StrikeAwake$Reader.readsSexton(LStrikeAwake$Parish;)Z -/
theorem e32 : wq_en 32 = some (1, 3, false, some FieldType.boolean) := rfl
theorem c32_0 : mc_cd 32 0 = some (.aload_n 0, 1) := by decide +kernel
theorem c32_1 : mc_cd 32 1 = some (.aload_n 1, 1) := by decide +kernel
theorem c32_2 : mc_cd 32 2 = some (.invokevirtual 207, 3) := by decide +kernel
theorem c32_5 : mc_cd 32 5 = some (.istore_n 2, 1) := by decide +kernel
theorem c32_6 : mc_cd 32 6 = some (.iload_n 2, 1) := by decide +kernel
theorem c32_7 : mc_cd 32 7 = some (.ifCond .ge 5, 3) := by decide +kernel
theorem c32_10 : mc_cd 32 10 = some (.iconst 0, 1) := by decide +kernel
theorem c32_11 : mc_cd 32 11 = some (.ireturn, 1) := by decide +kernel
theorem c32_12 : mc_cd 32 12 = some (.aload_n 0, 1) := by decide +kernel
theorem c32_13 : mc_cd 32 13 = some (.getfield 12, 3) := by decide +kernel
theorem c32_16 : mc_cd 32 16 = some (.invokevirtual 74, 3) := by decide +kernel
theorem c32_19 : mc_cd 32 19 = some (.aload_n 1, 1) := by decide +kernel
theorem c32_20 : mc_cd 32 20 = some (.iload_n 2, 1) := by decide +kernel
theorem c32_21 : mc_cd 32 21 = some (.putfield 211, 3) := by decide +kernel
theorem c32_24 : mc_cd 32 24 = some (.iconst 1, 1) := by decide +kernel
theorem c32_25 : mc_cd 32 25 = some (.ireturn, 1) := by decide +kernel
/-! StrikeAwake$Reader.takes(I)Z -/
theorem e35 : wq_en 35 = some (1, 2, false, some FieldType.boolean) := rfl
theorem c35_0 : mc_cd 35 0 = some (.aload_n 0, 1) := by decide +kernel
theorem c35_1 : mc_cd 35 1 = some (.getfield 12, 3) := by decide +kernel
theorem c35_4 : mc_cd 35 4 = some (.getfield 38, 3) := by decide +kernel
theorem c35_7 : mc_cd 35 7 = some (.iload_n 1, 1) := by decide +kernel
theorem c35_8 : mc_cd 35 8 = some (.if_icmp .eq 9, 3) := by decide +kernel
theorem c35_11 : mc_cd 35 11 = some (.aload_n 0, 1) := by decide +kernel
theorem c35_12 : mc_cd 35 12 = some (.iconst 1, 1) := by decide +kernel
theorem c35_13 : mc_cd 35 13 = some (.invokevirtual 47, 3) := by decide +kernel
theorem c35_16 : mc_cd 35 16 = some (.ireturn, 1) := by decide +kernel
theorem c35_17 : mc_cd 35 17 = some (.aload_n 0, 1) := by decide +kernel
theorem c35_18 : mc_cd 35 18 = some (.getfield 12, 3) := by decide +kernel
theorem c35_21 : mc_cd 35 21 = some (.invokevirtual 74, 3) := by decide +kernel
theorem c35_24 : mc_cd 35 24 = some (.iconst 1, 1) := by decide +kernel
theorem c35_25 : mc_cd 35 25 = some (.ireturn, 1) := by decide +kernel
/-! StrikeAwake.hasBit(II)Z -/
theorem e36 : wq_en 36 = some (0, 2, false, some FieldType.boolean) := rfl
theorem c36_0 : mc_cd 36 0 = some (.iload_n 0, 1) := by decide +kernel
theorem c36_1 : mc_cd 36 1 = some (.iload_n 1, 1) := by decide +kernel
theorem c36_2 : mc_cd 36 2 = some (.ishr, 1) := by decide +kernel
theorem c36_3 : mc_cd 36 3 = some (.iconst 1, 1) := by decide +kernel
theorem c36_4 : mc_cd 36 4 = some (.iand, 1) := by decide +kernel
theorem c36_5 : mc_cd 36 5 = some (.ifCond .eq 7, 3) := by decide +kernel
theorem c36_8 : mc_cd 36 8 = some (.iconst 1, 1) := by decide +kernel
theorem c36_9 : mc_cd 36 9 = some (.goto 4, 3) := by decide +kernel
theorem c36_12 : mc_cd 36 12 = some (.iconst 0, 1) := by decide +kernel
theorem c36_13 : mc_cd 36 13 = some (.ireturn, 1) := by decide +kernel
abbrev q_36 (a0 : Int) (a1 : Int) (T : wq_T) (H : wq_H) : Option Value → wq_T → wq_H → Prop := fun r T' H' => T = T' ∧ H = H' ∧ ∃ z : Int, some (vI z) = r ∧ (0 ≤ z ∧ z ≤ 1)
set_option maxHeartbeats 4000000 in
theorem s_36 {kt : Nat → Option mc_E} {T : wq_T} {H : wq_H} {a0 : Int} {a1 : Int} (hW : WT T H) (i0 : (-2147483648) ≤ a0 ∧ a0 ≤ 2147483647) (i1 : (-2147483648) ≤ a1 ∧ a1 ≤ 2147483647) : wpc kt 1 36 [vI a0, vI a1] T H (q_36 a0 a1 T H) := by
  refine wp_enter e36 (Nat.le_of_ble_eq_true rfl) rfl ?_
  show wp _ _ 36 0 [(0, vI a0), (1, vI a1)] [] _ H _
  refine wp_of e36 c36_0 (rw_iload_n (pc' := 1) (z := a0) rfl rfl ?_)
  refine wp_of e36 c36_1 (rw_iload_n (pc' := 2) (z := a1) rfl rfl ?_)
  refine wp_of e36 c36_2 (rw_ishr (pc' := 3) rfl ?_)
  obtain ⟨v10044, e10045⟩ : ∃ x : Int, x = wq_shr a0 a1 := ⟨_, rfl⟩
  rw [← e10045]
  have b10046 : -2147483648 ≤ v10044 ∧ v10044 ≤ 2147483647 := by
    rw [e10045]
    exact wI_shr _ _
  refine wp_of e36 c36_3 (rw_iconst (pc' := 4) rfl ?_)
  refine wp_of e36 c36_4 (rw_iand (pc' := 5) rfl ?_)
  obtain ⟨v10047, e10048⟩ : ∃ x : Int, x = wq_and v10044 1 := ⟨_, rfl⟩
  rw [← e10048]
  have b10049 : 0 ≤ v10047 ∧ v10047 ≤ 1 := by
    rw [e10048]
    exact wq_and_b _ (by omega) (by omega)
  refine wp_of e36 c36_5 (rw_if_eq (p1 := 12) (p2 := 8) (by decide) rfl ⟨by omega, by omega⟩ (fun c10050 => ?_) (fun c10050 => ?_))
  · refine wp_of e36 c36_12 (rw_iconst (pc' := 13) rfl ?_)
    exact wp_zreturn e36 c36_13 rfl (by omega) ⟨rfl, rfl, 0, rfl, ⟨by omega, by omega⟩⟩
  · refine wp_of e36 c36_8 (rw_iconst (pc' := 9) rfl ?_)
    refine wp_of e36 c36_9 (rw_goto (p1 := 13) (by decide) ?_)
    exact wp_zreturn e36 c36_13 rfl (by omega) ⟨rfl, rfl, 1, rfl, ⟨by omega, by omega⟩⟩
/-! StrikeAwake$Reader.readsApart(LStrikeAwake$Parish;)Z -/
theorem e34 : wq_en 34 = some (1, 4, false, some FieldType.boolean) := rfl
theorem c34_0 : mc_cd 34 0 = some (.aload_n 0, 1) := by decide +kernel
theorem c34_1 : mc_cd 34 1 = some (.aload_n 1, 1) := by decide +kernel
theorem c34_2 : mc_cd 34 2 = some (.invokevirtual 207, 3) := by decide +kernel
theorem c34_5 : mc_cd 34 5 = some (.istore_n 2, 1) := by decide +kernel
theorem c34_6 : mc_cd 34 6 = some (.iload_n 2, 1) := by decide +kernel
theorem c34_7 : mc_cd 34 7 = some (.ifCond .ge 5, 3) := by decide +kernel
theorem c34_10 : mc_cd 34 10 = some (.iconst 0, 1) := by decide +kernel
theorem c34_11 : mc_cd 34 11 = some (.ireturn, 1) := by decide +kernel
theorem c34_12 : mc_cd 34 12 = some (.aload_n 0, 1) := by decide +kernel
theorem c34_13 : mc_cd 34 13 = some (.getfield 12, 3) := by decide +kernel
theorem c34_16 : mc_cd 34 16 = some (.invokevirtual 74, 3) := by decide +kernel
theorem c34_19 : mc_cd 34 19 = some (.aload_n 0, 1) := by decide +kernel
theorem c34_20 : mc_cd 34 20 = some (.iconst 4, 1) := by decide +kernel
theorem c34_21 : mc_cd 34 21 = some (.invokevirtual 51, 3) := by decide +kernel
theorem c34_24 : mc_cd 34 24 = some (.ifCond .ne 5, 3) := by decide +kernel
theorem c34_27 : mc_cd 34 27 = some (.iconst 0, 1) := by decide +kernel
theorem c34_28 : mc_cd 34 28 = some (.ireturn, 1) := by decide +kernel
theorem c34_29 : mc_cd 34 29 = some (.aload_n 0, 1) := by decide +kernel
theorem c34_30 : mc_cd 34 30 = some (.aload_n 1, 1) := by decide +kernel
theorem c34_31 : mc_cd 34 31 = some (.invokevirtual 207, 3) := by decide +kernel
theorem c34_34 : mc_cd 34 34 = some (.istore_n 3, 1) := by decide +kernel
theorem c34_35 : mc_cd 34 35 = some (.iload_n 3, 1) := by decide +kernel
theorem c34_36 : mc_cd 34 36 = some (.ifCond .ge 5, 3) := by decide +kernel
theorem c34_39 : mc_cd 34 39 = some (.iconst 0, 1) := by decide +kernel
theorem c34_40 : mc_cd 34 40 = some (.ireturn, 1) := by decide +kernel
theorem c34_41 : mc_cd 34 41 = some (.iload_n 3, 1) := by decide +kernel
theorem c34_42 : mc_cd 34 42 = some (.iload_n 2, 1) := by decide +kernel
theorem c34_43 : mc_cd 34 43 = some (.if_icmp .eq 19, 3) := by decide +kernel
theorem c34_46 : mc_cd 34 46 = some (.aload_n 1, 1) := by decide +kernel
theorem c34_47 : mc_cd 34 47 = some (.getfield 143, 3) := by decide +kernel
theorem c34_50 : mc_cd 34 50 = some (.iload_n 2, 1) := by decide +kernel
theorem c34_51 : mc_cd 34 51 = some (.aaload, 1) := by decide +kernel
theorem c34_52 : mc_cd 34 52 = some (.getfield 214, 3) := by decide +kernel
theorem c34_55 : mc_cd 34 55 = some (.iload_n 3, 1) := by decide +kernel
theorem c34_56 : mc_cd 34 56 = some (.invokestatic 217, 3) := by decide +kernel
theorem c34_59 : mc_cd 34 59 = some (.ifCond .eq 9, 3) := by decide +kernel
theorem c34_62 : mc_cd 34 62 = some (.aload_n 0, 1) := by decide +kernel
theorem c34_63 : mc_cd 34 63 = some (.iconst 3, 1) := by decide +kernel
theorem c34_64 : mc_cd 34 64 = some (.invokevirtual 47, 3) := by decide +kernel
theorem c34_67 : mc_cd 34 67 = some (.ireturn, 1) := by decide +kernel
theorem c34_68 : mc_cd 34 68 = some (.aload_n 0, 1) := by decide +kernel
theorem c34_69 : mc_cd 34 69 = some (.getfield 12, 3) := by decide +kernel
theorem c34_72 : mc_cd 34 72 = some (.invokevirtual 74, 3) := by decide +kernel
theorem c34_75 : mc_cd 34 75 = some (.aload_n 1, 1) := by decide +kernel
theorem c34_76 : mc_cd 34 76 = some (.getfield 143, 3) := by decide +kernel
theorem c34_79 : mc_cd 34 79 = some (.iload_n 2, 1) := by decide +kernel
theorem c34_80 : mc_cd 34 80 = some (.aaload, 1) := by decide +kernel
theorem c34_81 : mc_cd 34 81 = some (.dup, 1) := by decide +kernel
theorem c34_82 : mc_cd 34 82 = some (.getfield 214, 3) := by decide +kernel
theorem c34_85 : mc_cd 34 85 = some (.iconst 1, 1) := by decide +kernel
theorem c34_86 : mc_cd 34 86 = some (.iload_n 3, 1) := by decide +kernel
theorem c34_87 : mc_cd 34 87 = some (.ishl, 1) := by decide +kernel
theorem c34_88 : mc_cd 34 88 = some (.ior, 1) := by decide +kernel
theorem c34_89 : mc_cd 34 89 = some (.putfield 214, 3) := by decide +kernel
theorem c34_92 : mc_cd 34 92 = some (.aload_n 1, 1) := by decide +kernel
theorem c34_93 : mc_cd 34 93 = some (.getfield 143, 3) := by decide +kernel
theorem c34_96 : mc_cd 34 96 = some (.iload_n 3, 1) := by decide +kernel
theorem c34_97 : mc_cd 34 97 = some (.aaload, 1) := by decide +kernel
theorem c34_98 : mc_cd 34 98 = some (.dup, 1) := by decide +kernel
theorem c34_99 : mc_cd 34 99 = some (.getfield 214, 3) := by decide +kernel
theorem c34_102 : mc_cd 34 102 = some (.iconst 1, 1) := by decide +kernel
theorem c34_103 : mc_cd 34 103 = some (.iload_n 2, 1) := by decide +kernel
theorem c34_104 : mc_cd 34 104 = some (.ishl, 1) := by decide +kernel
theorem c34_105 : mc_cd 34 105 = some (.ior, 1) := by decide +kernel
theorem c34_106 : mc_cd 34 106 = some (.putfield 214, 3) := by decide +kernel
theorem c34_109 : mc_cd 34 109 = some (.aload_n 1, 1) := by decide +kernel
theorem c34_110 : mc_cd 34 110 = some (.dup, 1) := by decide +kernel
theorem c34_111 : mc_cd 34 111 = some (.getfield 221, 3) := by decide +kernel
theorem c34_114 : mc_cd 34 114 = some (.iconst 1, 1) := by decide +kernel
theorem c34_115 : mc_cd 34 115 = some (.iadd, 1) := by decide +kernel
theorem c34_116 : mc_cd 34 116 = some (.putfield 221, 3) := by decide +kernel
theorem c34_119 : mc_cd 34 119 = some (.iconst 1, 1) := by decide +kernel
theorem c34_120 : mc_cd 34 120 = some (.ireturn, 1) := by decide +kernel
/-! StrikeAwake$Reader.readsBorn(LStrikeAwake$Parish;)Z -/
theorem e37 : wq_en 37 = some (1, 3, false, some FieldType.boolean) := rfl
theorem c37_0 : mc_cd 37 0 = some (.aload_n 0, 1) := by decide +kernel
theorem c37_1 : mc_cd 37 1 = some (.iconst 0, 1) := by decide +kernel
theorem c37_2 : mc_cd 37 2 = some (.bipush 23, 2) := by decide +kernel
theorem c37_4 : mc_cd 37 4 = some (.invokevirtual 119, 3) := by decide +kernel
theorem c37_7 : mc_cd 37 7 = some (.istore_n 2, 1) := by decide +kernel
theorem c37_8 : mc_cd 37 8 = some (.iload_n 2, 1) := by decide +kernel
theorem c37_9 : mc_cd 37 9 = some (.ifCond .ge 5, 3) := by decide +kernel
theorem c37_12 : mc_cd 37 12 = some (.iconst 0, 1) := by decide +kernel
theorem c37_13 : mc_cd 37 13 = some (.ireturn, 1) := by decide +kernel
theorem c37_14 : mc_cd 37 14 = some (.aload_n 1, 1) := by decide +kernel
theorem c37_15 : mc_cd 37 15 = some (.getfield 224, 3) := by decide +kernel
theorem c37_18 : mc_cd 37 18 = some (.aload_n 1, 1) := by decide +kernel
theorem c37_19 : mc_cd 37 19 = some (.getfield 227, 3) := by decide +kernel
theorem c37_22 : mc_cd 37 22 = some (.iload_n 2, 1) := by decide +kernel
theorem c37_23 : mc_cd 37 23 = some (.iastore, 1) := by decide +kernel
theorem c37_24 : mc_cd 37 24 = some (.aload_n 1, 1) := by decide +kernel
theorem c37_25 : mc_cd 37 25 = some (.dup, 1) := by decide +kernel
theorem c37_26 : mc_cd 37 26 = some (.getfield 227, 3) := by decide +kernel
theorem c37_29 : mc_cd 37 29 = some (.iconst 1, 1) := by decide +kernel
theorem c37_30 : mc_cd 37 30 = some (.iadd, 1) := by decide +kernel
theorem c37_31 : mc_cd 37 31 = some (.putfield 227, 3) := by decide +kernel
theorem c37_34 : mc_cd 37 34 = some (.iconst 1, 1) := by decide +kernel
theorem c37_35 : mc_cd 37 35 = some (.ireturn, 1) := by decide +kernel
/-! StrikeAwake$Parish.isStruck(I)Z -/
theorem e39 : wq_en 39 = some (7, 2, false, some FieldType.boolean) := rfl
theorem c39_0 : mc_cd 39 0 = some (.iload_n 1, 1) := by decide +kernel
theorem c39_1 : mc_cd 39 1 = some (.ifCond .lt 22, 3) := by decide +kernel
theorem c39_4 : mc_cd 39 4 = some (.iload_n 1, 1) := by decide +kernel
theorem c39_5 : mc_cd 39 5 = some (.bipush 24, 2) := by decide +kernel
theorem c39_7 : mc_cd 39 7 = some (.if_icmp .ge 16, 3) := by decide +kernel
theorem c39_10 : mc_cd 39 10 = some (.aload_n 0, 1) := by decide +kernel
theorem c39_11 : mc_cd 39 11 = some (.getfield 17, 3) := by decide +kernel
theorem c39_14 : mc_cd 39 14 = some (.iload_n 1, 1) := by decide +kernel
theorem c39_15 : mc_cd 39 15 = some (.iaload, 1) := by decide +kernel
theorem c39_16 : mc_cd 39 16 = some (.ifCond .lt 7, 3) := by decide +kernel
theorem c39_19 : mc_cd 39 19 = some (.iconst 1, 1) := by decide +kernel
theorem c39_20 : mc_cd 39 20 = some (.goto 4, 3) := by decide +kernel
theorem c39_23 : mc_cd 39 23 = some (.iconst 0, 1) := by decide +kernel
theorem c39_24 : mc_cd 39 24 = some (.ireturn, 1) := by decide +kernel
/-! StrikeAwake$Parish.listStruck()V -/
theorem e41 : wq_en 41 = some (7, 2, false, none) := rfl
theorem c41_0 : mc_cd 41 0 = some (.aload_n 0, 1) := by decide +kernel
theorem c41_1 : mc_cd 41 1 = some (.iconst 0, 1) := by decide +kernel
theorem c41_2 : mc_cd 41 2 = some (.putfield 65, 3) := by decide +kernel
theorem c41_5 : mc_cd 41 5 = some (.iconst 0, 1) := by decide +kernel
theorem c41_6 : mc_cd 41 6 = some (.istore_n 1, 1) := by decide +kernel
theorem c41_7 : mc_cd 41 7 = some (.iload_n 1, 1) := by decide +kernel
theorem c41_8 : mc_cd 41 8 = some (.bipush 24, 2) := by decide +kernel
theorem c41_10 : mc_cd 41 10 = some (.if_icmp .ge 38, 3) := by decide +kernel
theorem c41_13 : mc_cd 41 13 = some (.aload_n 0, 1) := by decide +kernel
theorem c41_14 : mc_cd 41 14 = some (.getfield 17, 3) := by decide +kernel
theorem c41_17 : mc_cd 41 17 = some (.iload_n 1, 1) := by decide +kernel
theorem c41_18 : mc_cd 41 18 = some (.iaload, 1) := by decide +kernel
theorem c41_19 : mc_cd 41 19 = some (.ifCond .lt 23, 3) := by decide +kernel
theorem c41_22 : mc_cd 41 22 = some (.aload_n 0, 1) := by decide +kernel
theorem c41_23 : mc_cd 41 23 = some (.getfield 21, 3) := by decide +kernel
theorem c41_26 : mc_cd 41 26 = some (.aload_n 0, 1) := by decide +kernel
theorem c41_27 : mc_cd 41 27 = some (.getfield 65, 3) := by decide +kernel
theorem c41_30 : mc_cd 41 30 = some (.iload_n 1, 1) := by decide +kernel
theorem c41_31 : mc_cd 41 31 = some (.iastore, 1) := by decide +kernel
theorem c41_32 : mc_cd 41 32 = some (.aload_n 0, 1) := by decide +kernel
theorem c41_33 : mc_cd 41 33 = some (.dup, 1) := by decide +kernel
theorem c41_34 : mc_cd 41 34 = some (.getfield 65, 3) := by decide +kernel
theorem c41_37 : mc_cd 41 37 = some (.iconst 1, 1) := by decide +kernel
theorem c41_38 : mc_cd 41 38 = some (.iadd, 1) := by decide +kernel
theorem c41_39 : mc_cd 41 39 = some (.putfield 65, 3) := by decide +kernel
theorem c41_42 : mc_cd 41 42 = some (.iinc 1 1, 3) := by decide +kernel
theorem c41_45 : mc_cd 41 45 = some (.goto (-38), 3) := by decide +kernel
theorem c41_48 : mc_cd 41 48 = some (.return_, 1) := by decide +kernel
/-! StrikeAwake$Parish.setStroke(II)V -/
theorem e40 : wq_en 40 = some (7, 3, false, none) := rfl
theorem c40_0 : mc_cd 40 0 = some (.aload_n 0, 1) := by decide +kernel
theorem c40_1 : mc_cd 40 1 = some (.getfield 17, 3) := by decide +kernel
theorem c40_4 : mc_cd 40 4 = some (.iload_n 1, 1) := by decide +kernel
theorem c40_5 : mc_cd 40 5 = some (.iload_n 2, 1) := by decide +kernel
theorem c40_6 : mc_cd 40 6 = some (.iastore, 1) := by decide +kernel
theorem c40_7 : mc_cd 40 7 = some (.aload_n 0, 1) := by decide +kernel
theorem c40_8 : mc_cd 40 8 = some (.invokevirtual 89, 3) := by decide +kernel
theorem c40_11 : mc_cd 40 11 = some (.return_, 1) := by decide +kernel
/-! StrikeAwake$Reader.readsStruck(LStrikeAwake$Parish;)Z -/
theorem e38 : wq_en 38 = some (1, 4, false, some FieldType.boolean) := rfl
theorem c38_0 : mc_cd 38 0 = some (.aload_n 0, 1) := by decide +kernel
theorem c38_1 : mc_cd 38 1 = some (.getfield 12, 3) := by decide +kernel
theorem c38_4 : mc_cd 38 4 = some (.getfield 38, 3) := by decide +kernel
theorem c38_7 : mc_cd 38 7 = some (.iconst 2, 1) := by decide +kernel
theorem c38_8 : mc_cd 38 8 = some (.if_icmp .ne 23, 3) := by decide +kernel
theorem c38_11 : mc_cd 38 11 = some (.aload_n 1, 1) := by decide +kernel
theorem c38_12 : mc_cd 38 12 = some (.aload_n 0, 1) := by decide +kernel
theorem c38_13 : mc_cd 38 13 = some (.getfield 12, 3) := by decide +kernel
theorem c38_16 : mc_cd 38 16 = some (.getfield 230, 3) := by decide +kernel
theorem c38_19 : mc_cd 38 19 = some (.invokevirtual 233, 3) := by decide +kernel
theorem c38_22 : mc_cd 38 22 = some (.ifCond .eq 9, 3) := by decide +kernel
theorem c38_25 : mc_cd 38 25 = some (.aload_n 0, 1) := by decide +kernel
theorem c38_26 : mc_cd 38 26 = some (.iconst 3, 1) := by decide +kernel
theorem c38_27 : mc_cd 38 27 = some (.invokevirtual 47, 3) := by decide +kernel
theorem c38_30 : mc_cd 38 30 = some (.ireturn, 1) := by decide +kernel
theorem c38_31 : mc_cd 38 31 = some (.aload_n 0, 1) := by decide +kernel
theorem c38_32 : mc_cd 38 32 = some (.iconst 0, 1) := by decide +kernel
theorem c38_33 : mc_cd 38 33 = some (.bipush 23, 2) := by decide +kernel
theorem c38_35 : mc_cd 38 35 = some (.invokevirtual 119, 3) := by decide +kernel
theorem c38_38 : mc_cd 38 38 = some (.istore_n 2, 1) := by decide +kernel
theorem c38_39 : mc_cd 38 39 = some (.iload_n 2, 1) := by decide +kernel
theorem c38_40 : mc_cd 38 40 = some (.ifCond .lt 22, 3) := by decide +kernel
theorem c38_43 : mc_cd 38 43 = some (.aload_n 0, 1) := by decide +kernel
theorem c38_44 : mc_cd 38 44 = some (.ldc 236, 2) := by decide +kernel
theorem c38_46 : mc_cd 38 46 = some (.invokevirtual 115, 3) := by decide +kernel
theorem c38_49 : mc_cd 38 49 = some (.ifCond .eq 13, 3) := by decide +kernel
theorem c38_52 : mc_cd 38 52 = some (.aload_n 0, 1) := by decide +kernel
theorem c38_53 : mc_cd 38 53 = some (.iconst 0, 1) := by decide +kernel
theorem c38_54 : mc_cd 38 54 = some (.bipush 99, 2) := by decide +kernel
theorem c38_56 : mc_cd 38 56 = some (.invokevirtual 119, 3) := by decide +kernel
theorem c38_59 : mc_cd 38 59 = some (.goto 4, 3) := by decide +kernel
theorem c38_62 : mc_cd 38 62 = some (.iconst (-1), 1) := by decide +kernel
theorem c38_63 : mc_cd 38 63 = some (.istore_n 3, 1) := by decide +kernel
theorem c38_64 : mc_cd 38 64 = some (.iload_n 3, 1) := by decide +kernel
theorem c38_65 : mc_cd 38 65 = some (.ifCond .ge 5, 3) := by decide +kernel
theorem c38_68 : mc_cd 38 68 = some (.iconst 0, 1) := by decide +kernel
theorem c38_69 : mc_cd 38 69 = some (.ireturn, 1) := by decide +kernel
theorem c38_70 : mc_cd 38 70 = some (.aload_n 1, 1) := by decide +kernel
theorem c38_71 : mc_cd 38 71 = some (.iload_n 2, 1) := by decide +kernel
theorem c38_72 : mc_cd 38 72 = some (.iload_n 3, 1) := by decide +kernel
theorem c38_73 : mc_cd 38 73 = some (.invokevirtual 238, 3) := by decide +kernel
theorem c38_76 : mc_cd 38 76 = some (.iconst 1, 1) := by decide +kernel
theorem c38_77 : mc_cd 38 77 = some (.ireturn, 1) := by decide +kernel
/-! StrikeAwake$Reader.readsTold(LStrikeAwake$Parish;)Z -/
theorem e42 : wq_en 42 = some (1, 3, false, some FieldType.boolean) := rfl
theorem c42_0 : mc_cd 42 0 = some (.aload_n 0, 1) := by decide +kernel
theorem c42_1 : mc_cd 42 1 = some (.aload_n 1, 1) := by decide +kernel
theorem c42_2 : mc_cd 42 2 = some (.invokevirtual 207, 3) := by decide +kernel
theorem c42_5 : mc_cd 42 5 = some (.istore_n 2, 1) := by decide +kernel
theorem c42_6 : mc_cd 42 6 = some (.iload_n 2, 1) := by decide +kernel
theorem c42_7 : mc_cd 42 7 = some (.ifCond .ge 5, 3) := by decide +kernel
theorem c42_10 : mc_cd 42 10 = some (.iconst 0, 1) := by decide +kernel
theorem c42_11 : mc_cd 42 11 = some (.ireturn, 1) := by decide +kernel
theorem c42_12 : mc_cd 42 12 = some (.aload_n 0, 1) := by decide +kernel
theorem c42_13 : mc_cd 42 13 = some (.getfield 12, 3) := by decide +kernel
theorem c42_16 : mc_cd 42 16 = some (.invokevirtual 74, 3) := by decide +kernel
theorem c42_19 : mc_cd 42 19 = some (.aload_n 0, 1) := by decide +kernel
theorem c42_20 : mc_cd 42 20 = some (.bipush 23, 2) := by decide +kernel
theorem c42_22 : mc_cd 42 22 = some (.iconst 1, 1) := by decide +kernel
theorem c42_23 : mc_cd 42 23 = some (.bipush 24, 2) := by decide +kernel
theorem c42_25 : mc_cd 42 25 = some (.bipush 24, 2) := by decide +kernel
theorem c42_27 : mc_cd 42 27 = some (.invokevirtual 154, 3) := by decide +kernel
theorem c42_30 : mc_cd 42 30 = some (.ifCond .ne 5, 3) := by decide +kernel
theorem c42_33 : mc_cd 42 33 = some (.iconst 0, 1) := by decide +kernel
theorem c42_34 : mc_cd 42 34 = some (.ireturn, 1) := by decide +kernel
theorem c42_35 : mc_cd 42 35 = some (.aload_n 1, 1) := by decide +kernel
theorem c42_36 : mc_cd 42 36 = some (.getfield 242, 3) := by decide +kernel
theorem c42_39 : mc_cd 42 39 = some (.aload_n 1, 1) := by decide +kernel
theorem c42_40 : mc_cd 42 40 = some (.getfield 245, 3) := by decide +kernel
theorem c42_43 : mc_cd 42 43 = some (.iload_n 2, 1) := by decide +kernel
theorem c42_44 : mc_cd 42 44 = some (.iastore, 1) := by decide +kernel
theorem c42_45 : mc_cd 42 45 = some (.aload_n 1, 1) := by decide +kernel
theorem c42_46 : mc_cd 42 46 = some (.getfield 248, 3) := by decide +kernel
theorem c42_49 : mc_cd 42 49 = some (.aload_n 1, 1) := by decide +kernel
theorem c42_50 : mc_cd 42 50 = some (.getfield 245, 3) := by decide +kernel
theorem c42_53 : mc_cd 42 53 = some (.aload_n 0, 1) := by decide +kernel
theorem c42_54 : mc_cd 42 54 = some (.getfield 158, 3) := by decide +kernel
theorem c42_57 : mc_cd 42 57 = some (.aload_n 0, 1) := by decide +kernel
theorem c42_58 : mc_cd 42 58 = some (.getfield 164, 3) := by decide +kernel
theorem c42_61 : mc_cd 42 61 = some (.invokestatic 194, 3) := by decide +kernel
theorem c42_64 : mc_cd 42 64 = some (.iastore, 1) := by decide +kernel
theorem c42_65 : mc_cd 42 65 = some (.aload_n 1, 1) := by decide +kernel
theorem c42_66 : mc_cd 42 66 = some (.dup, 1) := by decide +kernel
theorem c42_67 : mc_cd 42 67 = some (.getfield 245, 3) := by decide +kernel
theorem c42_70 : mc_cd 42 70 = some (.iconst 1, 1) := by decide +kernel
theorem c42_71 : mc_cd 42 71 = some (.iadd, 1) := by decide +kernel
theorem c42_72 : mc_cd 42 72 = some (.putfield 245, 3) := by decide +kernel
theorem c42_75 : mc_cd 42 75 = some (.iconst 1, 1) := by decide +kernel
theorem c42_76 : mc_cd 42 76 = some (.ireturn, 1) := by decide +kernel
/-! StrikeAwake$Reader.readsOffer(LStrikeAwake$Parish;)Z -/
theorem e43 : wq_en 43 = some (1, 2, false, some FieldType.boolean) := rfl
theorem c43_0 : mc_cd 43 0 = some (.aload_n 0, 1) := by decide +kernel
theorem c43_1 : mc_cd 43 1 = some (.aload_n 1, 1) := by decide +kernel
theorem c43_2 : mc_cd 43 2 = some (.invokevirtual 207, 3) := by decide +kernel
theorem c43_5 : mc_cd 43 5 = some (.ifCond .ge 5, 3) := by decide +kernel
theorem c43_8 : mc_cd 43 8 = some (.iconst 0, 1) := by decide +kernel
theorem c43_9 : mc_cd 43 9 = some (.ireturn, 1) := by decide +kernel
theorem c43_10 : mc_cd 43 10 = some (.aload_n 0, 1) := by decide +kernel
theorem c43_11 : mc_cd 43 11 = some (.getfield 12, 3) := by decide +kernel
theorem c43_14 : mc_cd 43 14 = some (.invokevirtual 74, 3) := by decide +kernel
theorem c43_17 : mc_cd 43 17 = some (.aload_n 0, 1) := by decide +kernel
theorem c43_18 : mc_cd 43 18 = some (.bipush 23, 2) := by decide +kernel
theorem c43_20 : mc_cd 43 20 = some (.iconst 1, 1) := by decide +kernel
theorem c43_21 : mc_cd 43 21 = some (.bipush 24, 2) := by decide +kernel
theorem c43_23 : mc_cd 43 23 = some (.bipush 24, 2) := by decide +kernel
theorem c43_25 : mc_cd 43 25 = some (.invokevirtual 154, 3) := by decide +kernel
theorem c43_28 : mc_cd 43 28 = some (.ifCond .ne 5, 3) := by decide +kernel
theorem c43_31 : mc_cd 43 31 = some (.iconst 0, 1) := by decide +kernel
theorem c43_32 : mc_cd 43 32 = some (.ireturn, 1) := by decide +kernel
theorem c43_33 : mc_cd 43 33 = some (.aload_n 1, 1) := by decide +kernel
theorem c43_34 : mc_cd 43 34 = some (.getfield 251, 3) := by decide +kernel
theorem c43_37 : mc_cd 43 37 = some (.aload_n 1, 1) := by decide +kernel
theorem c43_38 : mc_cd 43 38 = some (.getfield 254, 3) := by decide +kernel
theorem c43_41 : mc_cd 43 41 = some (.aload_n 0, 1) := by decide +kernel
theorem c43_42 : mc_cd 43 42 = some (.getfield 158, 3) := by decide +kernel
theorem c43_45 : mc_cd 43 45 = some (.aload_n 0, 1) := by decide +kernel
theorem c43_46 : mc_cd 43 46 = some (.getfield 164, 3) := by decide +kernel
theorem c43_49 : mc_cd 43 49 = some (.invokestatic 194, 3) := by decide +kernel
theorem c43_52 : mc_cd 43 52 = some (.iastore, 1) := by decide +kernel
theorem c43_53 : mc_cd 43 53 = some (.aload_n 1, 1) := by decide +kernel
theorem c43_54 : mc_cd 43 54 = some (.dup, 1) := by decide +kernel
theorem c43_55 : mc_cd 43 55 = some (.getfield 254, 3) := by decide +kernel
theorem c43_58 : mc_cd 43 58 = some (.iconst 1, 1) := by decide +kernel
theorem c43_59 : mc_cd 43 59 = some (.iadd, 1) := by decide +kernel
theorem c43_60 : mc_cd 43 60 = some (.putfield 254, 3) := by decide +kernel
theorem c43_63 : mc_cd 43 63 = some (.iconst 1, 1) := by decide +kernel
theorem c43_64 : mc_cd 43 64 = some (.ireturn, 1) := by decide +kernel
/-! StrikeAwake$Reader.readsLine(LStrikeAwake$Parish;)Z -/
theorem e17 : wq_en 17 = some (1, 4, false, some FieldType.boolean) := rfl
theorem c17_0 : mc_cd 17 0 = some (.aload_n 0, 1) := by decide +kernel
theorem c17_1 : mc_cd 17 1 = some (.invokevirtual 54, 3) := by decide +kernel
theorem c17_4 : mc_cd 17 4 = some (.astore_n 2, 1) := by decide +kernel
theorem c17_5 : mc_cd 17 5 = some (.aload_n 2, 1) := by decide +kernel
theorem c17_6 : mc_cd 17 6 = some (.ifnull 10, 3) := by decide +kernel
theorem c17_9 : mc_cd 17 9 = some (.aload_n 2, 1) := by decide +kernel
theorem c17_10 : mc_cd 17 10 = some (.getfield 58, 3) := by decide +kernel
theorem c17_13 : mc_cd 17 13 = some (.ifCond .ne 9, 3) := by decide +kernel
theorem c17_16 : mc_cd 17 16 = some (.aload_n 0, 1) := by decide +kernel
theorem c17_17 : mc_cd 17 17 = some (.iconst 1, 1) := by decide +kernel
theorem c17_18 : mc_cd 17 18 = some (.invokevirtual 47, 3) := by decide +kernel
theorem c17_21 : mc_cd 17 21 = some (.ireturn, 1) := by decide +kernel
theorem c17_22 : mc_cd 17 22 = some (.aload_n 1, 1) := by decide +kernel
theorem c17_23 : mc_cd 17 23 = some (.aload_n 2, 1) := by decide +kernel
theorem c17_24 : mc_cd 17 24 = some (.invokevirtual 63, 3) := by decide +kernel
theorem c17_27 : mc_cd 17 27 = some (.aload_n 2, 1) := by decide +kernel
theorem c17_28 : mc_cd 17 28 = some (.getfield 58, 3) := by decide +kernel
theorem c17_31 : mc_cd 17 31 = some (.if_icmp .lt 37, 3) := by decide +kernel
theorem c17_34 : mc_cd 17 34 = some (.aload_n 2, 1) := by decide +kernel
theorem c17_35 : mc_cd 17 35 = some (.getstatic 67, 3) := by decide +kernel
theorem c17_38 : mc_cd 17 38 = some (.if_acmp .eq 10, 3) := by decide +kernel
theorem c17_41 : mc_cd 17 41 = some (.aload_n 2, 1) := by decide +kernel
theorem c17_42 : mc_cd 17 42 = some (.getstatic 71, 3) := by decide +kernel
theorem c17_45 : mc_cd 17 45 = some (.if_acmp .ne 7, 3) := by decide +kernel
theorem c17_48 : mc_cd 17 48 = some (.iconst 1, 1) := by decide +kernel
theorem c17_49 : mc_cd 17 49 = some (.goto 4, 3) := by decide +kernel
theorem c17_52 : mc_cd 17 52 = some (.iconst 0, 1) := by decide +kernel
theorem c17_53 : mc_cd 17 53 = some (.istore_n 3, 1) := by decide +kernel
theorem c17_54 : mc_cd 17 54 = some (.aload_n 0, 1) := by decide +kernel
theorem c17_55 : mc_cd 17 55 = some (.iload_n 3, 1) := by decide +kernel
theorem c17_56 : mc_cd 17 56 = some (.ifCond .eq 7, 3) := by decide +kernel
theorem c17_59 : mc_cd 17 59 = some (.iconst 3, 1) := by decide +kernel
theorem c17_60 : mc_cd 17 60 = some (.goto 4, 3) := by decide +kernel
theorem c17_63 : mc_cd 17 63 = some (.iconst 5, 1) := by decide +kernel
theorem c17_64 : mc_cd 17 64 = some (.invokevirtual 47, 3) := by decide +kernel
theorem c17_67 : mc_cd 17 67 = some (.ireturn, 1) := by decide +kernel
theorem c17_68 : mc_cd 17 68 = some (.aload_n 0, 1) := by decide +kernel
theorem c17_69 : mc_cd 17 69 = some (.getfield 12, 3) := by decide +kernel
theorem c17_72 : mc_cd 17 72 = some (.invokevirtual 74, 3) := by decide +kernel
theorem c17_75 : mc_cd 17 75 = some (.getstatic 77, 3) := by decide +kernel
theorem c17_78 : mc_cd 17 78 = some (.aload_n 2, 1) := by decide +kernel
theorem c17_79 : mc_cd 17 79 = some (.invokevirtual 83, 3) := by decide +kernel
theorem c17_82 : mc_cd 17 82 = some (.iaload, 1) := by decide +kernel
theorem c17_83 : mc_cd 17 83 = some (.tableswitch 109 1 8 #[45, 51, 73, 79, 85, 91, 97, 103], 45) := by decide +kernel
theorem c17_128 : mc_cd 17 128 = some (.aload_n 0, 1) := by decide +kernel
theorem c17_129 : mc_cd 17 129 = some (.aload_n 1, 1) := by decide +kernel
theorem c17_130 : mc_cd 17 130 = some (.invokevirtual 87, 3) := by decide +kernel
theorem c17_133 : mc_cd 17 133 = some (.ireturn, 1) := by decide +kernel
theorem c17_134 : mc_cd 17 134 = some (.aload_n 0, 1) := by decide +kernel
theorem c17_135 : mc_cd 17 135 = some (.aload_n 1, 1) := by decide +kernel
theorem c17_136 : mc_cd 17 136 = some (.invokevirtual 90, 3) := by decide +kernel
theorem c17_139 : mc_cd 17 139 = some (.ifCond .eq 15, 3) := by decide +kernel
theorem c17_142 : mc_cd 17 142 = some (.aload_n 0, 1) := by decide +kernel
theorem c17_143 : mc_cd 17 143 = some (.aload_n 1, 1) := by decide +kernel
theorem c17_144 : mc_cd 17 144 = some (.invokevirtual 93, 3) := by decide +kernel
theorem c17_147 : mc_cd 17 147 = some (.ifCond .eq 7, 3) := by decide +kernel
theorem c17_150 : mc_cd 17 150 = some (.iconst 1, 1) := by decide +kernel
theorem c17_151 : mc_cd 17 151 = some (.goto 4, 3) := by decide +kernel
theorem c17_154 : mc_cd 17 154 = some (.iconst 0, 1) := by decide +kernel
theorem c17_155 : mc_cd 17 155 = some (.ireturn, 1) := by decide +kernel
theorem c17_156 : mc_cd 17 156 = some (.aload_n 0, 1) := by decide +kernel
theorem c17_157 : mc_cd 17 157 = some (.aload_n 1, 1) := by decide +kernel
theorem c17_158 : mc_cd 17 158 = some (.invokevirtual 96, 3) := by decide +kernel
theorem c17_161 : mc_cd 17 161 = some (.ireturn, 1) := by decide +kernel
theorem c17_162 : mc_cd 17 162 = some (.aload_n 0, 1) := by decide +kernel
theorem c17_163 : mc_cd 17 163 = some (.aload_n 1, 1) := by decide +kernel
theorem c17_164 : mc_cd 17 164 = some (.invokevirtual 99, 3) := by decide +kernel
theorem c17_167 : mc_cd 17 167 = some (.ireturn, 1) := by decide +kernel
theorem c17_168 : mc_cd 17 168 = some (.aload_n 0, 1) := by decide +kernel
theorem c17_169 : mc_cd 17 169 = some (.aload_n 1, 1) := by decide +kernel
theorem c17_170 : mc_cd 17 170 = some (.invokevirtual 102, 3) := by decide +kernel
theorem c17_173 : mc_cd 17 173 = some (.ireturn, 1) := by decide +kernel
theorem c17_174 : mc_cd 17 174 = some (.aload_n 0, 1) := by decide +kernel
theorem c17_175 : mc_cd 17 175 = some (.aload_n 1, 1) := by decide +kernel
theorem c17_176 : mc_cd 17 176 = some (.invokevirtual 105, 3) := by decide +kernel
theorem c17_179 : mc_cd 17 179 = some (.ireturn, 1) := by decide +kernel
theorem c17_180 : mc_cd 17 180 = some (.aload_n 0, 1) := by decide +kernel
theorem c17_181 : mc_cd 17 181 = some (.aload_n 1, 1) := by decide +kernel
theorem c17_182 : mc_cd 17 182 = some (.invokevirtual 108, 3) := by decide +kernel
theorem c17_185 : mc_cd 17 185 = some (.ireturn, 1) := by decide +kernel
theorem c17_186 : mc_cd 17 186 = some (.aload_n 0, 1) := by decide +kernel
theorem c17_187 : mc_cd 17 187 = some (.aload_n 1, 1) := by decide +kernel
theorem c17_188 : mc_cd 17 188 = some (.invokevirtual 111, 3) := by decide +kernel
theorem c17_191 : mc_cd 17 191 = some (.ireturn, 1) := by decide +kernel
