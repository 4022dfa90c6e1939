/-! methods of the reference (own work, written by wip/gen2/sx.py) -/
/-! StrikeAwakeModel.likeliest(I)I -/
theorem e256 : wq_en 256 = some (9, 3, false, some FieldType.int) := rfl
theorem cg256_0 : mc_cd 256 0 = some (.aload_n 0, 1) ∧ mc_cd 256 1 = some (.iconst 0, 1) ∧ mc_cd 256 2 = some (.putfield 48, 3) ∧ mc_cd 256 5 = some (.aload_n 0, 1) ∧ mc_cd 256 6 = some (.aload_n 0, 1) ∧ mc_cd 256 7 = some (.iload_n 1, 1) ∧ mc_cd 256 8 = some (.invokevirtual 364, 3) ∧ mc_cd 256 11 = some (.invokevirtual 447, 3) := by decide +kernel
theorem c256_0 : mc_cd 256 0 = some (.aload_n 0, 1) := cg256_0.1
theorem c256_1 : mc_cd 256 1 = some (.iconst 0, 1) := cg256_0.2.1
theorem c256_2 : mc_cd 256 2 = some (.putfield 48, 3) := cg256_0.2.2.1
theorem c256_5 : mc_cd 256 5 = some (.aload_n 0, 1) := cg256_0.2.2.2.1
theorem c256_6 : mc_cd 256 6 = some (.aload_n 0, 1) := cg256_0.2.2.2.2.1
theorem c256_7 : mc_cd 256 7 = some (.iload_n 1, 1) := cg256_0.2.2.2.2.2.1
theorem c256_8 : mc_cd 256 8 = some (.invokevirtual 364, 3) := cg256_0.2.2.2.2.2.2.1
theorem c256_11 : mc_cd 256 11 = some (.invokevirtual 447, 3) := cg256_0.2.2.2.2.2.2.2
theorem cg256_14 : mc_cd 256 14 = some (.istore_n 2, 1) ∧ mc_cd 256 15 = some (.iload_n 2, 1) ∧ mc_cd 256 16 = some (.ifCond .le 9, 3) ∧ mc_cd 256 19 = some (.aload_n 0, 1) ∧ mc_cd 256 20 = some (.iload_n 2, 1) ∧ mc_cd 256 21 = some (.invokevirtual 54, 3) ∧ mc_cd 256 24 = some (.ireturn, 1) ∧ mc_cd 256 25 = some (.aload_n 0, 1) := by decide +kernel
theorem c256_14 : mc_cd 256 14 = some (.istore_n 2, 1) := cg256_14.1
theorem c256_15 : mc_cd 256 15 = some (.iload_n 2, 1) := cg256_14.2.1
theorem c256_16 : mc_cd 256 16 = some (.ifCond .le 9, 3) := cg256_14.2.2.1
theorem c256_19 : mc_cd 256 19 = some (.aload_n 0, 1) := cg256_14.2.2.2.1
theorem c256_20 : mc_cd 256 20 = some (.iload_n 2, 1) := cg256_14.2.2.2.2.1
theorem c256_21 : mc_cd 256 21 = some (.invokevirtual 54, 3) := cg256_14.2.2.2.2.2.1
theorem c256_24 : mc_cd 256 24 = some (.ireturn, 1) := cg256_14.2.2.2.2.2.2.1
theorem c256_25 : mc_cd 256 25 = some (.aload_n 0, 1) := cg256_14.2.2.2.2.2.2.2
theorem cg256_26 : mc_cd 256 26 = some (.invokevirtual 452, 3) ∧ mc_cd 256 29 = some (.pop2, 1) ∧ mc_cd 256 30 = some (.aload_n 0, 1) ∧ mc_cd 256 31 = some (.aload_n 0, 1) ∧ mc_cd 256 32 = some (.getfield 39, 3) ∧ mc_cd 256 35 = some (.iload_n 1, 1) ∧ mc_cd 256 36 = some (.iaload, 1) ∧ mc_cd 256 37 = some (.invokevirtual 58, 3) := by decide +kernel
theorem c256_26 : mc_cd 256 26 = some (.invokevirtual 452, 3) := cg256_26.1
theorem c256_29 : mc_cd 256 29 = some (.pop2, 1) := cg256_26.2.1
theorem c256_30 : mc_cd 256 30 = some (.aload_n 0, 1) := cg256_26.2.2.1
theorem c256_31 : mc_cd 256 31 = some (.aload_n 0, 1) := cg256_26.2.2.2.1
theorem c256_32 : mc_cd 256 32 = some (.getfield 39, 3) := cg256_26.2.2.2.2.1
theorem c256_35 : mc_cd 256 35 = some (.iload_n 1, 1) := cg256_26.2.2.2.2.2.1
theorem c256_36 : mc_cd 256 36 = some (.iaload, 1) := cg256_26.2.2.2.2.2.2.1
theorem c256_37 : mc_cd 256 37 = some (.invokevirtual 58, 3) := cg256_26.2.2.2.2.2.2.2
theorem c256_40 : mc_cd 256 40 = some (.ireturn, 1) := by decide +kernel
/-! StrikeAwakeModel.greatest()J -/
theorem e258 : wq_en 258 = some (9, 2, false, some FieldType.long) := rfl
theorem cg258_0 : mc_cd 258 0 = some (.aload_n 0, 1) ∧ mc_cd 258 1 = some (.iconst 0, 1) ∧ mc_cd 258 2 = some (.putfield 48, 3) ∧ mc_cd 258 5 = some (.aload_n 0, 1) ∧ mc_cd 258 6 = some (.aload_n 0, 1) ∧ mc_cd 258 7 = some (.getfield 337, 3) ∧ mc_cd 258 10 = some (.ifnull 7, 3) ∧ mc_cd 258 13 = some (.iconst 1, 1) := by decide +kernel
theorem c258_0 : mc_cd 258 0 = some (.aload_n 0, 1) := cg258_0.1
theorem c258_1 : mc_cd 258 1 = some (.iconst 0, 1) := cg258_0.2.1
theorem c258_2 : mc_cd 258 2 = some (.putfield 48, 3) := cg258_0.2.2.1
theorem c258_5 : mc_cd 258 5 = some (.aload_n 0, 1) := cg258_0.2.2.2.1
theorem c258_6 : mc_cd 258 6 = some (.aload_n 0, 1) := cg258_0.2.2.2.2.1
theorem c258_7 : mc_cd 258 7 = some (.getfield 337, 3) := cg258_0.2.2.2.2.2.1
theorem c258_10 : mc_cd 258 10 = some (.ifnull 7, 3) := cg258_0.2.2.2.2.2.2.1
theorem c258_13 : mc_cd 258 13 = some (.iconst 1, 1) := cg258_0.2.2.2.2.2.2.2
theorem cg258_14 : mc_cd 258 14 = some (.goto 4, 3) ∧ mc_cd 258 17 = some (.iconst 0, 1) ∧ mc_cd 258 18 = some (.invokevirtual 447, 3) ∧ mc_cd 258 21 = some (.istore_n 1, 1) ∧ mc_cd 258 22 = some (.iload_n 1, 1) ∧ mc_cd 258 23 = some (.ifCond .le 12, 3) ∧ mc_cd 258 26 = some (.aload_n 0, 1) ∧ mc_cd 258 27 = some (.iload_n 1, 1) := by decide +kernel
theorem c258_14 : mc_cd 258 14 = some (.goto 4, 3) := cg258_14.1
theorem c258_17 : mc_cd 258 17 = some (.iconst 0, 1) := cg258_14.2.1
theorem c258_18 : mc_cd 258 18 = some (.invokevirtual 447, 3) := cg258_14.2.2.1
theorem c258_21 : mc_cd 258 21 = some (.istore_n 1, 1) := cg258_14.2.2.2.1
theorem c258_22 : mc_cd 258 22 = some (.iload_n 1, 1) := cg258_14.2.2.2.2.1
theorem c258_23 : mc_cd 258 23 = some (.ifCond .le 12, 3) := cg258_14.2.2.2.2.2.1
theorem c258_26 : mc_cd 258 26 = some (.aload_n 0, 1) := cg258_14.2.2.2.2.2.2.1
theorem c258_27 : mc_cd 258 27 = some (.iload_n 1, 1) := cg258_14.2.2.2.2.2.2.2
theorem cg258_28 : mc_cd 258 28 = some (.invokevirtual 54, 3) ∧ mc_cd 258 31 = some (.i2l, 1) ∧ mc_cd 258 32 = some (.goto 11, 3) ∧ mc_cd 258 35 = some (.aload_n 0, 1) ∧ mc_cd 258 36 = some (.aload_n 0, 1) ∧ mc_cd 258 37 = some (.invokevirtual 452, 3) ∧ mc_cd 258 40 = some (.invokevirtual 380, 3) ∧ mc_cd 258 43 = some (.lreturn, 1) := by decide +kernel
theorem c258_28 : mc_cd 258 28 = some (.invokevirtual 54, 3) := cg258_28.1
theorem c258_31 : mc_cd 258 31 = some (.i2l, 1) := cg258_28.2.1
theorem c258_32 : mc_cd 258 32 = some (.goto 11, 3) := cg258_28.2.2.1
theorem c258_35 : mc_cd 258 35 = some (.aload_n 0, 1) := cg258_28.2.2.2.1
theorem c258_36 : mc_cd 258 36 = some (.aload_n 0, 1) := cg258_28.2.2.2.2.1
theorem c258_37 : mc_cd 258 37 = some (.invokevirtual 452, 3) := cg258_28.2.2.2.2.2.1
theorem c258_40 : mc_cd 258 40 = some (.invokevirtual 380, 3) := cg258_28.2.2.2.2.2.2.1
theorem c258_43 : mc_cd 258 43 = some (.lreturn, 1) := cg258_28.2.2.2.2.2.2.2
/-! StrikeAwakeModel.together(II)I -/
theorem e259 : wq_en 259 = some (9, 6, false, some FieldType.int) := rfl
theorem cg259_0 : mc_cd 259 0 = some (.aload_n 0, 1) ∧ mc_cd 259 1 = some (.iconst 0, 1) ∧ mc_cd 259 2 = some (.putfield 48, 3) ∧ mc_cd 259 5 = some (.aload_n 0, 1) ∧ mc_cd 259 6 = some (.aload_n 0, 1) ∧ mc_cd 259 7 = some (.iload_n 1, 1) ∧ mc_cd 259 8 = some (.invokevirtual 364, 3) ∧ mc_cd 259 11 = some (.ifCond .eq 20, 3) := by decide +kernel
theorem c259_0 : mc_cd 259 0 = some (.aload_n 0, 1) := cg259_0.1
theorem c259_1 : mc_cd 259 1 = some (.iconst 0, 1) := cg259_0.2.1
theorem c259_2 : mc_cd 259 2 = some (.putfield 48, 3) := cg259_0.2.2.1
theorem c259_5 : mc_cd 259 5 = some (.aload_n 0, 1) := cg259_0.2.2.2.1
theorem c259_6 : mc_cd 259 6 = some (.aload_n 0, 1) := cg259_0.2.2.2.2.1
theorem c259_7 : mc_cd 259 7 = some (.iload_n 1, 1) := cg259_0.2.2.2.2.2.1
theorem c259_8 : mc_cd 259 8 = some (.invokevirtual 364, 3) := cg259_0.2.2.2.2.2.2.1
theorem c259_11 : mc_cd 259 11 = some (.ifCond .eq 20, 3) := cg259_0.2.2.2.2.2.2.2
theorem cg259_14 : mc_cd 259 14 = some (.aload_n 0, 1) ∧ mc_cd 259 15 = some (.iload_n 2, 1) ∧ mc_cd 259 16 = some (.invokevirtual 364, 3) ∧ mc_cd 259 19 = some (.ifCond .eq 12, 3) ∧ mc_cd 259 22 = some (.iload_n 1, 1) ∧ mc_cd 259 23 = some (.iload_n 2, 1) ∧ mc_cd 259 24 = some (.if_icmp .eq 7, 3) ∧ mc_cd 259 27 = some (.iconst 1, 1) := by decide +kernel
theorem c259_14 : mc_cd 259 14 = some (.aload_n 0, 1) := cg259_14.1
theorem c259_15 : mc_cd 259 15 = some (.iload_n 2, 1) := cg259_14.2.1
theorem c259_16 : mc_cd 259 16 = some (.invokevirtual 364, 3) := cg259_14.2.2.1
theorem c259_19 : mc_cd 259 19 = some (.ifCond .eq 12, 3) := cg259_14.2.2.2.1
theorem c259_22 : mc_cd 259 22 = some (.iload_n 1, 1) := cg259_14.2.2.2.2.1
theorem c259_23 : mc_cd 259 23 = some (.iload_n 2, 1) := cg259_14.2.2.2.2.2.1
theorem c259_24 : mc_cd 259 24 = some (.if_icmp .eq 7, 3) := cg259_14.2.2.2.2.2.2.1
theorem c259_27 : mc_cd 259 27 = some (.iconst 1, 1) := cg259_14.2.2.2.2.2.2.2
theorem cg259_28 : mc_cd 259 28 = some (.goto 4, 3) ∧ mc_cd 259 31 = some (.iconst 0, 1) ∧ mc_cd 259 32 = some (.invokevirtual 433, 3) ∧ mc_cd 259 35 = some (.istore_n 3, 1) ∧ mc_cd 259 36 = some (.iload_n 3, 1) ∧ mc_cd 259 37 = some (.ifCond .le 9, 3) ∧ mc_cd 259 40 = some (.aload_n 0, 1) ∧ mc_cd 259 41 = some (.iload_n 3, 1) := by decide +kernel
theorem c259_28 : mc_cd 259 28 = some (.goto 4, 3) := cg259_28.1
theorem c259_31 : mc_cd 259 31 = some (.iconst 0, 1) := cg259_28.2.1
theorem c259_32 : mc_cd 259 32 = some (.invokevirtual 433, 3) := cg259_28.2.2.1
theorem c259_35 : mc_cd 259 35 = some (.istore_n 3, 1) := cg259_28.2.2.2.1
theorem c259_36 : mc_cd 259 36 = some (.iload_n 3, 1) := cg259_28.2.2.2.2.1
theorem c259_37 : mc_cd 259 37 = some (.ifCond .le 9, 3) := cg259_28.2.2.2.2.2.1
theorem c259_40 : mc_cd 259 40 = some (.aload_n 0, 1) := cg259_28.2.2.2.2.2.2.1
theorem c259_41 : mc_cd 259 41 = some (.iload_n 3, 1) := cg259_28.2.2.2.2.2.2.2
theorem cg259_42 : mc_cd 259 42 = some (.invokevirtual 54, 3) ∧ mc_cd 259 45 = some (.ireturn, 1) ∧ mc_cd 259 46 = some (.iconst 0, 1) ∧ mc_cd 259 47 = some (.istore 4, 2) ∧ mc_cd 259 49 = some (.iconst 0, 1) ∧ mc_cd 259 50 = some (.istore 5, 2) ∧ mc_cd 259 52 = some (.iload 5, 2) ∧ mc_cd 259 54 = some (.aload_n 0, 1) := by decide +kernel
theorem c259_42 : mc_cd 259 42 = some (.invokevirtual 54, 3) := cg259_42.1
theorem c259_45 : mc_cd 259 45 = some (.ireturn, 1) := cg259_42.2.1
theorem c259_46 : mc_cd 259 46 = some (.iconst 0, 1) := cg259_42.2.2.1
theorem c259_47 : mc_cd 259 47 = some (.istore 4, 2) := cg259_42.2.2.2.1
theorem c259_49 : mc_cd 259 49 = some (.iconst 0, 1) := cg259_42.2.2.2.2.1
theorem c259_50 : mc_cd 259 50 = some (.istore 5, 2) := cg259_42.2.2.2.2.2.1
theorem c259_52 : mc_cd 259 52 = some (.iload 5, 2) := cg259_42.2.2.2.2.2.2.1
theorem c259_54 : mc_cd 259 54 = some (.aload_n 0, 1) := cg259_42.2.2.2.2.2.2.2
theorem cg259_55 : mc_cd 259 55 = some (.getfield 422, 3) ∧ mc_cd 259 58 = some (.if_icmp .ge 58, 3) ∧ mc_cd 259 61 = some (.aload_n 0, 1) ∧ mc_cd 259 62 = some (.aload_n 0, 1) ∧ mc_cd 259 63 = some (.getfield 42, 3) ∧ mc_cd 259 66 = some (.iload 5, 2) ∧ mc_cd 259 68 = some (.iaload, 1) ∧ mc_cd 259 69 = some (.invokevirtual 425, 3) := by decide +kernel
theorem c259_55 : mc_cd 259 55 = some (.getfield 422, 3) := cg259_55.1
theorem c259_58 : mc_cd 259 58 = some (.if_icmp .ge 58, 3) := cg259_55.2.1
theorem c259_61 : mc_cd 259 61 = some (.aload_n 0, 1) := cg259_55.2.2.1
theorem c259_62 : mc_cd 259 62 = some (.aload_n 0, 1) := cg259_55.2.2.2.1
theorem c259_63 : mc_cd 259 63 = some (.getfield 42, 3) := cg259_55.2.2.2.2.1
theorem c259_66 : mc_cd 259 66 = some (.iload 5, 2) := cg259_55.2.2.2.2.2.1
theorem c259_68 : mc_cd 259 68 = some (.iaload, 1) := cg259_55.2.2.2.2.2.2.1
theorem c259_69 : mc_cd 259 69 = some (.invokevirtual 425, 3) := cg259_55.2.2.2.2.2.2.2
theorem cg259_72 : mc_cd 259 72 = some (.iload 4, 2) ∧ mc_cd 259 74 = some (.aload_n 0, 1) ∧ mc_cd 259 75 = some (.getfield 33, 3) ∧ mc_cd 259 78 = some (.bipush 40, 2) ∧ mc_cd 259 80 = some (.iload_n 1, 1) ∧ mc_cd 259 81 = some (.imul, 1) ∧ mc_cd 259 82 = some (.aload_n 0, 1) ∧ mc_cd 259 83 = some (.getfield 39, 3) := by decide +kernel
theorem c259_72 : mc_cd 259 72 = some (.iload 4, 2) := cg259_72.1
theorem c259_74 : mc_cd 259 74 = some (.aload_n 0, 1) := cg259_72.2.1
theorem c259_75 : mc_cd 259 75 = some (.getfield 33, 3) := cg259_72.2.2.1
theorem c259_78 : mc_cd 259 78 = some (.bipush 40, 2) := cg259_72.2.2.2.1
theorem c259_80 : mc_cd 259 80 = some (.iload_n 1, 1) := cg259_72.2.2.2.2.1
theorem c259_81 : mc_cd 259 81 = some (.imul, 1) := cg259_72.2.2.2.2.2.1
theorem c259_82 : mc_cd 259 82 = some (.aload_n 0, 1) := cg259_72.2.2.2.2.2.2.1
theorem c259_83 : mc_cd 259 83 = some (.getfield 39, 3) := cg259_72.2.2.2.2.2.2.2
theorem cg259_86 : mc_cd 259 86 = some (.iload_n 1, 1) ∧ mc_cd 259 87 = some (.iaload, 1) ∧ mc_cd 259 88 = some (.iadd, 1) ∧ mc_cd 259 89 = some (.iaload, 1) ∧ mc_cd 259 90 = some (.aload_n 0, 1) ∧ mc_cd 259 91 = some (.getfield 33, 3) ∧ mc_cd 259 94 = some (.bipush 40, 2) ∧ mc_cd 259 96 = some (.iload_n 2, 1) := by decide +kernel
theorem c259_86 : mc_cd 259 86 = some (.iload_n 1, 1) := cg259_86.1
theorem c259_87 : mc_cd 259 87 = some (.iaload, 1) := cg259_86.2.1
theorem c259_88 : mc_cd 259 88 = some (.iadd, 1) := cg259_86.2.2.1
theorem c259_89 : mc_cd 259 89 = some (.iaload, 1) := cg259_86.2.2.2.1
theorem c259_90 : mc_cd 259 90 = some (.aload_n 0, 1) := cg259_86.2.2.2.2.1
theorem c259_91 : mc_cd 259 91 = some (.getfield 33, 3) := cg259_86.2.2.2.2.2.1
theorem c259_94 : mc_cd 259 94 = some (.bipush 40, 2) := cg259_86.2.2.2.2.2.2.1
theorem c259_96 : mc_cd 259 96 = some (.iload_n 2, 1) := cg259_86.2.2.2.2.2.2.2
theorem cg259_97 : mc_cd 259 97 = some (.imul, 1) ∧ mc_cd 259 98 = some (.aload_n 0, 1) ∧ mc_cd 259 99 = some (.getfield 39, 3) ∧ mc_cd 259 102 = some (.iload_n 2, 1) ∧ mc_cd 259 103 = some (.iaload, 1) ∧ mc_cd 259 104 = some (.iadd, 1) ∧ mc_cd 259 105 = some (.iaload, 1) ∧ mc_cd 259 106 = some (.iand, 1) := by decide +kernel
theorem c259_97 : mc_cd 259 97 = some (.imul, 1) := cg259_97.1
theorem c259_98 : mc_cd 259 98 = some (.aload_n 0, 1) := cg259_97.2.1
theorem c259_99 : mc_cd 259 99 = some (.getfield 39, 3) := cg259_97.2.2.1
theorem c259_102 : mc_cd 259 102 = some (.iload_n 2, 1) := cg259_97.2.2.2.1
theorem c259_103 : mc_cd 259 103 = some (.iaload, 1) := cg259_97.2.2.2.2.1
theorem c259_104 : mc_cd 259 104 = some (.iadd, 1) := cg259_97.2.2.2.2.2.1
theorem c259_105 : mc_cd 259 105 = some (.iaload, 1) := cg259_97.2.2.2.2.2.2.1
theorem c259_106 : mc_cd 259 106 = some (.iand, 1) := cg259_97.2.2.2.2.2.2.2
theorem cg259_107 : mc_cd 259 107 = some (.ior, 1) ∧ mc_cd 259 108 = some (.istore 4, 2) ∧ mc_cd 259 110 = some (.iinc 5 1, 3) ∧ mc_cd 259 113 = some (.goto (-61), 3) ∧ mc_cd 259 116 = some (.aload_n 0, 1) ∧ mc_cd 259 117 = some (.iload 4, 2) ∧ mc_cd 259 119 = some (.invokevirtual 58, 3) ∧ mc_cd 259 122 = some (.ireturn, 1) := by decide +kernel
theorem c259_107 : mc_cd 259 107 = some (.ior, 1) := cg259_107.1
theorem c259_108 : mc_cd 259 108 = some (.istore 4, 2) := cg259_107.2.1
theorem c259_110 : mc_cd 259 110 = some (.iinc 5 1, 3) := cg259_107.2.2.1
theorem c259_113 : mc_cd 259 113 = some (.goto (-61), 3) := cg259_107.2.2.2.1
theorem c259_116 : mc_cd 259 116 = some (.aload_n 0, 1) := cg259_107.2.2.2.2.1
theorem c259_117 : mc_cd 259 117 = some (.iload 4, 2) := cg259_107.2.2.2.2.2.1
theorem c259_119 : mc_cd 259 119 = some (.invokevirtual 58, 3) := cg259_107.2.2.2.2.2.2.1
theorem c259_122 : mc_cd 259 122 = some (.ireturn, 1) := cg259_107.2.2.2.2.2.2.2
/-! StrikeAwakeModel.possible(I)J -/
theorem e260 : wq_en 260 = some (9, 6, false, some FieldType.long) := rfl
theorem cg260_0 : mc_cd 260 0 = some (.aload_n 0, 1) ∧ mc_cd 260 1 = some (.iconst 0, 1) ∧ mc_cd 260 2 = some (.putfield 48, 3) ∧ mc_cd 260 5 = some (.aload_n 0, 1) ∧ mc_cd 260 6 = some (.aload_n 0, 1) ∧ mc_cd 260 7 = some (.iload_n 1, 1) ∧ mc_cd 260 8 = some (.invokevirtual 364, 3) ∧ mc_cd 260 11 = some (.invokevirtual 433, 3) := by decide +kernel
theorem c260_0 : mc_cd 260 0 = some (.aload_n 0, 1) := cg260_0.1
theorem c260_1 : mc_cd 260 1 = some (.iconst 0, 1) := cg260_0.2.1
theorem c260_2 : mc_cd 260 2 = some (.putfield 48, 3) := cg260_0.2.2.1
theorem c260_5 : mc_cd 260 5 = some (.aload_n 0, 1) := cg260_0.2.2.2.1
theorem c260_6 : mc_cd 260 6 = some (.aload_n 0, 1) := cg260_0.2.2.2.2.1
theorem c260_7 : mc_cd 260 7 = some (.iload_n 1, 1) := cg260_0.2.2.2.2.2.1
theorem c260_8 : mc_cd 260 8 = some (.invokevirtual 364, 3) := cg260_0.2.2.2.2.2.2.1
theorem c260_11 : mc_cd 260 11 = some (.invokevirtual 433, 3) := cg260_0.2.2.2.2.2.2.2
theorem cg260_14 : mc_cd 260 14 = some (.istore_n 2, 1) ∧ mc_cd 260 15 = some (.iload_n 2, 1) ∧ mc_cd 260 16 = some (.ifCond .le 10, 3) ∧ mc_cd 260 19 = some (.aload_n 0, 1) ∧ mc_cd 260 20 = some (.iload_n 2, 1) ∧ mc_cd 260 21 = some (.invokevirtual 54, 3) ∧ mc_cd 260 24 = some (.i2l, 1) ∧ mc_cd 260 25 = some (.lreturn, 1) := by decide +kernel
theorem c260_14 : mc_cd 260 14 = some (.istore_n 2, 1) := cg260_14.1
theorem c260_15 : mc_cd 260 15 = some (.iload_n 2, 1) := cg260_14.2.1
theorem c260_16 : mc_cd 260 16 = some (.ifCond .le 10, 3) := cg260_14.2.2.1
theorem c260_19 : mc_cd 260 19 = some (.aload_n 0, 1) := cg260_14.2.2.2.1
theorem c260_20 : mc_cd 260 20 = some (.iload_n 2, 1) := cg260_14.2.2.2.2.1
theorem c260_21 : mc_cd 260 21 = some (.invokevirtual 54, 3) := cg260_14.2.2.2.2.2.1
theorem c260_24 : mc_cd 260 24 = some (.i2l, 1) := cg260_14.2.2.2.2.2.2.1
theorem c260_25 : mc_cd 260 25 = some (.lreturn, 1) := cg260_14.2.2.2.2.2.2.2
theorem cg260_26 : mc_cd 260 26 = some (.lconst 0, 1) ∧ mc_cd 260 27 = some (.lstore_n 3, 1) ∧ mc_cd 260 28 = some (.iconst 0, 1) ∧ mc_cd 260 29 = some (.istore 5, 2) ∧ mc_cd 260 31 = some (.iload 5, 2) ∧ mc_cd 260 33 = some (.aload_n 0, 1) ∧ mc_cd 260 34 = some (.getfield 422, 3) ∧ mc_cd 260 37 = some (.if_icmp .ge 31, 3) := by decide +kernel
theorem c260_26 : mc_cd 260 26 = some (.lconst 0, 1) := cg260_26.1
theorem c260_27 : mc_cd 260 27 = some (.lstore_n 3, 1) := cg260_26.2.1
theorem c260_28 : mc_cd 260 28 = some (.iconst 0, 1) := cg260_26.2.2.1
theorem c260_29 : mc_cd 260 29 = some (.istore 5, 2) := cg260_26.2.2.2.1
theorem c260_31 : mc_cd 260 31 = some (.iload 5, 2) := cg260_26.2.2.2.2.1
theorem c260_33 : mc_cd 260 33 = some (.aload_n 0, 1) := cg260_26.2.2.2.2.2.1
theorem c260_34 : mc_cd 260 34 = some (.getfield 422, 3) := cg260_26.2.2.2.2.2.2.1
theorem c260_37 : mc_cd 260 37 = some (.if_icmp .ge 31, 3) := cg260_26.2.2.2.2.2.2.2
theorem cg260_40 : mc_cd 260 40 = some (.aload_n 0, 1) ∧ mc_cd 260 41 = some (.aload_n 0, 1) ∧ mc_cd 260 42 = some (.getfield 42, 3) ∧ mc_cd 260 45 = some (.iload 5, 2) ∧ mc_cd 260 47 = some (.iaload, 1) ∧ mc_cd 260 48 = some (.invokevirtual 425, 3) ∧ mc_cd 260 51 = some (.lload_n 3, 1) ∧ mc_cd 260 52 = some (.lconst 1, 1) := by decide +kernel
theorem c260_40 : mc_cd 260 40 = some (.aload_n 0, 1) := cg260_40.1
theorem c260_41 : mc_cd 260 41 = some (.aload_n 0, 1) := cg260_40.2.1
theorem c260_42 : mc_cd 260 42 = some (.getfield 42, 3) := cg260_40.2.2.1
theorem c260_45 : mc_cd 260 45 = some (.iload 5, 2) := cg260_40.2.2.2.1
theorem c260_47 : mc_cd 260 47 = some (.iaload, 1) := cg260_40.2.2.2.2.1
theorem c260_48 : mc_cd 260 48 = some (.invokevirtual 425, 3) := cg260_40.2.2.2.2.2.1
theorem c260_51 : mc_cd 260 51 = some (.lload_n 3, 1) := cg260_40.2.2.2.2.2.2.1
theorem c260_52 : mc_cd 260 52 = some (.lconst 1, 1) := cg260_40.2.2.2.2.2.2.2
theorem cg260_53 : mc_cd 260 53 = some (.aload_n 0, 1) ∧ mc_cd 260 54 = some (.getfield 39, 3) ∧ mc_cd 260 57 = some (.iload_n 1, 1) ∧ mc_cd 260 58 = some (.iaload, 1) ∧ mc_cd 260 59 = some (.lshl, 1) ∧ mc_cd 260 60 = some (.lor, 1) ∧ mc_cd 260 61 = some (.lstore_n 3, 1) ∧ mc_cd 260 62 = some (.iinc 5 1, 3) := by decide +kernel
theorem c260_53 : mc_cd 260 53 = some (.aload_n 0, 1) := cg260_53.1
theorem c260_54 : mc_cd 260 54 = some (.getfield 39, 3) := cg260_53.2.1
theorem c260_57 : mc_cd 260 57 = some (.iload_n 1, 1) := cg260_53.2.2.1
theorem c260_58 : mc_cd 260 58 = some (.iaload, 1) := cg260_53.2.2.2.1
theorem c260_59 : mc_cd 260 59 = some (.lshl, 1) := cg260_53.2.2.2.2.1
theorem c260_60 : mc_cd 260 60 = some (.lor, 1) := cg260_53.2.2.2.2.2.1
theorem c260_61 : mc_cd 260 61 = some (.lstore_n 3, 1) := cg260_53.2.2.2.2.2.2.1
theorem c260_62 : mc_cd 260 62 = some (.iinc 5 1, 3) := cg260_53.2.2.2.2.2.2.2
theorem cg260_65 : mc_cd 260 65 = some (.goto (-34), 3) ∧ mc_cd 260 68 = some (.aload_n 0, 1) ∧ mc_cd 260 69 = some (.lload_n 3, 1) ∧ mc_cd 260 70 = some (.invokevirtual 380, 3) ∧ mc_cd 260 73 = some (.lreturn, 1) := by decide +kernel
theorem c260_65 : mc_cd 260 65 = some (.goto (-34), 3) := cg260_65.1
theorem c260_68 : mc_cd 260 68 = some (.aload_n 0, 1) := cg260_65.2.1
theorem c260_69 : mc_cd 260 69 = some (.lload_n 3, 1) := cg260_65.2.2.1
theorem c260_70 : mc_cd 260 70 = some (.invokevirtual 380, 3) := cg260_65.2.2.2.1
theorem c260_73 : mc_cd 260 73 = some (.lreturn, 1) := cg260_65.2.2.2.2
/-! StrikeAwakeModel.awakeSet([II)I -/
theorem e262 : wq_en 262 = some (9, 5, false, some FieldType.int) := rfl
theorem cg262_0 : mc_cd 262 0 = some (.iconst 0, 1) ∧ mc_cd 262 1 = some (.istore_n 3, 1) ∧ mc_cd 262 2 = some (.iconst 0, 1) ∧ mc_cd 262 3 = some (.istore 4, 2) ∧ mc_cd 262 5 = some (.iload 4, 2) ∧ mc_cd 262 7 = some (.aload_n 0, 1) ∧ mc_cd 262 8 = some (.getfield 337, 3) ∧ mc_cd 262 11 = some (.getfield 188, 3) := by decide +kernel
theorem c262_0 : mc_cd 262 0 = some (.iconst 0, 1) := cg262_0.1
theorem c262_1 : mc_cd 262 1 = some (.istore_n 3, 1) := cg262_0.2.1
theorem c262_2 : mc_cd 262 2 = some (.iconst 0, 1) := cg262_0.2.2.1
theorem c262_3 : mc_cd 262 3 = some (.istore 4, 2) := cg262_0.2.2.2.1
theorem c262_5 : mc_cd 262 5 = some (.iload 4, 2) := cg262_0.2.2.2.2.1
theorem c262_7 : mc_cd 262 7 = some (.aload_n 0, 1) := cg262_0.2.2.2.2.2.1
theorem c262_8 : mc_cd 262 8 = some (.getfield 337, 3) := cg262_0.2.2.2.2.2.2.1
theorem c262_11 : mc_cd 262 11 = some (.getfield 188, 3) := cg262_0.2.2.2.2.2.2.2
theorem cg262_14 : mc_cd 262 14 = some (.if_icmp .ge 42, 3) ∧ mc_cd 262 17 = some (.iload_n 3, 1) ∧ mc_cd 262 18 = some (.aload_n 0, 1) ∧ mc_cd 262 19 = some (.getfield 33, 3) ∧ mc_cd 262 22 = some (.bipush 40, 2) ∧ mc_cd 262 24 = some (.iload 4, 2) ∧ mc_cd 262 26 = some (.imul, 1) ∧ mc_cd 262 27 = some (.aload_n 1, 1) := by decide +kernel
theorem c262_14 : mc_cd 262 14 = some (.if_icmp .ge 42, 3) := cg262_14.1
theorem c262_17 : mc_cd 262 17 = some (.iload_n 3, 1) := cg262_14.2.1
theorem c262_18 : mc_cd 262 18 = some (.aload_n 0, 1) := cg262_14.2.2.1
theorem c262_19 : mc_cd 262 19 = some (.getfield 33, 3) := cg262_14.2.2.2.1
theorem c262_22 : mc_cd 262 22 = some (.bipush 40, 2) := cg262_14.2.2.2.2.1
theorem c262_24 : mc_cd 262 24 = some (.iload 4, 2) := cg262_14.2.2.2.2.2.1
theorem c262_26 : mc_cd 262 26 = some (.imul, 1) := cg262_14.2.2.2.2.2.2.1
theorem c262_27 : mc_cd 262 27 = some (.aload_n 1, 1) := cg262_14.2.2.2.2.2.2.2
theorem cg262_28 : mc_cd 262 28 = some (.iload 4, 2) ∧ mc_cd 262 30 = some (.iaload, 1) ∧ mc_cd 262 31 = some (.iadd, 1) ∧ mc_cd 262 32 = some (.iaload, 1) ∧ mc_cd 262 33 = some (.iload_n 2, 1) ∧ mc_cd 262 34 = some (.invokestatic 346, 3) ∧ mc_cd 262 37 = some (.ifCond .eq 10, 3) ∧ mc_cd 262 40 = some (.iconst 1, 1) := by decide +kernel
theorem c262_28 : mc_cd 262 28 = some (.iload 4, 2) := cg262_28.1
theorem c262_30 : mc_cd 262 30 = some (.iaload, 1) := cg262_28.2.1
theorem c262_31 : mc_cd 262 31 = some (.iadd, 1) := cg262_28.2.2.1
theorem c262_32 : mc_cd 262 32 = some (.iaload, 1) := cg262_28.2.2.2.1
theorem c262_33 : mc_cd 262 33 = some (.iload_n 2, 1) := cg262_28.2.2.2.2.1
theorem c262_34 : mc_cd 262 34 = some (.invokestatic 346, 3) := cg262_28.2.2.2.2.2.1
theorem c262_37 : mc_cd 262 37 = some (.ifCond .eq 10, 3) := cg262_28.2.2.2.2.2.2.1
theorem c262_40 : mc_cd 262 40 = some (.iconst 1, 1) := cg262_28.2.2.2.2.2.2.2
theorem cg262_41 : mc_cd 262 41 = some (.iload 4, 2) ∧ mc_cd 262 43 = some (.ishl, 1) ∧ mc_cd 262 44 = some (.goto 4, 3) ∧ mc_cd 262 47 = some (.iconst 0, 1) ∧ mc_cd 262 48 = some (.ior, 1) ∧ mc_cd 262 49 = some (.istore_n 3, 1) ∧ mc_cd 262 50 = some (.iinc 4 1, 3) ∧ mc_cd 262 53 = some (.goto (-48), 3) := by decide +kernel
theorem c262_41 : mc_cd 262 41 = some (.iload 4, 2) := cg262_41.1
theorem c262_43 : mc_cd 262 43 = some (.ishl, 1) := cg262_41.2.1
theorem c262_44 : mc_cd 262 44 = some (.goto 4, 3) := cg262_41.2.2.1
theorem c262_47 : mc_cd 262 47 = some (.iconst 0, 1) := cg262_41.2.2.2.1
theorem c262_48 : mc_cd 262 48 = some (.ior, 1) := cg262_41.2.2.2.2.1
theorem c262_49 : mc_cd 262 49 = some (.istore_n 3, 1) := cg262_41.2.2.2.2.2.1
theorem c262_50 : mc_cd 262 50 = some (.iinc 4 1, 3) := cg262_41.2.2.2.2.2.2.1
theorem c262_53 : mc_cd 262 53 = some (.goto (-48), 3) := cg262_41.2.2.2.2.2.2.2
theorem cg262_56 : mc_cd 262 56 = some (.iload_n 3, 1) ∧ mc_cd 262 57 = some (.ireturn, 1) := by decide +kernel
theorem c262_56 : mc_cd 262 56 = some (.iload_n 3, 1) := cg262_56.1
theorem c262_57 : mc_cd 262 57 = some (.ireturn, 1) := cg262_56.2
abbrev q_262_m_lot (r0 : Nat) (r1 : Nat) (a2 : Int) (pp : Nat) (T : wq_T) (H : wq_H) : Option Value → wq_T → wq_H → Prop := fun r T' H' => T = T' ∧ H = H' ∧ ∃ z : Int, some (vI z) = r ∧ ((-2147483648) ≤ z ∧ z ≤ 2147483647)
set_option maxHeartbeats 4000000 in
theorem s_262_m_lot {kt : Nat → Option mc_E} {T : wq_T} {H : wq_H} {r0 : Nat} {r1 : Nat} {a2 : Int} {pp : Nat} (hW : WT T H) (g0 : T.2.2.2 r0 = some 42) (g1 : T.2.2.2 r1 = some 51) (i2 : (-2147483648) ≤ a2 ∧ a2 ≤ 2147483647) (qpp : H r0 3 = (pp : Int)) (gpp : T.2.2.2 pp = some 54) : wpc kt 2 262 [.ref r0, .ref r1, vI a2] T H (q_262_m_lot r0 r1 a2 pp T H) := by
  refine wp_enter e262 (Nat.le_of_ble_eq_true rfl) rfl ?_
  show wp _ _ 262 0 [(0, .ref r0), (1, .ref r1), (2, vI a2)] [] _ H _
  refine wp_of e262 c262_0 (rw_iconst (pc' := 1) rfl ?_)
  refine wp_of e262 c262_1 (rw_istore_n (pc' := 2) (z := 0) (L' := [(3, vI 0), (0, .ref r0), (1, .ref r1), (2, vI a2)]) rfl rfl rfl ?_)
  refine wp_of e262 c262_2 (rw_iconst (pc' := 3) rfl ?_)
  refine wp_of e262 c262_3 (rw_istore (pc' := 5) (z := 0) (L' := [(4, vI 0), (3, vI 0), (0, .ref r0), (1, .ref r1), (2, vI a2)]) rfl rfl rfl ?_)
  have lp144889 : ∀ (n144890 : Nat) (v144892 : Int) (v144893 : Int), (0 ≤ v144892 ∧ v144892 ≤ 6) → (0 ≤ v144893 ∧ v144893 ≤ 16777215) → (6 - v144892).toNat = n144890 → wp kt 1 262 5 [(4, vI v144892), (3, vI v144893), (0, .ref r0), (1, .ref r1), (2, vI a2)] [] T H (q_262_m_lot r0 r1 a2 pp T H) := by
    intro n144890
    induction n144890 using Nat.strongRecOn with
    | _ n144890 ih144891 =>
      intro v144892 v144893 b144896 b144897 m144898
      refine wp_of e262 c262_5 (rw_iload (pc' := 7) (z := v144892) rfl rfl ?_)
      refine wp_of e262 c262_7 (rw_aload_n (pc' := 8) (v := .ref r0) rfl rfl rfl ?_)
      refine wp_of e262 c262_8 (xg_K (pc' := 11) lf_9_337 hW g0 sh_42 (by decide) (by decide) rfl qpp rfl ?_)
      refine wp_of e262 c262_11 (xg_I (pc' := 14) lf_9_188 hW gpp sh_54 (by decide) (by decide) ty_54_3 rfl rfl (fun b144899 b144900 => ?_))
      refine wp_of e262 c262_14 (rw_icmp_ge (p1 := 56) (p2 := 17) (by decide) rfl ⟨by omega, by omega⟩ ⟨by omega, by omega⟩ (fun c144901 => ?_) (fun c144901 => ?_))
      · refine wp_of e262 c262_56 (rw_iload_n (pc' := 57) (z := v144893) rfl rfl ?_)
        exact wp_ireturn e262 c262_57 rfl ⟨rfl, rfl, v144893, rfl, ⟨by omega, by omega⟩⟩
      · refine wp_of e262 c262_17 (rw_iload_n (pc' := 18) (z := v144893) rfl rfl ?_)
        refine wp_of e262 c262_18 (rw_aload_n (pc' := 19) (v := .ref r0) rfl rfl rfl ?_)
        refine wp_of e262 c262_19 (xg_R (pc' := 22) lf_9_33 hW g0 sh_42 (by decide) (by decide) ty_42_25 rfl rfl (fun r144902 q144903 g144904 => ?_))
        refine wp_of e262 c262_22 (rw_bipush (pc' := 24) (z := 40) rfl (by decide) ?_)
        refine wp_of e262 c262_24 (rw_iload (pc' := 26) (z := v144892) rfl rfl ?_)
        refine wp_of e262 c262_26 (rw_imul (pc' := 27) rfl ?_)
        refine wp_of e262 c262_27 (rw_aload_n (pc' := 28) (v := .ref r1) rfl rfl rfl ?_)
        refine wp_of e262 c262_28 (rw_iload (pc' := 30) (z := v144892) rfl rfl ?_)
        refine wp_of e262 c262_30 (xa_I (so := 0) (pc' := 31) hW g1 sh_51 (by decide) (ty_51 _) (by omega) (by omega) rfl (fun b144905 b144906 => ?_))
        refine wp_of e262 c262_31 (rw_iadd (pc' := 32) rfl ?_)
        refine wp_of e262 c262_32 (xa_I (so := 0) (pc' := 33) hW g144904 sh_49 (by decide) (ty_49 _) (by omega) (by omega) rfl (fun b144907 b144908 => ?_))
        refine wp_of e262 c262_33 (rw_iload_n (pc' := 34) (z := a2) rfl rfl ?_)
        refine wp_of e262 c262_34 (xc_S (pc' := 37) (as := [vI (H r144902 (((40 * v144892) + (H r1 (v144892.toNat))).toNat)), vI a2]) (st := [vI v144893]) (lm_9_346) rfl rfl (Nat.le_of_ble_eq_true rfl) rfl (by decide) (s_205 hW ⟨by omega, by omega⟩ ⟨by omega, by omega⟩) (fun R144909 T144910 H144911 p144912 => ?_))
        obtain ⟨e144913, e144915, z144916, e144914, b144917⟩ := p144912
        subst e144913
        subst e144914
        subst e144915
        show wp _ _ 262 37 [(4, vI v144892), (3, vI v144893), (0, .ref r0), (1, .ref r1), (2, vI a2)] [vI z144916, vI v144893] _ H _
        refine wp_of e262 c262_37 (rw_if_eq (p1 := 47) (p2 := 40) (by decide) rfl ⟨by omega, by omega⟩ (fun c144918 => ?_) (fun c144918 => ?_))
        · refine wp_of e262 c262_47 (rw_iconst (pc' := 48) rfl ?_)
          refine wp_of e262 c262_48 (rw_ior (pc' := 49) rfl ?_)
          obtain ⟨v144919, e144920⟩ : ∃ x : Int, x = wq_or v144893 0 := ⟨_, rfl⟩
          rw [← e144920]
          have b144921 : 0 ≤ v144919 ∧ v144919 ≤ 16777215 := by
            rw [e144920]
            exact wq_or_24 ⟨by omega, by omega⟩ ⟨by omega, by omega⟩
          refine wp_of e262 c262_49 (rw_istore_n (pc' := 50) (z := v144919) (L' := [(3, vI v144919), (4, vI v144892), (0, .ref r0), (1, .ref r1), (2, vI a2)]) rfl rfl rfl ?_)
          refine wp_of e262 c262_50 (rw_iinc (pc' := 53) (z := v144892) (L' := [(4, vI (v144892 + 1)), (3, vI v144919), (0, .ref r0), (1, .ref r1), (2, vI a2)]) rfl rfl rfl rfl ?_)
          refine wp_of e262 c262_53 (rw_goto (p1 := 5) (by decide) ?_)
          exact wp_lc (ks := [4, 3, 0, 1, 2]) (wl_c rfl (wl_c rfl (wl_c rfl (wl_c rfl (wl_c rfl wl_n))))) rfl (by decide) (ih144891 _ (by omega) (v144892 + 1) v144919 ⟨by omega, by omega⟩ ⟨by omega, by omega⟩ rfl)
        · refine wp_of e262 c262_40 (rw_iconst (pc' := 41) rfl ?_)
          refine wp_of e262 c262_41 (rw_iload (pc' := 43) (z := v144892) rfl rfl ?_)
          refine wp_of e262 c262_43 (rw_ishl (pc' := 44) rfl ?_)
          obtain ⟨v144922, e144923⟩ : ∃ x : Int, x = wq_shl 1 v144892 := ⟨_, rfl⟩
          rw [← e144923]
          have b144924 : 1 ≤ v144922 ∧ v144922 ≤ 64 := by
            rw [e144923]
            exact wq_shl1_6 ⟨by omega, by omega⟩
          refine wp_of e262 c262_44 (rw_goto (p1 := 48) (by decide) ?_)
          refine wp_of e262 c262_48 (rw_ior (pc' := 49) rfl ?_)
          obtain ⟨v144925, e144926⟩ : ∃ x : Int, x = wq_or v144893 v144922 := ⟨_, rfl⟩
          rw [← e144926]
          have b144927 : 0 ≤ v144925 ∧ v144925 ≤ 16777215 := by
            rw [e144926]
            exact wq_or_24 ⟨by omega, by omega⟩ ⟨by omega, by omega⟩
          refine wp_of e262 c262_49 (rw_istore_n (pc' := 50) (z := v144925) (L' := [(3, vI v144925), (4, vI v144892), (0, .ref r0), (1, .ref r1), (2, vI a2)]) rfl rfl rfl ?_)
          refine wp_of e262 c262_50 (rw_iinc (pc' := 53) (z := v144892) (L' := [(4, vI (v144892 + 1)), (3, vI v144925), (0, .ref r0), (1, .ref r1), (2, vI a2)]) rfl rfl rfl rfl ?_)
          refine wp_of e262 c262_53 (rw_goto (p1 := 5) (by decide) ?_)
          exact wp_lc (ks := [4, 3, 0, 1, 2]) (wl_c rfl (wl_c rfl (wl_c rfl (wl_c rfl (wl_c rfl wl_n))))) rfl (by decide) (ih144891 _ (by omega) (v144892 + 1) v144925 ⟨by omega, by omega⟩ ⟨by omega, by omega⟩ rfl)
  exact wp_lc (ks := [4, 3, 0, 1, 2]) (wl_c rfl (wl_c rfl (wl_c rfl (wl_c rfl (wl_c rfl wl_n))))) rfl (by decide) (lp144889 _ 0 0 ⟨by omega, by omega⟩ ⟨by omega, by omega⟩ rfl)

/-! StrikeAwakeModel.awakeSet([II)I -/
abbrev q_262_m_one (r0 : Nat) (r1 : Nat) (a2 : Int) (pp : Nat) (T : wq_T) (H : wq_H) : Option Value → wq_T → wq_H → Prop := fun r T' H' => T = T' ∧ H = H' ∧ ∃ z : Int, some (vI z) = r ∧ ((-2147483648) ≤ z ∧ z ≤ 2147483647)
set_option maxHeartbeats 4000000 in
theorem s_262_m_one {kt : Nat → Option mc_E} {T : wq_T} {H : wq_H} {r0 : Nat} {r1 : Nat} {a2 : Int} {pp : Nat} (hW : WT T H) (g0 : T.2.2.2 r0 = some 42) (g1 : T.2.2.2 r1 = some 53) (i2 : (-2147483648) ≤ a2 ∧ a2 ≤ 2147483647) (qpp : H r0 3 = (pp : Int)) (gpp : T.2.2.2 pp = some 54) : wpc kt 2 262 [.ref r0, .ref r1, vI a2] T H (q_262_m_one r0 r1 a2 pp T H) := by
  refine wp_enter e262 (Nat.le_of_ble_eq_true rfl) rfl ?_
  show wp _ _ 262 0 [(0, .ref r0), (1, .ref r1), (2, vI a2)] [] _ H _
  refine wp_of e262 c262_0 (rw_iconst (pc' := 1) rfl ?_)
  refine wp_of e262 c262_1 (rw_istore_n (pc' := 2) (z := 0) (L' := [(3, vI 0), (0, .ref r0), (1, .ref r1), (2, vI a2)]) rfl rfl rfl ?_)
  refine wp_of e262 c262_2 (rw_iconst (pc' := 3) rfl ?_)
  refine wp_of e262 c262_3 (rw_istore (pc' := 5) (z := 0) (L' := [(4, vI 0), (3, vI 0), (0, .ref r0), (1, .ref r1), (2, vI a2)]) rfl rfl rfl ?_)
  have lp145347 : ∀ (n145348 : Nat) (v145350 : Int) (v145351 : Int), (0 ≤ v145350 ∧ v145350 ≤ 6) → (0 ≤ v145351 ∧ v145351 ≤ 16777215) → (6 - v145350).toNat = n145348 → wp kt 1 262 5 [(4, vI v145350), (3, vI v145351), (0, .ref r0), (1, .ref r1), (2, vI a2)] [] T H (q_262_m_one r0 r1 a2 pp T H) := by
    intro n145348
    induction n145348 using Nat.strongRecOn with
    | _ n145348 ih145349 =>
      intro v145350 v145351 b145354 b145355 m145356
      refine wp_of e262 c262_5 (rw_iload (pc' := 7) (z := v145350) rfl rfl ?_)
      refine wp_of e262 c262_7 (rw_aload_n (pc' := 8) (v := .ref r0) rfl rfl rfl ?_)
      refine wp_of e262 c262_8 (xg_K (pc' := 11) lf_9_337 hW g0 sh_42 (by decide) (by decide) rfl qpp rfl ?_)
      refine wp_of e262 c262_11 (xg_I (pc' := 14) lf_9_188 hW gpp sh_54 (by decide) (by decide) ty_54_3 rfl rfl (fun b145357 b145358 => ?_))
      refine wp_of e262 c262_14 (rw_icmp_ge (p1 := 56) (p2 := 17) (by decide) rfl ⟨by omega, by omega⟩ ⟨by omega, by omega⟩ (fun c145359 => ?_) (fun c145359 => ?_))
      · refine wp_of e262 c262_56 (rw_iload_n (pc' := 57) (z := v145351) rfl rfl ?_)
        exact wp_ireturn e262 c262_57 rfl ⟨rfl, rfl, v145351, rfl, ⟨by omega, by omega⟩⟩
      · refine wp_of e262 c262_17 (rw_iload_n (pc' := 18) (z := v145351) rfl rfl ?_)
        refine wp_of e262 c262_18 (rw_aload_n (pc' := 19) (v := .ref r0) rfl rfl rfl ?_)
        refine wp_of e262 c262_19 (xg_R (pc' := 22) lf_9_33 hW g0 sh_42 (by decide) (by decide) ty_42_25 rfl rfl (fun r145360 q145361 g145362 => ?_))
        refine wp_of e262 c262_22 (rw_bipush (pc' := 24) (z := 40) rfl (by decide) ?_)
        refine wp_of e262 c262_24 (rw_iload (pc' := 26) (z := v145350) rfl rfl ?_)
        refine wp_of e262 c262_26 (rw_imul (pc' := 27) rfl ?_)
        refine wp_of e262 c262_27 (rw_aload_n (pc' := 28) (v := .ref r1) rfl rfl rfl ?_)
        refine wp_of e262 c262_28 (rw_iload (pc' := 30) (z := v145350) rfl rfl ?_)
        refine wp_of e262 c262_30 (xa_I (so := 0) (pc' := 31) hW g1 sh_53 (by decide) (ty_53 _) (by omega) (by omega) rfl (fun b145363 b145364 => ?_))
        refine wp_of e262 c262_31 (rw_iadd (pc' := 32) rfl ?_)
        refine wp_of e262 c262_32 (xa_I (so := 0) (pc' := 33) hW g145362 sh_49 (by decide) (ty_49 _) (by omega) (by omega) rfl (fun b145365 b145366 => ?_))
        refine wp_of e262 c262_33 (rw_iload_n (pc' := 34) (z := a2) rfl rfl ?_)
        refine wp_of e262 c262_34 (xc_S (pc' := 37) (as := [vI (H r145360 (((40 * v145350) + (H r1 (v145350.toNat))).toNat)), vI a2]) (st := [vI v145351]) (lm_9_346) rfl rfl (Nat.le_of_ble_eq_true rfl) rfl (by decide) (s_205 hW ⟨by omega, by omega⟩ ⟨by omega, by omega⟩) (fun R145367 T145368 H145369 p145370 => ?_))
        obtain ⟨e145371, e145373, z145374, e145372, b145375⟩ := p145370
        subst e145371
        subst e145372
        subst e145373
        show wp _ _ 262 37 [(4, vI v145350), (3, vI v145351), (0, .ref r0), (1, .ref r1), (2, vI a2)] [vI z145374, vI v145351] _ H _
        refine wp_of e262 c262_37 (rw_if_eq (p1 := 47) (p2 := 40) (by decide) rfl ⟨by omega, by omega⟩ (fun c145376 => ?_) (fun c145376 => ?_))
        · refine wp_of e262 c262_47 (rw_iconst (pc' := 48) rfl ?_)
          refine wp_of e262 c262_48 (rw_ior (pc' := 49) rfl ?_)
          obtain ⟨v145377, e145378⟩ : ∃ x : Int, x = wq_or v145351 0 := ⟨_, rfl⟩
          rw [← e145378]
          have b145379 : 0 ≤ v145377 ∧ v145377 ≤ 16777215 := by
            rw [e145378]
            exact wq_or_24 ⟨by omega, by omega⟩ ⟨by omega, by omega⟩
          refine wp_of e262 c262_49 (rw_istore_n (pc' := 50) (z := v145377) (L' := [(3, vI v145377), (4, vI v145350), (0, .ref r0), (1, .ref r1), (2, vI a2)]) rfl rfl rfl ?_)
          refine wp_of e262 c262_50 (rw_iinc (pc' := 53) (z := v145350) (L' := [(4, vI (v145350 + 1)), (3, vI v145377), (0, .ref r0), (1, .ref r1), (2, vI a2)]) rfl rfl rfl rfl ?_)
          refine wp_of e262 c262_53 (rw_goto (p1 := 5) (by decide) ?_)
          exact wp_lc (ks := [4, 3, 0, 1, 2]) (wl_c rfl (wl_c rfl (wl_c rfl (wl_c rfl (wl_c rfl wl_n))))) rfl (by decide) (ih145349 _ (by omega) (v145350 + 1) v145377 ⟨by omega, by omega⟩ ⟨by omega, by omega⟩ rfl)
        · refine wp_of e262 c262_40 (rw_iconst (pc' := 41) rfl ?_)
          refine wp_of e262 c262_41 (rw_iload (pc' := 43) (z := v145350) rfl rfl ?_)
          refine wp_of e262 c262_43 (rw_ishl (pc' := 44) rfl ?_)
          obtain ⟨v145380, e145381⟩ : ∃ x : Int, x = wq_shl 1 v145350 := ⟨_, rfl⟩
          rw [← e145381]
          have b145382 : 1 ≤ v145380 ∧ v145380 ≤ 64 := by
            rw [e145381]
            exact wq_shl1_6 ⟨by omega, by omega⟩
          refine wp_of e262 c262_44 (rw_goto (p1 := 48) (by decide) ?_)
          refine wp_of e262 c262_48 (rw_ior (pc' := 49) rfl ?_)
          obtain ⟨v145383, e145384⟩ : ∃ x : Int, x = wq_or v145351 v145380 := ⟨_, rfl⟩
          rw [← e145384]
          have b145385 : 0 ≤ v145383 ∧ v145383 ≤ 16777215 := by
            rw [e145384]
            exact wq_or_24 ⟨by omega, by omega⟩ ⟨by omega, by omega⟩
          refine wp_of e262 c262_49 (rw_istore_n (pc' := 50) (z := v145383) (L' := [(3, vI v145383), (4, vI v145350), (0, .ref r0), (1, .ref r1), (2, vI a2)]) rfl rfl rfl ?_)
          refine wp_of e262 c262_50 (rw_iinc (pc' := 53) (z := v145350) (L' := [(4, vI (v145350 + 1)), (3, vI v145383), (0, .ref r0), (1, .ref r1), (2, vI a2)]) rfl rfl rfl rfl ?_)
          refine wp_of e262 c262_53 (rw_goto (p1 := 5) (by decide) ?_)
          exact wp_lc (ks := [4, 3, 0, 1, 2]) (wl_c rfl (wl_c rfl (wl_c rfl (wl_c rfl (wl_c rfl wl_n))))) rfl (by decide) (ih145349 _ (by omega) (v145350 + 1) v145383 ⟨by omega, by omega⟩ ⟨by omega, by omega⟩ rfl)
  exact wp_lc (ks := [4, 3, 0, 1, 2]) (wl_c rfl (wl_c rfl (wl_c rfl (wl_c rfl (wl_c rfl wl_n))))) rfl (by decide) (lp145347 _ 0 0 ⟨by omega, by omega⟩ ⟨by omega, by omega⟩ rfl)
/-! StrikeAwakeModel.hiding(II)I -/
theorem e261 : wq_en 261 = some (9, 6, false, some FieldType.int) := rfl
theorem cg261_0 : mc_cd 261 0 = some (.aload_n 0, 1) ∧ mc_cd 261 1 = some (.iconst 0, 1) ∧ mc_cd 261 2 = some (.putfield 48, 3) ∧ mc_cd 261 5 = some (.aload_n 0, 1) ∧ mc_cd 261 6 = some (.aload_n 0, 1) ∧ mc_cd 261 7 = some (.iload_n 1, 1) ∧ mc_cd 261 8 = some (.invokevirtual 364, 3) ∧ mc_cd 261 11 = some (.ifCond .eq 15, 3) := by decide +kernel
theorem c261_0 : mc_cd 261 0 = some (.aload_n 0, 1) := cg261_0.1
theorem c261_1 : mc_cd 261 1 = some (.iconst 0, 1) := cg261_0.2.1
theorem c261_2 : mc_cd 261 2 = some (.putfield 48, 3) := cg261_0.2.2.1
theorem c261_5 : mc_cd 261 5 = some (.aload_n 0, 1) := cg261_0.2.2.2.1
theorem c261_6 : mc_cd 261 6 = some (.aload_n 0, 1) := cg261_0.2.2.2.2.1
theorem c261_7 : mc_cd 261 7 = some (.iload_n 1, 1) := cg261_0.2.2.2.2.2.1
theorem c261_8 : mc_cd 261 8 = some (.invokevirtual 364, 3) := cg261_0.2.2.2.2.2.2.1
theorem c261_11 : mc_cd 261 11 = some (.ifCond .eq 15, 3) := cg261_0.2.2.2.2.2.2.2
theorem cg261_14 : mc_cd 261 14 = some (.aload_n 0, 1) ∧ mc_cd 261 15 = some (.iload_n 2, 1) ∧ mc_cd 261 16 = some (.invokevirtual 373, 3) ∧ mc_cd 261 19 = some (.ifCond .eq 7, 3) ∧ mc_cd 261 22 = some (.iconst 1, 1) ∧ mc_cd 261 23 = some (.goto 4, 3) ∧ mc_cd 261 26 = some (.iconst 0, 1) ∧ mc_cd 261 27 = some (.invokevirtual 433, 3) := by decide +kernel
theorem c261_14 : mc_cd 261 14 = some (.aload_n 0, 1) := cg261_14.1
theorem c261_15 : mc_cd 261 15 = some (.iload_n 2, 1) := cg261_14.2.1
theorem c261_16 : mc_cd 261 16 = some (.invokevirtual 373, 3) := cg261_14.2.2.1
theorem c261_19 : mc_cd 261 19 = some (.ifCond .eq 7, 3) := cg261_14.2.2.2.1
theorem c261_22 : mc_cd 261 22 = some (.iconst 1, 1) := cg261_14.2.2.2.2.1
theorem c261_23 : mc_cd 261 23 = some (.goto 4, 3) := cg261_14.2.2.2.2.2.1
theorem c261_26 : mc_cd 261 26 = some (.iconst 0, 1) := cg261_14.2.2.2.2.2.2.1
theorem c261_27 : mc_cd 261 27 = some (.invokevirtual 433, 3) := cg261_14.2.2.2.2.2.2.2
theorem cg261_30 : mc_cd 261 30 = some (.istore_n 3, 1) ∧ mc_cd 261 31 = some (.iload_n 3, 1) ∧ mc_cd 261 32 = some (.ifCond .le 9, 3) ∧ mc_cd 261 35 = some (.aload_n 0, 1) ∧ mc_cd 261 36 = some (.iload_n 3, 1) ∧ mc_cd 261 37 = some (.invokevirtual 54, 3) ∧ mc_cd 261 40 = some (.ireturn, 1) ∧ mc_cd 261 41 = some (.iconst 0, 1) := by decide +kernel
theorem c261_30 : mc_cd 261 30 = some (.istore_n 3, 1) := cg261_30.1
theorem c261_31 : mc_cd 261 31 = some (.iload_n 3, 1) := cg261_30.2.1
theorem c261_32 : mc_cd 261 32 = some (.ifCond .le 9, 3) := cg261_30.2.2.1
theorem c261_35 : mc_cd 261 35 = some (.aload_n 0, 1) := cg261_30.2.2.2.1
theorem c261_36 : mc_cd 261 36 = some (.iload_n 3, 1) := cg261_30.2.2.2.2.1
theorem c261_37 : mc_cd 261 37 = some (.invokevirtual 54, 3) := cg261_30.2.2.2.2.2.1
theorem c261_40 : mc_cd 261 40 = some (.ireturn, 1) := cg261_30.2.2.2.2.2.2.1
theorem c261_41 : mc_cd 261 41 = some (.iconst 0, 1) := cg261_30.2.2.2.2.2.2.2
theorem cg261_42 : mc_cd 261 42 = some (.istore 4, 2) ∧ mc_cd 261 44 = some (.iconst 0, 1) ∧ mc_cd 261 45 = some (.istore 5, 2) ∧ mc_cd 261 47 = some (.iload 5, 2) ∧ mc_cd 261 49 = some (.aload_n 0, 1) ∧ mc_cd 261 50 = some (.getfield 422, 3) ∧ mc_cd 261 53 = some (.if_icmp .ge 57, 3) ∧ mc_cd 261 56 = some (.aload_n 0, 1) := by decide +kernel
theorem c261_42 : mc_cd 261 42 = some (.istore 4, 2) := cg261_42.1
theorem c261_44 : mc_cd 261 44 = some (.iconst 0, 1) := cg261_42.2.1
theorem c261_45 : mc_cd 261 45 = some (.istore 5, 2) := cg261_42.2.2.1
theorem c261_47 : mc_cd 261 47 = some (.iload 5, 2) := cg261_42.2.2.2.1
theorem c261_49 : mc_cd 261 49 = some (.aload_n 0, 1) := cg261_42.2.2.2.2.1
theorem c261_50 : mc_cd 261 50 = some (.getfield 422, 3) := cg261_42.2.2.2.2.2.1
theorem c261_53 : mc_cd 261 53 = some (.if_icmp .ge 57, 3) := cg261_42.2.2.2.2.2.2.1
theorem c261_56 : mc_cd 261 56 = some (.aload_n 0, 1) := cg261_42.2.2.2.2.2.2.2
theorem cg261_57 : mc_cd 261 57 = some (.aload_n 0, 1) ∧ mc_cd 261 58 = some (.getfield 42, 3) ∧ mc_cd 261 61 = some (.iload 5, 2) ∧ mc_cd 261 63 = some (.iaload, 1) ∧ mc_cd 261 64 = some (.invokevirtual 425, 3) ∧ mc_cd 261 67 = some (.aload_n 0, 1) ∧ mc_cd 261 68 = some (.getfield 30, 3) ∧ mc_cd 261 71 = some (.bipush 40, 2) := by decide +kernel
theorem c261_57 : mc_cd 261 57 = some (.aload_n 0, 1) := cg261_57.1
theorem c261_58 : mc_cd 261 58 = some (.getfield 42, 3) := cg261_57.2.1
theorem c261_61 : mc_cd 261 61 = some (.iload 5, 2) := cg261_57.2.2.1
theorem c261_63 : mc_cd 261 63 = some (.iaload, 1) := cg261_57.2.2.2.1
theorem c261_64 : mc_cd 261 64 = some (.invokevirtual 425, 3) := cg261_57.2.2.2.2.1
theorem c261_67 : mc_cd 261 67 = some (.aload_n 0, 1) := cg261_57.2.2.2.2.2.1
theorem c261_68 : mc_cd 261 68 = some (.getfield 30, 3) := cg261_57.2.2.2.2.2.2.1
theorem c261_71 : mc_cd 261 71 = some (.bipush 40, 2) := cg261_57.2.2.2.2.2.2.2
theorem cg261_73 : mc_cd 261 73 = some (.iload_n 1, 1) ∧ mc_cd 261 74 = some (.imul, 1) ∧ mc_cd 261 75 = some (.aload_n 0, 1) ∧ mc_cd 261 76 = some (.getfield 39, 3) ∧ mc_cd 261 79 = some (.iload_n 1, 1) ∧ mc_cd 261 80 = some (.iaload, 1) ∧ mc_cd 261 81 = some (.iadd, 1) ∧ mc_cd 261 82 = some (.iaload, 1) := by decide +kernel
theorem c261_73 : mc_cd 261 73 = some (.iload_n 1, 1) := cg261_73.1
theorem c261_74 : mc_cd 261 74 = some (.imul, 1) := cg261_73.2.1
theorem c261_75 : mc_cd 261 75 = some (.aload_n 0, 1) := cg261_73.2.2.1
theorem c261_76 : mc_cd 261 76 = some (.getfield 39, 3) := cg261_73.2.2.2.1
theorem c261_79 : mc_cd 261 79 = some (.iload_n 1, 1) := cg261_73.2.2.2.2.1
theorem c261_80 : mc_cd 261 80 = some (.iaload, 1) := cg261_73.2.2.2.2.2.1
theorem c261_81 : mc_cd 261 81 = some (.iadd, 1) := cg261_73.2.2.2.2.2.2.1
theorem c261_82 : mc_cd 261 82 = some (.iaload, 1) := cg261_73.2.2.2.2.2.2.2
theorem cg261_83 : mc_cd 261 83 = some (.iload_n 2, 1) ∧ mc_cd 261 84 = some (.invokestatic 346, 3) ∧ mc_cd 261 87 = some (.ifCond .eq 17, 3) ∧ mc_cd 261 90 = some (.iload 4, 2) ∧ mc_cd 261 92 = some (.aload_n 0, 1) ∧ mc_cd 261 93 = some (.aload_n 0, 1) ∧ mc_cd 261 94 = some (.getfield 39, 3) ∧ mc_cd 261 97 = some (.iload_n 2, 1) := by decide +kernel
theorem c261_83 : mc_cd 261 83 = some (.iload_n 2, 1) := cg261_83.1
theorem c261_84 : mc_cd 261 84 = some (.invokestatic 346, 3) := cg261_83.2.1
theorem c261_87 : mc_cd 261 87 = some (.ifCond .eq 17, 3) := cg261_83.2.2.1
theorem c261_90 : mc_cd 261 90 = some (.iload 4, 2) := cg261_83.2.2.2.1
theorem c261_92 : mc_cd 261 92 = some (.aload_n 0, 1) := cg261_83.2.2.2.2.1
theorem c261_93 : mc_cd 261 93 = some (.aload_n 0, 1) := cg261_83.2.2.2.2.2.1
theorem c261_94 : mc_cd 261 94 = some (.getfield 39, 3) := cg261_83.2.2.2.2.2.2.1
theorem c261_97 : mc_cd 261 97 = some (.iload_n 2, 1) := cg261_83.2.2.2.2.2.2.2
theorem cg261_98 : mc_cd 261 98 = some (.invokevirtual 455, 3) ∧ mc_cd 261 101 = some (.ior, 1) ∧ mc_cd 261 102 = some (.istore 4, 2) ∧ mc_cd 261 104 = some (.iinc 5 1, 3) ∧ mc_cd 261 107 = some (.goto (-60), 3) ∧ mc_cd 261 110 = some (.aload_n 0, 1) ∧ mc_cd 261 111 = some (.iload 4, 2) ∧ mc_cd 261 113 = some (.invokevirtual 58, 3) := by decide +kernel
theorem c261_98 : mc_cd 261 98 = some (.invokevirtual 455, 3) := cg261_98.1
theorem c261_101 : mc_cd 261 101 = some (.ior, 1) := cg261_98.2.1
theorem c261_102 : mc_cd 261 102 = some (.istore 4, 2) := cg261_98.2.2.1
theorem c261_104 : mc_cd 261 104 = some (.iinc 5 1, 3) := cg261_98.2.2.2.1
theorem c261_107 : mc_cd 261 107 = some (.goto (-60), 3) := cg261_98.2.2.2.2.1
theorem c261_110 : mc_cd 261 110 = some (.aload_n 0, 1) := cg261_98.2.2.2.2.2.1
theorem c261_111 : mc_cd 261 111 = some (.iload 4, 2) := cg261_98.2.2.2.2.2.2.1
theorem c261_113 : mc_cd 261 113 = some (.invokevirtual 58, 3) := cg261_98.2.2.2.2.2.2.2
theorem c261_116 : mc_cd 261 116 = some (.ireturn, 1) := by decide +kernel
/-! StrikeAwakeModel.extreme(I[IZ)I -/
theorem e264 : wq_en 264 = some (9, 7, false, some FieldType.int) := rfl
theorem cg264_0 : mc_cd 264 0 = some (.iconst 0, 1) ∧ mc_cd 264 1 = some (.istore 4, 2) ∧ mc_cd 264 3 = some (.iconst 0, 1) ∧ mc_cd 264 4 = some (.istore 5, 2) ∧ mc_cd 264 6 = some (.iload 5, 2) ∧ mc_cd 264 8 = some (.aload_n 0, 1) ∧ mc_cd 264 9 = some (.getfield 422, 3) ∧ mc_cd 264 12 = some (.if_icmp .ge 70, 3) := by decide +kernel
theorem c264_0 : mc_cd 264 0 = some (.iconst 0, 1) := cg264_0.1
theorem c264_1 : mc_cd 264 1 = some (.istore 4, 2) := cg264_0.2.1
theorem c264_3 : mc_cd 264 3 = some (.iconst 0, 1) := cg264_0.2.2.1
theorem c264_4 : mc_cd 264 4 = some (.istore 5, 2) := cg264_0.2.2.2.1
theorem c264_6 : mc_cd 264 6 = some (.iload 5, 2) := cg264_0.2.2.2.2.1
theorem c264_8 : mc_cd 264 8 = some (.aload_n 0, 1) := cg264_0.2.2.2.2.2.1
theorem c264_9 : mc_cd 264 9 = some (.getfield 422, 3) := cg264_0.2.2.2.2.2.2.1
theorem c264_12 : mc_cd 264 12 = some (.if_icmp .ge 70, 3) := cg264_0.2.2.2.2.2.2.2
theorem cg264_15 : mc_cd 264 15 = some (.aload_n 0, 1) ∧ mc_cd 264 16 = some (.aload_n 0, 1) ∧ mc_cd 264 17 = some (.getfield 42, 3) ∧ mc_cd 264 20 = some (.iload 5, 2) ∧ mc_cd 264 22 = some (.iaload, 1) ∧ mc_cd 264 23 = some (.invokevirtual 425, 3) ∧ mc_cd 264 26 = some (.aload_n 2, 1) ∧ mc_cd 264 27 = some (.bipush 40, 2) := by decide +kernel
theorem c264_15 : mc_cd 264 15 = some (.aload_n 0, 1) := cg264_15.1
theorem c264_16 : mc_cd 264 16 = some (.aload_n 0, 1) := cg264_15.2.1
theorem c264_17 : mc_cd 264 17 = some (.getfield 42, 3) := cg264_15.2.2.1
theorem c264_20 : mc_cd 264 20 = some (.iload 5, 2) := cg264_15.2.2.2.1
theorem c264_22 : mc_cd 264 22 = some (.iaload, 1) := cg264_15.2.2.2.2.1
theorem c264_23 : mc_cd 264 23 = some (.invokevirtual 425, 3) := cg264_15.2.2.2.2.2.1
theorem c264_26 : mc_cd 264 26 = some (.aload_n 2, 1) := cg264_15.2.2.2.2.2.2.1
theorem c264_27 : mc_cd 264 27 = some (.bipush 40, 2) := cg264_15.2.2.2.2.2.2.2
theorem cg264_29 : mc_cd 264 29 = some (.iload_n 1, 1) ∧ mc_cd 264 30 = some (.imul, 1) ∧ mc_cd 264 31 = some (.aload_n 0, 1) ∧ mc_cd 264 32 = some (.getfield 39, 3) ∧ mc_cd 264 35 = some (.iload_n 1, 1) ∧ mc_cd 264 36 = some (.iaload, 1) ∧ mc_cd 264 37 = some (.iadd, 1) ∧ mc_cd 264 38 = some (.iaload, 1) := by decide +kernel
theorem c264_29 : mc_cd 264 29 = some (.iload_n 1, 1) := cg264_29.1
theorem c264_30 : mc_cd 264 30 = some (.imul, 1) := cg264_29.2.1
theorem c264_31 : mc_cd 264 31 = some (.aload_n 0, 1) := cg264_29.2.2.1
theorem c264_32 : mc_cd 264 32 = some (.getfield 39, 3) := cg264_29.2.2.2.1
theorem c264_35 : mc_cd 264 35 = some (.iload_n 1, 1) := cg264_29.2.2.2.2.1
theorem c264_36 : mc_cd 264 36 = some (.iaload, 1) := cg264_29.2.2.2.2.2.1
theorem c264_37 : mc_cd 264 37 = some (.iadd, 1) := cg264_29.2.2.2.2.2.2.1
theorem c264_38 : mc_cd 264 38 = some (.iaload, 1) := cg264_29.2.2.2.2.2.2.2
theorem cg264_39 : mc_cd 264 39 = some (.istore 6, 2) ∧ mc_cd 264 41 = some (.iload 5, 2) ∧ mc_cd 264 43 = some (.ifCond .eq 24, 3) ∧ mc_cd 264 46 = some (.iload_n 3, 1) ∧ mc_cd 264 47 = some (.ifCond .eq 13, 3) ∧ mc_cd 264 50 = some (.iload 6, 2) ∧ mc_cd 264 52 = some (.iload 4, 2) ∧ mc_cd 264 54 = some (.if_icmp .le 18, 3) := by decide +kernel
theorem c264_39 : mc_cd 264 39 = some (.istore 6, 2) := cg264_39.1
theorem c264_41 : mc_cd 264 41 = some (.iload 5, 2) := cg264_39.2.1
theorem c264_43 : mc_cd 264 43 = some (.ifCond .eq 24, 3) := cg264_39.2.2.1
theorem c264_46 : mc_cd 264 46 = some (.iload_n 3, 1) := cg264_39.2.2.2.1
theorem c264_47 : mc_cd 264 47 = some (.ifCond .eq 13, 3) := cg264_39.2.2.2.2.1
theorem c264_50 : mc_cd 264 50 = some (.iload 6, 2) := cg264_39.2.2.2.2.2.1
theorem c264_52 : mc_cd 264 52 = some (.iload 4, 2) := cg264_39.2.2.2.2.2.2.1
theorem c264_54 : mc_cd 264 54 = some (.if_icmp .le 18, 3) := cg264_39.2.2.2.2.2.2.2
theorem cg264_57 : mc_cd 264 57 = some (.goto 10, 3) ∧ mc_cd 264 60 = some (.iload 6, 2) ∧ mc_cd 264 62 = some (.iload 4, 2) ∧ mc_cd 264 64 = some (.if_icmp .ge 8, 3) ∧ mc_cd 264 67 = some (.iload 6, 2) ∧ mc_cd 264 69 = some (.goto 5, 3) ∧ mc_cd 264 72 = some (.iload 4, 2) ∧ mc_cd 264 74 = some (.istore 4, 2) := by decide +kernel
theorem c264_57 : mc_cd 264 57 = some (.goto 10, 3) := cg264_57.1
theorem c264_60 : mc_cd 264 60 = some (.iload 6, 2) := cg264_57.2.1
theorem c264_62 : mc_cd 264 62 = some (.iload 4, 2) := cg264_57.2.2.1
theorem c264_64 : mc_cd 264 64 = some (.if_icmp .ge 8, 3) := cg264_57.2.2.2.1
theorem c264_67 : mc_cd 264 67 = some (.iload 6, 2) := cg264_57.2.2.2.2.1
theorem c264_69 : mc_cd 264 69 = some (.goto 5, 3) := cg264_57.2.2.2.2.2.1
theorem c264_72 : mc_cd 264 72 = some (.iload 4, 2) := cg264_57.2.2.2.2.2.2.1
theorem c264_74 : mc_cd 264 74 = some (.istore 4, 2) := cg264_57.2.2.2.2.2.2.2
theorem cg264_76 : mc_cd 264 76 = some (.iinc 5 1, 3) ∧ mc_cd 264 79 = some (.goto (-73), 3) ∧ mc_cd 264 82 = some (.iload 4, 2) ∧ mc_cd 264 84 = some (.ireturn, 1) := by decide +kernel
theorem c264_76 : mc_cd 264 76 = some (.iinc 5 1, 3) := cg264_76.1
theorem c264_79 : mc_cd 264 79 = some (.goto (-73), 3) := cg264_76.2.1
theorem c264_82 : mc_cd 264 82 = some (.iload 4, 2) := cg264_76.2.2.1
theorem c264_84 : mc_cd 264 84 = some (.ireturn, 1) := cg264_76.2.2.2
abbrev q_264_m_bed (r0 : Nat) (a1 : Int) (r2 : Nat) (a3 : Int) (pp : Nat) (T : wq_T) (H : wq_H) : Option Value → wq_T → wq_H → Prop := fun r T' H' => T = T' ∧ WT T H' ∧ wfr [(51, 999)] T H H' ∧ ∃ z : Int, some (vI z) = r ∧ ((-2147483648) ≤ z ∧ z ≤ 2147483647)
set_option maxHeartbeats 4000000 in
theorem s_264_m_bed {kt : Nat → Option mc_E} {T : wq_T} {H : wq_H} {r0 : Nat} {a1 : Int} {r2 : Nat} {a3 : Int} {pp : Nat} (hW : WT T H) (g0 : T.2.2.2 r0 = some 42) (i1 : 0 ≤ a1 ∧ a1 ≤ 5) (g2 : T.2.2.2 r2 = some 46) (i3 : 0 ≤ a3 ∧ a3 ≤ 1) (qpp : H r0 3 = (pp : Int)) (gpp : T.2.2.2 pp = some 54) (p0 : H r0 29 = 0 ∨ 0 < wLM H r0) : wpc kt 2 264 [.ref r0, vI a1, .ref r2, vI a3] T H (q_264_m_bed r0 a1 r2 a3 pp T H) := by
  refine wp_enter e264 (Nat.le_of_ble_eq_true rfl) rfl ?_
  have f0 : wfr [(51, 999)] T H H := wfr.rf
  show wp _ _ 264 0 [(0, .ref r0), (1, vI a1), (2, .ref r2), (3, vI a3)] [] _ H _
  have b146947 : 0 ≤ H r0 29 ∧ H r0 29 ≤ 20000 := hW.box g0 (n := 33) rfl (by decide) rfl
  refine wp_of e264 c264_0 (rw_iconst (pc' := 1) rfl ?_)
  refine wp_of e264 c264_1 (rw_istore (pc' := 3) (z := 0) (L' := [(4, vI 0), (0, .ref r0), (1, vI a1), (2, .ref r2), (3, vI a3)]) rfl rfl rfl ?_)
  refine wp_of e264 c264_3 (rw_iconst (pc' := 4) rfl ?_)
  refine wp_of e264 c264_4 (rw_istore (pc' := 6) (z := 0) (L' := [(5, vI 0), (4, vI 0), (0, .ref r0), (1, vI a1), (2, .ref r2), (3, vI a3)]) rfl rfl rfl ?_)
  have lp147201 : ∀ (n147202 : Nat) (v147204 : Int) (v147205 : Int) (H147206 : wq_H), WT T H147206 → wfr [(51, 999)] T H H147206 → (0 ≤ v147204 ∧ v147204 ≤ 20000) → (0 ≤ v147205 ∧ v147205 ≤ 30) → (20000 - v147204).toNat = n147202 → wp kt 1 264 6 [(5, vI v147204), (4, vI v147205), (0, .ref r0), (1, vI a1), (2, .ref r2), (3, vI a3)] [] T H147206 (q_264_m_bed r0 a1 r2 a3 pp T H) := by
    intro n147202
    induction n147202 using Nat.strongRecOn with
    | _ n147202 ih147203 =>
      intro v147204 v147205 H147206 w147207 f147208 b147209 b147210 m147211
      have f147212 := f0.tr f147208 rfl
      refine wp_of e264 c264_6 (rw_iload (pc' := 8) (z := v147204) rfl rfl ?_)
      refine wp_of e264 c264_8 (rw_aload_n (pc' := 9) (v := .ref r0) rfl rfl rfl ?_)
      have k147213 : H147206 r0 29 = H r0 29 := (f147208 r0 29 _ g0 rfl)
      refine wp_of e264 c264_9 (xg_I (pc' := 12) lf_9_422 w147207 g0 sh_42 (by decide) (by decide) ty_42_29 rfl rfl (fun b147214 b147215 => ?_))
      refine wp_of e264 c264_12 (rw_icmp_ge (p1 := 82) (p2 := 15) (by decide) rfl ⟨by omega, by omega⟩ ⟨by omega, by omega⟩ (fun c147216 => ?_) (fun c147216 => ?_))
      · refine wp_of e264 c264_82 (rw_iload (pc' := 84) (z := v147205) rfl rfl ?_)
        exact wp_ireturn e264 c264_84 rfl ⟨rfl, w147207, f147212, v147205, rfl, ⟨by omega, by omega⟩⟩
      · refine wp_of e264 c264_15 (rw_aload_n (pc' := 16) (v := .ref r0) rfl rfl rfl ?_)
        refine wp_of e264 c264_16 (rw_aload_n (pc' := 17) (v := .ref r0) rfl rfl rfl ?_)
        refine wp_of e264 c264_17 (xg_R (pc' := 20) lf_9_42 w147207 g0 sh_42 (by decide) (by decide) ty_42_30 rfl rfl (fun r147217 q147218 g147219 => ?_))
        refine wp_of e264 c264_20 (rw_iload (pc' := 22) (z := v147204) rfl rfl ?_)
        refine wp_of e264 c264_22 (xa_I (so := 0) (pc' := 23) w147207 g147219 sh_52 (by decide) (ty_52 _) (by omega) (by omega) rfl (fun b147220 b147221 => ?_))
        have k147222 : wLM H147206 r0 = wLM H r0 := (wLM_fr hW g0 f147208 rfl)
        have k147223 : H147206 r0 3 = H r0 3 := (f147208 r0 3 _ g0 rfl)
        have q147224 : H147206 r0 3 = (pp : Int) := k147223.trans qpp
        refine wp_of e264 c264_23 (xc_V (pc' := 26) (r := r0) (as := [vI (H147206 r147217 (v147204.toNat))]) (st := []) (lm_9_425) rfl rfl (Nat.le_of_ble_eq_true rfl) w147207 g0 sh_42 (by decide) rfl (by decide) (s_243 w147207 g0 ⟨by omega, by omega⟩ q147224 gpp (by omega)) (fun R147225 T147226 H147227 p147228 => ?_))
        obtain ⟨e147229, w147231, f147232, e147230⟩ := p147228
        subst e147229
        subst e147230
        have f147233 := f147212.tr f147232 rfl
        have f147234 := f147208.tr f147232 rfl
        show wp _ _ 264 26 [(5, vI v147204), (4, vI v147205), (0, .ref r0), (1, vI a1), (2, .ref r2), (3, vI a3)] [] _ H147227 _
        refine wp_of e264 c264_26 (rw_aload_n (pc' := 27) (v := .ref r2) rfl rfl rfl ?_)
        refine wp_of e264 c264_27 (rw_bipush (pc' := 29) (z := 40) rfl (by decide) ?_)
        refine wp_of e264 c264_29 (rw_iload_n (pc' := 30) (z := a1) rfl rfl ?_)
        refine wp_of e264 c264_30 (rw_imul (pc' := 31) rfl ?_)
        refine wp_of e264 c264_31 (rw_aload_n (pc' := 32) (v := .ref r0) rfl rfl rfl ?_)
        refine wp_of e264 c264_32 (xg_R (pc' := 35) lf_9_39 w147231 g0 sh_42 (by decide) (by decide) ty_42_27 rfl rfl (fun r147235 q147236 g147237 => ?_))
        refine wp_of e264 c264_35 (rw_iload_n (pc' := 36) (z := a1) rfl rfl ?_)
        refine wp_of e264 c264_36 (xa_I (so := 0) (pc' := 37) w147231 g147237 sh_51 (by decide) (ty_51 _) (by omega) (by omega) rfl (fun b147238 b147239 => ?_))
        refine wp_of e264 c264_37 (rw_iadd (pc' := 38) rfl ?_)
        refine wp_of e264 c264_38 (xa_I (so := 0) (pc' := 39) w147231 g2 sh_46 (by decide) (ty_46 _) (by omega) (by omega) rfl (fun b147240 b147241 => ?_))
        refine wp_of e264 c264_39 (rw_istore (pc' := 41) (z := H147227 r2 (((40 * a1) + (H147227 r147235 (a1.toNat))).toNat)) (L' := [(6, vI (H147227 r2 (((40 * a1) + (H147227 r147235 (a1.toNat))).toNat))), (5, vI v147204), (4, vI v147205), (0, .ref r0), (1, vI a1), (2, .ref r2), (3, vI a3)]) rfl rfl rfl ?_)
        refine wp_of e264 c264_41 (rw_iload (pc' := 43) (z := v147204) rfl rfl ?_)
        refine wp_of e264 c264_43 (rw_if_eq (p1 := 67) (p2 := 46) (by decide) rfl ⟨by omega, by omega⟩ (fun c147242 => ?_) (fun c147242 => ?_))
        · refine wp_of e264 c264_67 (rw_iload (pc' := 69) (z := H147227 r2 (((40 * a1) + (H147227 r147235 (a1.toNat))).toNat)) rfl rfl ?_)
          refine wp_of e264 c264_69 (rw_goto (p1 := 74) (by decide) ?_)
          refine wp_of e264 c264_74 (rw_istore (pc' := 76) (z := H147227 r2 (((40 * a1) + (H147227 r147235 (a1.toNat))).toNat)) (L' := [(4, vI (H147227 r2 (((40 * a1) + (H147227 r147235 (a1.toNat))).toNat))), (6, vI (H147227 r2 (((40 * a1) + (H147227 r147235 (a1.toNat))).toNat))), (5, vI v147204), (0, .ref r0), (1, vI a1), (2, .ref r2), (3, vI a3)]) rfl rfl rfl ?_)
          refine wp_of e264 c264_76 (rw_iinc (pc' := 79) (z := v147204) (L' := [(5, vI (v147204 + 1)), (4, vI (H147227 r2 (((40 * a1) + (H147227 r147235 (a1.toNat))).toNat))), (6, vI (H147227 r2 (((40 * a1) + (H147227 r147235 (a1.toNat))).toNat))), (0, .ref r0), (1, vI a1), (2, .ref r2), (3, vI a3)]) rfl rfl rfl rfl ?_)
          refine wp_of e264 c264_79 (rw_goto (p1 := 6) (by decide) ?_)
          exact wp_lc (ks := [5, 4, 6, 0, 1, 2, 3]) (wl_c rfl (wl_c rfl (wl_c rfl (wl_c rfl (wl_c rfl (wl_c rfl wl_n)))))) rfl (by decide) (ih147203 _ (by omega) (v147204 + 1) (H147227 r2 (((40 * a1) + (H147227 r147235 (a1.toNat))).toNat)) H147227 w147231 f147234 ⟨by omega, by omega⟩ ⟨by omega, by omega⟩ rfl)
        · refine wp_of e264 c264_46 (rw_iload_n (pc' := 47) (z := a3) rfl rfl ?_)
          refine wp_of e264 c264_47 (rw_if_eq (p1 := 60) (p2 := 50) (by decide) rfl ⟨by omega, by omega⟩ (fun c147243 => ?_) (fun c147243 => ?_))
          · refine wp_of e264 c264_60 (rw_iload (pc' := 62) (z := H147227 r2 (((40 * a1) + (H147227 r147235 (a1.toNat))).toNat)) rfl rfl ?_)
            refine wp_of e264 c264_62 (rw_iload (pc' := 64) (z := v147205) rfl rfl ?_)
            refine wp_of e264 c264_64 (rw_icmp_ge (p1 := 72) (p2 := 67) (by decide) rfl ⟨by omega, by omega⟩ ⟨by omega, by omega⟩ (fun c147244 => ?_) (fun c147244 => ?_))
            · refine wp_of e264 c264_72 (rw_iload (pc' := 74) (z := v147205) rfl rfl ?_)
              refine wp_of e264 c264_74 (rw_istore (pc' := 76) (z := v147205) (L' := [(4, vI v147205), (6, vI (H147227 r2 (((40 * a1) + (H147227 r147235 (a1.toNat))).toNat))), (5, vI v147204), (0, .ref r0), (1, vI a1), (2, .ref r2), (3, vI a3)]) rfl rfl rfl ?_)
              refine wp_of e264 c264_76 (rw_iinc (pc' := 79) (z := v147204) (L' := [(5, vI (v147204 + 1)), (4, vI v147205), (6, vI (H147227 r2 (((40 * a1) + (H147227 r147235 (a1.toNat))).toNat))), (0, .ref r0), (1, vI a1), (2, .ref r2), (3, vI a3)]) rfl rfl rfl rfl ?_)
              refine wp_of e264 c264_79 (rw_goto (p1 := 6) (by decide) ?_)
              exact wp_lc (ks := [5, 4, 6, 0, 1, 2, 3]) (wl_c rfl (wl_c rfl (wl_c rfl (wl_c rfl (wl_c rfl (wl_c rfl wl_n)))))) rfl (by decide) (ih147203 _ (by omega) (v147204 + 1) v147205 H147227 w147231 f147234 ⟨by omega, by omega⟩ ⟨by omega, by omega⟩ rfl)
            · refine wp_of e264 c264_67 (rw_iload (pc' := 69) (z := H147227 r2 (((40 * a1) + (H147227 r147235 (a1.toNat))).toNat)) rfl rfl ?_)
              refine wp_of e264 c264_69 (rw_goto (p1 := 74) (by decide) ?_)
              refine wp_of e264 c264_74 (rw_istore (pc' := 76) (z := H147227 r2 (((40 * a1) + (H147227 r147235 (a1.toNat))).toNat)) (L' := [(4, vI (H147227 r2 (((40 * a1) + (H147227 r147235 (a1.toNat))).toNat))), (6, vI (H147227 r2 (((40 * a1) + (H147227 r147235 (a1.toNat))).toNat))), (5, vI v147204), (0, .ref r0), (1, vI a1), (2, .ref r2), (3, vI a3)]) rfl rfl rfl ?_)
              refine wp_of e264 c264_76 (rw_iinc (pc' := 79) (z := v147204) (L' := [(5, vI (v147204 + 1)), (4, vI (H147227 r2 (((40 * a1) + (H147227 r147235 (a1.toNat))).toNat))), (6, vI (H147227 r2 (((40 * a1) + (H147227 r147235 (a1.toNat))).toNat))), (0, .ref r0), (1, vI a1), (2, .ref r2), (3, vI a3)]) rfl rfl rfl rfl ?_)
              refine wp_of e264 c264_79 (rw_goto (p1 := 6) (by decide) ?_)
              exact wp_lc (ks := [5, 4, 6, 0, 1, 2, 3]) (wl_c rfl (wl_c rfl (wl_c rfl (wl_c rfl (wl_c rfl (wl_c rfl wl_n)))))) rfl (by decide) (ih147203 _ (by omega) (v147204 + 1) (H147227 r2 (((40 * a1) + (H147227 r147235 (a1.toNat))).toNat)) H147227 w147231 f147234 ⟨by omega, by omega⟩ ⟨by omega, by omega⟩ rfl)
          · refine wp_of e264 c264_50 (rw_iload (pc' := 52) (z := H147227 r2 (((40 * a1) + (H147227 r147235 (a1.toNat))).toNat)) rfl rfl ?_)
            refine wp_of e264 c264_52 (rw_iload (pc' := 54) (z := v147205) rfl rfl ?_)
            refine wp_of e264 c264_54 (rw_icmp_le (p1 := 72) (p2 := 57) (by decide) rfl ⟨by omega, by omega⟩ ⟨by omega, by omega⟩ (fun c147245 => ?_) (fun c147245 => ?_))
            · refine wp_of e264 c264_72 (rw_iload (pc' := 74) (z := v147205) rfl rfl ?_)
              refine wp_of e264 c264_74 (rw_istore (pc' := 76) (z := v147205) (L' := [(4, vI v147205), (6, vI (H147227 r2 (((40 * a1) + (H147227 r147235 (a1.toNat))).toNat))), (5, vI v147204), (0, .ref r0), (1, vI a1), (2, .ref r2), (3, vI a3)]) rfl rfl rfl ?_)
              refine wp_of e264 c264_76 (rw_iinc (pc' := 79) (z := v147204) (L' := [(5, vI (v147204 + 1)), (4, vI v147205), (6, vI (H147227 r2 (((40 * a1) + (H147227 r147235 (a1.toNat))).toNat))), (0, .ref r0), (1, vI a1), (2, .ref r2), (3, vI a3)]) rfl rfl rfl rfl ?_)
              refine wp_of e264 c264_79 (rw_goto (p1 := 6) (by decide) ?_)
              exact wp_lc (ks := [5, 4, 6, 0, 1, 2, 3]) (wl_c rfl (wl_c rfl (wl_c rfl (wl_c rfl (wl_c rfl (wl_c rfl wl_n)))))) rfl (by decide) (ih147203 _ (by omega) (v147204 + 1) v147205 H147227 w147231 f147234 ⟨by omega, by omega⟩ ⟨by omega, by omega⟩ rfl)
            · refine wp_of e264 c264_57 (rw_goto (p1 := 67) (by decide) ?_)
              refine wp_of e264 c264_67 (rw_iload (pc' := 69) (z := H147227 r2 (((40 * a1) + (H147227 r147235 (a1.toNat))).toNat)) rfl rfl ?_)
              refine wp_of e264 c264_69 (rw_goto (p1 := 74) (by decide) ?_)
              refine wp_of e264 c264_74 (rw_istore (pc' := 76) (z := H147227 r2 (((40 * a1) + (H147227 r147235 (a1.toNat))).toNat)) (L' := [(4, vI (H147227 r2 (((40 * a1) + (H147227 r147235 (a1.toNat))).toNat))), (6, vI (H147227 r2 (((40 * a1) + (H147227 r147235 (a1.toNat))).toNat))), (5, vI v147204), (0, .ref r0), (1, vI a1), (2, .ref r2), (3, vI a3)]) rfl rfl rfl ?_)
              refine wp_of e264 c264_76 (rw_iinc (pc' := 79) (z := v147204) (L' := [(5, vI (v147204 + 1)), (4, vI (H147227 r2 (((40 * a1) + (H147227 r147235 (a1.toNat))).toNat))), (6, vI (H147227 r2 (((40 * a1) + (H147227 r147235 (a1.toNat))).toNat))), (0, .ref r0), (1, vI a1), (2, .ref r2), (3, vI a3)]) rfl rfl rfl rfl ?_)
              refine wp_of e264 c264_79 (rw_goto (p1 := 6) (by decide) ?_)
              exact wp_lc (ks := [5, 4, 6, 0, 1, 2, 3]) (wl_c rfl (wl_c rfl (wl_c rfl (wl_c rfl (wl_c rfl (wl_c rfl wl_n)))))) rfl (by decide) (ih147203 _ (by omega) (v147204 + 1) (H147227 r2 (((40 * a1) + (H147227 r147235 (a1.toNat))).toNat)) H147227 w147231 f147234 ⟨by omega, by omega⟩ ⟨by omega, by omega⟩ rfl)
  exact wp_lc (ks := [5, 4, 0, 1, 2, 3]) (wl_c rfl (wl_c rfl (wl_c rfl (wl_c rfl (wl_c rfl (wl_c rfl wl_n)))))) rfl (by decide) (lp147201 _ 0 0 H hW wfr.rf ⟨by omega, by omega⟩ ⟨by omega, by omega⟩ rfl)

/-! StrikeAwakeModel.extreme(I[IZ)I -/
abbrev q_264_m_length (r0 : Nat) (a1 : Int) (r2 : Nat) (a3 : Int) (pp : Nat) (T : wq_T) (H : wq_H) : Option Value → wq_T → wq_H → Prop := fun r T' H' => T = T' ∧ WT T H' ∧ wfr [(51, 999)] T H H' ∧ ∃ z : Int, some (vI z) = r ∧ ((-2147483648) ≤ z ∧ z ≤ 2147483647)
set_option maxHeartbeats 4000000 in
theorem s_264_m_length {kt : Nat → Option mc_E} {T : wq_T} {H : wq_H} {r0 : Nat} {a1 : Int} {r2 : Nat} {a3 : Int} {pp : Nat} (hW : WT T H) (g0 : T.2.2.2 r0 = some 42) (i1 : 0 ≤ a1 ∧ a1 ≤ 5) (g2 : T.2.2.2 r2 = some 47) (i3 : 0 ≤ a3 ∧ a3 ≤ 1) (qpp : H r0 3 = (pp : Int)) (gpp : T.2.2.2 pp = some 54) (p0 : H r0 29 = 0 ∨ 0 < wLM H r0) : wpc kt 2 264 [.ref r0, vI a1, .ref r2, vI a3] T H (q_264_m_length r0 a1 r2 a3 pp T H) := by
  refine wp_enter e264 (Nat.le_of_ble_eq_true rfl) rfl ?_
  have f0 : wfr [(51, 999)] T H H := wfr.rf
  show wp _ _ 264 0 [(0, .ref r0), (1, vI a1), (2, .ref r2), (3, vI a3)] [] _ H _
  have b147532 : 0 ≤ H r0 29 ∧ H r0 29 ≤ 20000 := hW.box g0 (n := 33) rfl (by decide) rfl
  refine wp_of e264 c264_0 (rw_iconst (pc' := 1) rfl ?_)
  refine wp_of e264 c264_1 (rw_istore (pc' := 3) (z := 0) (L' := [(4, vI 0), (0, .ref r0), (1, vI a1), (2, .ref r2), (3, vI a3)]) rfl rfl rfl ?_)
  refine wp_of e264 c264_3 (rw_iconst (pc' := 4) rfl ?_)
  refine wp_of e264 c264_4 (rw_istore (pc' := 6) (z := 0) (L' := [(5, vI 0), (4, vI 0), (0, .ref r0), (1, vI a1), (2, .ref r2), (3, vI a3)]) rfl rfl rfl ?_)
  have lp147786 : ∀ (n147787 : Nat) (v147789 : Int) (v147790 : Int) (H147791 : wq_H), WT T H147791 → wfr [(51, 999)] T H H147791 → (0 ≤ v147789 ∧ v147789 ≤ 20000) → (0 ≤ v147790 ∧ v147790 ≤ 16) → (20000 - v147789).toNat = n147787 → wp kt 1 264 6 [(5, vI v147789), (4, vI v147790), (0, .ref r0), (1, vI a1), (2, .ref r2), (3, vI a3)] [] T H147791 (q_264_m_length r0 a1 r2 a3 pp T H) := by
    intro n147787
    induction n147787 using Nat.strongRecOn with
    | _ n147787 ih147788 =>
      intro v147789 v147790 H147791 w147792 f147793 b147794 b147795 m147796
      have f147797 := f0.tr f147793 rfl
      refine wp_of e264 c264_6 (rw_iload (pc' := 8) (z := v147789) rfl rfl ?_)
      refine wp_of e264 c264_8 (rw_aload_n (pc' := 9) (v := .ref r0) rfl rfl rfl ?_)
      have k147798 : H147791 r0 29 = H r0 29 := (f147793 r0 29 _ g0 rfl)
      refine wp_of e264 c264_9 (xg_I (pc' := 12) lf_9_422 w147792 g0 sh_42 (by decide) (by decide) ty_42_29 rfl rfl (fun b147799 b147800 => ?_))
      refine wp_of e264 c264_12 (rw_icmp_ge (p1 := 82) (p2 := 15) (by decide) rfl ⟨by omega, by omega⟩ ⟨by omega, by omega⟩ (fun c147801 => ?_) (fun c147801 => ?_))
      · refine wp_of e264 c264_82 (rw_iload (pc' := 84) (z := v147790) rfl rfl ?_)
        exact wp_ireturn e264 c264_84 rfl ⟨rfl, w147792, f147797, v147790, rfl, ⟨by omega, by omega⟩⟩
      · refine wp_of e264 c264_15 (rw_aload_n (pc' := 16) (v := .ref r0) rfl rfl rfl ?_)
        refine wp_of e264 c264_16 (rw_aload_n (pc' := 17) (v := .ref r0) rfl rfl rfl ?_)
        refine wp_of e264 c264_17 (xg_R (pc' := 20) lf_9_42 w147792 g0 sh_42 (by decide) (by decide) ty_42_30 rfl rfl (fun r147802 q147803 g147804 => ?_))
        refine wp_of e264 c264_20 (rw_iload (pc' := 22) (z := v147789) rfl rfl ?_)
        refine wp_of e264 c264_22 (xa_I (so := 0) (pc' := 23) w147792 g147804 sh_52 (by decide) (ty_52 _) (by omega) (by omega) rfl (fun b147805 b147806 => ?_))
        have k147807 : wLM H147791 r0 = wLM H r0 := (wLM_fr hW g0 f147793 rfl)
        have k147808 : H147791 r0 3 = H r0 3 := (f147793 r0 3 _ g0 rfl)
        have q147809 : H147791 r0 3 = (pp : Int) := k147808.trans qpp
        refine wp_of e264 c264_23 (xc_V (pc' := 26) (r := r0) (as := [vI (H147791 r147802 (v147789.toNat))]) (st := []) (lm_9_425) rfl rfl (Nat.le_of_ble_eq_true rfl) w147792 g0 sh_42 (by decide) rfl (by decide) (s_243 w147792 g0 ⟨by omega, by omega⟩ q147809 gpp (by omega)) (fun R147810 T147811 H147812 p147813 => ?_))
        obtain ⟨e147814, w147816, f147817, e147815⟩ := p147813
        subst e147814
        subst e147815
        have f147818 := f147797.tr f147817 rfl
        have f147819 := f147793.tr f147817 rfl
        show wp _ _ 264 26 [(5, vI v147789), (4, vI v147790), (0, .ref r0), (1, vI a1), (2, .ref r2), (3, vI a3)] [] _ H147812 _
        refine wp_of e264 c264_26 (rw_aload_n (pc' := 27) (v := .ref r2) rfl rfl rfl ?_)
        refine wp_of e264 c264_27 (rw_bipush (pc' := 29) (z := 40) rfl (by decide) ?_)
        refine wp_of e264 c264_29 (rw_iload_n (pc' := 30) (z := a1) rfl rfl ?_)
        refine wp_of e264 c264_30 (rw_imul (pc' := 31) rfl ?_)
        refine wp_of e264 c264_31 (rw_aload_n (pc' := 32) (v := .ref r0) rfl rfl rfl ?_)
        refine wp_of e264 c264_32 (xg_R (pc' := 35) lf_9_39 w147816 g0 sh_42 (by decide) (by decide) ty_42_27 rfl rfl (fun r147820 q147821 g147822 => ?_))
        refine wp_of e264 c264_35 (rw_iload_n (pc' := 36) (z := a1) rfl rfl ?_)
        refine wp_of e264 c264_36 (xa_I (so := 0) (pc' := 37) w147816 g147822 sh_51 (by decide) (ty_51 _) (by omega) (by omega) rfl (fun b147823 b147824 => ?_))
        refine wp_of e264 c264_37 (rw_iadd (pc' := 38) rfl ?_)
        refine wp_of e264 c264_38 (xa_I (so := 0) (pc' := 39) w147816 g2 sh_47 (by decide) (ty_47 _) (by omega) (by omega) rfl (fun b147825 b147826 => ?_))
        refine wp_of e264 c264_39 (rw_istore (pc' := 41) (z := H147812 r2 (((40 * a1) + (H147812 r147820 (a1.toNat))).toNat)) (L' := [(6, vI (H147812 r2 (((40 * a1) + (H147812 r147820 (a1.toNat))).toNat))), (5, vI v147789), (4, vI v147790), (0, .ref r0), (1, vI a1), (2, .ref r2), (3, vI a3)]) rfl rfl rfl ?_)
        refine wp_of e264 c264_41 (rw_iload (pc' := 43) (z := v147789) rfl rfl ?_)
        refine wp_of e264 c264_43 (rw_if_eq (p1 := 67) (p2 := 46) (by decide) rfl ⟨by omega, by omega⟩ (fun c147827 => ?_) (fun c147827 => ?_))
        · refine wp_of e264 c264_67 (rw_iload (pc' := 69) (z := H147812 r2 (((40 * a1) + (H147812 r147820 (a1.toNat))).toNat)) rfl rfl ?_)
          refine wp_of e264 c264_69 (rw_goto (p1 := 74) (by decide) ?_)
          refine wp_of e264 c264_74 (rw_istore (pc' := 76) (z := H147812 r2 (((40 * a1) + (H147812 r147820 (a1.toNat))).toNat)) (L' := [(4, vI (H147812 r2 (((40 * a1) + (H147812 r147820 (a1.toNat))).toNat))), (6, vI (H147812 r2 (((40 * a1) + (H147812 r147820 (a1.toNat))).toNat))), (5, vI v147789), (0, .ref r0), (1, vI a1), (2, .ref r2), (3, vI a3)]) rfl rfl rfl ?_)
          refine wp_of e264 c264_76 (rw_iinc (pc' := 79) (z := v147789) (L' := [(5, vI (v147789 + 1)), (4, vI (H147812 r2 (((40 * a1) + (H147812 r147820 (a1.toNat))).toNat))), (6, vI (H147812 r2 (((40 * a1) + (H147812 r147820 (a1.toNat))).toNat))), (0, .ref r0), (1, vI a1), (2, .ref r2), (3, vI a3)]) rfl rfl rfl rfl ?_)
          refine wp_of e264 c264_79 (rw_goto (p1 := 6) (by decide) ?_)
          exact wp_lc (ks := [5, 4, 6, 0, 1, 2, 3]) (wl_c rfl (wl_c rfl (wl_c rfl (wl_c rfl (wl_c rfl (wl_c rfl wl_n)))))) rfl (by decide) (ih147788 _ (by omega) (v147789 + 1) (H147812 r2 (((40 * a1) + (H147812 r147820 (a1.toNat))).toNat)) H147812 w147816 f147819 ⟨by omega, by omega⟩ ⟨by omega, by omega⟩ rfl)
        · refine wp_of e264 c264_46 (rw_iload_n (pc' := 47) (z := a3) rfl rfl ?_)
          refine wp_of e264 c264_47 (rw_if_eq (p1 := 60) (p2 := 50) (by decide) rfl ⟨by omega, by omega⟩ (fun c147828 => ?_) (fun c147828 => ?_))
          · refine wp_of e264 c264_60 (rw_iload (pc' := 62) (z := H147812 r2 (((40 * a1) + (H147812 r147820 (a1.toNat))).toNat)) rfl rfl ?_)
            refine wp_of e264 c264_62 (rw_iload (pc' := 64) (z := v147790) rfl rfl ?_)
            refine wp_of e264 c264_64 (rw_icmp_ge (p1 := 72) (p2 := 67) (by decide) rfl ⟨by omega, by omega⟩ ⟨by omega, by omega⟩ (fun c147829 => ?_) (fun c147829 => ?_))
            · refine wp_of e264 c264_72 (rw_iload (pc' := 74) (z := v147790) rfl rfl ?_)
              refine wp_of e264 c264_74 (rw_istore (pc' := 76) (z := v147790) (L' := [(4, vI v147790), (6, vI (H147812 r2 (((40 * a1) + (H147812 r147820 (a1.toNat))).toNat))), (5, vI v147789), (0, .ref r0), (1, vI a1), (2, .ref r2), (3, vI a3)]) rfl rfl rfl ?_)
              refine wp_of e264 c264_76 (rw_iinc (pc' := 79) (z := v147789) (L' := [(5, vI (v147789 + 1)), (4, vI v147790), (6, vI (H147812 r2 (((40 * a1) + (H147812 r147820 (a1.toNat))).toNat))), (0, .ref r0), (1, vI a1), (2, .ref r2), (3, vI a3)]) rfl rfl rfl rfl ?_)
              refine wp_of e264 c264_79 (rw_goto (p1 := 6) (by decide) ?_)
              exact wp_lc (ks := [5, 4, 6, 0, 1, 2, 3]) (wl_c rfl (wl_c rfl (wl_c rfl (wl_c rfl (wl_c rfl (wl_c rfl wl_n)))))) rfl (by decide) (ih147788 _ (by omega) (v147789 + 1) v147790 H147812 w147816 f147819 ⟨by omega, by omega⟩ ⟨by omega, by omega⟩ rfl)
            · refine wp_of e264 c264_67 (rw_iload (pc' := 69) (z := H147812 r2 (((40 * a1) + (H147812 r147820 (a1.toNat))).toNat)) rfl rfl ?_)
              refine wp_of e264 c264_69 (rw_goto (p1 := 74) (by decide) ?_)
              refine wp_of e264 c264_74 (rw_istore (pc' := 76) (z := H147812 r2 (((40 * a1) + (H147812 r147820 (a1.toNat))).toNat)) (L' := [(4, vI (H147812 r2 (((40 * a1) + (H147812 r147820 (a1.toNat))).toNat))), (6, vI (H147812 r2 (((40 * a1) + (H147812 r147820 (a1.toNat))).toNat))), (5, vI v147789), (0, .ref r0), (1, vI a1), (2, .ref r2), (3, vI a3)]) rfl rfl rfl ?_)
              refine wp_of e264 c264_76 (rw_iinc (pc' := 79) (z := v147789) (L' := [(5, vI (v147789 + 1)), (4, vI (H147812 r2 (((40 * a1) + (H147812 r147820 (a1.toNat))).toNat))), (6, vI (H147812 r2 (((40 * a1) + (H147812 r147820 (a1.toNat))).toNat))), (0, .ref r0), (1, vI a1), (2, .ref r2), (3, vI a3)]) rfl rfl rfl rfl ?_)
              refine wp_of e264 c264_79 (rw_goto (p1 := 6) (by decide) ?_)
              exact wp_lc (ks := [5, 4, 6, 0, 1, 2, 3]) (wl_c rfl (wl_c rfl (wl_c rfl (wl_c rfl (wl_c rfl (wl_c rfl wl_n)))))) rfl (by decide) (ih147788 _ (by omega) (v147789 + 1) (H147812 r2 (((40 * a1) + (H147812 r147820 (a1.toNat))).toNat)) H147812 w147816 f147819 ⟨by omega, by omega⟩ ⟨by omega, by omega⟩ rfl)
          · refine wp_of e264 c264_50 (rw_iload (pc' := 52) (z := H147812 r2 (((40 * a1) + (H147812 r147820 (a1.toNat))).toNat)) rfl rfl ?_)
            refine wp_of e264 c264_52 (rw_iload (pc' := 54) (z := v147790) rfl rfl ?_)
            refine wp_of e264 c264_54 (rw_icmp_le (p1 := 72) (p2 := 57) (by decide) rfl ⟨by omega, by omega⟩ ⟨by omega, by omega⟩ (fun c147830 => ?_) (fun c147830 => ?_))
            · refine wp_of e264 c264_72 (rw_iload (pc' := 74) (z := v147790) rfl rfl ?_)
              refine wp_of e264 c264_74 (rw_istore (pc' := 76) (z := v147790) (L' := [(4, vI v147790), (6, vI (H147812 r2 (((40 * a1) + (H147812 r147820 (a1.toNat))).toNat))), (5, vI v147789), (0, .ref r0), (1, vI a1), (2, .ref r2), (3, vI a3)]) rfl rfl rfl ?_)
              refine wp_of e264 c264_76 (rw_iinc (pc' := 79) (z := v147789) (L' := [(5, vI (v147789 + 1)), (4, vI v147790), (6, vI (H147812 r2 (((40 * a1) + (H147812 r147820 (a1.toNat))).toNat))), (0, .ref r0), (1, vI a1), (2, .ref r2), (3, vI a3)]) rfl rfl rfl rfl ?_)
              refine wp_of e264 c264_79 (rw_goto (p1 := 6) (by decide) ?_)
              exact wp_lc (ks := [5, 4, 6, 0, 1, 2, 3]) (wl_c rfl (wl_c rfl (wl_c rfl (wl_c rfl (wl_c rfl (wl_c rfl wl_n)))))) rfl (by decide) (ih147788 _ (by omega) (v147789 + 1) v147790 H147812 w147816 f147819 ⟨by omega, by omega⟩ ⟨by omega, by omega⟩ rfl)
            · refine wp_of e264 c264_57 (rw_goto (p1 := 67) (by decide) ?_)
              refine wp_of e264 c264_67 (rw_iload (pc' := 69) (z := H147812 r2 (((40 * a1) + (H147812 r147820 (a1.toNat))).toNat)) rfl rfl ?_)
              refine wp_of e264 c264_69 (rw_goto (p1 := 74) (by decide) ?_)
              refine wp_of e264 c264_74 (rw_istore (pc' := 76) (z := H147812 r2 (((40 * a1) + (H147812 r147820 (a1.toNat))).toNat)) (L' := [(4, vI (H147812 r2 (((40 * a1) + (H147812 r147820 (a1.toNat))).toNat))), (6, vI (H147812 r2 (((40 * a1) + (H147812 r147820 (a1.toNat))).toNat))), (5, vI v147789), (0, .ref r0), (1, vI a1), (2, .ref r2), (3, vI a3)]) rfl rfl rfl ?_)
              refine wp_of e264 c264_76 (rw_iinc (pc' := 79) (z := v147789) (L' := [(5, vI (v147789 + 1)), (4, vI (H147812 r2 (((40 * a1) + (H147812 r147820 (a1.toNat))).toNat))), (6, vI (H147812 r2 (((40 * a1) + (H147812 r147820 (a1.toNat))).toNat))), (0, .ref r0), (1, vI a1), (2, .ref r2), (3, vI a3)]) rfl rfl rfl rfl ?_)
              refine wp_of e264 c264_79 (rw_goto (p1 := 6) (by decide) ?_)
              exact wp_lc (ks := [5, 4, 6, 0, 1, 2, 3]) (wl_c rfl (wl_c rfl (wl_c rfl (wl_c rfl (wl_c rfl (wl_c rfl wl_n)))))) rfl (by decide) (ih147788 _ (by omega) (v147789 + 1) (H147812 r2 (((40 * a1) + (H147812 r147820 (a1.toNat))).toNat)) H147812 w147816 f147819 ⟨by omega, by omega⟩ ⟨by omega, by omega⟩ rfl)
  exact wp_lc (ks := [5, 4, 0, 1, 2, 3]) (wl_c rfl (wl_c rfl (wl_c rfl (wl_c rfl (wl_c rfl (wl_c rfl wl_n)))))) rfl (by decide) (lp147786 _ 0 0 H hW wfr.rf ⟨by omega, by omega⟩ ⟨by omega, by omega⟩ rfl)
