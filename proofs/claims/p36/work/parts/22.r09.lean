/-! StrikeAwakeModel.isTold(I)Z -/
theorem e273 : wq_en 273 = some (9, 2, false, some FieldType.boolean) := rfl
theorem c273_0 : mc_cd 273 0 = some (.aload_n 0, 1) := by decide +kernel
theorem c273_1 : mc_cd 273 1 = some (.getfield 337, 3) := by decide +kernel
theorem c273_4 : mc_cd 273 4 = some (.ifnull 22, 3) := by decide +kernel
theorem c273_7 : mc_cd 273 7 = some (.iload_n 1, 1) := by decide +kernel
theorem c273_8 : mc_cd 273 8 = some (.ifCond .lt 18, 3) := by decide +kernel
theorem c273_11 : mc_cd 273 11 = some (.iload_n 1, 1) := by decide +kernel
theorem c273_12 : mc_cd 273 12 = some (.aload_n 0, 1) := by decide +kernel
theorem c273_13 : mc_cd 273 13 = some (.getfield 337, 3) := by decide +kernel
theorem c273_16 : mc_cd 273 16 = some (.getfield 306, 3) := by decide +kernel
theorem c273_19 : mc_cd 273 19 = some (.if_icmp .ge 7, 3) := by decide +kernel
theorem c273_22 : mc_cd 273 22 = some (.iconst 1, 1) := by decide +kernel
theorem c273_23 : mc_cd 273 23 = some (.goto 4, 3) := by decide +kernel
theorem c273_26 : mc_cd 273 26 = some (.iconst 0, 1) := by decide +kernel
theorem c273_27 : mc_cd 273 27 = some (.ireturn, 1) := by decide +kernel
/-! StrikeAwakeModel.barsOf(I)I -/
theorem e274 : wq_en 274 = some (9, 7, false, some FieldType.int) := rfl
theorem c274_0 : mc_cd 274 0 = some (.aload_n 0, 1) := by decide +kernel
theorem c274_1 : mc_cd 274 1 = some (.getfield 337, 3) := by decide +kernel
theorem c274_4 : mc_cd 274 4 = some (.getfield 312, 3) := by decide +kernel
theorem c274_7 : mc_cd 274 7 = some (.iload_n 1, 1) := by decide +kernel
theorem c274_8 : mc_cd 274 8 = some (.iaload, 1) := by decide +kernel
theorem c274_9 : mc_cd 274 9 = some (.istore_n 2, 1) := by decide +kernel
theorem c274_10 : mc_cd 274 10 = some (.aload_n 0, 1) := by decide +kernel
theorem c274_11 : mc_cd 274 11 = some (.getfield 337, 3) := by decide +kernel
theorem c274_14 : mc_cd 274 14 = some (.getfield 315, 3) := by decide +kernel
theorem c274_17 : mc_cd 274 17 = some (.iload_n 1, 1) := by decide +kernel
theorem c274_18 : mc_cd 274 18 = some (.iaload, 1) := by decide +kernel
theorem c274_19 : mc_cd 274 19 = some (.aload_n 0, 1) := by decide +kernel
theorem c274_20 : mc_cd 274 20 = some (.getfield 343, 3) := by decide +kernel
theorem c274_23 : mc_cd 274 23 = some (.iand, 1) := by decide +kernel
theorem c274_24 : mc_cd 274 24 = some (.istore_n 3, 1) := by decide +kernel
theorem c274_25 : mc_cd 274 25 = some (.sipush (-1000), 3) := by decide +kernel
theorem c274_28 : mc_cd 274 28 = some (.istore 4, 2) := by decide +kernel
theorem c274_30 : mc_cd 274 30 = some (.iconst 0, 1) := by decide +kernel
theorem c274_31 : mc_cd 274 31 = some (.istore 5, 2) := by decide +kernel
theorem c274_33 : mc_cd 274 33 = some (.iload 5, 2) := by decide +kernel
theorem c274_35 : mc_cd 274 35 = some (.i2l, 1) := by decide +kernel
theorem c274_36 : mc_cd 274 36 = some (.aload_n 0, 1) := by decide +kernel
theorem c274_37 : mc_cd 274 37 = some (.invokevirtual 376, 3) := by decide +kernel
theorem c274_40 : mc_cd 274 40 = some (.lcmp, 1) := by decide +kernel
theorem c274_41 : mc_cd 274 41 = some (.ifCond .ge 82, 3) := by decide +kernel
theorem c274_44 : mc_cd 274 44 = some (.aload_n 0, 1) := by decide +kernel
theorem c274_45 : mc_cd 274 45 = some (.iload 5, 2) := by decide +kernel
theorem c274_47 : mc_cd 274 47 = some (.invokevirtual 425, 3) := by decide +kernel
theorem c274_50 : mc_cd 274 50 = some (.iload_n 3, 1) := by decide +kernel
theorem c274_51 : mc_cd 274 51 = some (.aload_n 0, 1) := by decide +kernel
theorem c274_52 : mc_cd 274 52 = some (.getfield 30, 3) := by decide +kernel
theorem c274_55 : mc_cd 274 55 = some (.bipush 40, 2) := by decide +kernel
theorem c274_57 : mc_cd 274 57 = some (.iload_n 2, 1) := by decide +kernel
theorem c274_58 : mc_cd 274 58 = some (.imul, 1) := by decide +kernel
theorem c274_59 : mc_cd 274 59 = some (.aload_n 0, 1) := by decide +kernel
theorem c274_60 : mc_cd 274 60 = some (.getfield 39, 3) := by decide +kernel
theorem c274_63 : mc_cd 274 63 = some (.iload_n 2, 1) := by decide +kernel
theorem c274_64 : mc_cd 274 64 = some (.iaload, 1) := by decide +kernel
theorem c274_65 : mc_cd 274 65 = some (.iadd, 1) := by decide +kernel
theorem c274_66 : mc_cd 274 66 = some (.iaload, 1) := by decide +kernel
theorem c274_67 : mc_cd 274 67 = some (.iconst (-1), 1) := by decide +kernel
theorem c274_68 : mc_cd 274 68 = some (.ixor, 1) := by decide +kernel
theorem c274_69 : mc_cd 274 69 = some (.iand, 1) := by decide +kernel
theorem c274_70 : mc_cd 274 70 = some (.ifCond .ne 47, 3) := by decide +kernel
theorem c274_73 : mc_cd 274 73 = some (.aload_n 0, 1) := by decide +kernel
theorem c274_74 : mc_cd 274 74 = some (.aload_n 0, 1) := by decide +kernel
theorem c274_75 : mc_cd 274 75 = some (.getfield 39, 3) := by decide +kernel
theorem c274_78 : mc_cd 274 78 = some (.invokevirtual 393, 3) := by decide +kernel
theorem c274_81 : mc_cd 274 81 = some (.ifCond .eq 6, 3) := by decide +kernel
theorem c274_84 : mc_cd 274 84 = some (.goto 33, 3) := by decide +kernel
theorem c274_87 : mc_cd 274 87 = some (.aload_n 0, 1) := by decide +kernel
theorem c274_88 : mc_cd 274 88 = some (.aload_n 0, 1) := by decide +kernel
theorem c274_89 : mc_cd 274 89 = some (.getfield 39, 3) := by decide +kernel
theorem c274_92 : mc_cd 274 92 = some (.aload_n 0, 1) := by decide +kernel
theorem c274_93 : mc_cd 274 93 = some (.getfield 343, 3) := by decide +kernel
theorem c274_96 : mc_cd 274 96 = some (.invokevirtual 397, 3) := by decide +kernel
theorem c274_99 : mc_cd 274 99 = some (.istore 6, 2) := by decide +kernel
theorem c274_101 : mc_cd 274 101 = some (.iload 6, 2) := by decide +kernel
theorem c274_103 : mc_cd 274 103 = some (.iload 4, 2) := by decide +kernel
theorem c274_105 : mc_cd 274 105 = some (.if_icmp .le 8, 3) := by decide +kernel
theorem c274_108 : mc_cd 274 108 = some (.iload 6, 2) := by decide +kernel
theorem c274_110 : mc_cd 274 110 = some (.goto 5, 3) := by decide +kernel
theorem c274_113 : mc_cd 274 113 = some (.iload 4, 2) := by decide +kernel
theorem c274_115 : mc_cd 274 115 = some (.istore 4, 2) := by decide +kernel
theorem c274_117 : mc_cd 274 117 = some (.iinc 5 1, 3) := by decide +kernel
theorem c274_120 : mc_cd 274 120 = some (.goto (-87), 3) := by decide +kernel
theorem c274_123 : mc_cd 274 123 = some (.iload 4, 2) := by decide +kernel
theorem c274_125 : mc_cd 274 125 = some (.ireturn, 1) := by decide +kernel
