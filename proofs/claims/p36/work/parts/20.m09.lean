/-! methods (own work, written by wip/gen2/sx.py) -/
/-! StrikeAwake.proof()I -/
theorem e137 : wq_en 137 = some (0, 1, false, some FieldType.int) := rfl
theorem c137_0 : mc_cd 137 0 = some (.aload_n 0, 1) := by decide +kernel
theorem c137_1 : mc_cd 137 1 = some (.getfield 58, 3) := by decide +kernel
theorem c137_4 : mc_cd 137 4 = some (.ifCond .ne 9, 3) := by decide +kernel
theorem c137_7 : mc_cd 137 7 = some (.aload_n 0, 1) := by decide +kernel
theorem c137_8 : mc_cd 137 8 = some (.iconst 1, 1) := by decide +kernel
theorem c137_9 : mc_cd 137 9 = some (.invokevirtual 70, 3) := by decide +kernel
theorem c137_12 : mc_cd 137 12 = some (.ireturn, 1) := by decide +kernel
theorem c137_13 : mc_cd 137 13 = some (.aload_n 0, 1) := by decide +kernel
theorem c137_14 : mc_cd 137 14 = some (.getfield 51, 3) := by decide +kernel
theorem c137_17 : mc_cd 137 17 = some (.getfield 141, 3) := by decide +kernel
theorem c137_20 : mc_cd 137 20 = some (.ldc2_w 252, 3) := by decide +kernel
theorem c137_23 : mc_cd 137 23 = some (.lcmp, 1) := by decide +kernel
theorem c137_24 : mc_cd 137 24 = some (.ifCond .le 9, 3) := by decide +kernel
theorem c137_27 : mc_cd 137 27 = some (.aload_n 0, 1) := by decide +kernel
theorem c137_28 : mc_cd 137 28 = some (.iconst 3, 1) := by decide +kernel
theorem c137_29 : mc_cd 137 29 = some (.invokevirtual 70, 3) := by decide +kernel
theorem c137_32 : mc_cd 137 32 = some (.ireturn, 1) := by decide +kernel
theorem c137_33 : mc_cd 137 33 = some (.aload_n 0, 1) := by decide +kernel
theorem c137_34 : mc_cd 137 34 = some (.getfield 30, 3) := by decide +kernel
theorem c137_37 : mc_cd 137 37 = some (.aload_n 0, 1) := by decide +kernel
theorem c137_38 : mc_cd 137 38 = some (.getfield 51, 3) := by decide +kernel
theorem c137_41 : mc_cd 137 41 = some (.aload_n 0, 1) := by decide +kernel
theorem c137_42 : mc_cd 137 42 = some (.getfield 23, 3) := by decide +kernel
theorem c137_45 : mc_cd 137 45 = some (.invokevirtual 254, 3) := by decide +kernel
theorem c137_48 : mc_cd 137 48 = some (.aload_n 0, 1) := by decide +kernel
theorem c137_49 : mc_cd 137 49 = some (.getfield 30, 3) := by decide +kernel
theorem c137_52 : mc_cd 137 52 = some (.getfield 177, 3) := by decide +kernel
theorem c137_55 : mc_cd 137 55 = some (.ifCond .le 9, 3) := by decide +kernel
theorem c137_58 : mc_cd 137 58 = some (.aload_n 0, 1) := by decide +kernel
theorem c137_59 : mc_cd 137 59 = some (.iconst 5, 1) := by decide +kernel
theorem c137_60 : mc_cd 137 60 = some (.invokevirtual 70, 3) := by decide +kernel
theorem c137_63 : mc_cd 137 63 = some (.ireturn, 1) := by decide +kernel
theorem c137_64 : mc_cd 137 64 = some (.aload_n 0, 1) := by decide +kernel
theorem c137_65 : mc_cd 137 65 = some (.aload_n 0, 1) := by decide +kernel
theorem c137_66 : mc_cd 137 66 = some (.getfield 44, 3) := by decide +kernel
theorem c137_69 : mc_cd 137 69 = some (.aload_n 0, 1) := by decide +kernel
theorem c137_70 : mc_cd 137 70 = some (.getfield 51, 3) := by decide +kernel
theorem c137_73 : mc_cd 137 73 = some (.aload_n 0, 1) := by decide +kernel
theorem c137_74 : mc_cd 137 74 = some (.getfield 23, 3) := by decide +kernel
theorem c137_77 : mc_cd 137 77 = some (.invokevirtual 258, 3) := by decide +kernel
theorem c137_80 : mc_cd 137 80 = some (.invokevirtual 99, 3) := by decide +kernel
theorem c137_83 : mc_cd 137 83 = some (.ireturn, 1) := by decide +kernel
/-! StrikeAwake$Walk.silentHours(LStrikeAwake$Parish;)I -/
theorem e148 : wq_en 148 = some (3, 2, false, some FieldType.int) := rfl
theorem c148_0 : mc_cd 148 0 = some (.aload_n 1, 1) := by decide +kernel
theorem c148_1 : mc_cd 148 1 = some (.invokevirtual 88, 3) := by decide +kernel
theorem c148_4 : mc_cd 148 4 = some (.aload_n 0, 1) := by decide +kernel
theorem c148_5 : mc_cd 148 5 = some (.getfield 22, 3) := by decide +kernel
theorem c148_8 : mc_cd 148 8 = some (.aload_n 0, 1) := by decide +kernel
theorem c148_9 : mc_cd 148 9 = some (.getfield 51, 3) := by decide +kernel
theorem c148_12 : mc_cd 148 12 = some (.iaload, 1) := by decide +kernel
theorem c148_13 : mc_cd 148 13 = some (.iconst (-1), 1) := by decide +kernel
theorem c148_14 : mc_cd 148 14 = some (.ixor, 1) := by decide +kernel
theorem c148_15 : mc_cd 148 15 = some (.iand, 1) := by decide +kernel
theorem c148_16 : mc_cd 148 16 = some (.ireturn, 1) := by decide +kernel
/-! StrikeAwake.nothing()I -/
theorem e147 : wq_en 147 = some (0, 4, false, some FieldType.int) := rfl
theorem c147_0 : mc_cd 147 0 = some (.aload_n 0, 1) := by decide +kernel
theorem c147_1 : mc_cd 147 1 = some (.aload_n 0, 1) := by decide +kernel
theorem c147_2 : mc_cd 147 2 = some (.getfield 58, 3) := by decide +kernel
theorem c147_5 : mc_cd 147 5 = some (.invokevirtual 245, 3) := by decide +kernel
theorem c147_8 : mc_cd 147 8 = some (.istore_n 1, 1) := by decide +kernel
theorem c147_9 : mc_cd 147 9 = some (.iload_n 1, 1) := by decide +kernel
theorem c147_10 : mc_cd 147 10 = some (.ifCond .eq 9, 3) := by decide +kernel
theorem c147_13 : mc_cd 147 13 = some (.aload_n 0, 1) := by decide +kernel
theorem c147_14 : mc_cd 147 14 = some (.iload_n 1, 1) := by decide +kernel
theorem c147_15 : mc_cd 147 15 = some (.invokevirtual 70, 3) := by decide +kernel
theorem c147_18 : mc_cd 147 18 = some (.ireturn, 1) := by decide +kernel
theorem c147_19 : mc_cd 147 19 = some (.iconst 0, 1) := by decide +kernel
theorem c147_20 : mc_cd 147 20 = some (.istore_n 2, 1) := by decide +kernel
theorem c147_21 : mc_cd 147 21 = some (.aload_n 0, 1) := by decide +kernel
theorem c147_22 : mc_cd 147 22 = some (.getfield 23, 3) := by decide +kernel
theorem c147_25 : mc_cd 147 25 = some (.aload_n 0, 1) := by decide +kernel
theorem c147_26 : mc_cd 147 26 = some (.getfield 51, 3) := by decide +kernel
theorem c147_29 : mc_cd 147 29 = some (.invokevirtual 271, 3) := by decide +kernel
theorem c147_32 : mc_cd 147 32 = some (.iconst 0, 1) := by decide +kernel
theorem c147_33 : mc_cd 147 33 = some (.istore_n 3, 1) := by decide +kernel
theorem c147_34 : mc_cd 147 34 = some (.iload_n 3, 1) := by decide +kernel
theorem c147_35 : mc_cd 147 35 = some (.i2l, 1) := by decide +kernel
theorem c147_36 : mc_cd 147 36 = some (.aload_n 0, 1) := by decide +kernel
theorem c147_37 : mc_cd 147 37 = some (.getfield 51, 3) := by decide +kernel
theorem c147_40 : mc_cd 147 40 = some (.getfield 141, 3) := by decide +kernel
theorem c147_43 : mc_cd 147 43 = some (.lcmp, 1) := by decide +kernel
theorem c147_44 : mc_cd 147 44 = some (.ifCond .ge 51, 3) := by decide +kernel
theorem c147_47 : mc_cd 147 47 = some (.iload_n 3, 1) := by decide +kernel
theorem c147_48 : mc_cd 147 48 = some (.sipush 20000, 3) := by decide +kernel
theorem c147_51 : mc_cd 147 51 = some (.if_icmp .ge 44, 3) := by decide +kernel
theorem c147_54 : mc_cd 147 54 = some (.aload_n 0, 1) := by decide +kernel
theorem c147_55 : mc_cd 147 55 = some (.getfield 23, 3) := by decide +kernel
theorem c147_58 : mc_cd 147 58 = some (.invokevirtual 275, 3) := by decide +kernel
theorem c147_61 : mc_cd 147 61 = some (.ifCond .ne 17, 3) := by decide +kernel
theorem c147_64 : mc_cd 147 64 = some (.iload_n 2, 1) := by decide +kernel
theorem c147_65 : mc_cd 147 65 = some (.aload_n 0, 1) := by decide +kernel
theorem c147_66 : mc_cd 147 66 = some (.getfield 23, 3) := by decide +kernel
theorem c147_69 : mc_cd 147 69 = some (.aload_n 0, 1) := by decide +kernel
theorem c147_70 : mc_cd 147 70 = some (.getfield 51, 3) := by decide +kernel
theorem c147_73 : mc_cd 147 73 = some (.invokevirtual 278, 3) := by decide +kernel
theorem c147_76 : mc_cd 147 76 = some (.ior, 1) := by decide +kernel
theorem c147_77 : mc_cd 147 77 = some (.istore_n 2, 1) := by decide +kernel
theorem c147_78 : mc_cd 147 78 = some (.aload_n 0, 1) := by decide +kernel
theorem c147_79 : mc_cd 147 79 = some (.getfield 23, 3) := by decide +kernel
theorem c147_82 : mc_cd 147 82 = some (.aload_n 0, 1) := by decide +kernel
theorem c147_83 : mc_cd 147 83 = some (.getfield 51, 3) := by decide +kernel
theorem c147_86 : mc_cd 147 86 = some (.invokevirtual 281, 3) := by decide +kernel
theorem c147_89 : mc_cd 147 89 = some (.iinc 3 1, 3) := by decide +kernel
theorem c147_92 : mc_cd 147 92 = some (.goto (-58), 3) := by decide +kernel
theorem c147_95 : mc_cd 147 95 = some (.aload_n 0, 1) := by decide +kernel
theorem c147_96 : mc_cd 147 96 = some (.iload_n 2, 1) := by decide +kernel
theorem c147_97 : mc_cd 147 97 = some (.invokevirtual 99, 3) := by decide +kernel
theorem c147_100 : mc_cd 147 100 = some (.ireturn, 1) := by decide +kernel
/-! StrikeAwake.seek()I -/
theorem e156 : wq_en 156 = some (0, 3, false, some FieldType.int) := rfl
theorem c156_0 : mc_cd 156 0 = some (.aload_n 0, 1) := by decide +kernel
theorem c156_1 : mc_cd 156 1 = some (.aload_n 0, 1) := by decide +kernel
theorem c156_2 : mc_cd 156 2 = some (.getfield 58, 3) := by decide +kernel
theorem c156_5 : mc_cd 156 5 = some (.invokevirtual 174, 3) := by decide +kernel
theorem c156_8 : mc_cd 156 8 = some (.istore_n 1, 1) := by decide +kernel
theorem c156_9 : mc_cd 156 9 = some (.iload_n 1, 1) := by decide +kernel
theorem c156_10 : mc_cd 156 10 = some (.ifCond .eq 9, 3) := by decide +kernel
theorem c156_13 : mc_cd 156 13 = some (.aload_n 0, 1) := by decide +kernel
theorem c156_14 : mc_cd 156 14 = some (.iload_n 1, 1) := by decide +kernel
theorem c156_15 : mc_cd 156 15 = some (.invokevirtual 70, 3) := by decide +kernel
theorem c156_18 : mc_cd 156 18 = some (.ireturn, 1) := by decide +kernel
theorem c156_19 : mc_cd 156 19 = some (.aload_n 0, 1) := by decide +kernel
theorem c156_20 : mc_cd 156 20 = some (.getfield 30, 3) := by decide +kernel
theorem c156_23 : mc_cd 156 23 = some (.aload_n 0, 1) := by decide +kernel
theorem c156_24 : mc_cd 156 24 = some (.getfield 51, 3) := by decide +kernel
theorem c156_27 : mc_cd 156 27 = some (.getfield 298, 3) := by decide +kernel
theorem c156_30 : mc_cd 156 30 = some (.aload_n 0, 1) := by decide +kernel
theorem c156_31 : mc_cd 156 31 = some (.getfield 51, 3) := by decide +kernel
theorem c156_34 : mc_cd 156 34 = some (.invokevirtual 301, 3) := by decide +kernel
theorem c156_37 : mc_cd 156 37 = some (.istore_n 2, 1) := by decide +kernel
theorem c156_38 : mc_cd 156 38 = some (.iload_n 2, 1) := by decide +kernel
theorem c156_39 : mc_cd 156 39 = some (.ifCond .ge 10, 3) := by decide +kernel
theorem c156_42 : mc_cd 156 42 = some (.aload_n 0, 1) := by decide +kernel
theorem c156_43 : mc_cd 156 43 = some (.bipush 6, 2) := by decide +kernel
theorem c156_45 : mc_cd 156 45 = some (.invokevirtual 70, 3) := by decide +kernel
theorem c156_48 : mc_cd 156 48 = some (.ireturn, 1) := by decide +kernel
theorem c156_49 : mc_cd 156 49 = some (.aload_n 0, 1) := by decide +kernel
theorem c156_50 : mc_cd 156 50 = some (.getfield 51, 3) := by decide +kernel
theorem c156_53 : mc_cd 156 53 = some (.iload_n 2, 1) := by decide +kernel
theorem c156_54 : mc_cd 156 54 = some (.iconst 1, 1) := by decide +kernel
theorem c156_55 : mc_cd 156 55 = some (.iadd, 1) := by decide +kernel
theorem c156_56 : mc_cd 156 56 = some (.putfield 298, 3) := by decide +kernel
theorem c156_59 : mc_cd 156 59 = some (.aload_n 0, 1) := by decide +kernel
theorem c156_60 : mc_cd 156 60 = some (.iload_n 2, 1) := by decide +kernel
theorem c156_61 : mc_cd 156 61 = some (.invokevirtual 99, 3) := by decide +kernel
theorem c156_64 : mc_cd 156 64 = some (.ireturn, 1) := by decide +kernel
/-! StrikeAwake.image()J -/
theorem e159 : wq_en 159 = some (0, 1, false, some FieldType.long) := rfl
theorem c159_0 : mc_cd 159 0 = some (.aload_n 0, 1) := by decide +kernel
theorem c159_1 : mc_cd 159 1 = some (.getfield 58, 3) := by decide +kernel
theorem c159_4 : mc_cd 159 4 = some (.ifCond .ne 10, 3) := by decide +kernel
theorem c159_7 : mc_cd 159 7 = some (.aload_n 0, 1) := by decide +kernel
theorem c159_8 : mc_cd 159 8 = some (.iconst 1, 1) := by decide +kernel
theorem c159_9 : mc_cd 159 9 = some (.invokevirtual 70, 3) := by decide +kernel
theorem c159_12 : mc_cd 159 12 = some (.i2l, 1) := by decide +kernel
theorem c159_13 : mc_cd 159 13 = some (.lreturn, 1) := by decide +kernel
theorem c159_14 : mc_cd 159 14 = some (.aload_n 0, 1) := by decide +kernel
theorem c159_15 : mc_cd 159 15 = some (.iconst 0, 1) := by decide +kernel
theorem c159_16 : mc_cd 159 16 = some (.putfield 102, 3) := by decide +kernel
theorem c159_19 : mc_cd 159 19 = some (.aload_n 0, 1) := by decide +kernel
theorem c159_20 : mc_cd 159 20 = some (.getfield 51, 3) := by decide +kernel
theorem c159_23 : mc_cd 159 23 = some (.invokevirtual 305, 3) := by decide +kernel
theorem c159_26 : mc_cd 159 26 = some (.lreturn, 1) := by decide +kernel
