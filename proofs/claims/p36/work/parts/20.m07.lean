/-! StrikeAwake$Census.nextFrom(ILStrikeAwake$Parish;)I -/
theorem e124 : wq_en 124 = some (4, 4, false, some FieldType.int) := rfl
theorem c124_0 : mc_cd 124 0 = some (.iload_n 1, 1) := by decide +kernel
theorem c124_1 : mc_cd 124 1 = some (.istore_n 3, 1) := by decide +kernel
theorem c124_2 : mc_cd 124 2 = some (.iload_n 3, 1) := by decide +kernel
theorem c124_3 : mc_cd 124 3 = some (.i2l, 1) := by decide +kernel
theorem c124_4 : mc_cd 124 4 = some (.aload_n 2, 1) := by decide +kernel
theorem c124_5 : mc_cd 124 5 = some (.getfield 45, 3) := by decide +kernel
theorem c124_8 : mc_cd 124 8 = some (.lcmp, 1) := by decide +kernel
theorem c124_9 : mc_cd 124 9 = some (.ifCond .ge 26, 3) := by decide +kernel
theorem c124_12 : mc_cd 124 12 = some (.iload_n 3, 1) := by decide +kernel
theorem c124_13 : mc_cd 124 13 = some (.sipush 20000, 3) := by decide +kernel
theorem c124_16 : mc_cd 124 16 = some (.if_icmp .ge 19, 3) := by decide +kernel
theorem c124_19 : mc_cd 124 19 = some (.aload_n 0, 1) := by decide +kernel
theorem c124_20 : mc_cd 124 20 = some (.iload_n 3, 1) := by decide +kernel
theorem c124_21 : mc_cd 124 21 = some (.invokevirtual 113, 3) := by decide +kernel
theorem c124_24 : mc_cd 124 24 = some (.ifCond .eq 5, 3) := by decide +kernel
theorem c124_27 : mc_cd 124 27 = some (.iload_n 3, 1) := by decide +kernel
theorem c124_28 : mc_cd 124 28 = some (.ireturn, 1) := by decide +kernel
theorem c124_29 : mc_cd 124 29 = some (.iinc 3 1, 3) := by decide +kernel
theorem c124_32 : mc_cd 124 32 = some (.goto (-30), 3) := by decide +kernel
theorem c124_35 : mc_cd 124 35 = some (.iconst (-1), 1) := by decide +kernel
theorem c124_36 : mc_cd 124 36 = some (.ireturn, 1) := by decide +kernel
/-! java/lang/Integer.bitCount(I)I -/
theorem e126 : wq_en 126 = some (15, 1, false, some FieldType.int) := rfl
theorem c126_0 : mc_cd 126 0 = some (.iload_n 0, 1) := by decide +kernel
theorem c126_1 : mc_cd 126 1 = some (.iload_n 0, 1) := by decide +kernel
theorem c126_2 : mc_cd 126 2 = some (.iconst 1, 1) := by decide +kernel
theorem c126_3 : mc_cd 126 3 = some (.iushr, 1) := by decide +kernel
theorem c126_4 : mc_cd 126 4 = some (.ldc_w 265, 3) := by decide +kernel
theorem c126_7 : mc_cd 126 7 = some (.iand, 1) := by decide +kernel
theorem c126_8 : mc_cd 126 8 = some (.isub, 1) := by decide +kernel
theorem c126_9 : mc_cd 126 9 = some (.istore_n 0, 1) := by decide +kernel
theorem c126_10 : mc_cd 126 10 = some (.iload_n 0, 1) := by decide +kernel
theorem c126_11 : mc_cd 126 11 = some (.ldc_w 266, 3) := by decide +kernel
theorem c126_14 : mc_cd 126 14 = some (.iand, 1) := by decide +kernel
theorem c126_15 : mc_cd 126 15 = some (.iload_n 0, 1) := by decide +kernel
theorem c126_16 : mc_cd 126 16 = some (.iconst 2, 1) := by decide +kernel
theorem c126_17 : mc_cd 126 17 = some (.iushr, 1) := by decide +kernel
theorem c126_18 : mc_cd 126 18 = some (.ldc_w 266, 3) := by decide +kernel
theorem c126_21 : mc_cd 126 21 = some (.iand, 1) := by decide +kernel
theorem c126_22 : mc_cd 126 22 = some (.iadd, 1) := by decide +kernel
theorem c126_23 : mc_cd 126 23 = some (.istore_n 0, 1) := by decide +kernel
theorem c126_24 : mc_cd 126 24 = some (.iload_n 0, 1) := by decide +kernel
theorem c126_25 : mc_cd 126 25 = some (.iload_n 0, 1) := by decide +kernel
theorem c126_26 : mc_cd 126 26 = some (.iconst 4, 1) := by decide +kernel
theorem c126_27 : mc_cd 126 27 = some (.iushr, 1) := by decide +kernel
theorem c126_28 : mc_cd 126 28 = some (.iadd, 1) := by decide +kernel
theorem c126_29 : mc_cd 126 29 = some (.ldc_w 267, 3) := by decide +kernel
theorem c126_32 : mc_cd 126 32 = some (.iand, 1) := by decide +kernel
theorem c126_33 : mc_cd 126 33 = some (.istore_n 0, 1) := by decide +kernel
theorem c126_34 : mc_cd 126 34 = some (.iload_n 0, 1) := by decide +kernel
theorem c126_35 : mc_cd 126 35 = some (.iload_n 0, 1) := by decide +kernel
theorem c126_36 : mc_cd 126 36 = some (.bipush 8, 2) := by decide +kernel
theorem c126_38 : mc_cd 126 38 = some (.iushr, 1) := by decide +kernel
theorem c126_39 : mc_cd 126 39 = some (.iadd, 1) := by decide +kernel
theorem c126_40 : mc_cd 126 40 = some (.istore_n 0, 1) := by decide +kernel
theorem c126_41 : mc_cd 126 41 = some (.iload_n 0, 1) := by decide +kernel
theorem c126_42 : mc_cd 126 42 = some (.iload_n 0, 1) := by decide +kernel
theorem c126_43 : mc_cd 126 43 = some (.bipush 16, 2) := by decide +kernel
theorem c126_45 : mc_cd 126 45 = some (.iushr, 1) := by decide +kernel
theorem c126_46 : mc_cd 126 46 = some (.iadd, 1) := by decide +kernel
theorem c126_47 : mc_cd 126 47 = some (.istore_n 0, 1) := by decide +kernel
theorem c126_48 : mc_cd 126 48 = some (.iload_n 0, 1) := by decide +kernel
theorem c126_49 : mc_cd 126 49 = some (.bipush 63, 2) := by decide +kernel
theorem c126_51 : mc_cd 126 51 = some (.iand, 1) := by decide +kernel
theorem c126_52 : mc_cd 126 52 = some (.ireturn, 1) := by decide +kernel
