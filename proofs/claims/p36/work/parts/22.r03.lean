/-! methods of the reference (own work, written by wip/gen2/sx.py) -/
/-! StrikeAwakeModel.readHours()I -/
theorem e201 : wq_en 201 = some (9, 2, false, some FieldType.int) := rfl
theorem cg201_0 : mc_cd 201 0 = some (.aload_n 0, 1) ∧ mc_cd 201 1 = some (.invokevirtual 273, 3) ∧ mc_cd 201 4 = some (.istore_n 1, 1) ∧ mc_cd 201 5 = some (.aload_n 0, 1) ∧ mc_cd 201 6 = some (.aload_n 0, 1) ∧ mc_cd 201 7 = some (.iconst 0, 1) ∧ mc_cd 201 8 = some (.bipush 23, 2) ∧ mc_cd 201 10 = some (.invokevirtual 137, 3) := by decide +kernel
theorem c201_0 : mc_cd 201 0 = some (.aload_n 0, 1) := cg201_0.1
theorem c201_1 : mc_cd 201 1 = some (.invokevirtual 273, 3) := cg201_0.2.1
theorem c201_4 : mc_cd 201 4 = some (.istore_n 1, 1) := cg201_0.2.2.1
theorem c201_5 : mc_cd 201 5 = some (.aload_n 0, 1) := cg201_0.2.2.2.1
theorem c201_6 : mc_cd 201 6 = some (.aload_n 0, 1) := cg201_0.2.2.2.2.1
theorem c201_7 : mc_cd 201 7 = some (.iconst 0, 1) := cg201_0.2.2.2.2.2.1
theorem c201_8 : mc_cd 201 8 = some (.bipush 23, 2) := cg201_0.2.2.2.2.2.2.1
theorem c201_10 : mc_cd 201 10 = some (.invokevirtual 137, 3) := cg201_0.2.2.2.2.2.2.2
theorem cg201_13 : mc_cd 201 13 = some (.putfield 300, 3) ∧ mc_cd 201 16 = some (.aload_n 0, 1) ∧ mc_cd 201 17 = some (.aload_n 0, 1) ∧ mc_cd 201 18 = some (.ldc 233, 2) ∧ mc_cd 201 20 = some (.aload_n 0, 1) ∧ mc_cd 201 21 = some (.getfield 300, 3) ∧ mc_cd 201 24 = some (.iconst 1, 1) ∧ mc_cd 201 25 = some (.iadd, 1) := by decide +kernel
theorem c201_13 : mc_cd 201 13 = some (.putfield 300, 3) := cg201_13.1
theorem c201_16 : mc_cd 201 16 = some (.aload_n 0, 1) := cg201_13.2.1
theorem c201_17 : mc_cd 201 17 = some (.aload_n 0, 1) := cg201_13.2.2.1
theorem c201_18 : mc_cd 201 18 = some (.ldc 233, 2) := cg201_13.2.2.2.1
theorem c201_20 : mc_cd 201 20 = some (.aload_n 0, 1) := cg201_13.2.2.2.2.1
theorem c201_21 : mc_cd 201 21 = some (.getfield 300, 3) := cg201_13.2.2.2.2.2.1
theorem c201_24 : mc_cd 201 24 = some (.iconst 1, 1) := cg201_13.2.2.2.2.2.2.1
theorem c201_25 : mc_cd 201 25 = some (.iadd, 1) := cg201_13.2.2.2.2.2.2.2
theorem cg201_26 : mc_cd 201 26 = some (.bipush 24, 2) ∧ mc_cd 201 28 = some (.invokevirtual 216, 3) ∧ mc_cd 201 31 = some (.putfield 303, 3) ∧ mc_cd 201 34 = some (.iload_n 1, 1) ∧ mc_cd 201 35 = some (.ireturn, 1) := by decide +kernel
theorem c201_26 : mc_cd 201 26 = some (.bipush 24, 2) := cg201_26.1
theorem c201_28 : mc_cd 201 28 = some (.invokevirtual 216, 3) := cg201_26.2.1
theorem c201_31 : mc_cd 201 31 = some (.putfield 303, 3) := cg201_26.2.2.1
theorem c201_34 : mc_cd 201 34 = some (.iload_n 1, 1) := cg201_26.2.2.2.1
theorem c201_35 : mc_cd 201 35 = some (.ireturn, 1) := cg201_26.2.2.2.2
/-! StrikeAwakeModel.hoursFrom(II)I -/
theorem e202 : wq_en 202 = some (9, 4, false, some FieldType.int) := rfl
theorem cg202_0 : mc_cd 202 0 = some (.iconst 0, 1) ∧ mc_cd 202 1 = some (.istore_n 2, 1) ∧ mc_cd 202 2 = some (.iload_n 0, 1) ∧ mc_cd 202 3 = some (.istore_n 3, 1) ∧ mc_cd 202 4 = some (.iload_n 3, 1) ∧ mc_cd 202 5 = some (.iload_n 1, 1) ∧ mc_cd 202 6 = some (.if_icmp .ge 21, 3) ∧ mc_cd 202 9 = some (.iload_n 3, 1) := by decide +kernel
theorem c202_0 : mc_cd 202 0 = some (.iconst 0, 1) := cg202_0.1
theorem c202_1 : mc_cd 202 1 = some (.istore_n 2, 1) := cg202_0.2.1
theorem c202_2 : mc_cd 202 2 = some (.iload_n 0, 1) := cg202_0.2.2.1
theorem c202_3 : mc_cd 202 3 = some (.istore_n 3, 1) := cg202_0.2.2.2.1
theorem c202_4 : mc_cd 202 4 = some (.iload_n 3, 1) := cg202_0.2.2.2.2.1
theorem c202_5 : mc_cd 202 5 = some (.iload_n 1, 1) := cg202_0.2.2.2.2.2.1
theorem c202_6 : mc_cd 202 6 = some (.if_icmp .ge 21, 3) := cg202_0.2.2.2.2.2.2.1
theorem c202_9 : mc_cd 202 9 = some (.iload_n 3, 1) := cg202_0.2.2.2.2.2.2.2
theorem cg202_10 : mc_cd 202 10 = some (.bipush 24, 2) ∧ mc_cd 202 12 = some (.if_icmp .ge 15, 3) ∧ mc_cd 202 15 = some (.iload_n 2, 1) ∧ mc_cd 202 16 = some (.iconst 1, 1) ∧ mc_cd 202 17 = some (.iload_n 3, 1) ∧ mc_cd 202 18 = some (.ishl, 1) ∧ mc_cd 202 19 = some (.ior, 1) ∧ mc_cd 202 20 = some (.istore_n 2, 1) := by decide +kernel
theorem c202_10 : mc_cd 202 10 = some (.bipush 24, 2) := cg202_10.1
theorem c202_12 : mc_cd 202 12 = some (.if_icmp .ge 15, 3) := cg202_10.2.1
theorem c202_15 : mc_cd 202 15 = some (.iload_n 2, 1) := cg202_10.2.2.1
theorem c202_16 : mc_cd 202 16 = some (.iconst 1, 1) := cg202_10.2.2.2.1
theorem c202_17 : mc_cd 202 17 = some (.iload_n 3, 1) := cg202_10.2.2.2.2.1
theorem c202_18 : mc_cd 202 18 = some (.ishl, 1) := cg202_10.2.2.2.2.2.1
theorem c202_19 : mc_cd 202 19 = some (.ior, 1) := cg202_10.2.2.2.2.2.2.1
theorem c202_20 : mc_cd 202 20 = some (.istore_n 2, 1) := cg202_10.2.2.2.2.2.2.2
theorem cg202_21 : mc_cd 202 21 = some (.iinc 3 1, 3) ∧ mc_cd 202 24 = some (.goto (-20), 3) ∧ mc_cd 202 27 = some (.iload_n 2, 1) ∧ mc_cd 202 28 = some (.ireturn, 1) := by decide +kernel
theorem c202_21 : mc_cd 202 21 = some (.iinc 3 1, 3) := cg202_21.1
theorem c202_24 : mc_cd 202 24 = some (.goto (-20), 3) := cg202_21.2.1
theorem c202_27 : mc_cd 202 27 = some (.iload_n 2, 1) := cg202_21.2.2.1
theorem c202_28 : mc_cd 202 28 = some (.ireturn, 1) := cg202_21.2.2.2
/-! StrikeAwakeModel.readTold()V -/
theorem e200 : wq_en 200 = some (9, 2, false, none) := rfl
theorem cg200_0 : mc_cd 200 0 = some (.aload_n 0, 1) ∧ mc_cd 200 1 = some (.aload_n 0, 1) ∧ mc_cd 200 2 = some (.getfield 166, 3) ∧ mc_cd 200 5 = some (.getfield 306, 3) ∧ mc_cd 200 8 = some (.iconst 4, 1) ∧ mc_cd 200 9 = some (.invokevirtual 228, 3) ∧ mc_cd 200 12 = some (.aload_n 0, 1) ∧ mc_cd 200 13 = some (.invokevirtual 309, 3) := by decide +kernel
theorem c200_0 : mc_cd 200 0 = some (.aload_n 0, 1) := cg200_0.1
theorem c200_1 : mc_cd 200 1 = some (.aload_n 0, 1) := cg200_0.2.1
theorem c200_2 : mc_cd 200 2 = some (.getfield 166, 3) := cg200_0.2.2.1
theorem c200_5 : mc_cd 200 5 = some (.getfield 306, 3) := cg200_0.2.2.2.1
theorem c200_8 : mc_cd 200 8 = some (.iconst 4, 1) := cg200_0.2.2.2.2.1
theorem c200_9 : mc_cd 200 9 = some (.invokevirtual 228, 3) := cg200_0.2.2.2.2.2.1
theorem c200_12 : mc_cd 200 12 = some (.aload_n 0, 1) := cg200_0.2.2.2.2.2.2.1
theorem c200_13 : mc_cd 200 13 = some (.invokevirtual 309, 3) := cg200_0.2.2.2.2.2.2.2
theorem cg200_16 : mc_cd 200 16 = some (.istore_n 1, 1) ∧ mc_cd 200 17 = some (.aload_n 0, 1) ∧ mc_cd 200 18 = some (.getfield 75, 3) ∧ mc_cd 200 21 = some (.iconst 5, 1) ∧ mc_cd 200 22 = some (.if_icmp .ne 4, 3) ∧ mc_cd 200 25 = some (.return_, 1) ∧ mc_cd 200 26 = some (.aload_n 0, 1) ∧ mc_cd 200 27 = some (.getfield 166, 3) := by decide +kernel
theorem c200_16 : mc_cd 200 16 = some (.istore_n 1, 1) := cg200_16.1
theorem c200_17 : mc_cd 200 17 = some (.aload_n 0, 1) := cg200_16.2.1
theorem c200_18 : mc_cd 200 18 = some (.getfield 75, 3) := cg200_16.2.2.1
theorem c200_21 : mc_cd 200 21 = some (.iconst 5, 1) := cg200_16.2.2.2.1
theorem c200_22 : mc_cd 200 22 = some (.if_icmp .ne 4, 3) := cg200_16.2.2.2.2.1
theorem c200_25 : mc_cd 200 25 = some (.return_, 1) := cg200_16.2.2.2.2.2.1
theorem c200_26 : mc_cd 200 26 = some (.aload_n 0, 1) := cg200_16.2.2.2.2.2.2.1
theorem c200_27 : mc_cd 200 27 = some (.getfield 166, 3) := cg200_16.2.2.2.2.2.2.2
theorem cg200_30 : mc_cd 200 30 = some (.getfield 312, 3) ∧ mc_cd 200 33 = some (.aload_n 0, 1) ∧ mc_cd 200 34 = some (.getfield 166, 3) ∧ mc_cd 200 37 = some (.getfield 306, 3) ∧ mc_cd 200 40 = some (.iload_n 1, 1) ∧ mc_cd 200 41 = some (.iastore, 1) ∧ mc_cd 200 42 = some (.aload_n 0, 1) ∧ mc_cd 200 43 = some (.getfield 166, 3) := by decide +kernel
theorem c200_30 : mc_cd 200 30 = some (.getfield 312, 3) := cg200_30.1
theorem c200_33 : mc_cd 200 33 = some (.aload_n 0, 1) := cg200_30.2.1
theorem c200_34 : mc_cd 200 34 = some (.getfield 166, 3) := cg200_30.2.2.1
theorem c200_37 : mc_cd 200 37 = some (.getfield 306, 3) := cg200_30.2.2.2.1
theorem c200_40 : mc_cd 200 40 = some (.iload_n 1, 1) := cg200_30.2.2.2.2.1
theorem c200_41 : mc_cd 200 41 = some (.iastore, 1) := cg200_30.2.2.2.2.2.1
theorem c200_42 : mc_cd 200 42 = some (.aload_n 0, 1) := cg200_30.2.2.2.2.2.2.1
theorem c200_43 : mc_cd 200 43 = some (.getfield 166, 3) := cg200_30.2.2.2.2.2.2.2
theorem cg200_46 : mc_cd 200 46 = some (.getfield 315, 3) ∧ mc_cd 200 49 = some (.aload_n 0, 1) ∧ mc_cd 200 50 = some (.getfield 166, 3) ∧ mc_cd 200 53 = some (.getfield 306, 3) ∧ mc_cd 200 56 = some (.aload_n 0, 1) ∧ mc_cd 200 57 = some (.getfield 300, 3) ∧ mc_cd 200 60 = some (.aload_n 0, 1) ∧ mc_cd 200 61 = some (.getfield 303, 3) := by decide +kernel
theorem c200_46 : mc_cd 200 46 = some (.getfield 315, 3) := cg200_46.1
theorem c200_49 : mc_cd 200 49 = some (.aload_n 0, 1) := cg200_46.2.1
theorem c200_50 : mc_cd 200 50 = some (.getfield 166, 3) := cg200_46.2.2.1
theorem c200_53 : mc_cd 200 53 = some (.getfield 306, 3) := cg200_46.2.2.2.1
theorem c200_56 : mc_cd 200 56 = some (.aload_n 0, 1) := cg200_46.2.2.2.2.1
theorem c200_57 : mc_cd 200 57 = some (.getfield 300, 3) := cg200_46.2.2.2.2.2.1
theorem c200_60 : mc_cd 200 60 = some (.aload_n 0, 1) := cg200_46.2.2.2.2.2.2.1
theorem c200_61 : mc_cd 200 61 = some (.getfield 303, 3) := cg200_46.2.2.2.2.2.2.2
theorem cg200_64 : mc_cd 200 64 = some (.invokestatic 318, 3) ∧ mc_cd 200 67 = some (.iastore, 1) ∧ mc_cd 200 68 = some (.aload_n 0, 1) ∧ mc_cd 200 69 = some (.getfield 166, 3) ∧ mc_cd 200 72 = some (.dup, 1) ∧ mc_cd 200 73 = some (.getfield 306, 3) ∧ mc_cd 200 76 = some (.iconst 1, 1) ∧ mc_cd 200 77 = some (.iadd, 1) := by decide +kernel
theorem c200_64 : mc_cd 200 64 = some (.invokestatic 318, 3) := cg200_64.1
theorem c200_67 : mc_cd 200 67 = some (.iastore, 1) := cg200_64.2.1
theorem c200_68 : mc_cd 200 68 = some (.aload_n 0, 1) := cg200_64.2.2.1
theorem c200_69 : mc_cd 200 69 = some (.getfield 166, 3) := cg200_64.2.2.2.1
theorem c200_72 : mc_cd 200 72 = some (.dup, 1) := cg200_64.2.2.2.2.1
theorem c200_73 : mc_cd 200 73 = some (.getfield 306, 3) := cg200_64.2.2.2.2.2.1
theorem c200_76 : mc_cd 200 76 = some (.iconst 1, 1) := cg200_64.2.2.2.2.2.2.1
theorem c200_77 : mc_cd 200 77 = some (.iadd, 1) := cg200_64.2.2.2.2.2.2.2
theorem cg200_78 : mc_cd 200 78 = some (.putfield 306, 3) ∧ mc_cd 200 81 = some (.return_, 1) := by decide +kernel
theorem c200_78 : mc_cd 200 78 = some (.putfield 306, 3) := cg200_78.1
theorem c200_81 : mc_cd 200 81 = some (.return_, 1) := cg200_78.2
/-! StrikeAwakeModel.readOffer()V -/
theorem e203 : wq_en 203 = some (9, 2, false, none) := rfl
theorem cg203_0 : mc_cd 203 0 = some (.aload_n 0, 1) ∧ mc_cd 203 1 = some (.aload_n 0, 1) ∧ mc_cd 203 2 = some (.getfield 166, 3) ∧ mc_cd 203 5 = some (.getfield 321, 3) ∧ mc_cd 203 8 = some (.bipush 6, 2) ∧ mc_cd 203 10 = some (.invokevirtual 228, 3) ∧ mc_cd 203 13 = some (.aload_n 0, 1) ∧ mc_cd 203 14 = some (.invokevirtual 309, 3) := by decide +kernel
theorem c203_0 : mc_cd 203 0 = some (.aload_n 0, 1) := cg203_0.1
theorem c203_1 : mc_cd 203 1 = some (.aload_n 0, 1) := cg203_0.2.1
theorem c203_2 : mc_cd 203 2 = some (.getfield 166, 3) := cg203_0.2.2.1
theorem c203_5 : mc_cd 203 5 = some (.getfield 321, 3) := cg203_0.2.2.2.1
theorem c203_8 : mc_cd 203 8 = some (.bipush 6, 2) := cg203_0.2.2.2.2.1
theorem c203_10 : mc_cd 203 10 = some (.invokevirtual 228, 3) := cg203_0.2.2.2.2.2.1
theorem c203_13 : mc_cd 203 13 = some (.aload_n 0, 1) := cg203_0.2.2.2.2.2.2.1
theorem c203_14 : mc_cd 203 14 = some (.invokevirtual 309, 3) := cg203_0.2.2.2.2.2.2.2
theorem cg203_17 : mc_cd 203 17 = some (.istore_n 1, 1) ∧ mc_cd 203 18 = some (.aload_n 0, 1) ∧ mc_cd 203 19 = some (.getfield 75, 3) ∧ mc_cd 203 22 = some (.iconst 5, 1) ∧ mc_cd 203 23 = some (.if_icmp .ne 4, 3) ∧ mc_cd 203 26 = some (.return_, 1) ∧ mc_cd 203 27 = some (.aload_n 0, 1) ∧ mc_cd 203 28 = some (.getfield 166, 3) := by decide +kernel
theorem c203_17 : mc_cd 203 17 = some (.istore_n 1, 1) := cg203_17.1
theorem c203_18 : mc_cd 203 18 = some (.aload_n 0, 1) := cg203_17.2.1
theorem c203_19 : mc_cd 203 19 = some (.getfield 75, 3) := cg203_17.2.2.1
theorem c203_22 : mc_cd 203 22 = some (.iconst 5, 1) := cg203_17.2.2.2.1
theorem c203_23 : mc_cd 203 23 = some (.if_icmp .ne 4, 3) := cg203_17.2.2.2.2.1
theorem c203_26 : mc_cd 203 26 = some (.return_, 1) := cg203_17.2.2.2.2.2.1
theorem c203_27 : mc_cd 203 27 = some (.aload_n 0, 1) := cg203_17.2.2.2.2.2.2.1
theorem c203_28 : mc_cd 203 28 = some (.getfield 166, 3) := cg203_17.2.2.2.2.2.2.2
theorem cg203_31 : mc_cd 203 31 = some (.getfield 324, 3) ∧ mc_cd 203 34 = some (.aload_n 0, 1) ∧ mc_cd 203 35 = some (.getfield 166, 3) ∧ mc_cd 203 38 = some (.getfield 321, 3) ∧ mc_cd 203 41 = some (.iload_n 1, 1) ∧ mc_cd 203 42 = some (.iastore, 1) ∧ mc_cd 203 43 = some (.aload_n 0, 1) ∧ mc_cd 203 44 = some (.getfield 166, 3) := by decide +kernel
theorem c203_31 : mc_cd 203 31 = some (.getfield 324, 3) := cg203_31.1
theorem c203_34 : mc_cd 203 34 = some (.aload_n 0, 1) := cg203_31.2.1
theorem c203_35 : mc_cd 203 35 = some (.getfield 166, 3) := cg203_31.2.2.1
theorem c203_38 : mc_cd 203 38 = some (.getfield 321, 3) := cg203_31.2.2.2.1
theorem c203_41 : mc_cd 203 41 = some (.iload_n 1, 1) := cg203_31.2.2.2.2.1
theorem c203_42 : mc_cd 203 42 = some (.iastore, 1) := cg203_31.2.2.2.2.2.1
theorem c203_43 : mc_cd 203 43 = some (.aload_n 0, 1) := cg203_31.2.2.2.2.2.2.1
theorem c203_44 : mc_cd 203 44 = some (.getfield 166, 3) := cg203_31.2.2.2.2.2.2.2
theorem cg203_47 : mc_cd 203 47 = some (.getfield 327, 3) ∧ mc_cd 203 50 = some (.aload_n 0, 1) ∧ mc_cd 203 51 = some (.getfield 166, 3) ∧ mc_cd 203 54 = some (.getfield 321, 3) ∧ mc_cd 203 57 = some (.aload_n 0, 1) ∧ mc_cd 203 58 = some (.getfield 300, 3) ∧ mc_cd 203 61 = some (.aload_n 0, 1) ∧ mc_cd 203 62 = some (.getfield 303, 3) := by decide +kernel
theorem c203_47 : mc_cd 203 47 = some (.getfield 327, 3) := cg203_47.1
theorem c203_50 : mc_cd 203 50 = some (.aload_n 0, 1) := cg203_47.2.1
theorem c203_51 : mc_cd 203 51 = some (.getfield 166, 3) := cg203_47.2.2.1
theorem c203_54 : mc_cd 203 54 = some (.getfield 321, 3) := cg203_47.2.2.2.1
theorem c203_57 : mc_cd 203 57 = some (.aload_n 0, 1) := cg203_47.2.2.2.2.1
theorem c203_58 : mc_cd 203 58 = some (.getfield 300, 3) := cg203_47.2.2.2.2.2.1
theorem c203_61 : mc_cd 203 61 = some (.aload_n 0, 1) := cg203_47.2.2.2.2.2.2.1
theorem c203_62 : mc_cd 203 62 = some (.getfield 303, 3) := cg203_47.2.2.2.2.2.2.2
theorem cg203_65 : mc_cd 203 65 = some (.invokestatic 318, 3) ∧ mc_cd 203 68 = some (.iastore, 1) ∧ mc_cd 203 69 = some (.aload_n 0, 1) ∧ mc_cd 203 70 = some (.getfield 166, 3) ∧ mc_cd 203 73 = some (.dup, 1) ∧ mc_cd 203 74 = some (.getfield 321, 3) ∧ mc_cd 203 77 = some (.iconst 1, 1) ∧ mc_cd 203 78 = some (.iadd, 1) := by decide +kernel
theorem c203_65 : mc_cd 203 65 = some (.invokestatic 318, 3) := cg203_65.1
theorem c203_68 : mc_cd 203 68 = some (.iastore, 1) := cg203_65.2.1
theorem c203_69 : mc_cd 203 69 = some (.aload_n 0, 1) := cg203_65.2.2.1
theorem c203_70 : mc_cd 203 70 = some (.getfield 166, 3) := cg203_65.2.2.2.1
theorem c203_73 : mc_cd 203 73 = some (.dup, 1) := cg203_65.2.2.2.2.1
theorem c203_74 : mc_cd 203 74 = some (.getfield 321, 3) := cg203_65.2.2.2.2.2.1
theorem c203_77 : mc_cd 203 77 = some (.iconst 1, 1) := cg203_65.2.2.2.2.2.2.1
theorem c203_78 : mc_cd 203 78 = some (.iadd, 1) := cg203_65.2.2.2.2.2.2.2
theorem cg203_79 : mc_cd 203 79 = some (.putfield 321, 3) ∧ mc_cd 203 82 = some (.return_, 1) := by decide +kernel
theorem c203_79 : mc_cd 203 79 = some (.putfield 321, 3) := cg203_79.1
theorem c203_82 : mc_cd 203 82 = some (.return_, 1) := cg203_79.2
/-! StrikeAwakeModel.readLine()V -/
theorem e177 : wq_en 177 = some (9, 1, false, none) := rfl
theorem cg177_0 : mc_cd 177 0 = some (.aload_n 0, 1) ∧ mc_cd 177 1 = some (.ldc 140, 2) ∧ mc_cd 177 3 = some (.invokevirtual 114, 3) ∧ mc_cd 177 6 = some (.ifCond .eq 10, 3) ∧ mc_cd 177 9 = some (.aload_n 0, 1) ∧ mc_cd 177 10 = some (.invokevirtual 191, 3) ∧ mc_cd 177 13 = some (.goto 120, 3) ∧ mc_cd 177 16 = some (.aload_n 0, 1) := by decide +kernel
theorem c177_0 : mc_cd 177 0 = some (.aload_n 0, 1) := cg177_0.1
theorem c177_1 : mc_cd 177 1 = some (.ldc 140, 2) := cg177_0.2.1
theorem c177_3 : mc_cd 177 3 = some (.invokevirtual 114, 3) := cg177_0.2.2.1
theorem c177_6 : mc_cd 177 6 = some (.ifCond .eq 10, 3) := cg177_0.2.2.2.1
theorem c177_9 : mc_cd 177 9 = some (.aload_n 0, 1) := cg177_0.2.2.2.2.1
theorem c177_10 : mc_cd 177 10 = some (.invokevirtual 191, 3) := cg177_0.2.2.2.2.2.1
theorem c177_13 : mc_cd 177 13 = some (.goto 120, 3) := cg177_0.2.2.2.2.2.2.1
theorem c177_16 : mc_cd 177 16 = some (.aload_n 0, 1) := cg177_0.2.2.2.2.2.2.2
theorem cg177_17 : mc_cd 177 17 = some (.ldc 142, 2) ∧ mc_cd 177 19 = some (.invokevirtual 114, 3) ∧ mc_cd 177 22 = some (.ifCond .eq 10, 3) ∧ mc_cd 177 25 = some (.aload_n 0, 1) ∧ mc_cd 177 26 = some (.invokevirtual 194, 3) ∧ mc_cd 177 29 = some (.goto 104, 3) ∧ mc_cd 177 32 = some (.aload_n 0, 1) ∧ mc_cd 177 33 = some (.ldc 144, 2) := by decide +kernel
theorem c177_17 : mc_cd 177 17 = some (.ldc 142, 2) := cg177_17.1
theorem c177_19 : mc_cd 177 19 = some (.invokevirtual 114, 3) := cg177_17.2.1
theorem c177_22 : mc_cd 177 22 = some (.ifCond .eq 10, 3) := cg177_17.2.2.1
theorem c177_25 : mc_cd 177 25 = some (.aload_n 0, 1) := cg177_17.2.2.2.1
theorem c177_26 : mc_cd 177 26 = some (.invokevirtual 194, 3) := cg177_17.2.2.2.2.1
theorem c177_29 : mc_cd 177 29 = some (.goto 104, 3) := cg177_17.2.2.2.2.2.1
theorem c177_32 : mc_cd 177 32 = some (.aload_n 0, 1) := cg177_17.2.2.2.2.2.2.1
theorem c177_33 : mc_cd 177 33 = some (.ldc 144, 2) := cg177_17.2.2.2.2.2.2.2
theorem cg177_35 : mc_cd 177 35 = some (.invokevirtual 114, 3) ∧ mc_cd 177 38 = some (.ifCond .eq 10, 3) ∧ mc_cd 177 41 = some (.aload_n 0, 1) ∧ mc_cd 177 42 = some (.invokevirtual 197, 3) ∧ mc_cd 177 45 = some (.goto 88, 3) ∧ mc_cd 177 48 = some (.aload_n 0, 1) ∧ mc_cd 177 49 = some (.ldc 146, 2) ∧ mc_cd 177 51 = some (.invokevirtual 114, 3) := by decide +kernel
theorem c177_35 : mc_cd 177 35 = some (.invokevirtual 114, 3) := cg177_35.1
theorem c177_38 : mc_cd 177 38 = some (.ifCond .eq 10, 3) := cg177_35.2.1
theorem c177_41 : mc_cd 177 41 = some (.aload_n 0, 1) := cg177_35.2.2.1
theorem c177_42 : mc_cd 177 42 = some (.invokevirtual 197, 3) := cg177_35.2.2.2.1
theorem c177_45 : mc_cd 177 45 = some (.goto 88, 3) := cg177_35.2.2.2.2.1
theorem c177_48 : mc_cd 177 48 = some (.aload_n 0, 1) := cg177_35.2.2.2.2.2.1
theorem c177_49 : mc_cd 177 49 = some (.ldc 146, 2) := cg177_35.2.2.2.2.2.2.1
theorem c177_51 : mc_cd 177 51 = some (.invokevirtual 114, 3) := cg177_35.2.2.2.2.2.2.2
theorem cg177_54 : mc_cd 177 54 = some (.ifCond .eq 10, 3) ∧ mc_cd 177 57 = some (.aload_n 0, 1) ∧ mc_cd 177 58 = some (.invokevirtual 200, 3) ∧ mc_cd 177 61 = some (.goto 72, 3) ∧ mc_cd 177 64 = some (.aload_n 0, 1) ∧ mc_cd 177 65 = some (.ldc 148, 2) ∧ mc_cd 177 67 = some (.invokevirtual 114, 3) ∧ mc_cd 177 70 = some (.ifCond .eq 10, 3) := by decide +kernel
theorem c177_54 : mc_cd 177 54 = some (.ifCond .eq 10, 3) := cg177_54.1
theorem c177_57 : mc_cd 177 57 = some (.aload_n 0, 1) := cg177_54.2.1
theorem c177_58 : mc_cd 177 58 = some (.invokevirtual 200, 3) := cg177_54.2.2.1
theorem c177_61 : mc_cd 177 61 = some (.goto 72, 3) := cg177_54.2.2.2.1
theorem c177_64 : mc_cd 177 64 = some (.aload_n 0, 1) := cg177_54.2.2.2.2.1
theorem c177_65 : mc_cd 177 65 = some (.ldc 148, 2) := cg177_54.2.2.2.2.2.1
theorem c177_67 : mc_cd 177 67 = some (.invokevirtual 114, 3) := cg177_54.2.2.2.2.2.2.1
theorem c177_70 : mc_cd 177 70 = some (.ifCond .eq 10, 3) := cg177_54.2.2.2.2.2.2.2
theorem cg177_73 : mc_cd 177 73 = some (.aload_n 0, 1) ∧ mc_cd 177 74 = some (.invokevirtual 203, 3) ∧ mc_cd 177 77 = some (.goto 56, 3) ∧ mc_cd 177 80 = some (.aload_n 0, 1) ∧ mc_cd 177 81 = some (.ldc 150, 2) ∧ mc_cd 177 83 = some (.invokevirtual 114, 3) ∧ mc_cd 177 86 = some (.ifCond .eq 10, 3) ∧ mc_cd 177 89 = some (.aload_n 0, 1) := by decide +kernel
theorem c177_73 : mc_cd 177 73 = some (.aload_n 0, 1) := cg177_73.1
theorem c177_74 : mc_cd 177 74 = some (.invokevirtual 203, 3) := cg177_73.2.1
theorem c177_77 : mc_cd 177 77 = some (.goto 56, 3) := cg177_73.2.2.1
theorem c177_80 : mc_cd 177 80 = some (.aload_n 0, 1) := cg177_73.2.2.2.1
theorem c177_81 : mc_cd 177 81 = some (.ldc 150, 2) := cg177_73.2.2.2.2.1
theorem c177_83 : mc_cd 177 83 = some (.invokevirtual 114, 3) := cg177_73.2.2.2.2.2.1
theorem c177_86 : mc_cd 177 86 = some (.ifCond .eq 10, 3) := cg177_73.2.2.2.2.2.2.1
theorem c177_89 : mc_cd 177 89 = some (.aload_n 0, 1) := cg177_73.2.2.2.2.2.2.2
theorem cg177_90 : mc_cd 177 90 = some (.invokevirtual 206, 3) ∧ mc_cd 177 93 = some (.goto 40, 3) ∧ mc_cd 177 96 = some (.aload_n 0, 1) ∧ mc_cd 177 97 = some (.ldc 152, 2) ∧ mc_cd 177 99 = some (.invokevirtual 114, 3) ∧ mc_cd 177 102 = some (.ifCond .eq 10, 3) ∧ mc_cd 177 105 = some (.aload_n 0, 1) ∧ mc_cd 177 106 = some (.invokevirtual 209, 3) := by decide +kernel
theorem c177_90 : mc_cd 177 90 = some (.invokevirtual 206, 3) := cg177_90.1
theorem c177_93 : mc_cd 177 93 = some (.goto 40, 3) := cg177_90.2.1
theorem c177_96 : mc_cd 177 96 = some (.aload_n 0, 1) := cg177_90.2.2.1
theorem c177_97 : mc_cd 177 97 = some (.ldc 152, 2) := cg177_90.2.2.2.1
theorem c177_99 : mc_cd 177 99 = some (.invokevirtual 114, 3) := cg177_90.2.2.2.2.1
theorem c177_102 : mc_cd 177 102 = some (.ifCond .eq 10, 3) := cg177_90.2.2.2.2.2.1
theorem c177_105 : mc_cd 177 105 = some (.aload_n 0, 1) := cg177_90.2.2.2.2.2.2.1
theorem c177_106 : mc_cd 177 106 = some (.invokevirtual 209, 3) := cg177_90.2.2.2.2.2.2.2
theorem cg177_109 : mc_cd 177 109 = some (.goto 24, 3) ∧ mc_cd 177 112 = some (.aload_n 0, 1) ∧ mc_cd 177 113 = some (.ldc 154, 2) ∧ mc_cd 177 115 = some (.invokevirtual 114, 3) ∧ mc_cd 177 118 = some (.ifCond .eq 10, 3) ∧ mc_cd 177 121 = some (.aload_n 0, 1) ∧ mc_cd 177 122 = some (.invokevirtual 212, 3) ∧ mc_cd 177 125 = some (.goto 8, 3) := by decide +kernel
theorem c177_109 : mc_cd 177 109 = some (.goto 24, 3) := cg177_109.1
theorem c177_112 : mc_cd 177 112 = some (.aload_n 0, 1) := cg177_109.2.1
theorem c177_113 : mc_cd 177 113 = some (.ldc 154, 2) := cg177_109.2.2.1
theorem c177_115 : mc_cd 177 115 = some (.invokevirtual 114, 3) := cg177_109.2.2.2.1
theorem c177_118 : mc_cd 177 118 = some (.ifCond .eq 10, 3) := cg177_109.2.2.2.2.1
theorem c177_121 : mc_cd 177 121 = some (.aload_n 0, 1) := cg177_109.2.2.2.2.2.1
theorem c177_122 : mc_cd 177 122 = some (.invokevirtual 212, 3) := cg177_109.2.2.2.2.2.2.1
theorem c177_125 : mc_cd 177 125 = some (.goto 8, 3) := cg177_109.2.2.2.2.2.2.2
theorem cg177_128 : mc_cd 177 128 = some (.aload_n 0, 1) ∧ mc_cd 177 129 = some (.iconst 1, 1) ∧ mc_cd 177 130 = some (.invokevirtual 121, 3) ∧ mc_cd 177 133 = some (.return_, 1) := by decide +kernel
theorem c177_128 : mc_cd 177 128 = some (.aload_n 0, 1) := cg177_128.1
theorem c177_129 : mc_cd 177 129 = some (.iconst 1, 1) := cg177_128.2.1
theorem c177_130 : mc_cd 177 130 = some (.invokevirtual 121, 3) := cg177_128.2.2.1
theorem c177_133 : mc_cd 177 133 = some (.return_, 1) := cg177_128.2.2.2
/-! StrikeAwakeModel.eatsSign(I)Z -/
theorem e204 : wq_en 204 = some (9, 3, false, some FieldType.boolean) := rfl
theorem cg204_0 : mc_cd 204 0 = some (.aload_n 0, 1) ∧ mc_cd 204 1 = some (.getfield 75, 3) ∧ mc_cd 204 4 = some (.iconst 4, 1) ∧ mc_cd 204 5 = some (.if_icmp .ne 15, 3) ∧ mc_cd 204 8 = some (.aload_n 0, 1) ∧ mc_cd 204 9 = some (.getfield 87, 3) ∧ mc_cd 204 12 = some (.iload_n 1, 1) ∧ mc_cd 204 13 = some (.if_icmp .ne 7, 3) := by decide +kernel
theorem c204_0 : mc_cd 204 0 = some (.aload_n 0, 1) := cg204_0.1
theorem c204_1 : mc_cd 204 1 = some (.getfield 75, 3) := cg204_0.2.1
theorem c204_4 : mc_cd 204 4 = some (.iconst 4, 1) := cg204_0.2.2.1
theorem c204_5 : mc_cd 204 5 = some (.if_icmp .ne 15, 3) := cg204_0.2.2.2.1
theorem c204_8 : mc_cd 204 8 = some (.aload_n 0, 1) := cg204_0.2.2.2.2.1
theorem c204_9 : mc_cd 204 9 = some (.getfield 87, 3) := cg204_0.2.2.2.2.2.1
theorem c204_12 : mc_cd 204 12 = some (.iload_n 1, 1) := cg204_0.2.2.2.2.2.2.1
theorem c204_13 : mc_cd 204 13 = some (.if_icmp .ne 7, 3) := cg204_0.2.2.2.2.2.2.2
theorem cg204_16 : mc_cd 204 16 = some (.iconst 1, 1) ∧ mc_cd 204 17 = some (.goto 4, 3) ∧ mc_cd 204 20 = some (.iconst 0, 1) ∧ mc_cd 204 21 = some (.istore_n 2, 1) ∧ mc_cd 204 22 = some (.iload_n 2, 1) ∧ mc_cd 204 23 = some (.ifCond .eq 7, 3) ∧ mc_cd 204 26 = some (.aload_n 0, 1) ∧ mc_cd 204 27 = some (.invokevirtual 118, 3) := by decide +kernel
theorem c204_16 : mc_cd 204 16 = some (.iconst 1, 1) := cg204_16.1
theorem c204_17 : mc_cd 204 17 = some (.goto 4, 3) := cg204_16.2.1
theorem c204_20 : mc_cd 204 20 = some (.iconst 0, 1) := cg204_16.2.2.1
theorem c204_21 : mc_cd 204 21 = some (.istore_n 2, 1) := cg204_16.2.2.2.1
theorem c204_22 : mc_cd 204 22 = some (.iload_n 2, 1) := cg204_16.2.2.2.2.1
theorem c204_23 : mc_cd 204 23 = some (.ifCond .eq 7, 3) := cg204_16.2.2.2.2.2.1
theorem c204_26 : mc_cd 204 26 = some (.aload_n 0, 1) := cg204_16.2.2.2.2.2.2.1
theorem c204_27 : mc_cd 204 27 = some (.invokevirtual 118, 3) := cg204_16.2.2.2.2.2.2.2
theorem cg204_30 : mc_cd 204 30 = some (.iload_n 2, 1) ∧ mc_cd 204 31 = some (.ireturn, 1) := by decide +kernel
theorem c204_30 : mc_cd 204 30 = some (.iload_n 2, 1) := cg204_30.1
theorem c204_31 : mc_cd 204 31 = some (.ireturn, 1) := cg204_30.2
/-! StrikeAwakeModel.readParish()V -/
theorem e176 : wq_en 176 = some (9, 2, false, none) := rfl
theorem cg176_0 : mc_cd 176 0 = some (.iconst 1, 1) ∧ mc_cd 176 1 = some (.istore_n 1, 1) ∧ mc_cd 176 2 = some (.iload_n 1, 1) ∧ mc_cd 176 3 = some (.ifCond .eq 17, 3) ∧ mc_cd 176 6 = some (.aload_n 0, 1) ∧ mc_cd 176 7 = some (.invokevirtual 179, 3) ∧ mc_cd 176 10 = some (.aload_n 0, 1) ∧ mc_cd 176 11 = some (.bipush 59, 2) := by decide +kernel
theorem c176_0 : mc_cd 176 0 = some (.iconst 1, 1) := cg176_0.1
theorem c176_1 : mc_cd 176 1 = some (.istore_n 1, 1) := cg176_0.2.1
theorem c176_2 : mc_cd 176 2 = some (.iload_n 1, 1) := cg176_0.2.2.1
theorem c176_3 : mc_cd 176 3 = some (.ifCond .eq 17, 3) := cg176_0.2.2.2.1
theorem c176_6 : mc_cd 176 6 = some (.aload_n 0, 1) := cg176_0.2.2.2.2.1
theorem c176_7 : mc_cd 176 7 = some (.invokevirtual 179, 3) := cg176_0.2.2.2.2.2.1
theorem c176_10 : mc_cd 176 10 = some (.aload_n 0, 1) := cg176_0.2.2.2.2.2.2.1
theorem c176_11 : mc_cd 176 11 = some (.bipush 59, 2) := cg176_0.2.2.2.2.2.2.2
theorem cg176_13 : mc_cd 176 13 = some (.invokevirtual 182, 3) ∧ mc_cd 176 16 = some (.istore_n 1, 1) ∧ mc_cd 176 17 = some (.goto (-15), 3) ∧ mc_cd 176 20 = some (.aload_n 0, 1) ∧ mc_cd 176 21 = some (.getfield 75, 3) ∧ mc_cd 176 24 = some (.iconst 1, 1) ∧ mc_cd 176 25 = some (.if_icmp .eq 8, 3) ∧ mc_cd 176 28 = some (.aload_n 0, 1) := by decide +kernel
theorem c176_13 : mc_cd 176 13 = some (.invokevirtual 182, 3) := cg176_13.1
theorem c176_16 : mc_cd 176 16 = some (.istore_n 1, 1) := cg176_13.2.1
theorem c176_17 : mc_cd 176 17 = some (.goto (-15), 3) := cg176_13.2.2.1
theorem c176_20 : mc_cd 176 20 = some (.aload_n 0, 1) := cg176_13.2.2.2.1
theorem c176_21 : mc_cd 176 21 = some (.getfield 75, 3) := cg176_13.2.2.2.2.1
theorem c176_24 : mc_cd 176 24 = some (.iconst 1, 1) := cg176_13.2.2.2.2.2.1
theorem c176_25 : mc_cd 176 25 = some (.if_icmp .eq 8, 3) := cg176_13.2.2.2.2.2.2.1
theorem c176_28 : mc_cd 176 28 = some (.aload_n 0, 1) := cg176_13.2.2.2.2.2.2.2
theorem cg176_29 : mc_cd 176 29 = some (.iconst 1, 1) ∧ mc_cd 176 30 = some (.invokevirtual 121, 3) ∧ mc_cd 176 33 = some (.aload_n 0, 1) ∧ mc_cd 176 34 = some (.getfield 166, 3) ∧ mc_cd 176 37 = some (.getfield 185, 3) ∧ mc_cd 176 40 = some (.ifCond .eq 13, 3) ∧ mc_cd 176 43 = some (.aload_n 0, 1) ∧ mc_cd 176 44 = some (.getfield 166, 3) := by decide +kernel
theorem c176_29 : mc_cd 176 29 = some (.iconst 1, 1) := cg176_29.1
theorem c176_30 : mc_cd 176 30 = some (.invokevirtual 121, 3) := cg176_29.2.1
theorem c176_33 : mc_cd 176 33 = some (.aload_n 0, 1) := cg176_29.2.2.1
theorem c176_34 : mc_cd 176 34 = some (.getfield 166, 3) := cg176_29.2.2.2.1
theorem c176_37 : mc_cd 176 37 = some (.getfield 185, 3) := cg176_29.2.2.2.2.1
theorem c176_40 : mc_cd 176 40 = some (.ifCond .eq 13, 3) := cg176_29.2.2.2.2.2.1
theorem c176_43 : mc_cd 176 43 = some (.aload_n 0, 1) := cg176_29.2.2.2.2.2.2.1
theorem c176_44 : mc_cd 176 44 = some (.getfield 166, 3) := cg176_29.2.2.2.2.2.2.2
theorem cg176_47 : mc_cd 176 47 = some (.getfield 188, 3) ∧ mc_cd 176 50 = some (.ifCond .ne 9, 3) ∧ mc_cd 176 53 = some (.aload_n 0, 1) ∧ mc_cd 176 54 = some (.bipush 6, 2) ∧ mc_cd 176 56 = some (.invokevirtual 121, 3) ∧ mc_cd 176 59 = some (.return_, 1) := by decide +kernel
theorem c176_47 : mc_cd 176 47 = some (.getfield 188, 3) := cg176_47.1
theorem c176_50 : mc_cd 176 50 = some (.ifCond .ne 9, 3) := cg176_47.2.1
theorem c176_53 : mc_cd 176 53 = some (.aload_n 0, 1) := cg176_47.2.2.1
theorem c176_54 : mc_cd 176 54 = some (.bipush 6, 2) := cg176_47.2.2.2.1
theorem c176_56 : mc_cd 176 56 = some (.invokevirtual 121, 3) := cg176_47.2.2.2.2.1
theorem c176_59 : mc_cd 176 59 = some (.return_, 1) := cg176_47.2.2.2.2.2
/-! StrikeAwakeModel.has(II)Z -/
theorem e205 : wq_en 205 = some (9, 2, false, some FieldType.boolean) := rfl
theorem cg205_0 : mc_cd 205 0 = some (.iload_n 0, 1) ∧ mc_cd 205 1 = some (.iload_n 1, 1) ∧ mc_cd 205 2 = some (.ishr, 1) ∧ mc_cd 205 3 = some (.iconst 1, 1) ∧ mc_cd 205 4 = some (.iand, 1) ∧ mc_cd 205 5 = some (.iconst 1, 1) ∧ mc_cd 205 6 = some (.if_icmp .ne 7, 3) ∧ mc_cd 205 9 = some (.iconst 1, 1) := by decide +kernel
theorem c205_0 : mc_cd 205 0 = some (.iload_n 0, 1) := cg205_0.1
theorem c205_1 : mc_cd 205 1 = some (.iload_n 1, 1) := cg205_0.2.1
theorem c205_2 : mc_cd 205 2 = some (.ishr, 1) := cg205_0.2.2.1
theorem c205_3 : mc_cd 205 3 = some (.iconst 1, 1) := cg205_0.2.2.2.1
theorem c205_4 : mc_cd 205 4 = some (.iand, 1) := cg205_0.2.2.2.2.1
theorem c205_5 : mc_cd 205 5 = some (.iconst 1, 1) := cg205_0.2.2.2.2.2.1
theorem c205_6 : mc_cd 205 6 = some (.if_icmp .ne 7, 3) := cg205_0.2.2.2.2.2.2.1
theorem c205_9 : mc_cd 205 9 = some (.iconst 1, 1) := cg205_0.2.2.2.2.2.2.2
theorem cg205_10 : mc_cd 205 10 = some (.goto 4, 3) ∧ mc_cd 205 13 = some (.iconst 0, 1) ∧ mc_cd 205 14 = some (.ireturn, 1) := by decide +kernel
theorem c205_10 : mc_cd 205 10 = some (.goto 4, 3) := cg205_10.1
theorem c205_13 : mc_cd 205 13 = some (.iconst 0, 1) := cg205_10.2.1
theorem c205_14 : mc_cd 205 14 = some (.ireturn, 1) := cg205_10.2.2
abbrev q_205 (a0 : Int) (a1 : Int) (T : wq_T) (H : wq_H) : Option Value → wq_T → wq_H → Prop := fun r T' H' => T = T' ∧ H = H' ∧ ∃ z : Int, some (vI z) = r ∧ (0 ≤ z ∧ z ≤ 1)
set_option maxHeartbeats 4000000 in
theorem s_205 {kt : Nat → Option mc_E} {T : wq_T} {H : wq_H} {a0 : Int} {a1 : Int} (hW : WT T H) (i0 : (-2147483648) ≤ a0 ∧ a0 ≤ 2147483647) (i1 : (-2147483648) ≤ a1 ∧ a1 ≤ 2147483647) : wpc kt 1 205 [vI a0, vI a1] T H (q_205 a0 a1 T H) := by
  refine wp_enter e205 (Nat.le_of_ble_eq_true rfl) rfl ?_
  show wp _ _ 205 0 [(0, vI a0), (1, vI a1)] [] _ H _
  refine wp_of e205 c205_0 (rw_iload_n (pc' := 1) (z := a0) rfl rfl ?_)
  refine wp_of e205 c205_1 (rw_iload_n (pc' := 2) (z := a1) rfl rfl ?_)
  refine wp_of e205 c205_2 (rw_ishr (pc' := 3) rfl ?_)
  obtain ⟨v93875, e93876⟩ : ∃ x : Int, x = wq_shr a0 a1 := ⟨_, rfl⟩
  rw [← e93876]
  have b93877 : -2147483648 ≤ v93875 ∧ v93875 ≤ 2147483647 := by
    rw [e93876]
    exact wI_shr _ _
  refine wp_of e205 c205_3 (rw_iconst (pc' := 4) rfl ?_)
  refine wp_of e205 c205_4 (rw_iand (pc' := 5) rfl ?_)
  obtain ⟨v93878, e93879⟩ : ∃ x : Int, x = wq_and v93875 1 := ⟨_, rfl⟩
  rw [← e93879]
  have b93880 : 0 ≤ v93878 ∧ v93878 ≤ 1 := by
    rw [e93879]
    exact wq_and_b _ (by omega) (by omega)
  refine wp_of e205 c205_5 (rw_iconst (pc' := 6) rfl ?_)
  refine wp_of e205 c205_6 (rw_icmp_ne (p1 := 13) (p2 := 9) (by decide) rfl ⟨by omega, by omega⟩ ⟨by omega, by omega⟩ (fun c93881 => ?_) (fun c93881 => ?_))
  · refine wp_of e205 c205_13 (rw_iconst (pc' := 14) rfl ?_)
    exact wp_zreturn e205 c205_14 rfl (by omega) ⟨rfl, rfl, 0, rfl, ⟨by omega, by omega⟩⟩
  · refine wp_of e205 c205_9 (rw_iconst (pc' := 10) rfl ?_)
    refine wp_of e205 c205_10 (rw_goto (p1 := 14) (by decide) ?_)
    exact wp_zreturn e205 c205_14 rfl (by omega) ⟨rfl, rfl, 1, rfl, ⟨by omega, by omega⟩⟩
/-! StrikeAwakeModel.struckHours()I -/
theorem e207 : wq_en 207 = some (9, 3, false, some FieldType.int) := rfl
theorem cg207_0 : mc_cd 207 0 = some (.iconst 0, 1) ∧ mc_cd 207 1 = some (.istore_n 1, 1) ∧ mc_cd 207 2 = some (.iconst 0, 1) ∧ mc_cd 207 3 = some (.istore_n 2, 1) ∧ mc_cd 207 4 = some (.iload_n 2, 1) ∧ mc_cd 207 5 = some (.bipush 24, 2) ∧ mc_cd 207 7 = some (.if_icmp .ge 28, 3) ∧ mc_cd 207 10 = some (.iload_n 1, 1) := by decide +kernel
theorem c207_0 : mc_cd 207 0 = some (.iconst 0, 1) := cg207_0.1
theorem c207_1 : mc_cd 207 1 = some (.istore_n 1, 1) := cg207_0.2.1
theorem c207_2 : mc_cd 207 2 = some (.iconst 0, 1) := cg207_0.2.2.1
theorem c207_3 : mc_cd 207 3 = some (.istore_n 2, 1) := cg207_0.2.2.2.1
theorem c207_4 : mc_cd 207 4 = some (.iload_n 2, 1) := cg207_0.2.2.2.2.1
theorem c207_5 : mc_cd 207 5 = some (.bipush 24, 2) := cg207_0.2.2.2.2.2.1
theorem c207_7 : mc_cd 207 7 = some (.if_icmp .ge 28, 3) := cg207_0.2.2.2.2.2.2.1
theorem c207_10 : mc_cd 207 10 = some (.iload_n 1, 1) := cg207_0.2.2.2.2.2.2.2
theorem cg207_11 : mc_cd 207 11 = some (.aload_n 0, 1) ∧ mc_cd 207 12 = some (.getfield 17, 3) ∧ mc_cd 207 15 = some (.iload_n 2, 1) ∧ mc_cd 207 16 = some (.iaload, 1) ∧ mc_cd 207 17 = some (.ifCond .le 9, 3) ∧ mc_cd 207 20 = some (.iconst 1, 1) ∧ mc_cd 207 21 = some (.iload_n 2, 1) ∧ mc_cd 207 22 = some (.ishl, 1) := by decide +kernel
theorem c207_11 : mc_cd 207 11 = some (.aload_n 0, 1) := cg207_11.1
theorem c207_12 : mc_cd 207 12 = some (.getfield 17, 3) := cg207_11.2.1
theorem c207_15 : mc_cd 207 15 = some (.iload_n 2, 1) := cg207_11.2.2.1
theorem c207_16 : mc_cd 207 16 = some (.iaload, 1) := cg207_11.2.2.2.1
theorem c207_17 : mc_cd 207 17 = some (.ifCond .le 9, 3) := cg207_11.2.2.2.2.1
theorem c207_20 : mc_cd 207 20 = some (.iconst 1, 1) := cg207_11.2.2.2.2.2.1
theorem c207_21 : mc_cd 207 21 = some (.iload_n 2, 1) := cg207_11.2.2.2.2.2.2.1
theorem c207_22 : mc_cd 207 22 = some (.ishl, 1) := cg207_11.2.2.2.2.2.2.2
theorem cg207_23 : mc_cd 207 23 = some (.goto 4, 3) ∧ mc_cd 207 26 = some (.iconst 0, 1) ∧ mc_cd 207 27 = some (.ior, 1) ∧ mc_cd 207 28 = some (.istore_n 1, 1) ∧ mc_cd 207 29 = some (.iinc 2 1, 3) ∧ mc_cd 207 32 = some (.goto (-28), 3) ∧ mc_cd 207 35 = some (.iload_n 1, 1) ∧ mc_cd 207 36 = some (.ireturn, 1) := by decide +kernel
theorem c207_23 : mc_cd 207 23 = some (.goto 4, 3) := cg207_23.1
theorem c207_26 : mc_cd 207 26 = some (.iconst 0, 1) := cg207_23.2.1
theorem c207_27 : mc_cd 207 27 = some (.ior, 1) := cg207_23.2.2.1
theorem c207_28 : mc_cd 207 28 = some (.istore_n 1, 1) := cg207_23.2.2.2.1
theorem c207_29 : mc_cd 207 29 = some (.iinc 2 1, 3) := cg207_23.2.2.2.2.1
theorem c207_32 : mc_cd 207 32 = some (.goto (-28), 3) := cg207_23.2.2.2.2.2.1
theorem c207_35 : mc_cd 207 35 = some (.iload_n 1, 1) := cg207_23.2.2.2.2.2.2.1
theorem c207_36 : mc_cd 207 36 = some (.ireturn, 1) := cg207_23.2.2.2.2.2.2.2
abbrev q_207 (r0 : Nat) (T : wq_T) (H : wq_H) : Option Value → wq_T → wq_H → Prop := fun r T' H' => T = T' ∧ H = H' ∧ ∃ z : Int, some (vI z) = r ∧ (0 ≤ z ∧ z ≤ 16777215)
set_option maxHeartbeats 4000000 in
theorem s_207 {kt : Nat → Option mc_E} {T : wq_T} {H : wq_H} {r0 : Nat} (hW : WT T H) (g0 : T.2.2.2 r0 = some 42) : wpc kt 1 207 [.ref r0] T H (q_207 r0 T H) := by
  refine wp_enter e207 (Nat.le_of_ble_eq_true rfl) rfl ?_
  show wp _ _ 207 0 [(0, .ref r0)] [] _ H _
  refine wp_of e207 c207_0 (rw_iconst (pc' := 1) rfl ?_)
  refine wp_of e207 c207_1 (rw_istore_n (pc' := 2) (z := 0) (L' := [(1, vI 0), (0, .ref r0)]) rfl rfl rfl ?_)
  refine wp_of e207 c207_2 (rw_iconst (pc' := 3) rfl ?_)
  refine wp_of e207 c207_3 (rw_istore_n (pc' := 4) (z := 0) (L' := [(2, vI 0), (1, vI 0), (0, .ref r0)]) rfl rfl rfl ?_)
  have lp94104 : ∀ (n94105 : Nat) (v94107 : Int) (v94108 : Int), (0 ≤ v94107 ∧ v94107 ≤ 24) → (0 ≤ v94108 ∧ v94108 ≤ 16777215) → (24 - v94107).toNat = n94105 → wp kt 0 207 4 [(2, vI v94107), (1, vI v94108), (0, .ref r0)] [] T H (q_207 r0 T H) := by
    intro n94105
    induction n94105 using Nat.strongRecOn with
    | _ n94105 ih94106 =>
      intro v94107 v94108 b94111 b94112 m94113
      refine wp_of e207 c207_4 (rw_iload_n (pc' := 5) (z := v94107) rfl rfl ?_)
      refine wp_of e207 c207_5 (rw_bipush (pc' := 7) (z := 24) rfl (by decide) ?_)
      refine wp_of e207 c207_7 (rw_icmp_ge (p1 := 35) (p2 := 10) (by decide) rfl ⟨by omega, by omega⟩ ⟨by omega, by omega⟩ (fun c94114 => ?_) (fun c94114 => ?_))
      · refine wp_of e207 c207_35 (rw_iload_n (pc' := 36) (z := v94108) rfl rfl ?_)
        exact wp_ireturn e207 c207_36 rfl ⟨rfl, rfl, v94108, rfl, ⟨by omega, by omega⟩⟩
      · refine wp_of e207 c207_10 (rw_iload_n (pc' := 11) (z := v94108) rfl rfl ?_)
        refine wp_of e207 c207_11 (rw_aload_n (pc' := 12) (v := .ref r0) rfl rfl rfl ?_)
        refine wp_of e207 c207_12 (xg_R (pc' := 15) lf_9_17 hW g0 sh_42 (by decide) (by decide) ty_42_20 rfl rfl (fun r94115 q94116 g94117 => ?_))
        refine wp_of e207 c207_15 (rw_iload_n (pc' := 16) (z := v94107) rfl rfl ?_)
        refine wp_of e207 c207_16 (xa_I (so := 0) (pc' := 17) hW g94117 sh_44 (by decide) (ty_44 _) (by omega) (by omega) rfl (fun b94118 b94119 => ?_))
        refine wp_of e207 c207_17 (rw_if_le (p1 := 26) (p2 := 20) (by decide) rfl ⟨by omega, by omega⟩ (fun c94120 => ?_) (fun c94120 => ?_))
        · refine wp_of e207 c207_26 (rw_iconst (pc' := 27) rfl ?_)
          refine wp_of e207 c207_27 (rw_ior (pc' := 28) rfl ?_)
          obtain ⟨v94121, e94122⟩ : ∃ x : Int, x = wq_or v94108 0 := ⟨_, rfl⟩
          rw [← e94122]
          have b94123 : 0 ≤ v94121 ∧ v94121 ≤ 16777215 := by
            rw [e94122]
            exact wq_or_24 ⟨by omega, by omega⟩ ⟨by omega, by omega⟩
          refine wp_of e207 c207_28 (rw_istore_n (pc' := 29) (z := v94121) (L' := [(1, vI v94121), (2, vI v94107), (0, .ref r0)]) rfl rfl rfl ?_)
          refine wp_of e207 c207_29 (rw_iinc (pc' := 32) (z := v94107) (L' := [(2, vI (v94107 + 1)), (1, vI v94121), (0, .ref r0)]) rfl rfl rfl rfl ?_)
          refine wp_of e207 c207_32 (rw_goto (p1 := 4) (by decide) ?_)
          exact wp_lc (ks := [2, 1, 0]) (wl_c rfl (wl_c rfl (wl_c rfl wl_n))) rfl (by decide) (ih94106 _ (by omega) (v94107 + 1) v94121 ⟨by omega, by omega⟩ ⟨by omega, by omega⟩ rfl)
        · refine wp_of e207 c207_20 (rw_iconst (pc' := 21) rfl ?_)
          refine wp_of e207 c207_21 (rw_iload_n (pc' := 22) (z := v94107) rfl rfl ?_)
          refine wp_of e207 c207_22 (rw_ishl (pc' := 23) rfl ?_)
          obtain ⟨v94124, e94125⟩ : ∃ x : Int, x = wq_shl 1 v94107 := ⟨_, rfl⟩
          rw [← e94125]
          have b94126 : 1 ≤ v94124 ∧ v94124 ≤ 8388608 := by
            rw [e94125]
            exact wq_shl1_24 ⟨by omega, by omega⟩
          refine wp_of e207 c207_23 (rw_goto (p1 := 27) (by decide) ?_)
          refine wp_of e207 c207_27 (rw_ior (pc' := 28) rfl ?_)
          obtain ⟨v94127, e94128⟩ : ∃ x : Int, x = wq_or v94108 v94124 := ⟨_, rfl⟩
          rw [← e94128]
          have b94129 : 0 ≤ v94127 ∧ v94127 ≤ 16777215 := by
            rw [e94128]
            exact wq_or_24 ⟨by omega, by omega⟩ ⟨by omega, by omega⟩
          refine wp_of e207 c207_28 (rw_istore_n (pc' := 29) (z := v94127) (L' := [(1, vI v94127), (2, vI v94107), (0, .ref r0)]) rfl rfl rfl ?_)
          refine wp_of e207 c207_29 (rw_iinc (pc' := 32) (z := v94107) (L' := [(2, vI (v94107 + 1)), (1, vI v94127), (0, .ref r0)]) rfl rfl rfl rfl ?_)
          refine wp_of e207 c207_32 (rw_goto (p1 := 4) (by decide) ?_)
          exact wp_lc (ks := [2, 1, 0]) (wl_c rfl (wl_c rfl (wl_c rfl wl_n))) rfl (by decide) (ih94106 _ (by omega) (v94107 + 1) v94127 ⟨by omega, by omega⟩ ⟨by omega, by omega⟩ rfl)
  exact wp_lc (ks := [2, 1, 0]) (wl_c rfl (wl_c rfl (wl_c rfl wl_n))) rfl (by decide) (lp94104 _ 0 0 ⟨by omega, by omega⟩ ⟨by omega, by omega⟩ rfl)
/-! StrikeAwakeModel.lay(IIIII)V -/
theorem e208 : wq_en 208 = some (9, 7, false, none) := rfl
theorem cg208_0 : mc_cd 208 0 = some (.bipush 40, 2) ∧ mc_cd 208 2 = some (.iload_n 1, 1) ∧ mc_cd 208 3 = some (.imul, 1) ∧ mc_cd 208 4 = some (.aload_n 0, 1) ∧ mc_cd 208 5 = some (.getfield 21, 3) ∧ mc_cd 208 8 = some (.iload_n 1, 1) ∧ mc_cd 208 9 = some (.iaload, 1) ∧ mc_cd 208 10 = some (.iadd, 1) := by decide +kernel
theorem c208_0 : mc_cd 208 0 = some (.bipush 40, 2) := cg208_0.1
theorem c208_2 : mc_cd 208 2 = some (.iload_n 1, 1) := cg208_0.2.1
theorem c208_3 : mc_cd 208 3 = some (.imul, 1) := cg208_0.2.2.1
theorem c208_4 : mc_cd 208 4 = some (.aload_n 0, 1) := cg208_0.2.2.2.1
theorem c208_5 : mc_cd 208 5 = some (.getfield 21, 3) := cg208_0.2.2.2.2.1
theorem c208_8 : mc_cd 208 8 = some (.iload_n 1, 1) := cg208_0.2.2.2.2.2.1
theorem c208_9 : mc_cd 208 9 = some (.iaload, 1) := cg208_0.2.2.2.2.2.2.1
theorem c208_10 : mc_cd 208 10 = some (.iadd, 1) := cg208_0.2.2.2.2.2.2.2
theorem cg208_11 : mc_cd 208 11 = some (.istore 6, 2) ∧ mc_cd 208 13 = some (.aload_n 0, 1) ∧ mc_cd 208 14 = some (.getfield 24, 3) ∧ mc_cd 208 17 = some (.iload 6, 2) ∧ mc_cd 208 19 = some (.iload_n 2, 1) ∧ mc_cd 208 20 = some (.iastore, 1) ∧ mc_cd 208 21 = some (.aload_n 0, 1) ∧ mc_cd 208 22 = some (.getfield 27, 3) := by decide +kernel
theorem c208_11 : mc_cd 208 11 = some (.istore 6, 2) := cg208_11.1
theorem c208_13 : mc_cd 208 13 = some (.aload_n 0, 1) := cg208_11.2.1
theorem c208_14 : mc_cd 208 14 = some (.getfield 24, 3) := cg208_11.2.2.1
theorem c208_17 : mc_cd 208 17 = some (.iload 6, 2) := cg208_11.2.2.2.1
theorem c208_19 : mc_cd 208 19 = some (.iload_n 2, 1) := cg208_11.2.2.2.2.1
theorem c208_20 : mc_cd 208 20 = some (.iastore, 1) := cg208_11.2.2.2.2.2.1
theorem c208_21 : mc_cd 208 21 = some (.aload_n 0, 1) := cg208_11.2.2.2.2.2.2.1
theorem c208_22 : mc_cd 208 22 = some (.getfield 27, 3) := cg208_11.2.2.2.2.2.2.2
theorem cg208_25 : mc_cd 208 25 = some (.iload 6, 2) ∧ mc_cd 208 27 = some (.iload_n 3, 1) ∧ mc_cd 208 28 = some (.iastore, 1) ∧ mc_cd 208 29 = some (.aload_n 0, 1) ∧ mc_cd 208 30 = some (.getfield 30, 3) ∧ mc_cd 208 33 = some (.iload 6, 2) ∧ mc_cd 208 35 = some (.iload 4, 2) ∧ mc_cd 208 37 = some (.iastore, 1) := by decide +kernel
theorem c208_25 : mc_cd 208 25 = some (.iload 6, 2) := cg208_25.1
theorem c208_27 : mc_cd 208 27 = some (.iload_n 3, 1) := cg208_25.2.1
theorem c208_28 : mc_cd 208 28 = some (.iastore, 1) := cg208_25.2.2.1
theorem c208_29 : mc_cd 208 29 = some (.aload_n 0, 1) := cg208_25.2.2.2.1
theorem c208_30 : mc_cd 208 30 = some (.getfield 30, 3) := cg208_25.2.2.2.2.1
theorem c208_33 : mc_cd 208 33 = some (.iload 6, 2) := cg208_25.2.2.2.2.2.1
theorem c208_35 : mc_cd 208 35 = some (.iload 4, 2) := cg208_25.2.2.2.2.2.2.1
theorem c208_37 : mc_cd 208 37 = some (.iastore, 1) := cg208_25.2.2.2.2.2.2.2
theorem cg208_38 : mc_cd 208 38 = some (.aload_n 0, 1) ∧ mc_cd 208 39 = some (.getfield 33, 3) ∧ mc_cd 208 42 = some (.iload 6, 2) ∧ mc_cd 208 44 = some (.iload 5, 2) ∧ mc_cd 208 46 = some (.iastore, 1) ∧ mc_cd 208 47 = some (.aload_n 0, 1) ∧ mc_cd 208 48 = some (.getfield 21, 3) ∧ mc_cd 208 51 = some (.iload_n 1, 1) := by decide +kernel
theorem c208_38 : mc_cd 208 38 = some (.aload_n 0, 1) := cg208_38.1
theorem c208_39 : mc_cd 208 39 = some (.getfield 33, 3) := cg208_38.2.1
theorem c208_42 : mc_cd 208 42 = some (.iload 6, 2) := cg208_38.2.2.1
theorem c208_44 : mc_cd 208 44 = some (.iload 5, 2) := cg208_38.2.2.2.1
theorem c208_46 : mc_cd 208 46 = some (.iastore, 1) := cg208_38.2.2.2.2.1
theorem c208_47 : mc_cd 208 47 = some (.aload_n 0, 1) := cg208_38.2.2.2.2.2.1
theorem c208_48 : mc_cd 208 48 = some (.getfield 21, 3) := cg208_38.2.2.2.2.2.2.1
theorem c208_51 : mc_cd 208 51 = some (.iload_n 1, 1) := cg208_38.2.2.2.2.2.2.2
theorem cg208_52 : mc_cd 208 52 = some (.dup2, 1) ∧ mc_cd 208 53 = some (.iaload, 1) ∧ mc_cd 208 54 = some (.iconst 1, 1) ∧ mc_cd 208 55 = some (.iadd, 1) ∧ mc_cd 208 56 = some (.iastore, 1) ∧ mc_cd 208 57 = some (.return_, 1) := by decide +kernel
theorem c208_52 : mc_cd 208 52 = some (.dup2, 1) := cg208_52.1
theorem c208_53 : mc_cd 208 53 = some (.iaload, 1) := cg208_52.2.1
theorem c208_54 : mc_cd 208 54 = some (.iconst 1, 1) := cg208_52.2.2.1
theorem c208_55 : mc_cd 208 55 = some (.iadd, 1) := cg208_52.2.2.2.1
theorem c208_56 : mc_cd 208 56 = some (.iastore, 1) := cg208_52.2.2.2.2.1
theorem c208_57 : mc_cd 208 57 = some (.return_, 1) := cg208_52.2.2.2.2.2
/-! StrikeAwakeModel.lays()V -/
theorem e206 : wq_en 206 = some (9, 7, false, none) := rfl
theorem cg206_0 : mc_cd 206 0 = some (.aload_n 0, 1) ∧ mc_cd 206 1 = some (.invokevirtual 357, 3) ∧ mc_cd 206 4 = some (.istore_n 1, 1) ∧ mc_cd 206 5 = some (.iconst 0, 1) ∧ mc_cd 206 6 = some (.istore_n 2, 1) ∧ mc_cd 206 7 = some (.iload_n 2, 1) ∧ mc_cd 206 8 = some (.aload_n 0, 1) ∧ mc_cd 206 9 = some (.getfield 337, 3) := by decide +kernel
theorem c206_0 : mc_cd 206 0 = some (.aload_n 0, 1) := cg206_0.1
theorem c206_1 : mc_cd 206 1 = some (.invokevirtual 357, 3) := cg206_0.2.1
theorem c206_4 : mc_cd 206 4 = some (.istore_n 1, 1) := cg206_0.2.2.1
theorem c206_5 : mc_cd 206 5 = some (.iconst 0, 1) := cg206_0.2.2.2.1
theorem c206_6 : mc_cd 206 6 = some (.istore_n 2, 1) := cg206_0.2.2.2.2.1
theorem c206_7 : mc_cd 206 7 = some (.iload_n 2, 1) := cg206_0.2.2.2.2.2.1
theorem c206_8 : mc_cd 206 8 = some (.aload_n 0, 1) := cg206_0.2.2.2.2.2.2.1
theorem c206_9 : mc_cd 206 9 = some (.getfield 337, 3) := cg206_0.2.2.2.2.2.2.2
theorem cg206_12 : mc_cd 206 12 = some (.getfield 188, 3) ∧ mc_cd 206 15 = some (.if_icmp .ge 181, 3) ∧ mc_cd 206 18 = some (.aload_n 0, 1) ∧ mc_cd 206 19 = some (.getfield 21, 3) ∧ mc_cd 206 22 = some (.iload_n 2, 1) ∧ mc_cd 206 23 = some (.iconst 0, 1) ∧ mc_cd 206 24 = some (.iastore, 1) ∧ mc_cd 206 25 = some (.aload_n 0, 1) := by decide +kernel
theorem c206_12 : mc_cd 206 12 = some (.getfield 188, 3) := cg206_12.1
theorem c206_15 : mc_cd 206 15 = some (.if_icmp .ge 181, 3) := cg206_12.2.1
theorem c206_18 : mc_cd 206 18 = some (.aload_n 0, 1) := cg206_12.2.2.1
theorem c206_19 : mc_cd 206 19 = some (.getfield 21, 3) := cg206_12.2.2.2.1
theorem c206_22 : mc_cd 206 22 = some (.iload_n 2, 1) := cg206_12.2.2.2.2.1
theorem c206_23 : mc_cd 206 23 = some (.iconst 0, 1) := cg206_12.2.2.2.2.2.1
theorem c206_24 : mc_cd 206 24 = some (.iastore, 1) := cg206_12.2.2.2.2.2.2.1
theorem c206_25 : mc_cd 206 25 = some (.aload_n 0, 1) := cg206_12.2.2.2.2.2.2.2
theorem cg206_26 : mc_cd 206 26 = some (.getfield 337, 3) ∧ mc_cd 206 29 = some (.getfield 267, 3) ∧ mc_cd 206 32 = some (.iload_n 2, 1) ∧ mc_cd 206 33 = some (.baload, 1) ∧ mc_cd 206 34 = some (.ifCond .eq 15, 3) ∧ mc_cd 206 37 = some (.aload_n 0, 1) ∧ mc_cd 206 38 = some (.iload_n 2, 1) ∧ mc_cd 206 39 = some (.iconst 0, 1) := by decide +kernel
theorem c206_26 : mc_cd 206 26 = some (.getfield 337, 3) := cg206_26.1
theorem c206_29 : mc_cd 206 29 = some (.getfield 267, 3) := cg206_26.2.1
theorem c206_32 : mc_cd 206 32 = some (.iload_n 2, 1) := cg206_26.2.2.1
theorem c206_33 : mc_cd 206 33 = some (.baload, 1) := cg206_26.2.2.2.1
theorem c206_34 : mc_cd 206 34 = some (.ifCond .eq 15, 3) := cg206_26.2.2.2.2.1
theorem c206_37 : mc_cd 206 37 = some (.aload_n 0, 1) := cg206_26.2.2.2.2.2.1
theorem c206_38 : mc_cd 206 38 = some (.iload_n 2, 1) := cg206_26.2.2.2.2.2.2.1
theorem c206_39 : mc_cd 206 39 = some (.iconst 0, 1) := cg206_26.2.2.2.2.2.2.2
theorem cg206_40 : mc_cd 206 40 = some (.iconst 0, 1) ∧ mc_cd 206 41 = some (.iconst 0, 1) ∧ mc_cd 206 42 = some (.iconst 0, 1) ∧ mc_cd 206 43 = some (.invokevirtual 360, 3) ∧ mc_cd 206 46 = some (.goto 144, 3) ∧ mc_cd 206 49 = some (.aload_n 0, 1) ∧ mc_cd 206 50 = some (.getfield 337, 3) ∧ mc_cd 206 53 = some (.getfield 261, 3) := by decide +kernel
theorem c206_40 : mc_cd 206 40 = some (.iconst 0, 1) := cg206_40.1
theorem c206_41 : mc_cd 206 41 = some (.iconst 0, 1) := cg206_40.2.1
theorem c206_42 : mc_cd 206 42 = some (.iconst 0, 1) := cg206_40.2.2.1
theorem c206_43 : mc_cd 206 43 = some (.invokevirtual 360, 3) := cg206_40.2.2.2.1
theorem c206_46 : mc_cd 206 46 = some (.goto 144, 3) := cg206_40.2.2.2.2.1
theorem c206_49 : mc_cd 206 49 = some (.aload_n 0, 1) := cg206_40.2.2.2.2.2.1
theorem c206_50 : mc_cd 206 50 = some (.getfield 337, 3) := cg206_40.2.2.2.2.2.2.1
theorem c206_53 : mc_cd 206 53 = some (.getfield 261, 3) := cg206_40.2.2.2.2.2.2.2
theorem cg206_56 : mc_cd 206 56 = some (.iload_n 2, 1) ∧ mc_cd 206 57 = some (.iaload, 1) ∧ mc_cd 206 58 = some (.aload_n 0, 1) ∧ mc_cd 206 59 = some (.getfield 337, 3) ∧ mc_cd 206 62 = some (.getfield 264, 3) ∧ mc_cd 206 65 = some (.iload_n 2, 1) ∧ mc_cd 206 66 = some (.iaload, 1) ∧ mc_cd 206 67 = some (.invokestatic 318, 3) := by decide +kernel
theorem c206_56 : mc_cd 206 56 = some (.iload_n 2, 1) := cg206_56.1
theorem c206_57 : mc_cd 206 57 = some (.iaload, 1) := cg206_56.2.1
theorem c206_58 : mc_cd 206 58 = some (.aload_n 0, 1) := cg206_56.2.2.1
theorem c206_59 : mc_cd 206 59 = some (.getfield 337, 3) := cg206_56.2.2.2.1
theorem c206_62 : mc_cd 206 62 = some (.getfield 264, 3) := cg206_56.2.2.2.2.1
theorem c206_65 : mc_cd 206 65 = some (.iload_n 2, 1) := cg206_56.2.2.2.2.2.1
theorem c206_66 : mc_cd 206 66 = some (.iaload, 1) := cg206_56.2.2.2.2.2.2.1
theorem c206_67 : mc_cd 206 67 = some (.invokestatic 318, 3) := cg206_56.2.2.2.2.2.2.2
theorem cg206_70 : mc_cd 206 70 = some (.istore_n 3, 1) ∧ mc_cd 206 71 = some (.aload_n 0, 1) ∧ mc_cd 206 72 = some (.getfield 337, 3) ∧ mc_cd 206 75 = some (.getfield 247, 3) ∧ mc_cd 206 78 = some (.iload_n 2, 1) ∧ mc_cd 206 79 = some (.iaload, 1) ∧ mc_cd 206 80 = some (.istore 4, 2) ∧ mc_cd 206 82 = some (.iload 4, 2) := by decide +kernel
theorem c206_70 : mc_cd 206 70 = some (.istore_n 3, 1) := cg206_70.1
theorem c206_71 : mc_cd 206 71 = some (.aload_n 0, 1) := cg206_70.2.1
theorem c206_72 : mc_cd 206 72 = some (.getfield 337, 3) := cg206_70.2.2.1
theorem c206_75 : mc_cd 206 75 = some (.getfield 247, 3) := cg206_70.2.2.2.1
theorem c206_78 : mc_cd 206 78 = some (.iload_n 2, 1) := cg206_70.2.2.2.2.1
theorem c206_79 : mc_cd 206 79 = some (.iaload, 1) := cg206_70.2.2.2.2.2.1
theorem c206_80 : mc_cd 206 80 = some (.istore 4, 2) := cg206_70.2.2.2.2.2.2.1
theorem c206_82 : mc_cd 206 82 = some (.iload 4, 2) := cg206_70.2.2.2.2.2.2.2
theorem cg206_84 : mc_cd 206 84 = some (.aload_n 0, 1) ∧ mc_cd 206 85 = some (.getfield 337, 3) ∧ mc_cd 206 88 = some (.getfield 250, 3) ∧ mc_cd 206 91 = some (.iload_n 2, 1) ∧ mc_cd 206 92 = some (.iaload, 1) ∧ mc_cd 206 93 = some (.if_icmp .gt 97, 3) ∧ mc_cd 206 96 = some (.aload_n 0, 1) ∧ mc_cd 206 97 = some (.getfield 337, 3) := by decide +kernel
theorem c206_84 : mc_cd 206 84 = some (.aload_n 0, 1) := cg206_84.1
theorem c206_85 : mc_cd 206 85 = some (.getfield 337, 3) := cg206_84.2.1
theorem c206_88 : mc_cd 206 88 = some (.getfield 250, 3) := cg206_84.2.2.1
theorem c206_91 : mc_cd 206 91 = some (.iload_n 2, 1) := cg206_84.2.2.2.1
theorem c206_92 : mc_cd 206 92 = some (.iaload, 1) := cg206_84.2.2.2.2.1
theorem c206_93 : mc_cd 206 93 = some (.if_icmp .gt 97, 3) := cg206_84.2.2.2.2.2.1
theorem c206_96 : mc_cd 206 96 = some (.aload_n 0, 1) := cg206_84.2.2.2.2.2.2.1
theorem c206_97 : mc_cd 206 97 = some (.getfield 337, 3) := cg206_84.2.2.2.2.2.2.2
theorem cg206_100 : mc_cd 206 100 = some (.getfield 253, 3) ∧ mc_cd 206 103 = some (.iload_n 2, 1) ∧ mc_cd 206 104 = some (.iaload, 1) ∧ mc_cd 206 105 = some (.istore 5, 2) ∧ mc_cd 206 107 = some (.iload 5, 2) ∧ mc_cd 206 109 = some (.aload_n 0, 1) ∧ mc_cd 206 110 = some (.getfield 337, 3) ∧ mc_cd 206 113 = some (.getfield 256, 3) := by decide +kernel
theorem c206_100 : mc_cd 206 100 = some (.getfield 253, 3) := cg206_100.1
theorem c206_103 : mc_cd 206 103 = some (.iload_n 2, 1) := cg206_100.2.1
theorem c206_104 : mc_cd 206 104 = some (.iaload, 1) := cg206_100.2.2.1
theorem c206_105 : mc_cd 206 105 = some (.istore 5, 2) := cg206_100.2.2.2.1
theorem c206_107 : mc_cd 206 107 = some (.iload 5, 2) := cg206_100.2.2.2.2.1
theorem c206_109 : mc_cd 206 109 = some (.aload_n 0, 1) := cg206_100.2.2.2.2.2.1
theorem c206_110 : mc_cd 206 110 = some (.getfield 337, 3) := cg206_100.2.2.2.2.2.2.1
theorem c206_113 : mc_cd 206 113 = some (.getfield 256, 3) := cg206_100.2.2.2.2.2.2.2
theorem cg206_116 : mc_cd 206 116 = some (.iload_n 2, 1) ∧ mc_cd 206 117 = some (.iaload, 1) ∧ mc_cd 206 118 = some (.if_icmp .gt 66, 3) ∧ mc_cd 206 121 = some (.iload 4, 2) ∧ mc_cd 206 123 = some (.iload 4, 2) ∧ mc_cd 206 125 = some (.iload 5, 2) ∧ mc_cd 206 127 = some (.iadd, 1) ∧ mc_cd 206 128 = some (.invokestatic 318, 3) := by decide +kernel
theorem c206_116 : mc_cd 206 116 = some (.iload_n 2, 1) := cg206_116.1
theorem c206_117 : mc_cd 206 117 = some (.iaload, 1) := cg206_116.2.1
theorem c206_118 : mc_cd 206 118 = some (.if_icmp .gt 66, 3) := cg206_116.2.2.1
theorem c206_121 : mc_cd 206 121 = some (.iload 4, 2) := cg206_116.2.2.2.1
theorem c206_123 : mc_cd 206 123 = some (.iload 4, 2) := cg206_116.2.2.2.2.1
theorem c206_125 : mc_cd 206 125 = some (.iload 5, 2) := cg206_116.2.2.2.2.2.1
theorem c206_127 : mc_cd 206 127 = some (.iadd, 1) := cg206_116.2.2.2.2.2.2.1
theorem c206_128 : mc_cd 206 128 = some (.invokestatic 318, 3) := cg206_116.2.2.2.2.2.2.2
theorem cg206_131 : mc_cd 206 131 = some (.iload_n 3, 1) ∧ mc_cd 206 132 = some (.ior, 1) ∧ mc_cd 206 133 = some (.aload_n 0, 1) ∧ mc_cd 206 134 = some (.getfield 343, 3) ∧ mc_cd 206 137 = some (.iand, 1) ∧ mc_cd 206 138 = some (.istore 6, 2) ∧ mc_cd 206 140 = some (.iload_n 2, 1) ∧ mc_cd 206 141 = some (.aload_n 0, 1) := by decide +kernel
theorem c206_131 : mc_cd 206 131 = some (.iload_n 3, 1) := cg206_131.1
theorem c206_132 : mc_cd 206 132 = some (.ior, 1) := cg206_131.2.1
theorem c206_133 : mc_cd 206 133 = some (.aload_n 0, 1) := cg206_131.2.2.1
theorem c206_134 : mc_cd 206 134 = some (.getfield 343, 3) := cg206_131.2.2.2.1
theorem c206_137 : mc_cd 206 137 = some (.iand, 1) := cg206_131.2.2.2.2.1
theorem c206_138 : mc_cd 206 138 = some (.istore 6, 2) := cg206_131.2.2.2.2.2.1
theorem c206_140 : mc_cd 206 140 = some (.iload_n 2, 1) := cg206_131.2.2.2.2.2.2.1
theorem c206_141 : mc_cd 206 141 = some (.aload_n 0, 1) := cg206_131.2.2.2.2.2.2.2
theorem cg206_142 : mc_cd 206 142 = some (.getfield 337, 3) ∧ mc_cd 206 145 = some (.getfield 271, 3) ∧ mc_cd 206 148 = some (.if_icmp .ne 10, 3) ∧ mc_cd 206 151 = some (.iload 6, 2) ∧ mc_cd 206 153 = some (.iload_n 1, 1) ∧ mc_cd 206 154 = some (.iand, 1) ∧ mc_cd 206 155 = some (.ifCond .ne 23, 3) ∧ mc_cd 206 158 = some (.aload_n 0, 1) := by decide +kernel
theorem c206_142 : mc_cd 206 142 = some (.getfield 337, 3) := cg206_142.1
theorem c206_145 : mc_cd 206 145 = some (.getfield 271, 3) := cg206_142.2.1
theorem c206_148 : mc_cd 206 148 = some (.if_icmp .ne 10, 3) := cg206_142.2.2.1
theorem c206_151 : mc_cd 206 151 = some (.iload 6, 2) := cg206_142.2.2.2.1
theorem c206_153 : mc_cd 206 153 = some (.iload_n 1, 1) := cg206_142.2.2.2.2.1
theorem c206_154 : mc_cd 206 154 = some (.iand, 1) := cg206_142.2.2.2.2.2.1
theorem c206_155 : mc_cd 206 155 = some (.ifCond .ne 23, 3) := cg206_142.2.2.2.2.2.2.1
theorem c206_158 : mc_cd 206 158 = some (.aload_n 0, 1) := cg206_142.2.2.2.2.2.2.2
theorem cg206_159 : mc_cd 206 159 = some (.iload_n 2, 1) ∧ mc_cd 206 160 = some (.iload 4, 2) ∧ mc_cd 206 162 = some (.iload 5, 2) ∧ mc_cd 206 164 = some (.iload 6, 2) ∧ mc_cd 206 166 = some (.aload_n 0, 1) ∧ mc_cd 206 167 = some (.getfield 343, 3) ∧ mc_cd 206 170 = some (.iload 6, 2) ∧ mc_cd 206 172 = some (.iconst (-1), 1) := by decide +kernel
theorem c206_159 : mc_cd 206 159 = some (.iload_n 2, 1) := cg206_159.1
theorem c206_160 : mc_cd 206 160 = some (.iload 4, 2) := cg206_159.2.1
theorem c206_162 : mc_cd 206 162 = some (.iload 5, 2) := cg206_159.2.2.1
theorem c206_164 : mc_cd 206 164 = some (.iload 6, 2) := cg206_159.2.2.2.1
theorem c206_166 : mc_cd 206 166 = some (.aload_n 0, 1) := cg206_159.2.2.2.2.1
theorem c206_167 : mc_cd 206 167 = some (.getfield 343, 3) := cg206_159.2.2.2.2.2.1
theorem c206_170 : mc_cd 206 170 = some (.iload 6, 2) := cg206_159.2.2.2.2.2.2.1
theorem c206_172 : mc_cd 206 172 = some (.iconst (-1), 1) := cg206_159.2.2.2.2.2.2.2
theorem cg206_173 : mc_cd 206 173 = some (.ixor, 1) ∧ mc_cd 206 174 = some (.iand, 1) ∧ mc_cd 206 175 = some (.invokevirtual 360, 3) ∧ mc_cd 206 178 = some (.iinc 5 1, 3) ∧ mc_cd 206 181 = some (.goto (-74), 3) ∧ mc_cd 206 184 = some (.iinc 4 1, 3) ∧ mc_cd 206 187 = some (.goto (-105), 3) ∧ mc_cd 206 190 = some (.iinc 2 1, 3) := by decide +kernel
theorem c206_173 : mc_cd 206 173 = some (.ixor, 1) := cg206_173.1
theorem c206_174 : mc_cd 206 174 = some (.iand, 1) := cg206_173.2.1
theorem c206_175 : mc_cd 206 175 = some (.invokevirtual 360, 3) := cg206_173.2.2.1
theorem c206_178 : mc_cd 206 178 = some (.iinc 5 1, 3) := cg206_173.2.2.2.1
theorem c206_181 : mc_cd 206 181 = some (.goto (-74), 3) := cg206_173.2.2.2.2.1
theorem c206_184 : mc_cd 206 184 = some (.iinc 4 1, 3) := cg206_173.2.2.2.2.2.1
theorem c206_187 : mc_cd 206 187 = some (.goto (-105), 3) := cg206_173.2.2.2.2.2.2.1
theorem c206_190 : mc_cd 206 190 = some (.iinc 2 1, 3) := cg206_173.2.2.2.2.2.2.2
theorem cg206_193 : mc_cd 206 193 = some (.goto (-186), 3) ∧ mc_cd 206 196 = some (.return_, 1) := by decide +kernel
theorem c206_193 : mc_cd 206 193 = some (.goto (-186), 3) := cg206_193.1
theorem c206_196 : mc_cd 206 196 = some (.return_, 1) := cg206_193.2
