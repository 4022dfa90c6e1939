/-! StrikeAwakeModel.nothing()I -/
theorem e282 : wq_en 282 = some (9, 5, false, some FieldType.int) := rfl
theorem c282_0 : mc_cd 282 0 = some (.aload_n 0, 1) := by decide +kernel
theorem c282_1 : mc_cd 282 1 = some (.iconst 0, 1) := by decide +kernel
theorem c282_2 : mc_cd 282 2 = some (.putfield 48, 3) := by decide +kernel
theorem c282_5 : mc_cd 282 5 = some (.aload_n 0, 1) := by decide +kernel
theorem c282_6 : mc_cd 282 6 = some (.aload_n 0, 1) := by decide +kernel
theorem c282_7 : mc_cd 282 7 = some (.getfield 337, 3) := by decide +kernel
theorem c282_10 : mc_cd 282 10 = some (.ifnull 7, 3) := by decide +kernel
theorem c282_13 : mc_cd 282 13 = some (.iconst 1, 1) := by decide +kernel
theorem c282_14 : mc_cd 282 14 = some (.goto 4, 3) := by decide +kernel
theorem c282_17 : mc_cd 282 17 = some (.iconst 0, 1) := by decide +kernel
theorem c282_18 : mc_cd 282 18 = some (.invokevirtual 433, 3) := by decide +kernel
theorem c282_21 : mc_cd 282 21 = some (.istore_n 1, 1) := by decide +kernel
theorem c282_22 : mc_cd 282 22 = some (.iload_n 1, 1) := by decide +kernel
theorem c282_23 : mc_cd 282 23 = some (.ifCond .le 9, 3) := by decide +kernel
theorem c282_26 : mc_cd 282 26 = some (.aload_n 0, 1) := by decide +kernel
theorem c282_27 : mc_cd 282 27 = some (.iload_n 1, 1) := by decide +kernel
theorem c282_28 : mc_cd 282 28 = some (.invokevirtual 54, 3) := by decide +kernel
theorem c282_31 : mc_cd 282 31 = some (.ireturn, 1) := by decide +kernel
theorem c282_32 : mc_cd 282 32 = some (.iconst 0, 1) := by decide +kernel
theorem c282_33 : mc_cd 282 33 = some (.istore_n 2, 1) := by decide +kernel
theorem c282_34 : mc_cd 282 34 = some (.iconst 0, 1) := by decide +kernel
theorem c282_35 : mc_cd 282 35 = some (.istore_n 3, 1) := by decide +kernel
theorem c282_36 : mc_cd 282 36 = some (.iload_n 3, 1) := by decide +kernel
theorem c282_37 : mc_cd 282 37 = some (.i2l, 1) := by decide +kernel
theorem c282_38 : mc_cd 282 38 = some (.aload_n 0, 1) := by decide +kernel
theorem c282_39 : mc_cd 282 39 = some (.invokevirtual 376, 3) := by decide +kernel
theorem c282_42 : mc_cd 282 42 = some (.lcmp, 1) := by decide +kernel
theorem c282_43 : mc_cd 282 43 = some (.ifCond .ge 73, 3) := by decide +kernel
theorem c282_46 : mc_cd 282 46 = some (.aload_n 0, 1) := by decide +kernel
theorem c282_47 : mc_cd 282 47 = some (.iload_n 3, 1) := by decide +kernel
theorem c282_48 : mc_cd 282 48 = some (.invokevirtual 425, 3) := by decide +kernel
theorem c282_51 : mc_cd 282 51 = some (.aload_n 0, 1) := by decide +kernel
theorem c282_52 : mc_cd 282 52 = some (.aload_n 0, 1) := by decide +kernel
theorem c282_53 : mc_cd 282 53 = some (.getfield 39, 3) := by decide +kernel
theorem c282_56 : mc_cd 282 56 = some (.invokevirtual 393, 3) := by decide +kernel
theorem c282_59 : mc_cd 282 59 = some (.ifCond .eq 6, 3) := by decide +kernel
theorem c282_62 : mc_cd 282 62 = some (.goto 48, 3) := by decide +kernel
theorem c282_65 : mc_cd 282 65 = some (.iconst 0, 1) := by decide +kernel
theorem c282_66 : mc_cd 282 66 = some (.istore 4, 2) := by decide +kernel
theorem c282_68 : mc_cd 282 68 = some (.iload 4, 2) := by decide +kernel
theorem c282_70 : mc_cd 282 70 = some (.aload_n 0, 1) := by decide +kernel
theorem c282_71 : mc_cd 282 71 = some (.getfield 337, 3) := by decide +kernel
theorem c282_74 : mc_cd 282 74 = some (.getfield 185, 3) := by decide +kernel
theorem c282_77 : mc_cd 282 77 = some (.if_icmp .ge 33, 3) := by decide +kernel
theorem c282_80 : mc_cd 282 80 = some (.iload_n 2, 1) := by decide +kernel
theorem c282_81 : mc_cd 282 81 = some (.aload_n 0, 1) := by decide +kernel
theorem c282_82 : mc_cd 282 82 = some (.aload_n 0, 1) := by decide +kernel
theorem c282_83 : mc_cd 282 83 = some (.getfield 39, 3) := by decide +kernel
theorem c282_86 : mc_cd 282 86 = some (.iload 4, 2) := by decide +kernel
theorem c282_88 : mc_cd 282 88 = some (.invokevirtual 386, 3) := by decide +kernel
theorem c282_91 : mc_cd 282 91 = some (.ifCond .ne 10, 3) := by decide +kernel
theorem c282_94 : mc_cd 282 94 = some (.iconst 1, 1) := by decide +kernel
theorem c282_95 : mc_cd 282 95 = some (.iload 4, 2) := by decide +kernel
theorem c282_97 : mc_cd 282 97 = some (.ishl, 1) := by decide +kernel
theorem c282_98 : mc_cd 282 98 = some (.goto 4, 3) := by decide +kernel
theorem c282_101 : mc_cd 282 101 = some (.iconst 0, 1) := by decide +kernel
theorem c282_102 : mc_cd 282 102 = some (.ior, 1) := by decide +kernel
theorem c282_103 : mc_cd 282 103 = some (.istore_n 2, 1) := by decide +kernel
theorem c282_104 : mc_cd 282 104 = some (.iinc 4 1, 3) := by decide +kernel
theorem c282_107 : mc_cd 282 107 = some (.goto (-39), 3) := by decide +kernel
theorem c282_110 : mc_cd 282 110 = some (.iinc 3 1, 3) := by decide +kernel
theorem c282_113 : mc_cd 282 113 = some (.goto (-77), 3) := by decide +kernel
theorem c282_116 : mc_cd 282 116 = some (.aload_n 0, 1) := by decide +kernel
theorem c282_117 : mc_cd 282 117 = some (.iload_n 2, 1) := by decide +kernel
theorem c282_118 : mc_cd 282 118 = some (.invokevirtual 58, 3) := by decide +kernel
theorem c282_121 : mc_cd 282 121 = some (.ireturn, 1) := by decide +kernel
