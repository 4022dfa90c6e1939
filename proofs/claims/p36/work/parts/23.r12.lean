/-! StrikeAwakeModel.seek()I -/
theorem e288 : wq_en 288 = some (9, 3, false, some FieldType.int) := rfl
theorem c288_0 : mc_cd 288 0 = some (.aload_n 0, 1) := by decide +kernel
theorem c288_1 : mc_cd 288 1 = some (.iconst 0, 1) := by decide +kernel
theorem c288_2 : mc_cd 288 2 = some (.putfield 48, 3) := by decide +kernel
theorem c288_5 : mc_cd 288 5 = some (.aload_n 0, 1) := by decide +kernel
theorem c288_6 : mc_cd 288 6 = some (.aload_n 0, 1) := by decide +kernel
theorem c288_7 : mc_cd 288 7 = some (.getfield 337, 3) := by decide +kernel
theorem c288_10 : mc_cd 288 10 = some (.ifnull 7, 3) := by decide +kernel
theorem c288_13 : mc_cd 288 13 = some (.iconst 1, 1) := by decide +kernel
theorem c288_14 : mc_cd 288 14 = some (.goto 4, 3) := by decide +kernel
theorem c288_17 : mc_cd 288 17 = some (.iconst 0, 1) := by decide +kernel
theorem c288_18 : mc_cd 288 18 = some (.invokevirtual 433, 3) := by decide +kernel
theorem c288_21 : mc_cd 288 21 = some (.istore_n 1, 1) := by decide +kernel
theorem c288_22 : mc_cd 288 22 = some (.iload_n 1, 1) := by decide +kernel
theorem c288_23 : mc_cd 288 23 = some (.ifCond .le 9, 3) := by decide +kernel
theorem c288_26 : mc_cd 288 26 = some (.aload_n 0, 1) := by decide +kernel
theorem c288_27 : mc_cd 288 27 = some (.iload_n 1, 1) := by decide +kernel
theorem c288_28 : mc_cd 288 28 = some (.invokevirtual 54, 3) := by decide +kernel
theorem c288_31 : mc_cd 288 31 = some (.ireturn, 1) := by decide +kernel
theorem c288_32 : mc_cd 288 32 = some (.iconst 0, 1) := by decide +kernel
theorem c288_33 : mc_cd 288 33 = some (.istore_n 2, 1) := by decide +kernel
theorem c288_34 : mc_cd 288 34 = some (.iload_n 2, 1) := by decide +kernel
theorem c288_35 : mc_cd 288 35 = some (.aload_n 0, 1) := by decide +kernel
theorem c288_36 : mc_cd 288 36 = some (.getfield 422, 3) := by decide +kernel
theorem c288_39 : mc_cd 288 39 = some (.if_icmp .ge 48, 3) := by decide +kernel
theorem c288_42 : mc_cd 288 42 = some (.aload_n 0, 1) := by decide +kernel
theorem c288_43 : mc_cd 288 43 = some (.getfield 42, 3) := by decide +kernel
theorem c288_46 : mc_cd 288 46 = some (.iload_n 2, 1) := by decide +kernel
theorem c288_47 : mc_cd 288 47 = some (.iaload, 1) := by decide +kernel
theorem c288_48 : mc_cd 288 48 = some (.aload_n 0, 1) := by decide +kernel
theorem c288_49 : mc_cd 288 49 = some (.getfield 340, 3) := by decide +kernel
theorem c288_52 : mc_cd 288 52 = some (.if_icmp .ge 6, 3) := by decide +kernel
theorem c288_55 : mc_cd 288 55 = some (.goto 26, 3) := by decide +kernel
theorem c288_58 : mc_cd 288 58 = some (.aload_n 0, 1) := by decide +kernel
theorem c288_59 : mc_cd 288 59 = some (.aload_n 0, 1) := by decide +kernel
theorem c288_60 : mc_cd 288 60 = some (.getfield 42, 3) := by decide +kernel
theorem c288_63 : mc_cd 288 63 = some (.iload_n 2, 1) := by decide +kernel
theorem c288_64 : mc_cd 288 64 = some (.iaload, 1) := by decide +kernel
theorem c288_65 : mc_cd 288 65 = some (.iconst 1, 1) := by decide +kernel
theorem c288_66 : mc_cd 288 66 = some (.iadd, 1) := by decide +kernel
theorem c288_67 : mc_cd 288 67 = some (.putfield 340, 3) := by decide +kernel
theorem c288_70 : mc_cd 288 70 = some (.aload_n 0, 1) := by decide +kernel
theorem c288_71 : mc_cd 288 71 = some (.aload_n 0, 1) := by decide +kernel
theorem c288_72 : mc_cd 288 72 = some (.getfield 42, 3) := by decide +kernel
theorem c288_75 : mc_cd 288 75 = some (.iload_n 2, 1) := by decide +kernel
theorem c288_76 : mc_cd 288 76 = some (.iaload, 1) := by decide +kernel
theorem c288_77 : mc_cd 288 77 = some (.invokevirtual 58, 3) := by decide +kernel
theorem c288_80 : mc_cd 288 80 = some (.ireturn, 1) := by decide +kernel
theorem c288_81 : mc_cd 288 81 = some (.iinc 2 1, 3) := by decide +kernel
theorem c288_84 : mc_cd 288 84 = some (.goto (-50), 3) := by decide +kernel
theorem c288_87 : mc_cd 288 87 = some (.aload_n 0, 1) := by decide +kernel
theorem c288_88 : mc_cd 288 88 = some (.bipush 6, 2) := by decide +kernel
theorem c288_90 : mc_cd 288 90 = some (.invokevirtual 54, 3) := by decide +kernel
theorem c288_93 : mc_cd 288 93 = some (.ireturn, 1) := by decide +kernel
/-! StrikeAwakeModel.image()J -/
theorem e291 : wq_en 291 = some (9, 4, false, some FieldType.long) := rfl
theorem c291_0 : mc_cd 291 0 = some (.aload_n 0, 1) := by decide +kernel
theorem c291_1 : mc_cd 291 1 = some (.iconst 0, 1) := by decide +kernel
theorem c291_2 : mc_cd 291 2 = some (.putfield 48, 3) := by decide +kernel
theorem c291_5 : mc_cd 291 5 = some (.aload_n 0, 1) := by decide +kernel
theorem c291_6 : mc_cd 291 6 = some (.getfield 337, 3) := by decide +kernel
theorem c291_9 : mc_cd 291 9 = some (.ifnonnull 10, 3) := by decide +kernel
theorem c291_12 : mc_cd 291 12 = some (.aload_n 0, 1) := by decide +kernel
theorem c291_13 : mc_cd 291 13 = some (.iconst 1, 1) := by decide +kernel
theorem c291_14 : mc_cd 291 14 = some (.invokevirtual 54, 3) := by decide +kernel
theorem c291_17 : mc_cd 291 17 = some (.i2l, 1) := by decide +kernel
theorem c291_18 : mc_cd 291 18 = some (.lreturn, 1) := by decide +kernel
theorem c291_19 : mc_cd 291 19 = some (.aload_n 0, 1) := by decide +kernel
theorem c291_20 : mc_cd 291 20 = some (.getfield 340, 3) := by decide +kernel
theorem c291_23 : mc_cd 291 23 = some (.i2l, 1) := by decide +kernel
theorem c291_24 : mc_cd 291 24 = some (.lstore_n 1, 1) := by decide +kernel
theorem c291_25 : mc_cd 291 25 = some (.iconst 0, 1) := by decide +kernel
theorem c291_26 : mc_cd 291 26 = some (.istore_n 3, 1) := by decide +kernel
theorem c291_27 : mc_cd 291 27 = some (.iload_n 3, 1) := by decide +kernel
theorem c291_28 : mc_cd 291 28 = some (.aload_n 0, 1) := by decide +kernel
theorem c291_29 : mc_cd 291 29 = some (.getfield 337, 3) := by decide +kernel
theorem c291_32 : mc_cd 291 32 = some (.getfield 188, 3) := by decide +kernel
theorem c291_35 : mc_cd 291 35 = some (.if_icmp .ge 23, 3) := by decide +kernel
theorem c291_38 : mc_cd 291 38 = some (.ldc2_w 493, 3) := by decide +kernel
theorem c291_41 : mc_cd 291 41 = some (.lload_n 1, 1) := by decide +kernel
theorem c291_42 : mc_cd 291 42 = some (.lmul, 1) := by decide +kernel
theorem c291_43 : mc_cd 291 43 = some (.aload_n 0, 1) := by decide +kernel
theorem c291_44 : mc_cd 291 44 = some (.getfield 36, 3) := by decide +kernel
theorem c291_47 : mc_cd 291 47 = some (.iload_n 3, 1) := by decide +kernel
theorem c291_48 : mc_cd 291 48 = some (.iaload, 1) := by decide +kernel
theorem c291_49 : mc_cd 291 49 = some (.i2l, 1) := by decide +kernel
theorem c291_50 : mc_cd 291 50 = some (.ladd, 1) := by decide +kernel
theorem c291_51 : mc_cd 291 51 = some (.lstore_n 1, 1) := by decide +kernel
theorem c291_52 : mc_cd 291 52 = some (.iinc 3 1, 3) := by decide +kernel
theorem c291_55 : mc_cd 291 55 = some (.goto (-28), 3) := by decide +kernel
theorem c291_58 : mc_cd 291 58 = some (.aload_n 0, 1) := by decide +kernel
theorem c291_59 : mc_cd 291 59 = some (.lload_n 1, 1) := by decide +kernel
theorem c291_60 : mc_cd 291 60 = some (.invokevirtual 380, 3) := by decide +kernel
theorem c291_63 : mc_cd 291 63 = some (.lreturn, 1) := by decide +kernel
/-! StrikeAwakeModel.size(I)I -/
theorem e294 : wq_en 294 = some (9, 2, false, some FieldType.int) := rfl
theorem c294_0 : mc_cd 294 0 = some (.aload_n 0, 1) := by decide +kernel
theorem c294_1 : mc_cd 294 1 = some (.iconst 0, 1) := by decide +kernel
theorem c294_2 : mc_cd 294 2 = some (.putfield 48, 3) := by decide +kernel
theorem c294_5 : mc_cd 294 5 = some (.iload_n 1, 1) := by decide +kernel
theorem c294_6 : mc_cd 294 6 = some (.bipush 9, 2) := by decide +kernel
theorem c294_8 : mc_cd 294 8 = some (.if_icmp .ne 8, 3) := by decide +kernel
theorem c294_11 : mc_cd 294 11 = some (.aload_n 0, 1) := by decide +kernel
theorem c294_12 : mc_cd 294 12 = some (.getfield 330, 3) := by decide +kernel
theorem c294_15 : mc_cd 294 15 = some (.ireturn, 1) := by decide +kernel
theorem c294_16 : mc_cd 294 16 = some (.iload_n 1, 1) := by decide +kernel
theorem c294_17 : mc_cd 294 17 = some (.iconst 0, 1) := by decide +kernel
theorem c294_18 : mc_cd 294 18 = some (.bipush 8, 2) := by decide +kernel
theorem c294_20 : mc_cd 294 20 = some (.invokestatic 125, 3) := by decide +kernel
theorem c294_23 : mc_cd 294 23 = some (.ifCond .ne 5, 3) := by decide +kernel
theorem c294_26 : mc_cd 294 26 = some (.iconst (-1), 1) := by decide +kernel
theorem c294_27 : mc_cd 294 27 = some (.ireturn, 1) := by decide +kernel
theorem c294_28 : mc_cd 294 28 = some (.aload_n 0, 1) := by decide +kernel
theorem c294_29 : mc_cd 294 29 = some (.getfield 337, 3) := by decide +kernel
theorem c294_32 : mc_cd 294 32 = some (.ifnonnull 5, 3) := by decide +kernel
theorem c294_35 : mc_cd 294 35 = some (.iconst 0, 1) := by decide +kernel
theorem c294_36 : mc_cd 294 36 = some (.ireturn, 1) := by decide +kernel
theorem c294_37 : mc_cd 294 37 = some (.iload_n 1, 1) := by decide +kernel
theorem c294_38 : mc_cd 294 38 = some (.tableswitch 126 0 7 #[46, 54, 62, 70, 78, 86, 94, 102], 46) := by decide +kernel
theorem c294_84 : mc_cd 294 84 = some (.aload_n 0, 1) := by decide +kernel
theorem c294_85 : mc_cd 294 85 = some (.getfield 337, 3) := by decide +kernel
theorem c294_88 : mc_cd 294 88 = some (.getfield 188, 3) := by decide +kernel
theorem c294_91 : mc_cd 294 91 = some (.ireturn, 1) := by decide +kernel
theorem c294_92 : mc_cd 294 92 = some (.aload_n 0, 1) := by decide +kernel
theorem c294_93 : mc_cd 294 93 = some (.getfield 337, 3) := by decide +kernel
theorem c294_96 : mc_cd 294 96 = some (.getfield 276, 3) := by decide +kernel
theorem c294_99 : mc_cd 294 99 = some (.ireturn, 1) := by decide +kernel
theorem c294_100 : mc_cd 294 100 = some (.aload_n 0, 1) := by decide +kernel
theorem c294_101 : mc_cd 294 101 = some (.getfield 337, 3) := by decide +kernel
theorem c294_104 : mc_cd 294 104 = some (.getfield 288, 3) := by decide +kernel
theorem c294_107 : mc_cd 294 107 = some (.ireturn, 1) := by decide +kernel
theorem c294_108 : mc_cd 294 108 = some (.aload_n 0, 1) := by decide +kernel
theorem c294_109 : mc_cd 294 109 = some (.invokevirtual 357, 3) := by decide +kernel
theorem c294_112 : mc_cd 294 112 = some (.invokestatic 462, 3) := by decide +kernel
theorem c294_115 : mc_cd 294 115 = some (.ireturn, 1) := by decide +kernel
theorem c294_116 : mc_cd 294 116 = some (.aload_n 0, 1) := by decide +kernel
theorem c294_117 : mc_cd 294 117 = some (.getfield 337, 3) := by decide +kernel
theorem c294_120 : mc_cd 294 120 = some (.getfield 306, 3) := by decide +kernel
theorem c294_123 : mc_cd 294 123 = some (.ireturn, 1) := by decide +kernel
theorem c294_124 : mc_cd 294 124 = some (.aload_n 0, 1) := by decide +kernel
theorem c294_125 : mc_cd 294 125 = some (.getfield 337, 3) := by decide +kernel
theorem c294_128 : mc_cd 294 128 = some (.getfield 321, 3) := by decide +kernel
theorem c294_131 : mc_cd 294 131 = some (.ireturn, 1) := by decide +kernel
theorem c294_132 : mc_cd 294 132 = some (.aload_n 0, 1) := by decide +kernel
theorem c294_133 : mc_cd 294 133 = some (.getfield 337, 3) := by decide +kernel
theorem c294_136 : mc_cd 294 136 = some (.getfield 185, 3) := by decide +kernel
theorem c294_139 : mc_cd 294 139 = some (.ireturn, 1) := by decide +kernel
theorem c294_140 : mc_cd 294 140 = some (.aload_n 0, 1) := by decide +kernel
theorem c294_141 : mc_cd 294 141 = some (.getfield 337, 3) := by decide +kernel
theorem c294_144 : mc_cd 294 144 = some (.getfield 271, 3) := by decide +kernel
theorem c294_147 : mc_cd 294 147 = some (.iconst (-1), 1) := by decide +kernel
theorem c294_148 : mc_cd 294 148 = some (.if_icmp .ne 8, 3) := by decide +kernel
theorem c294_151 : mc_cd 294 151 = some (.bipush (-2), 2) := by decide +kernel
theorem c294_153 : mc_cd 294 153 = some (.goto 10, 3) := by decide +kernel
theorem c294_156 : mc_cd 294 156 = some (.aload_n 0, 1) := by decide +kernel
theorem c294_157 : mc_cd 294 157 = some (.getfield 337, 3) := by decide +kernel
theorem c294_160 : mc_cd 294 160 = some (.getfield 271, 3) := by decide +kernel
theorem c294_163 : mc_cd 294 163 = some (.ireturn, 1) := by decide +kernel
theorem c294_164 : mc_cd 294 164 = some (.aload_n 0, 1) := by decide +kernel
theorem c294_165 : mc_cd 294 165 = some (.getfield 340, 3) := by decide +kernel
theorem c294_168 : mc_cd 294 168 = some (.ireturn, 1) := by decide +kernel
