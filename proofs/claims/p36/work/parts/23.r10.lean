/-! methods of the reference (own work, written by wip/gen2/sx.py) -/
/-! StrikeAwakeModel.lie(I)I -/
theorem e272 : wq_en 272 = some (9, 3, false, some FieldType.int) := rfl
theorem c272_0 : mc_cd 272 0 = some (.aload_n 0, 1) := by decide +kernel
theorem c272_1 : mc_cd 272 1 = some (.iconst 0, 1) := by decide +kernel
theorem c272_2 : mc_cd 272 2 = some (.putfield 48, 3) := by decide +kernel
theorem c272_5 : mc_cd 272 5 = some (.aload_n 0, 1) := by decide +kernel
theorem c272_6 : mc_cd 272 6 = some (.aload_n 0, 1) := by decide +kernel
theorem c272_7 : mc_cd 272 7 = some (.iload_n 1, 1) := by decide +kernel
theorem c272_8 : mc_cd 272 8 = some (.invokevirtual 473, 3) := by decide +kernel
theorem c272_11 : mc_cd 272 11 = some (.invokevirtual 433, 3) := by decide +kernel
theorem c272_14 : mc_cd 272 14 = some (.istore_n 2, 1) := by decide +kernel
theorem c272_15 : mc_cd 272 15 = some (.iload_n 2, 1) := by decide +kernel
theorem c272_16 : mc_cd 272 16 = some (.ifCond .le 11, 3) := by decide +kernel
theorem c272_19 : mc_cd 272 19 = some (.aload_n 0, 1) := by decide +kernel
theorem c272_20 : mc_cd 272 20 = some (.iload_n 2, 1) := by decide +kernel
theorem c272_21 : mc_cd 272 21 = some (.invokevirtual 54, 3) := by decide +kernel
theorem c272_24 : mc_cd 272 24 = some (.goto 22, 3) := by decide +kernel
theorem c272_27 : mc_cd 272 27 = some (.aload_n 0, 1) := by decide +kernel
theorem c272_28 : mc_cd 272 28 = some (.aload_n 0, 1) := by decide +kernel
theorem c272_29 : mc_cd 272 29 = some (.iload_n 1, 1) := by decide +kernel
theorem c272_30 : mc_cd 272 30 = some (.invokevirtual 476, 3) := by decide +kernel
theorem c272_33 : mc_cd 272 33 = some (.bipush 24, 2) := by decide +kernel
theorem c272_35 : mc_cd 272 35 = some (.if_icmp .ne 7, 3) := by decide +kernel
theorem c272_38 : mc_cd 272 38 = some (.iconst 0, 1) := by decide +kernel
theorem c272_39 : mc_cd 272 39 = some (.goto 4, 3) := by decide +kernel
theorem c272_42 : mc_cd 272 42 = some (.iconst 1, 1) := by decide +kernel
theorem c272_43 : mc_cd 272 43 = some (.invokevirtual 58, 3) := by decide +kernel
theorem c272_46 : mc_cd 272 46 = some (.ireturn, 1) := by decide +kernel
/-! StrikeAwakeModel.bars(I)I -/
theorem e275 : wq_en 275 = some (9, 4, false, some FieldType.int) := rfl
theorem c275_0 : mc_cd 275 0 = some (.aload_n 0, 1) := by decide +kernel
theorem c275_1 : mc_cd 275 1 = some (.iconst 0, 1) := by decide +kernel
theorem c275_2 : mc_cd 275 2 = some (.putfield 48, 3) := by decide +kernel
theorem c275_5 : mc_cd 275 5 = some (.aload_n 0, 1) := by decide +kernel
theorem c275_6 : mc_cd 275 6 = some (.aload_n 0, 1) := by decide +kernel
theorem c275_7 : mc_cd 275 7 = some (.iload_n 1, 1) := by decide +kernel
theorem c275_8 : mc_cd 275 8 = some (.invokevirtual 473, 3) := by decide +kernel
theorem c275_11 : mc_cd 275 11 = some (.invokevirtual 433, 3) := by decide +kernel
theorem c275_14 : mc_cd 275 14 = some (.istore_n 2, 1) := by decide +kernel
theorem c275_15 : mc_cd 275 15 = some (.iload_n 2, 1) := by decide +kernel
theorem c275_16 : mc_cd 275 16 = some (.ifCond .le 9, 3) := by decide +kernel
theorem c275_19 : mc_cd 275 19 = some (.aload_n 0, 1) := by decide +kernel
theorem c275_20 : mc_cd 275 20 = some (.iload_n 2, 1) := by decide +kernel
theorem c275_21 : mc_cd 275 21 = some (.invokevirtual 54, 3) := by decide +kernel
theorem c275_24 : mc_cd 275 24 = some (.ireturn, 1) := by decide +kernel
theorem c275_25 : mc_cd 275 25 = some (.aload_n 0, 1) := by decide +kernel
theorem c275_26 : mc_cd 275 26 = some (.iload_n 1, 1) := by decide +kernel
theorem c275_27 : mc_cd 275 27 = some (.invokevirtual 476, 3) := by decide +kernel
theorem c275_30 : mc_cd 275 30 = some (.istore_n 3, 1) := by decide +kernel
theorem c275_31 : mc_cd 275 31 = some (.aload_n 0, 1) := by decide +kernel
theorem c275_32 : mc_cd 275 32 = some (.iload_n 3, 1) := by decide +kernel
theorem c275_33 : mc_cd 275 33 = some (.bipush 24, 2) := by decide +kernel
theorem c275_35 : mc_cd 275 35 = some (.if_icmp .ne 8, 3) := by decide +kernel
theorem c275_38 : mc_cd 275 38 = some (.bipush (-2), 2) := by decide +kernel
theorem c275_40 : mc_cd 275 40 = some (.goto 4, 3) := by decide +kernel
theorem c275_43 : mc_cd 275 43 = some (.iload_n 3, 1) := by decide +kernel
theorem c275_44 : mc_cd 275 44 = some (.invokevirtual 58, 3) := by decide +kernel
theorem c275_47 : mc_cd 275 47 = some (.ireturn, 1) := by decide +kernel
/-! StrikeAwakeModel.proves(I)Z -/
theorem e278 : wq_en 278 = some (9, 3, false, some FieldType.boolean) := rfl
theorem c278_0 : mc_cd 278 0 = some (.iconst 0, 1) := by decide +kernel
theorem c278_1 : mc_cd 278 1 = some (.istore_n 2, 1) := by decide +kernel
theorem c278_2 : mc_cd 278 2 = some (.iload_n 2, 1) := by decide +kernel
theorem c278_3 : mc_cd 278 3 = some (.i2l, 1) := by decide +kernel
theorem c278_4 : mc_cd 278 4 = some (.aload_n 0, 1) := by decide +kernel
theorem c278_5 : mc_cd 278 5 = some (.invokevirtual 376, 3) := by decide +kernel
theorem c278_8 : mc_cd 278 8 = some (.lcmp, 1) := by decide +kernel
theorem c278_9 : mc_cd 278 9 = some (.ifCond .ge 41, 3) := by decide +kernel
theorem c278_12 : mc_cd 278 12 = some (.aload_n 0, 1) := by decide +kernel
theorem c278_13 : mc_cd 278 13 = some (.iload_n 2, 1) := by decide +kernel
theorem c278_14 : mc_cd 278 14 = some (.invokevirtual 425, 3) := by decide +kernel
theorem c278_17 : mc_cd 278 17 = some (.aload_n 0, 1) := by decide +kernel
theorem c278_18 : mc_cd 278 18 = some (.aload_n 0, 1) := by decide +kernel
theorem c278_19 : mc_cd 278 19 = some (.getfield 39, 3) := by decide +kernel
theorem c278_22 : mc_cd 278 22 = some (.invokevirtual 393, 3) := by decide +kernel
theorem c278_25 : mc_cd 278 25 = some (.ifCond .ne 19, 3) := by decide +kernel
theorem c278_28 : mc_cd 278 28 = some (.aload_n 0, 1) := by decide +kernel
theorem c278_29 : mc_cd 278 29 = some (.aload_n 0, 1) := by decide +kernel
theorem c278_30 : mc_cd 278 30 = some (.getfield 39, 3) := by decide +kernel
theorem c278_33 : mc_cd 278 33 = some (.iload_n 1, 1) := by decide +kernel
theorem c278_34 : mc_cd 278 34 = some (.invokevirtual 397, 3) := by decide +kernel
theorem c278_37 : mc_cd 278 37 = some (.bipush 24, 2) := by decide +kernel
theorem c278_39 : mc_cd 278 39 = some (.if_icmp .ne 5, 3) := by decide +kernel
theorem c278_42 : mc_cd 278 42 = some (.iconst 0, 1) := by decide +kernel
theorem c278_43 : mc_cd 278 43 = some (.ireturn, 1) := by decide +kernel
theorem c278_44 : mc_cd 278 44 = some (.iinc 2 1, 3) := by decide +kernel
theorem c278_47 : mc_cd 278 47 = some (.goto (-45), 3) := by decide +kernel
theorem c278_50 : mc_cd 278 50 = some (.iconst 1, 1) := by decide +kernel
theorem c278_51 : mc_cd 278 51 = some (.ireturn, 1) := by decide +kernel
/-! StrikeAwakeModel.leastProof(II)I -/
theorem e277 : wq_en 277 = some (9, 6, false, some FieldType.int) := rfl
theorem c277_0 : mc_cd 277 0 = some (.iload_n 2, 1) := by decide +kernel
theorem c277_1 : mc_cd 277 1 = some (.ifCond .ne 17, 3) := by decide +kernel
theorem c277_4 : mc_cd 277 4 = some (.aload_n 0, 1) := by decide +kernel
theorem c277_5 : mc_cd 277 5 = some (.iconst 0, 1) := by decide +kernel
theorem c277_6 : mc_cd 277 6 = some (.invokevirtual 484, 3) := by decide +kernel
theorem c277_9 : mc_cd 277 9 = some (.ifCond .eq 7, 3) := by decide +kernel
theorem c277_12 : mc_cd 277 12 = some (.iconst 0, 1) := by decide +kernel
theorem c277_13 : mc_cd 277 13 = some (.goto 4, 3) := by decide +kernel
theorem c277_16 : mc_cd 277 16 = some (.iconst (-1), 1) := by decide +kernel
theorem c277_17 : mc_cd 277 17 = some (.ireturn, 1) := by decide +kernel
theorem c277_18 : mc_cd 277 18 = some (.iload_n 2, 1) := by decide +kernel
theorem c277_19 : mc_cd 277 19 = some (.iconst 1, 1) := by decide +kernel
theorem c277_20 : mc_cd 277 20 = some (.isub, 1) := by decide +kernel
theorem c277_21 : mc_cd 277 21 = some (.istore_n 3, 1) := by decide +kernel
theorem c277_22 : mc_cd 277 22 = some (.iload_n 3, 1) := by decide +kernel
theorem c277_23 : mc_cd 277 23 = some (.bipush 24, 2) := by decide +kernel
theorem c277_25 : mc_cd 277 25 = some (.if_icmp .ge 166, 3) := by decide +kernel
theorem c277_28 : mc_cd 277 28 = some (.iload_n 1, 1) := by decide +kernel
theorem c277_29 : mc_cd 277 29 = some (.iload_n 3, 1) := by decide +kernel
theorem c277_30 : mc_cd 277 30 = some (.invokestatic 346, 3) := by decide +kernel
theorem c277_33 : mc_cd 277 33 = some (.ifCond .ne 6, 3) := by decide +kernel
theorem c277_36 : mc_cd 277 36 = some (.goto 149, 3) := by decide +kernel
theorem c277_39 : mc_cd 277 39 = some (.iload_n 2, 1) := by decide +kernel
theorem c277_40 : mc_cd 277 40 = some (.iconst 1, 1) := by decide +kernel
theorem c277_41 : mc_cd 277 41 = some (.if_icmp .ne 17, 3) := by decide +kernel
theorem c277_44 : mc_cd 277 44 = some (.aload_n 0, 1) := by decide +kernel
theorem c277_45 : mc_cd 277 45 = some (.iconst 1, 1) := by decide +kernel
theorem c277_46 : mc_cd 277 46 = some (.iload_n 3, 1) := by decide +kernel
theorem c277_47 : mc_cd 277 47 = some (.ishl, 1) := by decide +kernel
theorem c277_48 : mc_cd 277 48 = some (.invokevirtual 484, 3) := by decide +kernel
theorem c277_51 : mc_cd 277 51 = some (.ifCond .eq 7, 3) := by decide +kernel
theorem c277_54 : mc_cd 277 54 = some (.iconst 1, 1) := by decide +kernel
theorem c277_55 : mc_cd 277 55 = some (.iload_n 3, 1) := by decide +kernel
theorem c277_56 : mc_cd 277 56 = some (.ishl, 1) := by decide +kernel
theorem c277_57 : mc_cd 277 57 = some (.ireturn, 1) := by decide +kernel
theorem c277_58 : mc_cd 277 58 = some (.iload_n 2, 1) := by decide +kernel
theorem c277_59 : mc_cd 277 59 = some (.iconst 2, 1) := by decide +kernel
theorem c277_60 : mc_cd 277 60 = some (.isub, 1) := by decide +kernel
theorem c277_61 : mc_cd 277 61 = some (.istore 4, 2) := by decide +kernel
theorem c277_63 : mc_cd 277 63 = some (.iload 4, 2) := by decide +kernel
theorem c277_65 : mc_cd 277 65 = some (.iload_n 3, 1) := by decide +kernel
theorem c277_66 : mc_cd 277 66 = some (.if_icmp .ge 119, 3) := by decide +kernel
theorem c277_69 : mc_cd 277 69 = some (.iload_n 2, 1) := by decide +kernel
theorem c277_70 : mc_cd 277 70 = some (.iconst 1, 1) := by decide +kernel
theorem c277_71 : mc_cd 277 71 = some (.if_icmp .le 114, 3) := by decide +kernel
theorem c277_74 : mc_cd 277 74 = some (.iload_n 1, 1) := by decide +kernel
theorem c277_75 : mc_cd 277 75 = some (.iload 4, 2) := by decide +kernel
theorem c277_77 : mc_cd 277 77 = some (.invokestatic 346, 3) := by decide +kernel
theorem c277_80 : mc_cd 277 80 = some (.ifCond .ne 6, 3) := by decide +kernel
theorem c277_83 : mc_cd 277 83 = some (.goto 96, 3) := by decide +kernel
theorem c277_86 : mc_cd 277 86 = some (.iload_n 2, 1) := by decide +kernel
theorem c277_87 : mc_cd 277 87 = some (.iconst 2, 1) := by decide +kernel
theorem c277_88 : mc_cd 277 88 = some (.if_icmp .ne 27, 3) := by decide +kernel
theorem c277_91 : mc_cd 277 91 = some (.aload_n 0, 1) := by decide +kernel
theorem c277_92 : mc_cd 277 92 = some (.iconst 1, 1) := by decide +kernel
theorem c277_93 : mc_cd 277 93 = some (.iload_n 3, 1) := by decide +kernel
theorem c277_94 : mc_cd 277 94 = some (.ishl, 1) := by decide +kernel
theorem c277_95 : mc_cd 277 95 = some (.iconst 1, 1) := by decide +kernel
theorem c277_96 : mc_cd 277 96 = some (.iload 4, 2) := by decide +kernel
theorem c277_98 : mc_cd 277 98 = some (.ishl, 1) := by decide +kernel
theorem c277_99 : mc_cd 277 99 = some (.ior, 1) := by decide +kernel
theorem c277_100 : mc_cd 277 100 = some (.invokevirtual 484, 3) := by decide +kernel
theorem c277_103 : mc_cd 277 103 = some (.ifCond .eq 12, 3) := by decide +kernel
theorem c277_106 : mc_cd 277 106 = some (.iconst 1, 1) := by decide +kernel
theorem c277_107 : mc_cd 277 107 = some (.iload_n 3, 1) := by decide +kernel
theorem c277_108 : mc_cd 277 108 = some (.ishl, 1) := by decide +kernel
theorem c277_109 : mc_cd 277 109 = some (.iconst 1, 1) := by decide +kernel
theorem c277_110 : mc_cd 277 110 = some (.iload 4, 2) := by decide +kernel
theorem c277_112 : mc_cd 277 112 = some (.ishl, 1) := by decide +kernel
theorem c277_113 : mc_cd 277 113 = some (.ior, 1) := by decide +kernel
theorem c277_114 : mc_cd 277 114 = some (.ireturn, 1) := by decide +kernel
theorem c277_115 : mc_cd 277 115 = some (.iconst 0, 1) := by decide +kernel
theorem c277_116 : mc_cd 277 116 = some (.istore 5, 2) := by decide +kernel
theorem c277_118 : mc_cd 277 118 = some (.iload 5, 2) := by decide +kernel
theorem c277_120 : mc_cd 277 120 = some (.iload 4, 2) := by decide +kernel
theorem c277_122 : mc_cd 277 122 = some (.if_icmp .ge 57, 3) := by decide +kernel
theorem c277_125 : mc_cd 277 125 = some (.iload_n 2, 1) := by decide +kernel
theorem c277_126 : mc_cd 277 126 = some (.iconst 2, 1) := by decide +kernel
theorem c277_127 : mc_cd 277 127 = some (.if_icmp .le 52, 3) := by decide +kernel
theorem c277_130 : mc_cd 277 130 = some (.iload_n 1, 1) := by decide +kernel
theorem c277_131 : mc_cd 277 131 = some (.iload 5, 2) := by decide +kernel
theorem c277_133 : mc_cd 277 133 = some (.invokestatic 346, 3) := by decide +kernel
theorem c277_136 : mc_cd 277 136 = some (.ifCond .eq 37, 3) := by decide +kernel
theorem c277_139 : mc_cd 277 139 = some (.aload_n 0, 1) := by decide +kernel
theorem c277_140 : mc_cd 277 140 = some (.iconst 1, 1) := by decide +kernel
theorem c277_141 : mc_cd 277 141 = some (.iload_n 3, 1) := by decide +kernel
theorem c277_142 : mc_cd 277 142 = some (.ishl, 1) := by decide +kernel
theorem c277_143 : mc_cd 277 143 = some (.iconst 1, 1) := by decide +kernel
theorem c277_144 : mc_cd 277 144 = some (.iload 4, 2) := by decide +kernel
theorem c277_146 : mc_cd 277 146 = some (.ishl, 1) := by decide +kernel
theorem c277_147 : mc_cd 277 147 = some (.ior, 1) := by decide +kernel
theorem c277_148 : mc_cd 277 148 = some (.iconst 1, 1) := by decide +kernel
theorem c277_149 : mc_cd 277 149 = some (.iload 5, 2) := by decide +kernel
theorem c277_151 : mc_cd 277 151 = some (.ishl, 1) := by decide +kernel
theorem c277_152 : mc_cd 277 152 = some (.ior, 1) := by decide +kernel
theorem c277_153 : mc_cd 277 153 = some (.invokevirtual 484, 3) := by decide +kernel
theorem c277_156 : mc_cd 277 156 = some (.ifCond .eq 17, 3) := by decide +kernel
theorem c277_159 : mc_cd 277 159 = some (.iconst 1, 1) := by decide +kernel
theorem c277_160 : mc_cd 277 160 = some (.iload_n 3, 1) := by decide +kernel
theorem c277_161 : mc_cd 277 161 = some (.ishl, 1) := by decide +kernel
theorem c277_162 : mc_cd 277 162 = some (.iconst 1, 1) := by decide +kernel
theorem c277_163 : mc_cd 277 163 = some (.iload 4, 2) := by decide +kernel
theorem c277_165 : mc_cd 277 165 = some (.ishl, 1) := by decide +kernel
theorem c277_166 : mc_cd 277 166 = some (.ior, 1) := by decide +kernel
theorem c277_167 : mc_cd 277 167 = some (.iconst 1, 1) := by decide +kernel
theorem c277_168 : mc_cd 277 168 = some (.iload 5, 2) := by decide +kernel
theorem c277_170 : mc_cd 277 170 = some (.ishl, 1) := by decide +kernel
theorem c277_171 : mc_cd 277 171 = some (.ior, 1) := by decide +kernel
theorem c277_172 : mc_cd 277 172 = some (.ireturn, 1) := by decide +kernel
theorem c277_173 : mc_cd 277 173 = some (.iinc 5 1, 3) := by decide +kernel
theorem c277_176 : mc_cd 277 176 = some (.goto (-58), 3) := by decide +kernel
theorem c277_179 : mc_cd 277 179 = some (.iinc 4 1, 3) := by decide +kernel
theorem c277_182 : mc_cd 277 182 = some (.goto (-119), 3) := by decide +kernel
theorem c277_185 : mc_cd 277 185 = some (.iinc 3 1, 3) := by decide +kernel
theorem c277_188 : mc_cd 277 188 = some (.goto (-166), 3) := by decide +kernel
theorem c277_191 : mc_cd 277 191 = some (.iconst (-1), 1) := by decide +kernel
theorem c277_192 : mc_cd 277 192 = some (.ireturn, 1) := by decide +kernel
/-! StrikeAwakeModel.proof()I -/
theorem e276 : wq_en 276 = some (9, 5, false, some FieldType.int) := rfl
theorem c276_0 : mc_cd 276 0 = some (.aload_n 0, 1) := by decide +kernel
theorem c276_1 : mc_cd 276 1 = some (.iconst 0, 1) := by decide +kernel
theorem c276_2 : mc_cd 276 2 = some (.putfield 48, 3) := by decide +kernel
theorem c276_5 : mc_cd 276 5 = some (.aload_n 0, 1) := by decide +kernel
theorem c276_6 : mc_cd 276 6 = some (.aload_n 0, 1) := by decide +kernel
theorem c276_7 : mc_cd 276 7 = some (.getfield 337, 3) := by decide +kernel
theorem c276_10 : mc_cd 276 10 = some (.ifnull 7, 3) := by decide +kernel
theorem c276_13 : mc_cd 276 13 = some (.iconst 1, 1) := by decide +kernel
theorem c276_14 : mc_cd 276 14 = some (.goto 4, 3) := by decide +kernel
theorem c276_17 : mc_cd 276 17 = some (.iconst 0, 1) := by decide +kernel
theorem c276_18 : mc_cd 276 18 = some (.invokevirtual 433, 3) := by decide +kernel
theorem c276_21 : mc_cd 276 21 = some (.istore_n 1, 1) := by decide +kernel
theorem c276_22 : mc_cd 276 22 = some (.iload_n 1, 1) := by decide +kernel
theorem c276_23 : mc_cd 276 23 = some (.ifCond .ne 16, 3) := by decide +kernel
theorem c276_26 : mc_cd 276 26 = some (.aload_n 0, 1) := by decide +kernel
theorem c276_27 : mc_cd 276 27 = some (.invokevirtual 376, 3) := by decide +kernel
theorem c276_30 : mc_cd 276 30 = some (.ldc2_w 479, 3) := by decide +kernel
theorem c276_33 : mc_cd 276 33 = some (.lcmp, 1) := by decide +kernel
theorem c276_34 : mc_cd 276 34 = some (.ifCond .le 5, 3) := by decide +kernel
theorem c276_37 : mc_cd 276 37 = some (.iconst 3, 1) := by decide +kernel
theorem c276_38 : mc_cd 276 38 = some (.istore_n 1, 1) := by decide +kernel
theorem c276_39 : mc_cd 276 39 = some (.iload_n 1, 1) := by decide +kernel
theorem c276_40 : mc_cd 276 40 = some (.ifCond .ne 12, 3) := by decide +kernel
theorem c276_43 : mc_cd 276 43 = some (.aload_n 0, 1) := by decide +kernel
theorem c276_44 : mc_cd 276 44 = some (.getfield 422, 3) := by decide +kernel
theorem c276_47 : mc_cd 276 47 = some (.ifCond .le 5, 3) := by decide +kernel
theorem c276_50 : mc_cd 276 50 = some (.iconst 5, 1) := by decide +kernel
theorem c276_51 : mc_cd 276 51 = some (.istore_n 1, 1) := by decide +kernel
theorem c276_52 : mc_cd 276 52 = some (.iload_n 1, 1) := by decide +kernel
theorem c276_53 : mc_cd 276 53 = some (.ifCond .le 9, 3) := by decide +kernel
theorem c276_56 : mc_cd 276 56 = some (.aload_n 0, 1) := by decide +kernel
theorem c276_57 : mc_cd 276 57 = some (.iload_n 1, 1) := by decide +kernel
theorem c276_58 : mc_cd 276 58 = some (.invokevirtual 54, 3) := by decide +kernel
theorem c276_61 : mc_cd 276 61 = some (.ireturn, 1) := by decide +kernel
theorem c276_62 : mc_cd 276 62 = some (.aload_n 0, 1) := by decide +kernel
theorem c276_63 : mc_cd 276 63 = some (.invokevirtual 357, 3) := by decide +kernel
theorem c276_66 : mc_cd 276 66 = some (.istore_n 2, 1) := by decide +kernel
theorem c276_67 : mc_cd 276 67 = some (.iconst 0, 1) := by decide +kernel
theorem c276_68 : mc_cd 276 68 = some (.istore_n 3, 1) := by decide +kernel
theorem c276_69 : mc_cd 276 69 = some (.iload_n 3, 1) := by decide +kernel
theorem c276_70 : mc_cd 276 70 = some (.iconst 4, 1) := by decide +kernel
theorem c276_71 : mc_cd 276 71 = some (.if_icmp .ge 30, 3) := by decide +kernel
theorem c276_74 : mc_cd 276 74 = some (.aload_n 0, 1) := by decide +kernel
theorem c276_75 : mc_cd 276 75 = some (.iload_n 2, 1) := by decide +kernel
theorem c276_76 : mc_cd 276 76 = some (.iload_n 3, 1) := by decide +kernel
theorem c276_77 : mc_cd 276 77 = some (.invokevirtual 481, 3) := by decide +kernel
theorem c276_80 : mc_cd 276 80 = some (.istore 4, 2) := by decide +kernel
theorem c276_82 : mc_cd 276 82 = some (.iload 4, 2) := by decide +kernel
theorem c276_84 : mc_cd 276 84 = some (.iconst (-1), 1) := by decide +kernel
theorem c276_85 : mc_cd 276 85 = some (.if_icmp .eq 10, 3) := by decide +kernel
theorem c276_88 : mc_cd 276 88 = some (.aload_n 0, 1) := by decide +kernel
theorem c276_89 : mc_cd 276 89 = some (.iload 4, 2) := by decide +kernel
theorem c276_91 : mc_cd 276 91 = some (.invokevirtual 58, 3) := by decide +kernel
theorem c276_94 : mc_cd 276 94 = some (.ireturn, 1) := by decide +kernel
theorem c276_95 : mc_cd 276 95 = some (.iinc 3 1, 3) := by decide +kernel
theorem c276_98 : mc_cd 276 98 = some (.goto (-29), 3) := by decide +kernel
theorem c276_101 : mc_cd 276 101 = some (.aload_n 0, 1) := by decide +kernel
theorem c276_102 : mc_cd 276 102 = some (.bipush (-2), 2) := by decide +kernel
theorem c276_104 : mc_cd 276 104 = some (.invokevirtual 58, 3) := by decide +kernel
theorem c276_107 : mc_cd 276 107 = some (.ireturn, 1) := by decide +kernel
