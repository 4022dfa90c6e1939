/-! methods of the reference (own work, written by wip/gen2/sx.py) -/
/-! StrikeAwakeModel.known()I -/
theorem e195 : wq_en 195 = some (9, 2, false, some FieldType.int) := rfl
theorem c195_0 : mc_cd 195 0 = some (.aload_n 0, 1) := by decide +kernel
theorem c195_1 : mc_cd 195 1 = some (.invokevirtual 162, 3) := by decide +kernel
theorem c195_4 : mc_cd 195 4 = some (.ifCond .ne 8, 3) := by decide +kernel
theorem c195_7 : mc_cd 195 7 = some (.aload_n 0, 1) := by decide +kernel
theorem c195_8 : mc_cd 195 8 = some (.iconst 1, 1) := by decide +kernel
theorem c195_9 : mc_cd 195 9 = some (.invokevirtual 121, 3) := by decide +kernel
theorem c195_12 : mc_cd 195 12 = some (.aload_n 0, 1) := by decide +kernel
theorem c195_13 : mc_cd 195 13 = some (.getfield 166, 3) := by decide +kernel
theorem c195_16 : mc_cd 195 16 = some (.aload_n 0, 1) := by decide +kernel
theorem c195_17 : mc_cd 195 17 = some (.getfield 94, 3) := by decide +kernel
theorem c195_20 : mc_cd 195 20 = some (.invokevirtual 170, 3) := by decide +kernel
theorem c195_23 : mc_cd 195 23 = some (.istore_n 1, 1) := by decide +kernel
theorem c195_24 : mc_cd 195 24 = some (.iload_n 1, 1) := by decide +kernel
theorem c195_25 : mc_cd 195 25 = some (.iconst (-1), 1) := by decide +kernel
theorem c195_26 : mc_cd 195 26 = some (.if_icmp .ne 8, 3) := by decide +kernel
theorem c195_29 : mc_cd 195 29 = some (.aload_n 0, 1) := by decide +kernel
theorem c195_30 : mc_cd 195 30 = some (.iconst 2, 1) := by decide +kernel
theorem c195_31 : mc_cd 195 31 = some (.invokevirtual 121, 3) := by decide +kernel
theorem c195_34 : mc_cd 195 34 = some (.aload_n 0, 1) := by decide +kernel
theorem c195_35 : mc_cd 195 35 = some (.getfield 75, 3) := by decide +kernel
theorem c195_38 : mc_cd 195 38 = some (.iconst 5, 1) := by decide +kernel
theorem c195_39 : mc_cd 195 39 = some (.if_icmp .ne 7, 3) := by decide +kernel
theorem c195_42 : mc_cd 195 42 = some (.iconst 0, 1) := by decide +kernel
theorem c195_43 : mc_cd 195 43 = some (.goto 4, 3) := by decide +kernel
theorem c195_46 : mc_cd 195 46 = some (.iload_n 1, 1) := by decide +kernel
theorem c195_47 : mc_cd 195 47 = some (.ireturn, 1) := by decide +kernel
/-! StrikeAwakeModel.readKnown()I -/
theorem e194 : wq_en 194 = some (9, 2, false, some FieldType.int) := rfl
theorem c194_0 : mc_cd 194 0 = some (.aload_n 0, 1) := by decide +kernel
theorem c194_1 : mc_cd 194 1 = some (.invokevirtual 176, 3) := by decide +kernel
theorem c194_4 : mc_cd 194 4 = some (.istore_n 1, 1) := by decide +kernel
theorem c194_5 : mc_cd 194 5 = some (.aload_n 0, 1) := by decide +kernel
theorem c194_6 : mc_cd 194 6 = some (.invokevirtual 118, 3) := by decide +kernel
theorem c194_9 : mc_cd 194 9 = some (.iload_n 1, 1) := by decide +kernel
theorem c194_10 : mc_cd 194 10 = some (.ireturn, 1) := by decide +kernel
/-! StrikeAwakeModel.readSexton()V -/
theorem e193 : wq_en 193 = some (9, 2, false, none) := rfl
theorem c193_0 : mc_cd 193 0 = some (.aload_n 0, 1) := by decide +kernel
theorem c193_1 : mc_cd 193 1 = some (.getfield 166, 3) := by decide +kernel
theorem c193_4 : mc_cd 193 4 = some (.getfield 271, 3) := by decide +kernel
theorem c193_7 : mc_cd 193 7 = some (.iconst (-1), 1) := by decide +kernel
theorem c193_8 : mc_cd 193 8 = some (.if_icmp .eq 8, 3) := by decide +kernel
theorem c193_11 : mc_cd 193 11 = some (.aload_n 0, 1) := by decide +kernel
theorem c193_12 : mc_cd 193 12 = some (.iconst 3, 1) := by decide +kernel
theorem c193_13 : mc_cd 193 13 = some (.invokevirtual 121, 3) := by decide +kernel
theorem c193_16 : mc_cd 193 16 = some (.aload_n 0, 1) := by decide +kernel
theorem c193_17 : mc_cd 193 17 = some (.invokevirtual 118, 3) := by decide +kernel
theorem c193_20 : mc_cd 193 20 = some (.aload_n 0, 1) := by decide +kernel
theorem c193_21 : mc_cd 193 21 = some (.invokevirtual 273, 3) := by decide +kernel
theorem c193_24 : mc_cd 193 24 = some (.istore_n 1, 1) := by decide +kernel
theorem c193_25 : mc_cd 193 25 = some (.aload_n 0, 1) := by decide +kernel
theorem c193_26 : mc_cd 193 26 = some (.getfield 75, 3) := by decide +kernel
theorem c193_29 : mc_cd 193 29 = some (.iconst 5, 1) := by decide +kernel
theorem c193_30 : mc_cd 193 30 = some (.if_icmp .eq 11, 3) := by decide +kernel
theorem c193_33 : mc_cd 193 33 = some (.aload_n 0, 1) := by decide +kernel
theorem c193_34 : mc_cd 193 34 = some (.getfield 166, 3) := by decide +kernel
theorem c193_37 : mc_cd 193 37 = some (.iload_n 1, 1) := by decide +kernel
theorem c193_38 : mc_cd 193 38 = some (.putfield 271, 3) := by decide +kernel
theorem c193_41 : mc_cd 193 41 = some (.return_, 1) := by decide +kernel
/-! StrikeAwakeModel.needsSign(I)V -/
theorem e197 : wq_en 197 = some (9, 2, false, none) := rfl
theorem c197_0 : mc_cd 197 0 = some (.aload_n 0, 1) := by decide +kernel
theorem c197_1 : mc_cd 197 1 = some (.getfield 75, 3) := by decide +kernel
theorem c197_4 : mc_cd 197 4 = some (.iconst 4, 1) := by decide +kernel
theorem c197_5 : mc_cd 197 5 = some (.if_icmp .ne 11, 3) := by decide +kernel
theorem c197_8 : mc_cd 197 8 = some (.aload_n 0, 1) := by decide +kernel
theorem c197_9 : mc_cd 197 9 = some (.getfield 87, 3) := by decide +kernel
theorem c197_12 : mc_cd 197 12 = some (.iload_n 1, 1) := by decide +kernel
theorem c197_13 : mc_cd 197 13 = some (.if_icmp .eq 8, 3) := by decide +kernel
theorem c197_16 : mc_cd 197 16 = some (.aload_n 0, 1) := by decide +kernel
theorem c197_17 : mc_cd 197 17 = some (.iconst 1, 1) := by decide +kernel
theorem c197_18 : mc_cd 197 18 = some (.invokevirtual 121, 3) := by decide +kernel
theorem c197_21 : mc_cd 197 21 = some (.aload_n 0, 1) := by decide +kernel
theorem c197_22 : mc_cd 197 22 = some (.invokevirtual 118, 3) := by decide +kernel
theorem c197_25 : mc_cd 197 25 = some (.return_, 1) := by decide +kernel
/-! StrikeAwakeModel.readApart()V -/
theorem e196 : wq_en 196 = some (9, 5, false, none) := rfl
theorem c196_0 : mc_cd 196 0 = some (.aload_n 0, 1) := by decide +kernel
theorem c196_1 : mc_cd 196 1 = some (.aload_n 0, 1) := by decide +kernel
theorem c196_2 : mc_cd 196 2 = some (.getfield 166, 3) := by decide +kernel
theorem c196_5 : mc_cd 196 5 = some (.getfield 276, 3) := by decide +kernel
theorem c196_8 : mc_cd 196 8 = some (.iconst 3, 1) := by decide +kernel
theorem c196_9 : mc_cd 196 9 = some (.invokevirtual 228, 3) := by decide +kernel
theorem c196_12 : mc_cd 196 12 = some (.aload_n 0, 1) := by decide +kernel
theorem c196_13 : mc_cd 196 13 = some (.invokevirtual 273, 3) := by decide +kernel
theorem c196_16 : mc_cd 196 16 = some (.istore_n 1, 1) := by decide +kernel
theorem c196_17 : mc_cd 196 17 = some (.aload_n 0, 1) := by decide +kernel
theorem c196_18 : mc_cd 196 18 = some (.bipush 44, 2) := by decide +kernel
theorem c196_20 : mc_cd 196 20 = some (.invokevirtual 279, 3) := by decide +kernel
theorem c196_23 : mc_cd 196 23 = some (.aload_n 0, 1) := by decide +kernel
theorem c196_24 : mc_cd 196 24 = some (.invokevirtual 176, 3) := by decide +kernel
theorem c196_27 : mc_cd 196 27 = some (.istore_n 2, 1) := by decide +kernel
theorem c196_28 : mc_cd 196 28 = some (.iload_n 1, 1) := by decide +kernel
theorem c196_29 : mc_cd 196 29 = some (.iload_n 2, 1) := by decide +kernel
theorem c196_30 : mc_cd 196 30 = some (.if_icmp .ne 7, 3) := by decide +kernel
theorem c196_33 : mc_cd 196 33 = some (.iconst 1, 1) := by decide +kernel
theorem c196_34 : mc_cd 196 34 = some (.goto 4, 3) := by decide +kernel
theorem c196_37 : mc_cd 196 37 = some (.iconst 0, 1) := by decide +kernel
theorem c196_38 : mc_cd 196 38 = some (.istore_n 3, 1) := by decide +kernel
theorem c196_39 : mc_cd 196 39 = some (.iconst 0, 1) := by decide +kernel
theorem c196_40 : mc_cd 196 40 = some (.istore 4, 2) := by decide +kernel
theorem c196_42 : mc_cd 196 42 = some (.iload 4, 2) := by decide +kernel
theorem c196_44 : mc_cd 196 44 = some (.aload_n 0, 1) := by decide +kernel
theorem c196_45 : mc_cd 196 45 = some (.getfield 166, 3) := by decide +kernel
theorem c196_48 : mc_cd 196 48 = some (.getfield 276, 3) := by decide +kernel
theorem c196_51 : mc_cd 196 51 = some (.if_icmp .ge 75, 3) := by decide +kernel
theorem c196_54 : mc_cd 196 54 = some (.iload_n 3, 1) := by decide +kernel
theorem c196_55 : mc_cd 196 55 = some (.ifCond .ne 59, 3) := by decide +kernel
theorem c196_58 : mc_cd 196 58 = some (.aload_n 0, 1) := by decide +kernel
theorem c196_59 : mc_cd 196 59 = some (.getfield 166, 3) := by decide +kernel
theorem c196_62 : mc_cd 196 62 = some (.getfield 282, 3) := by decide +kernel
theorem c196_65 : mc_cd 196 65 = some (.iload 4, 2) := by decide +kernel
theorem c196_67 : mc_cd 196 67 = some (.iaload, 1) := by decide +kernel
theorem c196_68 : mc_cd 196 68 = some (.iload_n 1, 1) := by decide +kernel
theorem c196_69 : mc_cd 196 69 = some (.if_icmp .ne 17, 3) := by decide +kernel
theorem c196_72 : mc_cd 196 72 = some (.aload_n 0, 1) := by decide +kernel
theorem c196_73 : mc_cd 196 73 = some (.getfield 166, 3) := by decide +kernel
theorem c196_76 : mc_cd 196 76 = some (.getfield 285, 3) := by decide +kernel
theorem c196_79 : mc_cd 196 79 = some (.iload 4, 2) := by decide +kernel
theorem c196_81 : mc_cd 196 81 = some (.iaload, 1) := by decide +kernel
theorem c196_82 : mc_cd 196 82 = some (.iload_n 2, 1) := by decide +kernel
theorem c196_83 : mc_cd 196 83 = some (.if_icmp .eq 31, 3) := by decide +kernel
theorem c196_86 : mc_cd 196 86 = some (.aload_n 0, 1) := by decide +kernel
theorem c196_87 : mc_cd 196 87 = some (.getfield 166, 3) := by decide +kernel
theorem c196_90 : mc_cd 196 90 = some (.getfield 282, 3) := by decide +kernel
theorem c196_93 : mc_cd 196 93 = some (.iload 4, 2) := by decide +kernel
theorem c196_95 : mc_cd 196 95 = some (.iaload, 1) := by decide +kernel
theorem c196_96 : mc_cd 196 96 = some (.iload_n 2, 1) := by decide +kernel
theorem c196_97 : mc_cd 196 97 = some (.if_icmp .ne 21, 3) := by decide +kernel
theorem c196_100 : mc_cd 196 100 = some (.aload_n 0, 1) := by decide +kernel
theorem c196_101 : mc_cd 196 101 = some (.getfield 166, 3) := by decide +kernel
theorem c196_104 : mc_cd 196 104 = some (.getfield 285, 3) := by decide +kernel
theorem c196_107 : mc_cd 196 107 = some (.iload 4, 2) := by decide +kernel
theorem c196_109 : mc_cd 196 109 = some (.iaload, 1) := by decide +kernel
theorem c196_110 : mc_cd 196 110 = some (.iload_n 1, 1) := by decide +kernel
theorem c196_111 : mc_cd 196 111 = some (.if_icmp .ne 7, 3) := by decide +kernel
theorem c196_114 : mc_cd 196 114 = some (.iconst 1, 1) := by decide +kernel
theorem c196_115 : mc_cd 196 115 = some (.goto 4, 3) := by decide +kernel
theorem c196_118 : mc_cd 196 118 = some (.iconst 0, 1) := by decide +kernel
theorem c196_119 : mc_cd 196 119 = some (.istore_n 3, 1) := by decide +kernel
theorem c196_120 : mc_cd 196 120 = some (.iinc 4 1, 3) := by decide +kernel
theorem c196_123 : mc_cd 196 123 = some (.goto (-81), 3) := by decide +kernel
theorem c196_126 : mc_cd 196 126 = some (.iload_n 3, 1) := by decide +kernel
theorem c196_127 : mc_cd 196 127 = some (.ifCond .eq 8, 3) := by decide +kernel
theorem c196_130 : mc_cd 196 130 = some (.aload_n 0, 1) := by decide +kernel
theorem c196_131 : mc_cd 196 131 = some (.iconst 3, 1) := by decide +kernel
theorem c196_132 : mc_cd 196 132 = some (.invokevirtual 121, 3) := by decide +kernel
theorem c196_135 : mc_cd 196 135 = some (.aload_n 0, 1) := by decide +kernel
theorem c196_136 : mc_cd 196 136 = some (.invokevirtual 118, 3) := by decide +kernel
theorem c196_139 : mc_cd 196 139 = some (.aload_n 0, 1) := by decide +kernel
theorem c196_140 : mc_cd 196 140 = some (.getfield 75, 3) := by decide +kernel
theorem c196_143 : mc_cd 196 143 = some (.iconst 5, 1) := by decide +kernel
theorem c196_144 : mc_cd 196 144 = some (.if_icmp .ne 4, 3) := by decide +kernel
theorem c196_147 : mc_cd 196 147 = some (.return_, 1) := by decide +kernel
theorem c196_148 : mc_cd 196 148 = some (.aload_n 0, 1) := by decide +kernel
theorem c196_149 : mc_cd 196 149 = some (.getfield 166, 3) := by decide +kernel
theorem c196_152 : mc_cd 196 152 = some (.getfield 282, 3) := by decide +kernel
theorem c196_155 : mc_cd 196 155 = some (.aload_n 0, 1) := by decide +kernel
theorem c196_156 : mc_cd 196 156 = some (.getfield 166, 3) := by decide +kernel
theorem c196_159 : mc_cd 196 159 = some (.getfield 276, 3) := by decide +kernel
theorem c196_162 : mc_cd 196 162 = some (.iload_n 1, 1) := by decide +kernel
theorem c196_163 : mc_cd 196 163 = some (.iastore, 1) := by decide +kernel
theorem c196_164 : mc_cd 196 164 = some (.aload_n 0, 1) := by decide +kernel
theorem c196_165 : mc_cd 196 165 = some (.getfield 166, 3) := by decide +kernel
theorem c196_168 : mc_cd 196 168 = some (.getfield 285, 3) := by decide +kernel
theorem c196_171 : mc_cd 196 171 = some (.aload_n 0, 1) := by decide +kernel
theorem c196_172 : mc_cd 196 172 = some (.getfield 166, 3) := by decide +kernel
theorem c196_175 : mc_cd 196 175 = some (.getfield 276, 3) := by decide +kernel
theorem c196_178 : mc_cd 196 178 = some (.iload_n 2, 1) := by decide +kernel
theorem c196_179 : mc_cd 196 179 = some (.iastore, 1) := by decide +kernel
theorem c196_180 : mc_cd 196 180 = some (.aload_n 0, 1) := by decide +kernel
theorem c196_181 : mc_cd 196 181 = some (.getfield 166, 3) := by decide +kernel
theorem c196_184 : mc_cd 196 184 = some (.dup, 1) := by decide +kernel
theorem c196_185 : mc_cd 196 185 = some (.getfield 276, 3) := by decide +kernel
theorem c196_188 : mc_cd 196 188 = some (.iconst 1, 1) := by decide +kernel
theorem c196_189 : mc_cd 196 189 = some (.iadd, 1) := by decide +kernel
theorem c196_190 : mc_cd 196 190 = some (.putfield 276, 3) := by decide +kernel
theorem c196_193 : mc_cd 196 193 = some (.return_, 1) := by decide +kernel
/-! StrikeAwakeModel.readBorn()V -/
theorem e198 : wq_en 198 = some (9, 2, false, none) := rfl
theorem c198_0 : mc_cd 198 0 = some (.aload_n 0, 1) := by decide +kernel
theorem c198_1 : mc_cd 198 1 = some (.aload_n 0, 1) := by decide +kernel
theorem c198_2 : mc_cd 198 2 = some (.getfield 166, 3) := by decide +kernel
theorem c198_5 : mc_cd 198 5 = some (.getfield 288, 3) := by decide +kernel
theorem c198_8 : mc_cd 198 8 = some (.iconst 3, 1) := by decide +kernel
theorem c198_9 : mc_cd 198 9 = some (.invokevirtual 228, 3) := by decide +kernel
theorem c198_12 : mc_cd 198 12 = some (.aload_n 0, 1) := by decide +kernel
theorem c198_13 : mc_cd 198 13 = some (.iconst 0, 1) := by decide +kernel
theorem c198_14 : mc_cd 198 14 = some (.bipush 23, 2) := by decide +kernel
theorem c198_16 : mc_cd 198 16 = some (.invokevirtual 137, 3) := by decide +kernel
theorem c198_19 : mc_cd 198 19 = some (.istore_n 1, 1) := by decide +kernel
theorem c198_20 : mc_cd 198 20 = some (.aload_n 0, 1) := by decide +kernel
theorem c198_21 : mc_cd 198 21 = some (.getfield 75, 3) := by decide +kernel
theorem c198_24 : mc_cd 198 24 = some (.iconst 5, 1) := by decide +kernel
theorem c198_25 : mc_cd 198 25 = some (.if_icmp .ne 4, 3) := by decide +kernel
theorem c198_28 : mc_cd 198 28 = some (.return_, 1) := by decide +kernel
theorem c198_29 : mc_cd 198 29 = some (.aload_n 0, 1) := by decide +kernel
theorem c198_30 : mc_cd 198 30 = some (.getfield 166, 3) := by decide +kernel
theorem c198_33 : mc_cd 198 33 = some (.getfield 291, 3) := by decide +kernel
theorem c198_36 : mc_cd 198 36 = some (.aload_n 0, 1) := by decide +kernel
theorem c198_37 : mc_cd 198 37 = some (.getfield 166, 3) := by decide +kernel
theorem c198_40 : mc_cd 198 40 = some (.getfield 288, 3) := by decide +kernel
theorem c198_43 : mc_cd 198 43 = some (.iload_n 1, 1) := by decide +kernel
theorem c198_44 : mc_cd 198 44 = some (.iastore, 1) := by decide +kernel
theorem c198_45 : mc_cd 198 45 = some (.aload_n 0, 1) := by decide +kernel
theorem c198_46 : mc_cd 198 46 = some (.getfield 166, 3) := by decide +kernel
theorem c198_49 : mc_cd 198 49 = some (.dup, 1) := by decide +kernel
theorem c198_50 : mc_cd 198 50 = some (.getfield 288, 3) := by decide +kernel
theorem c198_53 : mc_cd 198 53 = some (.iconst 1, 1) := by decide +kernel
theorem c198_54 : mc_cd 198 54 = some (.iadd, 1) := by decide +kernel
theorem c198_55 : mc_cd 198 55 = some (.putfield 288, 3) := by decide +kernel
theorem c198_58 : mc_cd 198 58 = some (.return_, 1) := by decide +kernel
/-! StrikeAwakeModel.readStruck()V -/
theorem e199 : wq_en 199 = some (9, 3, false, none) := rfl
theorem c199_0 : mc_cd 199 0 = some (.aload_n 0, 1) := by decide +kernel
theorem c199_1 : mc_cd 199 1 = some (.aload_n 0, 1) := by decide +kernel
theorem c199_2 : mc_cd 199 2 = some (.getfield 293, 3) := by decide +kernel
theorem c199_5 : mc_cd 199 5 = some (.bipush 24, 2) := by decide +kernel
theorem c199_7 : mc_cd 199 7 = some (.invokevirtual 228, 3) := by decide +kernel
theorem c199_10 : mc_cd 199 10 = some (.aload_n 0, 1) := by decide +kernel
theorem c199_11 : mc_cd 199 11 = some (.iconst 0, 1) := by decide +kernel
theorem c199_12 : mc_cd 199 12 = some (.bipush 23, 2) := by decide +kernel
theorem c199_14 : mc_cd 199 14 = some (.invokevirtual 129, 3) := by decide +kernel
theorem c199_17 : mc_cd 199 17 = some (.istore_n 1, 1) := by decide +kernel
theorem c199_18 : mc_cd 199 18 = some (.aload_n 0, 1) := by decide +kernel
theorem c199_19 : mc_cd 199 19 = some (.getfield 75, 3) := by decide +kernel
theorem c199_22 : mc_cd 199 22 = some (.iconst 5, 1) := by decide +kernel
theorem c199_23 : mc_cd 199 23 = some (.if_icmp .eq 20, 3) := by decide +kernel
theorem c199_26 : mc_cd 199 26 = some (.aload_n 0, 1) := by decide +kernel
theorem c199_27 : mc_cd 199 27 = some (.getfield 166, 3) := by decide +kernel
theorem c199_30 : mc_cd 199 30 = some (.getfield 296, 3) := by decide +kernel
theorem c199_33 : mc_cd 199 33 = some (.iload_n 1, 1) := by decide +kernel
theorem c199_34 : mc_cd 199 34 = some (.iaload, 1) := by decide +kernel
theorem c199_35 : mc_cd 199 35 = some (.ifCond .le 8, 3) := by decide +kernel
theorem c199_38 : mc_cd 199 38 = some (.aload_n 0, 1) := by decide +kernel
theorem c199_39 : mc_cd 199 39 = some (.iconst 3, 1) := by decide +kernel
theorem c199_40 : mc_cd 199 40 = some (.invokevirtual 121, 3) := by decide +kernel
theorem c199_43 : mc_cd 199 43 = some (.aload_n 0, 1) := by decide +kernel
theorem c199_44 : mc_cd 199 44 = some (.invokevirtual 118, 3) := by decide +kernel
theorem c199_47 : mc_cd 199 47 = some (.aload_n 0, 1) := by decide +kernel
theorem c199_48 : mc_cd 199 48 = some (.ldc_w 298, 3) := by decide +kernel
theorem c199_51 : mc_cd 199 51 = some (.iconst 0, 1) := by decide +kernel
theorem c199_52 : mc_cd 199 52 = some (.bipush 99, 2) := by decide +kernel
theorem c199_54 : mc_cd 199 54 = some (.invokevirtual 216, 3) := by decide +kernel
theorem c199_57 : mc_cd 199 57 = some (.istore_n 2, 1) := by decide +kernel
theorem c199_58 : mc_cd 199 58 = some (.aload_n 0, 1) := by decide +kernel
theorem c199_59 : mc_cd 199 59 = some (.getfield 75, 3) := by decide +kernel
theorem c199_62 : mc_cd 199 62 = some (.iconst 5, 1) := by decide +kernel
theorem c199_63 : mc_cd 199 63 = some (.if_icmp .ne 4, 3) := by decide +kernel
theorem c199_66 : mc_cd 199 66 = some (.return_, 1) := by decide +kernel
theorem c199_67 : mc_cd 199 67 = some (.aload_n 0, 1) := by decide +kernel
theorem c199_68 : mc_cd 199 68 = some (.getfield 166, 3) := by decide +kernel
theorem c199_71 : mc_cd 199 71 = some (.getfield 296, 3) := by decide +kernel
theorem c199_74 : mc_cd 199 74 = some (.iload_n 1, 1) := by decide +kernel
theorem c199_75 : mc_cd 199 75 = some (.iload_n 2, 1) := by decide +kernel
theorem c199_76 : mc_cd 199 76 = some (.iconst 1, 1) := by decide +kernel
theorem c199_77 : mc_cd 199 77 = some (.iadd, 1) := by decide +kernel
theorem c199_78 : mc_cd 199 78 = some (.iastore, 1) := by decide +kernel
theorem c199_79 : mc_cd 199 79 = some (.aload_n 0, 1) := by decide +kernel
theorem c199_80 : mc_cd 199 80 = some (.dup, 1) := by decide +kernel
theorem c199_81 : mc_cd 199 81 = some (.getfield 293, 3) := by decide +kernel
theorem c199_84 : mc_cd 199 84 = some (.iconst 1, 1) := by decide +kernel
theorem c199_85 : mc_cd 199 85 = some (.iadd, 1) := by decide +kernel
theorem c199_86 : mc_cd 199 86 = some (.putfield 293, 3) := by decide +kernel
theorem c199_89 : mc_cd 199 89 = some (.return_, 1) := by decide +kernel
