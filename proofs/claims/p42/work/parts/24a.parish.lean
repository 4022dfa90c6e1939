/-! parish of the reference (own work, written by wip/gen2/sx.py) -/
/-! StrikeAwakeModel.parish(I)I -/
theorem e169 : wq_en 169 = some (9, 3, false, some FieldType.int) := rfl
theorem c169_0 : mc_cd 169 0 = some (.aload_n 0, 1) := by decide +kernel
theorem c169_1 : mc_cd 169 1 = some (.iconst 0, 1) := by decide +kernel
theorem c169_2 : mc_cd 169 2 = some (.putfield 48, 3) := by decide +kernel
theorem c169_5 : mc_cd 169 5 = some (.iload_n 1, 1) := by decide +kernel
theorem c169_6 : mc_cd 169 6 = some (.ifCond .lt 11, 3) := by decide +kernel
theorem c169_9 : mc_cd 169 9 = some (.iload_n 1, 1) := by decide +kernel
theorem c169_10 : mc_cd 169 10 = some (.aload_n 0, 1) := by decide +kernel
theorem c169_11 : mc_cd 169 11 = some (.getfield 330, 3) := by decide +kernel
theorem c169_14 : mc_cd 169 14 = some (.if_icmp .le 9, 3) := by decide +kernel
theorem c169_17 : mc_cd 169 17 = some (.aload_n 0, 1) := by decide +kernel
theorem c169_18 : mc_cd 169 18 = some (.iconst 2, 1) := by decide +kernel
theorem c169_19 : mc_cd 169 19 = some (.invokevirtual 54, 3) := by decide +kernel
theorem c169_22 : mc_cd 169 22 = some (.ireturn, 1) := by decide +kernel
theorem c169_23 : mc_cd 169 23 = some (.aload_n 0, 1) := by decide +kernel
theorem c169_24 : mc_cd 169 24 = some (.iload_n 1, 1) := by decide +kernel
theorem c169_25 : mc_cd 169 25 = some (.putfield 61, 3) := by decide +kernel
theorem c169_28 : mc_cd 169 28 = some (.aload_n 0, 1) := by decide +kernel
theorem c169_29 : mc_cd 169 29 = some (.iconst 0, 1) := by decide +kernel
theorem c169_30 : mc_cd 169 30 = some (.putfield 330, 3) := by decide +kernel
theorem c169_33 : mc_cd 169 33 = some (.aload_n 0, 1) := by decide +kernel
theorem c169_34 : mc_cd 169 34 = some (.iconst 0, 1) := by decide +kernel
theorem c169_35 : mc_cd 169 35 = some (.putfield 78, 3) := by decide +kernel
theorem c169_38 : mc_cd 169 38 = some (.aload_n 0, 1) := by decide +kernel
theorem c169_39 : mc_cd 169 39 = some (.iconst 0, 1) := by decide +kernel
theorem c169_40 : mc_cd 169 40 = some (.putfield 104, 3) := by decide +kernel
theorem c169_43 : mc_cd 169 43 = some (.aload_n 0, 1) := by decide +kernel
theorem c169_44 : mc_cd 169 44 = some (.iconst 0, 1) := by decide +kernel
theorem c169_45 : mc_cd 169 45 = some (.putfield 293, 3) := by decide +kernel
theorem c169_48 : mc_cd 169 48 = some (.aload_n 0, 1) := by decide +kernel
theorem c169_49 : mc_cd 169 49 = some (.new 171, 3) := by decide +kernel
theorem c169_52 : mc_cd 169 52 = some (.dup, 1) := by decide +kernel
theorem c169_53 : mc_cd 169 53 = some (.invokespecial 333, 3) := by decide +kernel
theorem c169_56 : mc_cd 169 56 = some (.putfield 166, 3) := by decide +kernel
theorem c169_59 : mc_cd 169 59 = some (.aload_n 0, 1) := by decide +kernel
theorem c169_60 : mc_cd 169 60 = some (.iconst 0, 1) := by decide +kernel
theorem c169_61 : mc_cd 169 61 = some (.putfield 75, 3) := by decide +kernel
theorem c169_64 : mc_cd 169 64 = some (.aload_n 0, 1) := by decide +kernel
theorem c169_65 : mc_cd 169 65 = some (.invokevirtual 118, 3) := by decide +kernel
theorem c169_68 : mc_cd 169 68 = some (.aload_n 0, 1) := by decide +kernel
theorem c169_69 : mc_cd 169 69 = some (.invokevirtual 334, 3) := by decide +kernel
theorem c169_72 : mc_cd 169 72 = some (.aload_n 0, 1) := by decide +kernel
theorem c169_73 : mc_cd 169 73 = some (.getfield 104, 3) := by decide +kernel
theorem c169_76 : mc_cd 169 76 = some (.ifCond .le 18, 3) := by decide +kernel
theorem c169_79 : mc_cd 169 79 = some (.aload_n 0, 1) := by decide +kernel
theorem c169_80 : mc_cd 169 80 = some (.iconst 4, 1) := by decide +kernel
theorem c169_81 : mc_cd 169 81 = some (.putfield 51, 3) := by decide +kernel
theorem c169_84 : mc_cd 169 84 = some (.aload_n 0, 1) := by decide +kernel
theorem c169_85 : mc_cd 169 85 = some (.aload_n 0, 1) := by decide +kernel
theorem c169_86 : mc_cd 169 86 = some (.getfield 107, 3) := by decide +kernel
theorem c169_89 : mc_cd 169 89 = some (.putfield 9, 3) := by decide +kernel
theorem c169_92 : mc_cd 169 92 = some (.iconst (-1), 1) := by decide +kernel
theorem c169_93 : mc_cd 169 93 = some (.ireturn, 1) := by decide +kernel
theorem c169_94 : mc_cd 169 94 = some (.aload_n 0, 1) := by decide +kernel
theorem c169_95 : mc_cd 169 95 = some (.aload_n 0, 1) := by decide +kernel
theorem c169_96 : mc_cd 169 96 = some (.getfield 166, 3) := by decide +kernel
theorem c169_99 : mc_cd 169 99 = some (.putfield 337, 3) := by decide +kernel
theorem c169_102 : mc_cd 169 102 = some (.aload_n 0, 1) := by decide +kernel
theorem c169_103 : mc_cd 169 103 = some (.iconst 0, 1) := by decide +kernel
theorem c169_104 : mc_cd 169 104 = some (.putfield 340, 3) := by decide +kernel
theorem c169_107 : mc_cd 169 107 = some (.aload_n 0, 1) := by decide +kernel
theorem c169_108 : mc_cd 169 108 = some (.iconst 1, 1) := by decide +kernel
theorem c169_109 : mc_cd 169 109 = some (.aload_n 0, 1) := by decide +kernel
theorem c169_110 : mc_cd 169 110 = some (.getfield 337, 3) := by decide +kernel
theorem c169_113 : mc_cd 169 113 = some (.getfield 185, 3) := by decide +kernel
theorem c169_116 : mc_cd 169 116 = some (.ishl, 1) := by decide +kernel
theorem c169_117 : mc_cd 169 117 = some (.iconst 1, 1) := by decide +kernel
theorem c169_118 : mc_cd 169 118 = some (.isub, 1) := by decide +kernel
theorem c169_119 : mc_cd 169 119 = some (.putfield 343, 3) := by decide +kernel
theorem c169_122 : mc_cd 169 122 = some (.iconst 0, 1) := by decide +kernel
theorem c169_123 : mc_cd 169 123 = some (.istore_n 2, 1) := by decide +kernel
theorem c169_124 : mc_cd 169 124 = some (.iload_n 2, 1) := by decide +kernel
theorem c169_125 : mc_cd 169 125 = some (.bipush 24, 2) := by decide +kernel
theorem c169_127 : mc_cd 169 127 = some (.if_icmp .ge 39, 3) := by decide +kernel
theorem c169_130 : mc_cd 169 130 = some (.aload_n 0, 1) := by decide +kernel
theorem c169_131 : mc_cd 169 131 = some (.getfield 17, 3) := by decide +kernel
theorem c169_134 : mc_cd 169 134 = some (.iload_n 2, 1) := by decide +kernel
theorem c169_135 : mc_cd 169 135 = some (.aload_n 0, 1) := by decide +kernel
theorem c169_136 : mc_cd 169 136 = some (.getfield 343, 3) := by decide +kernel
theorem c169_139 : mc_cd 169 139 = some (.iload_n 2, 1) := by decide +kernel
theorem c169_140 : mc_cd 169 140 = some (.invokestatic 346, 3) := by decide +kernel
theorem c169_143 : mc_cd 169 143 = some (.ifCond .eq 15, 3) := by decide +kernel
theorem c169_146 : mc_cd 169 146 = some (.aload_n 0, 1) := by decide +kernel
theorem c169_147 : mc_cd 169 147 = some (.getfield 337, 3) := by decide +kernel
theorem c169_150 : mc_cd 169 150 = some (.getfield 296, 3) := by decide +kernel
theorem c169_153 : mc_cd 169 153 = some (.iload_n 2, 1) := by decide +kernel
theorem c169_154 : mc_cd 169 154 = some (.iaload, 1) := by decide +kernel
theorem c169_155 : mc_cd 169 155 = some (.goto 4, 3) := by decide +kernel
theorem c169_158 : mc_cd 169 158 = some (.iconst 0, 1) := by decide +kernel
theorem c169_159 : mc_cd 169 159 = some (.iastore, 1) := by decide +kernel
theorem c169_160 : mc_cd 169 160 = some (.iinc 2 1, 3) := by decide +kernel
theorem c169_163 : mc_cd 169 163 = some (.goto (-39), 3) := by decide +kernel
theorem c169_166 : mc_cd 169 166 = some (.iconst 0, 1) := by decide +kernel
theorem c169_167 : mc_cd 169 167 = some (.istore_n 2, 1) := by decide +kernel
theorem c169_168 : mc_cd 169 168 = some (.iload_n 2, 1) := by decide +kernel
theorem c169_169 : mc_cd 169 169 = some (.bipush 6, 2) := by decide +kernel
theorem c169_171 : mc_cd 169 171 = some (.if_icmp .ge 16, 3) := by decide +kernel
theorem c169_174 : mc_cd 169 174 = some (.aload_n 0, 1) := by decide +kernel
theorem c169_175 : mc_cd 169 175 = some (.getfield 36, 3) := by decide +kernel
theorem c169_178 : mc_cd 169 178 = some (.iload_n 2, 1) := by decide +kernel
theorem c169_179 : mc_cd 169 179 = some (.iconst 0, 1) := by decide +kernel
theorem c169_180 : mc_cd 169 180 = some (.iastore, 1) := by decide +kernel
theorem c169_181 : mc_cd 169 181 = some (.iinc 2 1, 3) := by decide +kernel
theorem c169_184 : mc_cd 169 184 = some (.goto (-16), 3) := by decide +kernel
theorem c169_187 : mc_cd 169 187 = some (.aload_n 0, 1) := by decide +kernel
theorem c169_188 : mc_cd 169 188 = some (.invokevirtual 350, 3) := by decide +kernel
theorem c169_191 : mc_cd 169 191 = some (.aload_n 0, 1) := by decide +kernel
theorem c169_192 : mc_cd 169 192 = some (.iconst 0, 1) := by decide +kernel
theorem c169_193 : mc_cd 169 193 = some (.putfield 353, 3) := by decide +kernel
theorem c169_196 : mc_cd 169 196 = some (.aload_n 0, 1) := by decide +kernel
theorem c169_197 : mc_cd 169 197 = some (.aload_n 0, 1) := by decide +kernel
theorem c169_198 : mc_cd 169 198 = some (.getfield 337, 3) := by decide +kernel
theorem c169_201 : mc_cd 169 201 = some (.getfield 188, 3) := by decide +kernel
theorem c169_204 : mc_cd 169 204 = some (.invokevirtual 58, 3) := by decide +kernel
theorem c169_207 : mc_cd 169 207 = some (.ireturn, 1) := by decide +kernel
