/-! StrikeAwakeModel.goesOn()V -/
theorem e172 : wq_en 172 = some (9, 3, false, none) := rfl
theorem c172_0 : mc_cd 172 0 = some (.aload_n 0, 1) := by decide +kernel
theorem c172_1 : mc_cd 172 1 = some (.getfield 75, 3) := by decide +kernel
theorem c172_4 : mc_cd 172 4 = some (.iconst 5, 1) := by decide +kernel
theorem c172_5 : mc_cd 172 5 = some (.if_icmp .ne 4, 3) := by decide +kernel
theorem c172_8 : mc_cd 172 8 = some (.return_, 1) := by decide +kernel
theorem c172_9 : mc_cd 172 9 = some (.aload_n 0, 1) := by decide +kernel
theorem c172_10 : mc_cd 172 10 = some (.aload_n 0, 1) := by decide +kernel
theorem c172_11 : mc_cd 172 11 = some (.getfield 78, 3) := by decide +kernel
theorem c172_14 : mc_cd 172 14 = some (.invokevirtual 81, 3) := by decide +kernel
theorem c172_17 : mc_cd 172 17 = some (.bipush 32, 2) := by decide +kernel
theorem c172_19 : mc_cd 172 19 = some (.if_icmp .ne 16, 3) := by decide +kernel
theorem c172_22 : mc_cd 172 22 = some (.aload_n 0, 1) := by decide +kernel
theorem c172_23 : mc_cd 172 23 = some (.dup, 1) := by decide +kernel
theorem c172_24 : mc_cd 172 24 = some (.getfield 78, 3) := by decide +kernel
theorem c172_27 : mc_cd 172 27 = some (.iconst 1, 1) := by decide +kernel
theorem c172_28 : mc_cd 172 28 = some (.iadd, 1) := by decide +kernel
theorem c172_29 : mc_cd 172 29 = some (.putfield 78, 3) := by decide +kernel
theorem c172_32 : mc_cd 172 32 = some (.goto (-23), 3) := by decide +kernel
theorem c172_35 : mc_cd 172 35 = some (.aload_n 0, 1) := by decide +kernel
theorem c172_36 : mc_cd 172 36 = some (.aload_n 0, 1) := by decide +kernel
theorem c172_37 : mc_cd 172 37 = some (.getfield 78, 3) := by decide +kernel
theorem c172_40 : mc_cd 172 40 = some (.putfield 84, 3) := by decide +kernel
theorem c172_43 : mc_cd 172 43 = some (.aload_n 0, 1) := by decide +kernel
theorem c172_44 : mc_cd 172 44 = some (.iconst 0, 1) := by decide +kernel
theorem c172_45 : mc_cd 172 45 = some (.putfield 75, 3) := by decide +kernel
theorem c172_48 : mc_cd 172 48 = some (.aload_n 0, 1) := by decide +kernel
theorem c172_49 : mc_cd 172 49 = some (.iconst 0, 1) := by decide +kernel
theorem c172_50 : mc_cd 172 50 = some (.putfield 87, 3) := by decide +kernel
theorem c172_53 : mc_cd 172 53 = some (.aload_n 0, 1) := by decide +kernel
theorem c172_54 : mc_cd 172 54 = some (.aload_n 0, 1) := by decide +kernel
theorem c172_55 : mc_cd 172 55 = some (.getfield 78, 3) := by decide +kernel
theorem c172_58 : mc_cd 172 58 = some (.invokevirtual 81, 3) := by decide +kernel
theorem c172_61 : mc_cd 172 61 = some (.istore_n 1, 1) := by decide +kernel
theorem c172_62 : mc_cd 172 62 = some (.iconst 0, 1) := by decide +kernel
theorem c172_63 : mc_cd 172 63 = some (.istore_n 2, 1) := by decide +kernel
theorem c172_64 : mc_cd 172 64 = some (.iload_n 1, 1) := by decide +kernel
theorem c172_65 : mc_cd 172 65 = some (.iconst (-1), 1) := by decide +kernel
theorem c172_66 : mc_cd 172 66 = some (.if_icmp .ne 11, 3) := by decide +kernel
theorem c172_69 : mc_cd 172 69 = some (.aload_n 0, 1) := by decide +kernel
theorem c172_70 : mc_cd 172 70 = some (.iconst 1, 1) := by decide +kernel
theorem c172_71 : mc_cd 172 71 = some (.putfield 75, 3) := by decide +kernel
theorem c172_74 : mc_cd 172 74 = some (.goto 207, 3) := by decide +kernel
theorem c172_77 : mc_cd 172 77 = some (.iload_n 1, 1) := by decide +kernel
theorem c172_78 : mc_cd 172 78 = some (.invokestatic 90, 3) := by decide +kernel
theorem c172_81 : mc_cd 172 81 = some (.ifCond .eq 85, 3) := by decide +kernel
theorem c172_84 : mc_cd 172 84 = some (.aload_n 0, 1) := by decide +kernel
theorem c172_85 : mc_cd 172 85 = some (.lconst 0, 1) := by decide +kernel
theorem c172_86 : mc_cd 172 86 = some (.putfield 94, 3) := by decide +kernel
theorem c172_89 : mc_cd 172 89 = some (.aload_n 0, 1) := by decide +kernel
theorem c172_90 : mc_cd 172 90 = some (.aload_n 0, 1) := by decide +kernel
theorem c172_91 : mc_cd 172 91 = some (.getfield 78, 3) := by decide +kernel
theorem c172_94 : mc_cd 172 94 = some (.invokevirtual 81, 3) := by decide +kernel
theorem c172_97 : mc_cd 172 97 = some (.invokestatic 90, 3) := by decide +kernel
theorem c172_100 : mc_cd 172 100 = some (.ifCond .eq 52, 3) := by decide +kernel
theorem c172_103 : mc_cd 172 103 = some (.iload_n 2, 1) := by decide +kernel
theorem c172_104 : mc_cd 172 104 = some (.bipush 8, 2) := by decide +kernel
theorem c172_106 : mc_cd 172 106 = some (.if_icmp .ge 30, 3) := by decide +kernel
theorem c172_109 : mc_cd 172 109 = some (.aload_n 0, 1) := by decide +kernel
theorem c172_110 : mc_cd 172 110 = some (.ldc2_w 69, 3) := by decide +kernel
theorem c172_113 : mc_cd 172 113 = some (.aload_n 0, 1) := by decide +kernel
theorem c172_114 : mc_cd 172 114 = some (.getfield 94, 3) := by decide +kernel
theorem c172_117 : mc_cd 172 117 = some (.lmul, 1) := by decide +kernel
theorem c172_118 : mc_cd 172 118 = some (.aload_n 0, 1) := by decide +kernel
theorem c172_119 : mc_cd 172 119 = some (.aload_n 0, 1) := by decide +kernel
theorem c172_120 : mc_cd 172 120 = some (.getfield 78, 3) := by decide +kernel
theorem c172_123 : mc_cd 172 123 = some (.invokevirtual 81, 3) := by decide +kernel
theorem c172_126 : mc_cd 172 126 = some (.bipush 97, 2) := by decide +kernel
theorem c172_128 : mc_cd 172 128 = some (.isub, 1) := by decide +kernel
theorem c172_129 : mc_cd 172 129 = some (.iconst 1, 1) := by decide +kernel
theorem c172_130 : mc_cd 172 130 = some (.iadd, 1) := by decide +kernel
theorem c172_131 : mc_cd 172 131 = some (.i2l, 1) := by decide +kernel
theorem c172_132 : mc_cd 172 132 = some (.ladd, 1) := by decide +kernel
theorem c172_133 : mc_cd 172 133 = some (.putfield 94, 3) := by decide +kernel
theorem c172_136 : mc_cd 172 136 = some (.iinc 2 1, 3) := by decide +kernel
theorem c172_139 : mc_cd 172 139 = some (.aload_n 0, 1) := by decide +kernel
theorem c172_140 : mc_cd 172 140 = some (.dup, 1) := by decide +kernel
theorem c172_141 : mc_cd 172 141 = some (.getfield 78, 3) := by decide +kernel
theorem c172_144 : mc_cd 172 144 = some (.iconst 1, 1) := by decide +kernel
theorem c172_145 : mc_cd 172 145 = some (.iadd, 1) := by decide +kernel
theorem c172_146 : mc_cd 172 146 = some (.putfield 78, 3) := by decide +kernel
theorem c172_149 : mc_cd 172 149 = some (.goto (-60), 3) := by decide +kernel
theorem c172_152 : mc_cd 172 152 = some (.iload_n 2, 1) := by decide +kernel
theorem c172_153 : mc_cd 172 153 = some (.bipush 8, 2) := by decide +kernel
theorem c172_155 : mc_cd 172 155 = some (.if_icmp .gt 126, 3) := by decide +kernel
theorem c172_158 : mc_cd 172 158 = some (.aload_n 0, 1) := by decide +kernel
theorem c172_159 : mc_cd 172 159 = some (.iconst 2, 1) := by decide +kernel
theorem c172_160 : mc_cd 172 160 = some (.putfield 75, 3) := by decide +kernel
theorem c172_163 : mc_cd 172 163 = some (.goto 118, 3) := by decide +kernel
theorem c172_166 : mc_cd 172 166 = some (.iload_n 1, 1) := by decide +kernel
theorem c172_167 : mc_cd 172 167 = some (.invokestatic 98, 3) := by decide +kernel
theorem c172_170 : mc_cd 172 170 = some (.ifCond .eq 79, 3) := by decide +kernel
theorem c172_173 : mc_cd 172 173 = some (.aload_n 0, 1) := by decide +kernel
theorem c172_174 : mc_cd 172 174 = some (.iconst 0, 1) := by decide +kernel
theorem c172_175 : mc_cd 172 175 = some (.putfield 101, 3) := by decide +kernel
theorem c172_178 : mc_cd 172 178 = some (.aload_n 0, 1) := by decide +kernel
theorem c172_179 : mc_cd 172 179 = some (.aload_n 0, 1) := by decide +kernel
theorem c172_180 : mc_cd 172 180 = some (.getfield 78, 3) := by decide +kernel
theorem c172_183 : mc_cd 172 183 = some (.invokevirtual 81, 3) := by decide +kernel
theorem c172_186 : mc_cd 172 186 = some (.invokestatic 98, 3) := by decide +kernel
theorem c172_189 : mc_cd 172 189 = some (.ifCond .eq 47, 3) := by decide +kernel
theorem c172_192 : mc_cd 172 192 = some (.iload_n 2, 1) := by decide +kernel
theorem c172_193 : mc_cd 172 193 = some (.iconst 3, 1) := by decide +kernel
theorem c172_194 : mc_cd 172 194 = some (.if_icmp .ge 26, 3) := by decide +kernel
theorem c172_197 : mc_cd 172 197 = some (.aload_n 0, 1) := by decide +kernel
theorem c172_198 : mc_cd 172 198 = some (.bipush 10, 2) := by decide +kernel
theorem c172_200 : mc_cd 172 200 = some (.aload_n 0, 1) := by decide +kernel
theorem c172_201 : mc_cd 172 201 = some (.getfield 101, 3) := by decide +kernel
theorem c172_204 : mc_cd 172 204 = some (.imul, 1) := by decide +kernel
theorem c172_205 : mc_cd 172 205 = some (.aload_n 0, 1) := by decide +kernel
theorem c172_206 : mc_cd 172 206 = some (.aload_n 0, 1) := by decide +kernel
theorem c172_207 : mc_cd 172 207 = some (.getfield 78, 3) := by decide +kernel
theorem c172_210 : mc_cd 172 210 = some (.invokevirtual 81, 3) := by decide +kernel
theorem c172_213 : mc_cd 172 213 = some (.iadd, 1) := by decide +kernel
theorem c172_214 : mc_cd 172 214 = some (.bipush 48, 2) := by decide +kernel
theorem c172_216 : mc_cd 172 216 = some (.isub, 1) := by decide +kernel
theorem c172_217 : mc_cd 172 217 = some (.putfield 101, 3) := by decide +kernel
theorem c172_220 : mc_cd 172 220 = some (.iinc 2 1, 3) := by decide +kernel
theorem c172_223 : mc_cd 172 223 = some (.aload_n 0, 1) := by decide +kernel
theorem c172_224 : mc_cd 172 224 = some (.dup, 1) := by decide +kernel
theorem c172_225 : mc_cd 172 225 = some (.getfield 78, 3) := by decide +kernel
theorem c172_228 : mc_cd 172 228 = some (.iconst 1, 1) := by decide +kernel
theorem c172_229 : mc_cd 172 229 = some (.iadd, 1) := by decide +kernel
theorem c172_230 : mc_cd 172 230 = some (.putfield 78, 3) := by decide +kernel
theorem c172_233 : mc_cd 172 233 = some (.goto (-55), 3) := by decide +kernel
theorem c172_236 : mc_cd 172 236 = some (.iload_n 2, 1) := by decide +kernel
theorem c172_237 : mc_cd 172 237 = some (.iconst 3, 1) := by decide +kernel
theorem c172_238 : mc_cd 172 238 = some (.if_icmp .gt 43, 3) := by decide +kernel
theorem c172_241 : mc_cd 172 241 = some (.aload_n 0, 1) := by decide +kernel
theorem c172_242 : mc_cd 172 242 = some (.iconst 3, 1) := by decide +kernel
theorem c172_243 : mc_cd 172 243 = some (.putfield 75, 3) := by decide +kernel
theorem c172_246 : mc_cd 172 246 = some (.goto 35, 3) := by decide +kernel
theorem c172_249 : mc_cd 172 249 = some (.iload_n 1, 1) := by decide +kernel
theorem c172_250 : mc_cd 172 250 = some (.bipush 59, 2) := by decide +kernel
theorem c172_252 : mc_cd 172 252 = some (.if_icmp .eq 9, 3) := by decide +kernel
theorem c172_255 : mc_cd 172 255 = some (.iload_n 1, 1) := by decide +kernel
theorem c172_256 : mc_cd 172 256 = some (.bipush 44, 2) := by decide +kernel
theorem c172_258 : mc_cd 172 258 = some (.if_icmp .ne 23, 3) := by decide +kernel
theorem c172_261 : mc_cd 172 261 = some (.aload_n 0, 1) := by decide +kernel
theorem c172_262 : mc_cd 172 262 = some (.iconst 4, 1) := by decide +kernel
theorem c172_263 : mc_cd 172 263 = some (.putfield 75, 3) := by decide +kernel
theorem c172_266 : mc_cd 172 266 = some (.aload_n 0, 1) := by decide +kernel
theorem c172_267 : mc_cd 172 267 = some (.iload_n 1, 1) := by decide +kernel
theorem c172_268 : mc_cd 172 268 = some (.putfield 87, 3) := by decide +kernel
theorem c172_271 : mc_cd 172 271 = some (.aload_n 0, 1) := by decide +kernel
theorem c172_272 : mc_cd 172 272 = some (.dup, 1) := by decide +kernel
theorem c172_273 : mc_cd 172 273 = some (.getfield 78, 3) := by decide +kernel
theorem c172_276 : mc_cd 172 276 = some (.iconst 1, 1) := by decide +kernel
theorem c172_277 : mc_cd 172 277 = some (.iadd, 1) := by decide +kernel
theorem c172_278 : mc_cd 172 278 = some (.putfield 78, 3) := by decide +kernel
theorem c172_281 : mc_cd 172 281 = some (.return_, 1) := by decide +kernel
