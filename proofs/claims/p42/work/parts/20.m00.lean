/-! methods (own work, written by wip/gen2/sx.py) -/
/-! StrikeAwake.putOnTape(I)V -/
theorem e10 : wq_en 10 = some (0, 3, false, none) := rfl
theorem c10_0 : mc_cd 10 0 = some (.bipush 24, 2) := by decide +kernel
theorem c10_2 : mc_cd 10 2 = some (.istore_n 2, 1) := by decide +kernel
theorem c10_3 : mc_cd 10 3 = some (.iload_n 2, 1) := by decide +kernel
theorem c10_4 : mc_cd 10 4 = some (.ifCond .lt 42, 3) := by decide +kernel
theorem c10_7 : mc_cd 10 7 = some (.aload_n 0, 1) := by decide +kernel
theorem c10_8 : mc_cd 10 8 = some (.getfield 62, 3) := by decide +kernel
theorem c10_11 : mc_cd 10 11 = some (.sipush 900, 3) := by decide +kernel
theorem c10_14 : mc_cd 10 14 = some (.if_icmp .ge 32, 3) := by decide +kernel
theorem c10_17 : mc_cd 10 17 = some (.aload_n 0, 1) := by decide +kernel
theorem c10_18 : mc_cd 10 18 = some (.getfield 9, 3) := by decide +kernel
theorem c10_21 : mc_cd 10 21 = some (.aload_n 0, 1) := by decide +kernel
theorem c10_22 : mc_cd 10 22 = some (.getfield 62, 3) := by decide +kernel
theorem c10_25 : mc_cd 10 25 = some (.iload_n 1, 1) := by decide +kernel
theorem c10_26 : mc_cd 10 26 = some (.iload_n 2, 1) := by decide +kernel
theorem c10_27 : mc_cd 10 27 = some (.ishr, 1) := by decide +kernel
theorem c10_28 : mc_cd 10 28 = some (.i2b, 1) := by decide +kernel
theorem c10_29 : mc_cd 10 29 = some (.bastore, 1) := by decide +kernel
theorem c10_30 : mc_cd 10 30 = some (.aload_n 0, 1) := by decide +kernel
theorem c10_31 : mc_cd 10 31 = some (.dup, 1) := by decide +kernel
theorem c10_32 : mc_cd 10 32 = some (.getfield 62, 3) := by decide +kernel
theorem c10_35 : mc_cd 10 35 = some (.iconst 1, 1) := by decide +kernel
theorem c10_36 : mc_cd 10 36 = some (.iadd, 1) := by decide +kernel
theorem c10_37 : mc_cd 10 37 = some (.putfield 62, 3) := by decide +kernel
theorem c10_40 : mc_cd 10 40 = some (.iinc 2 (-8), 3) := by decide +kernel
theorem c10_43 : mc_cd 10 43 = some (.goto (-40), 3) := by decide +kernel
theorem c10_46 : mc_cd 10 46 = some (.return_, 1) := by decide +kernel
/-! StrikeAwake.feed(IIIII)I -/
theorem e9 : wq_en 9 = some (0, 6, false, some FieldType.int) := rfl
theorem c9_0 : mc_cd 9 0 = some (.aload_n 0, 1) := by decide +kernel
theorem c9_1 : mc_cd 9 1 = some (.getfield 62, 3) := by decide +kernel
theorem c9_4 : mc_cd 9 4 = some (.sipush 880, 3) := by decide +kernel
theorem c9_7 : mc_cd 9 7 = some (.if_icmp .le 5, 3) := by decide +kernel
theorem c9_10 : mc_cd 9 10 = some (.iconst (-1), 1) := by decide +kernel
theorem c9_11 : mc_cd 9 11 = some (.ireturn, 1) := by decide +kernel
theorem c9_12 : mc_cd 9 12 = some (.aload_n 0, 1) := by decide +kernel
theorem c9_13 : mc_cd 9 13 = some (.iload_n 1, 1) := by decide +kernel
theorem c9_14 : mc_cd 9 14 = some (.invokevirtual 66, 3) := by decide +kernel
theorem c9_17 : mc_cd 9 17 = some (.aload_n 0, 1) := by decide +kernel
theorem c9_18 : mc_cd 9 18 = some (.iload_n 2, 1) := by decide +kernel
theorem c9_19 : mc_cd 9 19 = some (.invokevirtual 66, 3) := by decide +kernel
theorem c9_22 : mc_cd 9 22 = some (.aload_n 0, 1) := by decide +kernel
theorem c9_23 : mc_cd 9 23 = some (.iload_n 3, 1) := by decide +kernel
theorem c9_24 : mc_cd 9 24 = some (.invokevirtual 66, 3) := by decide +kernel
theorem c9_27 : mc_cd 9 27 = some (.aload_n 0, 1) := by decide +kernel
theorem c9_28 : mc_cd 9 28 = some (.iload 4, 2) := by decide +kernel
theorem c9_30 : mc_cd 9 30 = some (.invokevirtual 66, 3) := by decide +kernel
theorem c9_33 : mc_cd 9 33 = some (.aload_n 0, 1) := by decide +kernel
theorem c9_34 : mc_cd 9 34 = some (.iload 5, 2) := by decide +kernel
theorem c9_36 : mc_cd 9 36 = some (.invokevirtual 66, 3) := by decide +kernel
theorem c9_39 : mc_cd 9 39 = some (.aload_n 0, 1) := by decide +kernel
theorem c9_40 : mc_cd 9 40 = some (.getfield 62, 3) := by decide +kernel
theorem c9_43 : mc_cd 9 43 = some (.ireturn, 1) := by decide +kernel
/-! StrikeAwake.refuse(I)I -/
theorem e12 : wq_en 12 = some (0, 2, false, some FieldType.int) := rfl
theorem c12_0 : mc_cd 12 0 = some (.aload_n 0, 1) := by decide +kernel
theorem c12_1 : mc_cd 12 1 = some (.iload_n 1, 1) := by decide +kernel
theorem c12_2 : mc_cd 12 2 = some (.putfield 102, 3) := by decide +kernel
theorem c12_5 : mc_cd 12 5 = some (.iconst (-1), 1) := by decide +kernel
theorem c12_6 : mc_cd 12 6 = some (.ireturn, 1) := by decide +kernel
abbrev q_12 (r0 : Nat) (a1 : Int) (T : wq_T) (H : wq_H) : Option Value → wq_T → wq_H → Prop := fun r T' H' => T = T' ∧ WT T H' ∧ wfr [(1, 10)] T H H' ∧ ∃ z : Int, some (vI z) = r ∧ ((-2147483648) ≤ z ∧ z ≤ 2147483647)
set_option maxHeartbeats 4000000 in
theorem s_12 {kt : Nat → Option mc_E} {T : wq_T} {H : wq_H} {r0 : Nat} {a1 : Int} (hW : WT T H) (g0 : T.2.2.2 r0 = some 1) (i1 : (-2147483648) ≤ a1 ∧ a1 ≤ 2147483647) : wpc kt 1 12 [.ref r0, vI a1] T H (q_12 r0 a1 T H) := by
  refine wp_enter e12 (Nat.le_of_ble_eq_true rfl) rfl ?_
  have f0 : wfr [(1, 10)] T H H := wfr.rf
  show wp _ _ 12 0 [(0, .ref r0), (1, vI a1)] [] _ H _
  refine wp_of e12 c12_0 (rw_aload_n (pc' := 1) (v := .ref r0) rfl rfl rfl ?_)
  refine wp_of e12 c12_1 (rw_iload_n (pc' := 2) (z := a1) rfl rfl ?_)
  refine wp_of e12 c12_2 (xp_I (pc' := 5) lf_0_102 hW g0 sh_1 (by decide) (by decide) ty_1_10 rfl rfl (by omega) (by omega) ⟨by omega, by omega⟩ rfl (fun H437 e438 w439 => ?_))
  have f440 := f0.put' e438 g0 rfl
  have k441 : H437 r0 10 = a1 := wq_u_s e438
  refine wp_of e12 c12_5 (rw_iconst (pc' := 6) rfl ?_)
  exact wp_ireturn e12 c12_6 rfl ⟨rfl, w439, f440, -1, rfl, ⟨by omega, by omega⟩⟩
/-! StrikeAwake$Parish.clear()V -/
theorem e14 : wq_en 14 = some (7, 2, false, none) := rfl
theorem c14_0 : mc_cd 14 0 = some (.aload_n 0, 1) := by decide +kernel
theorem c14_1 : mc_cd 14 1 = some (.iconst 0, 1) := by decide +kernel
theorem c14_2 : mc_cd 14 2 = some (.putfield 41, 3) := by decide +kernel
theorem c14_5 : mc_cd 14 5 = some (.aload_n 0, 1) := by decide +kernel
theorem c14_6 : mc_cd 14 6 = some (.iconst 0, 1) := by decide +kernel
theorem c14_7 : mc_cd 14 7 = some (.putfield 44, 3) := by decide +kernel
theorem c14_10 : mc_cd 14 10 = some (.aload_n 0, 1) := by decide +kernel
theorem c14_11 : mc_cd 14 11 = some (.iconst 0, 1) := by decide +kernel
theorem c14_12 : mc_cd 14 12 = some (.putfield 47, 3) := by decide +kernel
theorem c14_15 : mc_cd 14 15 = some (.aload_n 0, 1) := by decide +kernel
theorem c14_16 : mc_cd 14 16 = some (.iconst 0, 1) := by decide +kernel
theorem c14_17 : mc_cd 14 17 = some (.putfield 50, 3) := by decide +kernel
theorem c14_20 : mc_cd 14 20 = some (.aload_n 0, 1) := by decide +kernel
theorem c14_21 : mc_cd 14 21 = some (.iconst 0, 1) := by decide +kernel
theorem c14_22 : mc_cd 14 22 = some (.putfield 53, 3) := by decide +kernel
theorem c14_25 : mc_cd 14 25 = some (.aload_n 0, 1) := by decide +kernel
theorem c14_26 : mc_cd 14 26 = some (.iconst 0, 1) := by decide +kernel
theorem c14_27 : mc_cd 14 27 = some (.putfield 56, 3) := by decide +kernel
theorem c14_30 : mc_cd 14 30 = some (.aload_n 0, 1) := by decide +kernel
theorem c14_31 : mc_cd 14 31 = some (.iconst 0, 1) := by decide +kernel
theorem c14_32 : mc_cd 14 32 = some (.putfield 59, 3) := by decide +kernel
theorem c14_35 : mc_cd 14 35 = some (.aload_n 0, 1) := by decide +kernel
theorem c14_36 : mc_cd 14 36 = some (.iconst 0, 1) := by decide +kernel
theorem c14_37 : mc_cd 14 37 = some (.putfield 62, 3) := by decide +kernel
theorem c14_40 : mc_cd 14 40 = some (.aload_n 0, 1) := by decide +kernel
theorem c14_41 : mc_cd 14 41 = some (.bipush (-2), 2) := by decide +kernel
theorem c14_43 : mc_cd 14 43 = some (.putfield 37, 3) := by decide +kernel
theorem c14_46 : mc_cd 14 46 = some (.aload_n 0, 1) := by decide +kernel
theorem c14_47 : mc_cd 14 47 = some (.iconst 0, 1) := by decide +kernel
theorem c14_48 : mc_cd 14 48 = some (.putfield 65, 3) := by decide +kernel
theorem c14_51 : mc_cd 14 51 = some (.aload_n 0, 1) := by decide +kernel
theorem c14_52 : mc_cd 14 52 = some (.iconst 0, 1) := by decide +kernel
theorem c14_53 : mc_cd 14 53 = some (.putfield 68, 3) := by decide +kernel
theorem c14_56 : mc_cd 14 56 = some (.aload_n 0, 1) := by decide +kernel
theorem c14_57 : mc_cd 14 57 = some (.lconst 0, 1) := by decide +kernel
theorem c14_58 : mc_cd 14 58 = some (.putfield 71, 3) := by decide +kernel
theorem c14_61 : mc_cd 14 61 = some (.iconst 0, 1) := by decide +kernel
theorem c14_62 : mc_cd 14 62 = some (.istore_n 1, 1) := by decide +kernel
theorem c14_63 : mc_cd 14 63 = some (.iload_n 1, 1) := by decide +kernel
theorem c14_64 : mc_cd 14 64 = some (.bipush 24, 2) := by decide +kernel
theorem c14_66 : mc_cd 14 66 = some (.if_icmp .ge 17, 3) := by decide +kernel
theorem c14_69 : mc_cd 14 69 = some (.aload_n 0, 1) := by decide +kernel
theorem c14_70 : mc_cd 14 70 = some (.getfield 17, 3) := by decide +kernel
theorem c14_73 : mc_cd 14 73 = some (.iload_n 1, 1) := by decide +kernel
theorem c14_74 : mc_cd 14 74 = some (.bipush (-2), 2) := by decide +kernel
theorem c14_76 : mc_cd 14 76 = some (.iastore, 1) := by decide +kernel
theorem c14_77 : mc_cd 14 77 = some (.iinc 1 1, 3) := by decide +kernel
theorem c14_80 : mc_cd 14 80 = some (.goto (-17), 3) := by decide +kernel
theorem c14_83 : mc_cd 14 83 = some (.return_, 1) := by decide +kernel
/-! StrikeAwake$Tokens.advance()V -/
theorem e16 : wq_en 16 = some (2, 4, false, none) := rfl
theorem c16_0 : mc_cd 16 0 = some (.aload_n 0, 1) := by decide +kernel
theorem c16_1 : mc_cd 16 1 = some (.getfield 23, 3) := by decide +kernel
theorem c16_4 : mc_cd 16 4 = some (.istore_n 1, 1) := by decide +kernel
theorem c16_5 : mc_cd 16 5 = some (.iload_n 1, 1) := by decide +kernel
theorem c16_6 : mc_cd 16 6 = some (.aload_n 0, 1) := by decide +kernel
theorem c16_7 : mc_cd 16 7 = some (.getfield 19, 3) := by decide +kernel
theorem c16_10 : mc_cd 16 10 = some (.if_icmp .ge 20, 3) := by decide +kernel
theorem c16_13 : mc_cd 16 13 = some (.aload_n 0, 1) := by decide +kernel
theorem c16_14 : mc_cd 16 14 = some (.getfield 7, 3) := by decide +kernel
theorem c16_17 : mc_cd 16 17 = some (.iload_n 1, 1) := by decide +kernel
theorem c16_18 : mc_cd 16 18 = some (.baload, 1) := by decide +kernel
theorem c16_19 : mc_cd 16 19 = some (.bipush 32, 2) := by decide +kernel
theorem c16_21 : mc_cd 16 21 = some (.if_icmp .ne 9, 3) := by decide +kernel
theorem c16_24 : mc_cd 16 24 = some (.iinc 1 1, 3) := by decide +kernel
theorem c16_27 : mc_cd 16 27 = some (.goto (-22), 3) := by decide +kernel
theorem c16_30 : mc_cd 16 30 = some (.aload_n 0, 1) := by decide +kernel
theorem c16_31 : mc_cd 16 31 = some (.iload_n 1, 1) := by decide +kernel
theorem c16_32 : mc_cd 16 32 = some (.putfield 29, 3) := by decide +kernel
theorem c16_35 : mc_cd 16 35 = some (.aload_n 0, 1) := by decide +kernel
theorem c16_36 : mc_cd 16 36 = some (.lconst 0, 1) := by decide +kernel
theorem c16_37 : mc_cd 16 37 = some (.putfield 32, 3) := by decide +kernel
theorem c16_40 : mc_cd 16 40 = some (.iload_n 1, 1) := by decide +kernel
theorem c16_41 : mc_cd 16 41 = some (.aload_n 0, 1) := by decide +kernel
theorem c16_42 : mc_cd 16 42 = some (.getfield 19, 3) := by decide +kernel
theorem c16_45 : mc_cd 16 45 = some (.if_icmp .ge 56, 3) := by decide +kernel
theorem c16_48 : mc_cd 16 48 = some (.aload_n 0, 1) := by decide +kernel
theorem c16_49 : mc_cd 16 49 = some (.getfield 7, 3) := by decide +kernel
theorem c16_52 : mc_cd 16 52 = some (.iload_n 1, 1) := by decide +kernel
theorem c16_53 : mc_cd 16 53 = some (.baload, 1) := by decide +kernel
theorem c16_54 : mc_cd 16 54 = some (.bipush 97, 2) := by decide +kernel
theorem c16_56 : mc_cd 16 56 = some (.if_icmp .lt 45, 3) := by decide +kernel
theorem c16_59 : mc_cd 16 59 = some (.aload_n 0, 1) := by decide +kernel
theorem c16_60 : mc_cd 16 60 = some (.getfield 7, 3) := by decide +kernel
theorem c16_63 : mc_cd 16 63 = some (.iload_n 1, 1) := by decide +kernel
theorem c16_64 : mc_cd 16 64 = some (.baload, 1) := by decide +kernel
theorem c16_65 : mc_cd 16 65 = some (.bipush 122, 2) := by decide +kernel
theorem c16_67 : mc_cd 16 67 = some (.if_icmp .gt 34, 3) := by decide +kernel
theorem c16_70 : mc_cd 16 70 = some (.aload_n 0, 1) := by decide +kernel
theorem c16_71 : mc_cd 16 71 = some (.aload_n 0, 1) := by decide +kernel
theorem c16_72 : mc_cd 16 72 = some (.getfield 32, 3) := by decide +kernel
theorem c16_75 : mc_cd 16 75 = some (.ldc2_w 36, 3) := by decide +kernel
theorem c16_78 : mc_cd 16 78 = some (.lmul, 1) := by decide +kernel
theorem c16_79 : mc_cd 16 79 = some (.aload_n 0, 1) := by decide +kernel
theorem c16_80 : mc_cd 16 80 = some (.getfield 7, 3) := by decide +kernel
theorem c16_83 : mc_cd 16 83 = some (.iload_n 1, 1) := by decide +kernel
theorem c16_84 : mc_cd 16 84 = some (.baload, 1) := by decide +kernel
theorem c16_85 : mc_cd 16 85 = some (.bipush 97, 2) := by decide +kernel
theorem c16_87 : mc_cd 16 87 = some (.isub, 1) := by decide +kernel
theorem c16_88 : mc_cd 16 88 = some (.iconst 1, 1) := by decide +kernel
theorem c16_89 : mc_cd 16 89 = some (.iadd, 1) := by decide +kernel
theorem c16_90 : mc_cd 16 90 = some (.i2l, 1) := by decide +kernel
theorem c16_91 : mc_cd 16 91 = some (.ladd, 1) := by decide +kernel
theorem c16_92 : mc_cd 16 92 = some (.putfield 32, 3) := by decide +kernel
theorem c16_95 : mc_cd 16 95 = some (.iinc 1 1, 3) := by decide +kernel
theorem c16_98 : mc_cd 16 98 = some (.goto (-58), 3) := by decide +kernel
theorem c16_101 : mc_cd 16 101 = some (.iload_n 1, 1) := by decide +kernel
theorem c16_102 : mc_cd 16 102 = some (.aload_n 0, 1) := by decide +kernel
theorem c16_103 : mc_cd 16 103 = some (.getfield 29, 3) := by decide +kernel
theorem c16_106 : mc_cd 16 106 = some (.isub, 1) := by decide +kernel
theorem c16_107 : mc_cd 16 107 = some (.istore_n 2, 1) := by decide +kernel
theorem c16_108 : mc_cd 16 108 = some (.aload_n 0, 1) := by decide +kernel
theorem c16_109 : mc_cd 16 109 = some (.iconst 0, 1) := by decide +kernel
theorem c16_110 : mc_cd 16 110 = some (.putfield 38, 3) := by decide +kernel
theorem c16_113 : mc_cd 16 113 = some (.iload_n 1, 1) := by decide +kernel
theorem c16_114 : mc_cd 16 114 = some (.aload_n 0, 1) := by decide +kernel
theorem c16_115 : mc_cd 16 115 = some (.getfield 19, 3) := by decide +kernel
theorem c16_118 : mc_cd 16 118 = some (.if_icmp .ge 56, 3) := by decide +kernel
theorem c16_121 : mc_cd 16 121 = some (.iload_n 2, 1) := by decide +kernel
theorem c16_122 : mc_cd 16 122 = some (.ifCond .ne 52, 3) := by decide +kernel
theorem c16_125 : mc_cd 16 125 = some (.aload_n 0, 1) := by decide +kernel
theorem c16_126 : mc_cd 16 126 = some (.getfield 7, 3) := by decide +kernel
theorem c16_129 : mc_cd 16 129 = some (.iload_n 1, 1) := by decide +kernel
theorem c16_130 : mc_cd 16 130 = some (.baload, 1) := by decide +kernel
theorem c16_131 : mc_cd 16 131 = some (.bipush 48, 2) := by decide +kernel
theorem c16_133 : mc_cd 16 133 = some (.if_icmp .lt 41, 3) := by decide +kernel
theorem c16_136 : mc_cd 16 136 = some (.aload_n 0, 1) := by decide +kernel
theorem c16_137 : mc_cd 16 137 = some (.getfield 7, 3) := by decide +kernel
theorem c16_140 : mc_cd 16 140 = some (.iload_n 1, 1) := by decide +kernel
theorem c16_141 : mc_cd 16 141 = some (.baload, 1) := by decide +kernel
theorem c16_142 : mc_cd 16 142 = some (.bipush 57, 2) := by decide +kernel
theorem c16_144 : mc_cd 16 144 = some (.if_icmp .gt 30, 3) := by decide +kernel
theorem c16_147 : mc_cd 16 147 = some (.aload_n 0, 1) := by decide +kernel
theorem c16_148 : mc_cd 16 148 = some (.aload_n 0, 1) := by decide +kernel
theorem c16_149 : mc_cd 16 149 = some (.getfield 38, 3) := by decide +kernel
theorem c16_152 : mc_cd 16 152 = some (.bipush 10, 2) := by decide +kernel
theorem c16_154 : mc_cd 16 154 = some (.imul, 1) := by decide +kernel
theorem c16_155 : mc_cd 16 155 = some (.aload_n 0, 1) := by decide +kernel
theorem c16_156 : mc_cd 16 156 = some (.getfield 7, 3) := by decide +kernel
theorem c16_159 : mc_cd 16 159 = some (.iload_n 1, 1) := by decide +kernel
theorem c16_160 : mc_cd 16 160 = some (.baload, 1) := by decide +kernel
theorem c16_161 : mc_cd 16 161 = some (.bipush 48, 2) := by decide +kernel
theorem c16_163 : mc_cd 16 163 = some (.isub, 1) := by decide +kernel
theorem c16_164 : mc_cd 16 164 = some (.iadd, 1) := by decide +kernel
theorem c16_165 : mc_cd 16 165 = some (.putfield 38, 3) := by decide +kernel
theorem c16_168 : mc_cd 16 168 = some (.iinc 1 1, 3) := by decide +kernel
theorem c16_171 : mc_cd 16 171 = some (.goto (-58), 3) := by decide +kernel
theorem c16_174 : mc_cd 16 174 = some (.iload_n 1, 1) := by decide +kernel
theorem c16_175 : mc_cd 16 175 = some (.aload_n 0, 1) := by decide +kernel
theorem c16_176 : mc_cd 16 176 = some (.getfield 29, 3) := by decide +kernel
theorem c16_179 : mc_cd 16 179 = some (.isub, 1) := by decide +kernel
theorem c16_180 : mc_cd 16 180 = some (.iload_n 2, 1) := by decide +kernel
theorem c16_181 : mc_cd 16 181 = some (.isub, 1) := by decide +kernel
theorem c16_182 : mc_cd 16 182 = some (.istore_n 3, 1) := by decide +kernel
theorem c16_183 : mc_cd 16 183 = some (.iload_n 2, 1) := by decide +kernel
theorem c16_184 : mc_cd 16 184 = some (.ifCond .le 21, 3) := by decide +kernel
theorem c16_187 : mc_cd 16 187 = some (.aload_n 0, 1) := by decide +kernel
theorem c16_188 : mc_cd 16 188 = some (.iload_n 2, 1) := by decide +kernel
theorem c16_189 : mc_cd 16 189 = some (.bipush 8, 2) := by decide +kernel
theorem c16_191 : mc_cd 16 191 = some (.if_icmp .gt 7, 3) := by decide +kernel
theorem c16_194 : mc_cd 16 194 = some (.iconst 1, 1) := by decide +kernel
theorem c16_195 : mc_cd 16 195 = some (.goto 4, 3) := by decide +kernel
theorem c16_198 : mc_cd 16 198 = some (.iconst 5, 1) := by decide +kernel
theorem c16_199 : mc_cd 16 199 = some (.putfield 41, 3) := by decide +kernel
theorem c16_202 : mc_cd 16 202 = some (.goto 78, 3) := by decide +kernel
theorem c16_205 : mc_cd 16 205 = some (.iload_n 3, 1) := by decide +kernel
theorem c16_206 : mc_cd 16 206 = some (.ifCond .le 20, 3) := by decide +kernel
theorem c16_209 : mc_cd 16 209 = some (.aload_n 0, 1) := by decide +kernel
theorem c16_210 : mc_cd 16 210 = some (.iload_n 3, 1) := by decide +kernel
theorem c16_211 : mc_cd 16 211 = some (.iconst 3, 1) := by decide +kernel
theorem c16_212 : mc_cd 16 212 = some (.if_icmp .gt 7, 3) := by decide +kernel
theorem c16_215 : mc_cd 16 215 = some (.iconst 2, 1) := by decide +kernel
theorem c16_216 : mc_cd 16 216 = some (.goto 4, 3) := by decide +kernel
theorem c16_219 : mc_cd 16 219 = some (.iconst 5, 1) := by decide +kernel
theorem c16_220 : mc_cd 16 220 = some (.putfield 41, 3) := by decide +kernel
theorem c16_223 : mc_cd 16 223 = some (.goto 57, 3) := by decide +kernel
theorem c16_226 : mc_cd 16 226 = some (.iload_n 1, 1) := by decide +kernel
theorem c16_227 : mc_cd 16 227 = some (.aload_n 0, 1) := by decide +kernel
theorem c16_228 : mc_cd 16 228 = some (.getfield 19, 3) := by decide +kernel
theorem c16_231 : mc_cd 16 231 = some (.if_icmp .ge 44, 3) := by decide +kernel
theorem c16_234 : mc_cd 16 234 = some (.aload_n 0, 1) := by decide +kernel
theorem c16_235 : mc_cd 16 235 = some (.aload_n 0, 1) := by decide +kernel
theorem c16_236 : mc_cd 16 236 = some (.getfield 7, 3) := by decide +kernel
theorem c16_239 : mc_cd 16 239 = some (.iload_n 1, 1) := by decide +kernel
theorem c16_240 : mc_cd 16 240 = some (.baload, 1) := by decide +kernel
theorem c16_241 : mc_cd 16 241 = some (.bipush 59, 2) := by decide +kernel
theorem c16_243 : mc_cd 16 243 = some (.if_icmp .ne 7, 3) := by decide +kernel
theorem c16_246 : mc_cd 16 246 = some (.iconst 3, 1) := by decide +kernel
theorem c16_247 : mc_cd 16 247 = some (.goto 19, 3) := by decide +kernel
theorem c16_250 : mc_cd 16 250 = some (.aload_n 0, 1) := by decide +kernel
theorem c16_251 : mc_cd 16 251 = some (.getfield 7, 3) := by decide +kernel
theorem c16_254 : mc_cd 16 254 = some (.iload_n 1, 1) := by decide +kernel
theorem c16_255 : mc_cd 16 255 = some (.baload, 1) := by decide +kernel
theorem c16_256 : mc_cd 16 256 = some (.bipush 44, 2) := by decide +kernel
theorem c16_258 : mc_cd 16 258 = some (.if_icmp .ne 7, 3) := by decide +kernel
theorem c16_261 : mc_cd 16 261 = some (.iconst 4, 1) := by decide +kernel
theorem c16_262 : mc_cd 16 262 = some (.goto 4, 3) := by decide +kernel
theorem c16_265 : mc_cd 16 265 = some (.iconst 5, 1) := by decide +kernel
theorem c16_266 : mc_cd 16 266 = some (.putfield 41, 3) := by decide +kernel
theorem c16_269 : mc_cd 16 269 = some (.iinc 1 1, 3) := by decide +kernel
theorem c16_272 : mc_cd 16 272 = some (.goto 8, 3) := by decide +kernel
theorem c16_275 : mc_cd 16 275 = some (.aload_n 0, 1) := by decide +kernel
theorem c16_276 : mc_cd 16 276 = some (.iconst 0, 1) := by decide +kernel
theorem c16_277 : mc_cd 16 277 = some (.putfield 41, 3) := by decide +kernel
theorem c16_280 : mc_cd 16 280 = some (.aload_n 0, 1) := by decide +kernel
theorem c16_281 : mc_cd 16 281 = some (.iload_n 1, 1) := by decide +kernel
theorem c16_282 : mc_cd 16 282 = some (.putfield 23, 3) := by decide +kernel
theorem c16_285 : mc_cd 16 285 = some (.return_, 1) := by decide +kernel
