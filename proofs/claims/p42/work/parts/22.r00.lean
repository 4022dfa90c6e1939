/-! methods of the reference (own work, written by wip/gen2/sx.py) -/
/-! StrikeAwakeModel.feed(IIIII)I -/
theorem e168 : wq_en 168 = some (9, 8, false, some FieldType.int) := rfl
theorem c168_0 : mc_cd 168 0 = some (.aload_n 0, 1) := by decide +kernel
theorem c168_1 : mc_cd 168 1 = some (.iconst 0, 1) := by decide +kernel
theorem c168_2 : mc_cd 168 2 = some (.putfield 48, 3) := by decide +kernel
theorem c168_5 : mc_cd 168 5 = some (.aload_n 0, 1) := by decide +kernel
theorem c168_6 : mc_cd 168 6 = some (.getfield 330, 3) := by decide +kernel
theorem c168_9 : mc_cd 168 9 = some (.bipush 20, 2) := by decide +kernel
theorem c168_11 : mc_cd 168 11 = some (.iadd, 1) := by decide +kernel
theorem c168_12 : mc_cd 168 12 = some (.sipush 900, 3) := by decide +kernel
theorem c168_15 : mc_cd 168 15 = some (.if_icmp .le 5, 3) := by decide +kernel
theorem c168_18 : mc_cd 168 18 = some (.iconst (-1), 1) := by decide +kernel
theorem c168_19 : mc_cd 168 19 = some (.ireturn, 1) := by decide +kernel
theorem c168_20 : mc_cd 168 20 = some (.iconst 0, 1) := by decide +kernel
theorem c168_21 : mc_cd 168 21 = some (.istore 6, 2) := by decide +kernel
theorem c168_23 : mc_cd 168 23 = some (.iload 6, 2) := by decide +kernel
theorem c168_25 : mc_cd 168 25 = some (.bipush 20, 2) := by decide +kernel
theorem c168_27 : mc_cd 168 27 = some (.if_icmp .ge 90, 3) := by decide +kernel
theorem c168_30 : mc_cd 168 30 = some (.iload 6, 2) := by decide +kernel
theorem c168_32 : mc_cd 168 32 = some (.iconst 4, 1) := by decide +kernel
theorem c168_33 : mc_cd 168 33 = some (.if_icmp .ge 7, 3) := by decide +kernel
theorem c168_36 : mc_cd 168 36 = some (.iload_n 1, 1) := by decide +kernel
theorem c168_37 : mc_cd 168 37 = some (.goto 39, 3) := by decide +kernel
theorem c168_40 : mc_cd 168 40 = some (.iload 6, 2) := by decide +kernel
theorem c168_42 : mc_cd 168 42 = some (.bipush 8, 2) := by decide +kernel
theorem c168_44 : mc_cd 168 44 = some (.if_icmp .ge 7, 3) := by decide +kernel
theorem c168_47 : mc_cd 168 47 = some (.iload_n 2, 1) := by decide +kernel
theorem c168_48 : mc_cd 168 48 = some (.goto 28, 3) := by decide +kernel
theorem c168_51 : mc_cd 168 51 = some (.iload 6, 2) := by decide +kernel
theorem c168_53 : mc_cd 168 53 = some (.bipush 12, 2) := by decide +kernel
theorem c168_55 : mc_cd 168 55 = some (.if_icmp .ge 7, 3) := by decide +kernel
theorem c168_58 : mc_cd 168 58 = some (.iload_n 3, 1) := by decide +kernel
theorem c168_59 : mc_cd 168 59 = some (.goto 17, 3) := by decide +kernel
theorem c168_62 : mc_cd 168 62 = some (.iload 6, 2) := by decide +kernel
theorem c168_64 : mc_cd 168 64 = some (.bipush 16, 2) := by decide +kernel
theorem c168_66 : mc_cd 168 66 = some (.if_icmp .ge 8, 3) := by decide +kernel
theorem c168_69 : mc_cd 168 69 = some (.iload 4, 2) := by decide +kernel
theorem c168_71 : mc_cd 168 71 = some (.goto 5, 3) := by decide +kernel
theorem c168_74 : mc_cd 168 74 = some (.iload 5, 2) := by decide +kernel
theorem c168_76 : mc_cd 168 76 = some (.istore 7, 2) := by decide +kernel
theorem c168_78 : mc_cd 168 78 = some (.aload_n 0, 1) := by decide +kernel
theorem c168_79 : mc_cd 168 79 = some (.getfield 13, 3) := by decide +kernel
theorem c168_82 : mc_cd 168 82 = some (.aload_n 0, 1) := by decide +kernel
theorem c168_83 : mc_cd 168 83 = some (.getfield 330, 3) := by decide +kernel
theorem c168_86 : mc_cd 168 86 = some (.iload 7, 2) := by decide +kernel
theorem c168_88 : mc_cd 168 88 = some (.bipush 24, 2) := by decide +kernel
theorem c168_90 : mc_cd 168 90 = some (.bipush 8, 2) := by decide +kernel
theorem c168_92 : mc_cd 168 92 = some (.iload 6, 2) := by decide +kernel
theorem c168_94 : mc_cd 168 94 = some (.iconst 4, 1) := by decide +kernel
theorem c168_95 : mc_cd 168 95 = some (.irem, 1) := by decide +kernel
theorem c168_96 : mc_cd 168 96 = some (.imul, 1) := by decide +kernel
theorem c168_97 : mc_cd 168 97 = some (.isub, 1) := by decide +kernel
theorem c168_98 : mc_cd 168 98 = some (.ishr, 1) := by decide +kernel
theorem c168_99 : mc_cd 168 99 = some (.i2b, 1) := by decide +kernel
theorem c168_100 : mc_cd 168 100 = some (.bastore, 1) := by decide +kernel
theorem c168_101 : mc_cd 168 101 = some (.aload_n 0, 1) := by decide +kernel
theorem c168_102 : mc_cd 168 102 = some (.dup, 1) := by decide +kernel
theorem c168_103 : mc_cd 168 103 = some (.getfield 330, 3) := by decide +kernel
theorem c168_106 : mc_cd 168 106 = some (.iconst 1, 1) := by decide +kernel
theorem c168_107 : mc_cd 168 107 = some (.iadd, 1) := by decide +kernel
theorem c168_108 : mc_cd 168 108 = some (.putfield 330, 3) := by decide +kernel
theorem c168_111 : mc_cd 168 111 = some (.iinc 6 1, 3) := by decide +kernel
theorem c168_114 : mc_cd 168 114 = some (.goto (-91), 3) := by decide +kernel
theorem c168_117 : mc_cd 168 117 = some (.aload_n 0, 1) := by decide +kernel
theorem c168_118 : mc_cd 168 118 = some (.getfield 330, 3) := by decide +kernel
theorem c168_121 : mc_cd 168 121 = some (.ireturn, 1) := by decide +kernel
/-! StrikeAwakeModel.refused(I)I -/
theorem e170 : wq_en 170 = some (9, 2, false, some FieldType.int) := rfl
theorem c170_0 : mc_cd 170 0 = some (.aload_n 0, 1) := by decide +kernel
theorem c170_1 : mc_cd 170 1 = some (.iload_n 1, 1) := by decide +kernel
theorem c170_2 : mc_cd 170 2 = some (.putfield 51, 3) := by decide +kernel
theorem c170_5 : mc_cd 170 5 = some (.aload_n 0, 1) := by decide +kernel
theorem c170_6 : mc_cd 170 6 = some (.iconst (-1), 1) := by decide +kernel
theorem c170_7 : mc_cd 170 7 = some (.putfield 9, 3) := by decide +kernel
theorem c170_10 : mc_cd 170 10 = some (.iconst (-1), 1) := by decide +kernel
theorem c170_11 : mc_cd 170 11 = some (.ireturn, 1) := by decide +kernel
abbrev q_170 (r0 : Nat) (a1 : Int) (T : wq_T) (H : wq_H) : Option Value → wq_T → wq_H → Prop := fun r T' H' => T = T' ∧ WT T H' ∧ wfr [(42, 1), (42, 2)] T H H' ∧ ∃ z : Int, some (vI z) = r ∧ ((-2147483648) ≤ z ∧ z ≤ 2147483647)
set_option maxHeartbeats 4000000 in
theorem s_170 {kt : Nat → Option mc_E} {T : wq_T} {H : wq_H} {r0 : Nat} {a1 : Int} (hW : WT T H) (g0 : T.2.2.2 r0 = some 42) (i1 : (-2147483648) ≤ a1 ∧ a1 ≤ 2147483647) : wpc kt 1 170 [.ref r0, vI a1] T H (q_170 r0 a1 T H) := by
  refine wp_enter e170 (Nat.le_of_ble_eq_true rfl) rfl ?_
  have f0 : wfr [(42, 1), (42, 2)] T H H := wfr.rf
  show wp _ _ 170 0 [(0, .ref r0), (1, vI a1)] [] _ H _
  refine wp_of e170 c170_0 (rw_aload_n (pc' := 1) (v := .ref r0) rfl rfl rfl ?_)
  refine wp_of e170 c170_1 (rw_iload_n (pc' := 2) (z := a1) rfl rfl ?_)
  refine wp_of e170 c170_2 (xp_I (pc' := 5) lf_9_51 hW g0 sh_42 (by decide) (by decide) ty_42_1 rfl rfl (by omega) (by omega) ⟨by omega, by omega⟩ rfl (fun H82246 e82247 w82248 => ?_))
  have f82249 := f0.put' e82247 g0 rfl
  have k82250 : H82246 r0 1 = a1 := wq_u_s e82247
  refine wp_of e170 c170_5 (rw_aload_n (pc' := 6) (v := .ref r0) rfl rfl rfl ?_)
  refine wp_of e170 c170_6 (rw_iconst (pc' := 7) rfl ?_)
  refine wp_of e170 c170_7 (xp_I (pc' := 10) lf_9_9 w82248 g0 sh_42 (by decide) (by decide) ty_42_2 rfl rfl (by omega) (by omega) ⟨by omega, by omega⟩ rfl (fun H82251 e82252 w82253 => ?_))
  have f82254 := f82249.put' e82252 g0 rfl
  have k82255 : H82251 r0 2 = -1 := wq_u_s e82252
  refine wp_of e170 c170_10 (rw_iconst (pc' := 11) rfl ?_)
  exact wp_ireturn e170 c170_11 rfl ⟨rfl, w82253, f82254, -1, rfl, ⟨by omega, by omega⟩⟩
/-! StrikeAwakeModel.byteAt(I)I -/
theorem e173 : wq_en 173 = some (9, 2, false, some FieldType.int) := rfl
theorem c173_0 : mc_cd 173 0 = some (.iload_n 1, 1) := by decide +kernel
theorem c173_1 : mc_cd 173 1 = some (.aload_n 0, 1) := by decide +kernel
theorem c173_2 : mc_cd 173 2 = some (.getfield 61, 3) := by decide +kernel
theorem c173_5 : mc_cd 173 5 = some (.if_icmp .ge 16, 3) := by decide +kernel
theorem c173_8 : mc_cd 173 8 = some (.aload_n 0, 1) := by decide +kernel
theorem c173_9 : mc_cd 173 9 = some (.getfield 13, 3) := by decide +kernel
theorem c173_12 : mc_cd 173 12 = some (.iload_n 1, 1) := by decide +kernel
theorem c173_13 : mc_cd 173 13 = some (.baload, 1) := by decide +kernel
theorem c173_14 : mc_cd 173 14 = some (.sipush 255, 3) := by decide +kernel
theorem c173_17 : mc_cd 173 17 = some (.iand, 1) := by decide +kernel
theorem c173_18 : mc_cd 173 18 = some (.goto 4, 3) := by decide +kernel
theorem c173_21 : mc_cd 173 21 = some (.iconst (-1), 1) := by decide +kernel
theorem c173_22 : mc_cd 173 22 = some (.ireturn, 1) := by decide +kernel
/-! StrikeAwakeModel.isLetter(I)Z -/
theorem e174 : wq_en 174 = some (9, 1, false, some FieldType.boolean) := rfl
theorem c174_0 : mc_cd 174 0 = some (.iload_n 0, 1) := by decide +kernel
theorem c174_1 : mc_cd 174 1 = some (.bipush 97, 2) := by decide +kernel
theorem c174_3 : mc_cd 174 3 = some (.if_icmp .lt 13, 3) := by decide +kernel
theorem c174_6 : mc_cd 174 6 = some (.iload_n 0, 1) := by decide +kernel
theorem c174_7 : mc_cd 174 7 = some (.bipush 122, 2) := by decide +kernel
theorem c174_9 : mc_cd 174 9 = some (.if_icmp .gt 7, 3) := by decide +kernel
theorem c174_12 : mc_cd 174 12 = some (.iconst 1, 1) := by decide +kernel
theorem c174_13 : mc_cd 174 13 = some (.goto 4, 3) := by decide +kernel
theorem c174_16 : mc_cd 174 16 = some (.iconst 0, 1) := by decide +kernel
theorem c174_17 : mc_cd 174 17 = some (.ireturn, 1) := by decide +kernel
/-! StrikeAwakeModel.isDigit(I)Z -/
theorem e175 : wq_en 175 = some (9, 1, false, some FieldType.boolean) := rfl
theorem c175_0 : mc_cd 175 0 = some (.iload_n 0, 1) := by decide +kernel
theorem c175_1 : mc_cd 175 1 = some (.bipush 48, 2) := by decide +kernel
theorem c175_3 : mc_cd 175 3 = some (.if_icmp .lt 13, 3) := by decide +kernel
theorem c175_6 : mc_cd 175 6 = some (.iload_n 0, 1) := by decide +kernel
theorem c175_7 : mc_cd 175 7 = some (.bipush 57, 2) := by decide +kernel
theorem c175_9 : mc_cd 175 9 = some (.if_icmp .gt 7, 3) := by decide +kernel
theorem c175_12 : mc_cd 175 12 = some (.iconst 1, 1) := by decide +kernel
theorem c175_13 : mc_cd 175 13 = some (.goto 4, 3) := by decide +kernel
theorem c175_16 : mc_cd 175 16 = some (.iconst 0, 1) := by decide +kernel
theorem c175_17 : mc_cd 175 17 = some (.ireturn, 1) := by decide +kernel
/-! StrikeAwakeModel.goesOn()V -/
theorem e172 : wq_en 172 = some (9, 3, false, none) := rfl
theorem c172_0 : mc_cd 172 0 = some (.aload_n 0, 1) := by decide +kernel
theorem c172_1 : mc_cd 172 1 = some (.getfield 75, 3) := by decide +kernel
theorem c172_4 : mc_cd 172 4 = some (.iconst 5, 1) := by decide +kernel
theorem c172_5 : mc_cd 172 5 = some (.if_icmp .ne 4, 3) := by decide +kernel
theorem c172_8 : mc_cd 172 8 = some (.return_, 1) := by decide +kernel
theorem c172_9 : mc_cd 172 9 = some (.aload_n 0, 1) := by decide +kernel
theorem c172_10 : mc_cd 172 10 = some (.aload_n 0, 1) := by decide +kernel
theorem c172_11 : mc_cd 172 11 = some (.getfield 78, 3) := by decide +kernel
theorem c172_14 : mc_cd 172 14 = some (.invokevirtual 81, 3) := by decide +kernel
theorem c172_17 : mc_cd 172 17 = some (.bipush 32, 2) := by decide +kernel
theorem c172_19 : mc_cd 172 19 = some (.if_icmp .ne 16, 3) := by decide +kernel
theorem c172_22 : mc_cd 172 22 = some (.aload_n 0, 1) := by decide +kernel
theorem c172_23 : mc_cd 172 23 = some (.dup, 1) := by decide +kernel
theorem c172_24 : mc_cd 172 24 = some (.getfield 78, 3) := by decide +kernel
theorem c172_27 : mc_cd 172 27 = some (.iconst 1, 1) := by decide +kernel
theorem c172_28 : mc_cd 172 28 = some (.iadd, 1) := by decide +kernel
theorem c172_29 : mc_cd 172 29 = some (.putfield 78, 3) := by decide +kernel
theorem c172_32 : mc_cd 172 32 = some (.goto (-23), 3) := by decide +kernel
theorem c172_35 : mc_cd 172 35 = some (.aload_n 0, 1) := by decide +kernel
theorem c172_36 : mc_cd 172 36 = some (.aload_n 0, 1) := by decide +kernel
theorem c172_37 : mc_cd 172 37 = some (.getfield 78, 3) := by decide +kernel
theorem c172_40 : mc_cd 172 40 = some (.putfield 84, 3) := by decide +kernel
theorem c172_43 : mc_cd 172 43 = some (.aload_n 0, 1) := by decide +kernel
theorem c172_44 : mc_cd 172 44 = some (.iconst 0, 1) := by decide +kernel
theorem c172_45 : mc_cd 172 45 = some (.putfield 75, 3) := by decide +kernel
theorem c172_48 : mc_cd 172 48 = some (.aload_n 0, 1) := by decide +kernel
theorem c172_49 : mc_cd 172 49 = some (.iconst 0, 1) := by decide +kernel
theorem c172_50 : mc_cd 172 50 = some (.putfield 87, 3) := by decide +kernel
theorem c172_53 : mc_cd 172 53 = some (.aload_n 0, 1) := by decide +kernel
theorem c172_54 : mc_cd 172 54 = some (.aload_n 0, 1) := by decide +kernel
theorem c172_55 : mc_cd 172 55 = some (.getfield 78, 3) := by decide +kernel
theorem c172_58 : mc_cd 172 58 = some (.invokevirtual 81, 3) := by decide +kernel
theorem c172_61 : mc_cd 172 61 = some (.istore_n 1, 1) := by decide +kernel
theorem c172_62 : mc_cd 172 62 = some (.iconst 0, 1) := by decide +kernel
theorem c172_63 : mc_cd 172 63 = some (.istore_n 2, 1) := by decide +kernel
theorem c172_64 : mc_cd 172 64 = some (.iload_n 1, 1) := by decide +kernel
theorem c172_65 : mc_cd 172 65 = some (.iconst (-1), 1) := by decide +kernel
theorem c172_66 : mc_cd 172 66 = some (.if_icmp .ne 11, 3) := by decide +kernel
theorem c172_69 : mc_cd 172 69 = some (.aload_n 0, 1) := by decide +kernel
theorem c172_70 : mc_cd 172 70 = some (.iconst 1, 1) := by decide +kernel
theorem c172_71 : mc_cd 172 71 = some (.putfield 75, 3) := by decide +kernel
theorem c172_74 : mc_cd 172 74 = some (.goto 207, 3) := by decide +kernel
theorem c172_77 : mc_cd 172 77 = some (.iload_n 1, 1) := by decide +kernel
theorem c172_78 : mc_cd 172 78 = some (.invokestatic 90, 3) := by decide +kernel
theorem c172_81 : mc_cd 172 81 = some (.ifCond .eq 85, 3) := by decide +kernel
theorem c172_84 : mc_cd 172 84 = some (.aload_n 0, 1) := by decide +kernel
theorem c172_85 : mc_cd 172 85 = some (.lconst 0, 1) := by decide +kernel
theorem c172_86 : mc_cd 172 86 = some (.putfield 94, 3) := by decide +kernel
theorem c172_89 : mc_cd 172 89 = some (.aload_n 0, 1) := by decide +kernel
theorem c172_90 : mc_cd 172 90 = some (.aload_n 0, 1) := by decide +kernel
theorem c172_91 : mc_cd 172 91 = some (.getfield 78, 3) := by decide +kernel
theorem c172_94 : mc_cd 172 94 = some (.invokevirtual 81, 3) := by decide +kernel
theorem c172_97 : mc_cd 172 97 = some (.invokestatic 90, 3) := by decide +kernel
theorem c172_100 : mc_cd 172 100 = some (.ifCond .eq 52, 3) := by decide +kernel
theorem c172_103 : mc_cd 172 103 = some (.iload_n 2, 1) := by decide +kernel
theorem c172_104 : mc_cd 172 104 = some (.bipush 8, 2) := by decide +kernel
theorem c172_106 : mc_cd 172 106 = some (.if_icmp .ge 30, 3) := by decide +kernel
theorem c172_109 : mc_cd 172 109 = some (.aload_n 0, 1) := by decide +kernel
theorem c172_110 : mc_cd 172 110 = some (.ldc2_w 69, 3) := by decide +kernel
theorem c172_113 : mc_cd 172 113 = some (.aload_n 0, 1) := by decide +kernel
theorem c172_114 : mc_cd 172 114 = some (.getfield 94, 3) := by decide +kernel
theorem c172_117 : mc_cd 172 117 = some (.lmul, 1) := by decide +kernel
theorem c172_118 : mc_cd 172 118 = some (.aload_n 0, 1) := by decide +kernel
theorem c172_119 : mc_cd 172 119 = some (.aload_n 0, 1) := by decide +kernel
theorem c172_120 : mc_cd 172 120 = some (.getfield 78, 3) := by decide +kernel
theorem c172_123 : mc_cd 172 123 = some (.invokevirtual 81, 3) := by decide +kernel
theorem c172_126 : mc_cd 172 126 = some (.bipush 97, 2) := by decide +kernel
theorem c172_128 : mc_cd 172 128 = some (.isub, 1) := by decide +kernel
theorem c172_129 : mc_cd 172 129 = some (.iconst 1, 1) := by decide +kernel
theorem c172_130 : mc_cd 172 130 = some (.iadd, 1) := by decide +kernel
theorem c172_131 : mc_cd 172 131 = some (.i2l, 1) := by decide +kernel
theorem c172_132 : mc_cd 172 132 = some (.ladd, 1) := by decide +kernel
theorem c172_133 : mc_cd 172 133 = some (.putfield 94, 3) := by decide +kernel
theorem c172_136 : mc_cd 172 136 = some (.iinc 2 1, 3) := by decide +kernel
theorem c172_139 : mc_cd 172 139 = some (.aload_n 0, 1) := by decide +kernel
theorem c172_140 : mc_cd 172 140 = some (.dup, 1) := by decide +kernel
theorem c172_141 : mc_cd 172 141 = some (.getfield 78, 3) := by decide +kernel
theorem c172_144 : mc_cd 172 144 = some (.iconst 1, 1) := by decide +kernel
theorem c172_145 : mc_cd 172 145 = some (.iadd, 1) := by decide +kernel
theorem c172_146 : mc_cd 172 146 = some (.putfield 78, 3) := by decide +kernel
theorem c172_149 : mc_cd 172 149 = some (.goto (-60), 3) := by decide +kernel
theorem c172_152 : mc_cd 172 152 = some (.iload_n 2, 1) := by decide +kernel
theorem c172_153 : mc_cd 172 153 = some (.bipush 8, 2) := by decide +kernel
theorem c172_155 : mc_cd 172 155 = some (.if_icmp .gt 126, 3) := by decide +kernel
theorem c172_158 : mc_cd 172 158 = some (.aload_n 0, 1) := by decide +kernel
theorem c172_159 : mc_cd 172 159 = some (.iconst 2, 1) := by decide +kernel
theorem c172_160 : mc_cd 172 160 = some (.putfield 75, 3) := by decide +kernel
theorem c172_163 : mc_cd 172 163 = some (.goto 118, 3) := by decide +kernel
theorem c172_166 : mc_cd 172 166 = some (.iload_n 1, 1) := by decide +kernel
theorem c172_167 : mc_cd 172 167 = some (.invokestatic 98, 3) := by decide +kernel
theorem c172_170 : mc_cd 172 170 = some (.ifCond .eq 79, 3) := by decide +kernel
theorem c172_173 : mc_cd 172 173 = some (.aload_n 0, 1) := by decide +kernel
theorem c172_174 : mc_cd 172 174 = some (.iconst 0, 1) := by decide +kernel
theorem c172_175 : mc_cd 172 175 = some (.putfield 101, 3) := by decide +kernel
theorem c172_178 : mc_cd 172 178 = some (.aload_n 0, 1) := by decide +kernel
theorem c172_179 : mc_cd 172 179 = some (.aload_n 0, 1) := by decide +kernel
theorem c172_180 : mc_cd 172 180 = some (.getfield 78, 3) := by decide +kernel
theorem c172_183 : mc_cd 172 183 = some (.invokevirtual 81, 3) := by decide +kernel
theorem c172_186 : mc_cd 172 186 = some (.invokestatic 98, 3) := by decide +kernel
theorem c172_189 : mc_cd 172 189 = some (.ifCond .eq 47, 3) := by decide +kernel
theorem c172_192 : mc_cd 172 192 = some (.iload_n 2, 1) := by decide +kernel
theorem c172_193 : mc_cd 172 193 = some (.iconst 3, 1) := by decide +kernel
theorem c172_194 : mc_cd 172 194 = some (.if_icmp .ge 26, 3) := by decide +kernel
theorem c172_197 : mc_cd 172 197 = some (.aload_n 0, 1) := by decide +kernel
theorem c172_198 : mc_cd 172 198 = some (.bipush 10, 2) := by decide +kernel
theorem c172_200 : mc_cd 172 200 = some (.aload_n 0, 1) := by decide +kernel
theorem c172_201 : mc_cd 172 201 = some (.getfield 101, 3) := by decide +kernel
theorem c172_204 : mc_cd 172 204 = some (.imul, 1) := by decide +kernel
theorem c172_205 : mc_cd 172 205 = some (.aload_n 0, 1) := by decide +kernel
theorem c172_206 : mc_cd 172 206 = some (.aload_n 0, 1) := by decide +kernel
theorem c172_207 : mc_cd 172 207 = some (.getfield 78, 3) := by decide +kernel
theorem c172_210 : mc_cd 172 210 = some (.invokevirtual 81, 3) := by decide +kernel
theorem c172_213 : mc_cd 172 213 = some (.iadd, 1) := by decide +kernel
theorem c172_214 : mc_cd 172 214 = some (.bipush 48, 2) := by decide +kernel
theorem c172_216 : mc_cd 172 216 = some (.isub, 1) := by decide +kernel
theorem c172_217 : mc_cd 172 217 = some (.putfield 101, 3) := by decide +kernel
theorem c172_220 : mc_cd 172 220 = some (.iinc 2 1, 3) := by decide +kernel
theorem c172_223 : mc_cd 172 223 = some (.aload_n 0, 1) := by decide +kernel
theorem c172_224 : mc_cd 172 224 = some (.dup, 1) := by decide +kernel
theorem c172_225 : mc_cd 172 225 = some (.getfield 78, 3) := by decide +kernel
theorem c172_228 : mc_cd 172 228 = some (.iconst 1, 1) := by decide +kernel
theorem c172_229 : mc_cd 172 229 = some (.iadd, 1) := by decide +kernel
theorem c172_230 : mc_cd 172 230 = some (.putfield 78, 3) := by decide +kernel
theorem c172_233 : mc_cd 172 233 = some (.goto (-55), 3) := by decide +kernel
theorem c172_236 : mc_cd 172 236 = some (.iload_n 2, 1) := by decide +kernel
theorem c172_237 : mc_cd 172 237 = some (.iconst 3, 1) := by decide +kernel
theorem c172_238 : mc_cd 172 238 = some (.if_icmp .gt 43, 3) := by decide +kernel
theorem c172_241 : mc_cd 172 241 = some (.aload_n 0, 1) := by decide +kernel
theorem c172_242 : mc_cd 172 242 = some (.iconst 3, 1) := by decide +kernel
theorem c172_243 : mc_cd 172 243 = some (.putfield 75, 3) := by decide +kernel
theorem c172_246 : mc_cd 172 246 = some (.goto 35, 3) := by decide +kernel
theorem c172_249 : mc_cd 172 249 = some (.iload_n 1, 1) := by decide +kernel
theorem c172_250 : mc_cd 172 250 = some (.bipush 59, 2) := by decide +kernel
theorem c172_252 : mc_cd 172 252 = some (.if_icmp .eq 9, 3) := by decide +kernel
theorem c172_255 : mc_cd 172 255 = some (.iload_n 1, 1) := by decide +kernel
theorem c172_256 : mc_cd 172 256 = some (.bipush 44, 2) := by decide +kernel
theorem c172_258 : mc_cd 172 258 = some (.if_icmp .ne 23, 3) := by decide +kernel
theorem c172_261 : mc_cd 172 261 = some (.aload_n 0, 1) := by decide +kernel
theorem c172_262 : mc_cd 172 262 = some (.iconst 4, 1) := by decide +kernel
theorem c172_263 : mc_cd 172 263 = some (.putfield 75, 3) := by decide +kernel
theorem c172_266 : mc_cd 172 266 = some (.aload_n 0, 1) := by decide +kernel
theorem c172_267 : mc_cd 172 267 = some (.iload_n 1, 1) := by decide +kernel
theorem c172_268 : mc_cd 172 268 = some (.putfield 87, 3) := by decide +kernel
theorem c172_271 : mc_cd 172 271 = some (.aload_n 0, 1) := by decide +kernel
theorem c172_272 : mc_cd 172 272 = some (.dup, 1) := by decide +kernel
theorem c172_273 : mc_cd 172 273 = some (.getfield 78, 3) := by decide +kernel
theorem c172_276 : mc_cd 172 276 = some (.iconst 1, 1) := by decide +kernel
theorem c172_277 : mc_cd 172 277 = some (.iadd, 1) := by decide +kernel
theorem c172_278 : mc_cd 172 278 = some (.putfield 78, 3) := by decide +kernel
theorem c172_281 : mc_cd 172 281 = some (.return_, 1) := by decide +kernel
