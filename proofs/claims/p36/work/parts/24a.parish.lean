section
/-! parish of the reference (own work, written by wip/gen2/sx.py) -/
/-! StrikeAwakeModel.parish(I)I -/
theorem e169 : wq_en 169 = some (9, 3, false, some FieldType.int) := rfl
theorem cg169_0 : mc_cd 169 0 = some (.aload_n 0, 1) ∧ mc_cd 169 1 = some (.iconst 0, 1) ∧ mc_cd 169 2 = some (.putfield 48, 3) ∧ mc_cd 169 5 = some (.iload_n 1, 1) ∧ mc_cd 169 6 = some (.ifCond .lt 11, 3) ∧ mc_cd 169 9 = some (.iload_n 1, 1) ∧ mc_cd 169 10 = some (.aload_n 0, 1) ∧ mc_cd 169 11 = some (.getfield 330, 3) := by decide +kernel
theorem c169_0 : mc_cd 169 0 = some (.aload_n 0, 1) := cg169_0.1
theorem c169_1 : mc_cd 169 1 = some (.iconst 0, 1) := cg169_0.2.1
theorem c169_2 : mc_cd 169 2 = some (.putfield 48, 3) := cg169_0.2.2.1
theorem c169_5 : mc_cd 169 5 = some (.iload_n 1, 1) := cg169_0.2.2.2.1
theorem c169_6 : mc_cd 169 6 = some (.ifCond .lt 11, 3) := cg169_0.2.2.2.2.1
theorem c169_9 : mc_cd 169 9 = some (.iload_n 1, 1) := cg169_0.2.2.2.2.2.1
theorem c169_10 : mc_cd 169 10 = some (.aload_n 0, 1) := cg169_0.2.2.2.2.2.2.1
theorem c169_11 : mc_cd 169 11 = some (.getfield 330, 3) := cg169_0.2.2.2.2.2.2.2
theorem cg169_14 : mc_cd 169 14 = some (.if_icmp .le 9, 3) ∧ mc_cd 169 17 = some (.aload_n 0, 1) ∧ mc_cd 169 18 = some (.iconst 2, 1) ∧ mc_cd 169 19 = some (.invokevirtual 54, 3) ∧ mc_cd 169 22 = some (.ireturn, 1) ∧ mc_cd 169 23 = some (.aload_n 0, 1) ∧ mc_cd 169 24 = some (.iload_n 1, 1) ∧ mc_cd 169 25 = some (.putfield 61, 3) := by decide +kernel
theorem c169_14 : mc_cd 169 14 = some (.if_icmp .le 9, 3) := cg169_14.1
theorem c169_17 : mc_cd 169 17 = some (.aload_n 0, 1) := cg169_14.2.1
theorem c169_18 : mc_cd 169 18 = some (.iconst 2, 1) := cg169_14.2.2.1
theorem c169_19 : mc_cd 169 19 = some (.invokevirtual 54, 3) := cg169_14.2.2.2.1
theorem c169_22 : mc_cd 169 22 = some (.ireturn, 1) := cg169_14.2.2.2.2.1
theorem c169_23 : mc_cd 169 23 = some (.aload_n 0, 1) := cg169_14.2.2.2.2.2.1
theorem c169_24 : mc_cd 169 24 = some (.iload_n 1, 1) := cg169_14.2.2.2.2.2.2.1
theorem c169_25 : mc_cd 169 25 = some (.putfield 61, 3) := cg169_14.2.2.2.2.2.2.2
theorem cg169_28 : mc_cd 169 28 = some (.aload_n 0, 1) ∧ mc_cd 169 29 = some (.iconst 0, 1) ∧ mc_cd 169 30 = some (.putfield 330, 3) ∧ mc_cd 169 33 = some (.aload_n 0, 1) ∧ mc_cd 169 34 = some (.iconst 0, 1) ∧ mc_cd 169 35 = some (.putfield 78, 3) ∧ mc_cd 169 38 = some (.aload_n 0, 1) ∧ mc_cd 169 39 = some (.iconst 0, 1) := by decide +kernel
theorem c169_28 : mc_cd 169 28 = some (.aload_n 0, 1) := cg169_28.1
theorem c169_29 : mc_cd 169 29 = some (.iconst 0, 1) := cg169_28.2.1
theorem c169_30 : mc_cd 169 30 = some (.putfield 330, 3) := cg169_28.2.2.1
theorem c169_33 : mc_cd 169 33 = some (.aload_n 0, 1) := cg169_28.2.2.2.1
theorem c169_34 : mc_cd 169 34 = some (.iconst 0, 1) := cg169_28.2.2.2.2.1
theorem c169_35 : mc_cd 169 35 = some (.putfield 78, 3) := cg169_28.2.2.2.2.2.1
theorem c169_38 : mc_cd 169 38 = some (.aload_n 0, 1) := cg169_28.2.2.2.2.2.2.1
theorem c169_39 : mc_cd 169 39 = some (.iconst 0, 1) := cg169_28.2.2.2.2.2.2.2
theorem cg169_40 : mc_cd 169 40 = some (.putfield 104, 3) ∧ mc_cd 169 43 = some (.aload_n 0, 1) ∧ mc_cd 169 44 = some (.iconst 0, 1) ∧ mc_cd 169 45 = some (.putfield 293, 3) ∧ mc_cd 169 48 = some (.aload_n 0, 1) ∧ mc_cd 169 49 = some (.new 171, 3) ∧ mc_cd 169 52 = some (.dup, 1) ∧ mc_cd 169 53 = some (.invokespecial 333, 3) := by decide +kernel
theorem c169_40 : mc_cd 169 40 = some (.putfield 104, 3) := cg169_40.1
theorem c169_43 : mc_cd 169 43 = some (.aload_n 0, 1) := cg169_40.2.1
theorem c169_44 : mc_cd 169 44 = some (.iconst 0, 1) := cg169_40.2.2.1
theorem c169_45 : mc_cd 169 45 = some (.putfield 293, 3) := cg169_40.2.2.2.1
theorem c169_48 : mc_cd 169 48 = some (.aload_n 0, 1) := cg169_40.2.2.2.2.1
theorem c169_49 : mc_cd 169 49 = some (.new 171, 3) := cg169_40.2.2.2.2.2.1
theorem c169_52 : mc_cd 169 52 = some (.dup, 1) := cg169_40.2.2.2.2.2.2.1
theorem c169_53 : mc_cd 169 53 = some (.invokespecial 333, 3) := cg169_40.2.2.2.2.2.2.2
theorem cg169_56 : mc_cd 169 56 = some (.putfield 166, 3) ∧ mc_cd 169 59 = some (.aload_n 0, 1) ∧ mc_cd 169 60 = some (.iconst 0, 1) ∧ mc_cd 169 61 = some (.putfield 75, 3) ∧ mc_cd 169 64 = some (.aload_n 0, 1) ∧ mc_cd 169 65 = some (.invokevirtual 118, 3) ∧ mc_cd 169 68 = some (.aload_n 0, 1) ∧ mc_cd 169 69 = some (.invokevirtual 334, 3) := by decide +kernel
theorem c169_56 : mc_cd 169 56 = some (.putfield 166, 3) := cg169_56.1
theorem c169_59 : mc_cd 169 59 = some (.aload_n 0, 1) := cg169_56.2.1
theorem c169_60 : mc_cd 169 60 = some (.iconst 0, 1) := cg169_56.2.2.1
theorem c169_61 : mc_cd 169 61 = some (.putfield 75, 3) := cg169_56.2.2.2.1
theorem c169_64 : mc_cd 169 64 = some (.aload_n 0, 1) := cg169_56.2.2.2.2.1
theorem c169_65 : mc_cd 169 65 = some (.invokevirtual 118, 3) := cg169_56.2.2.2.2.2.1
theorem c169_68 : mc_cd 169 68 = some (.aload_n 0, 1) := cg169_56.2.2.2.2.2.2.1
theorem c169_69 : mc_cd 169 69 = some (.invokevirtual 334, 3) := cg169_56.2.2.2.2.2.2.2
theorem cg169_72 : mc_cd 169 72 = some (.aload_n 0, 1) ∧ mc_cd 169 73 = some (.getfield 104, 3) ∧ mc_cd 169 76 = some (.ifCond .le 18, 3) ∧ mc_cd 169 79 = some (.aload_n 0, 1) ∧ mc_cd 169 80 = some (.iconst 4, 1) ∧ mc_cd 169 81 = some (.putfield 51, 3) ∧ mc_cd 169 84 = some (.aload_n 0, 1) ∧ mc_cd 169 85 = some (.aload_n 0, 1) := by decide +kernel
theorem c169_72 : mc_cd 169 72 = some (.aload_n 0, 1) := cg169_72.1
theorem c169_73 : mc_cd 169 73 = some (.getfield 104, 3) := cg169_72.2.1
theorem c169_76 : mc_cd 169 76 = some (.ifCond .le 18, 3) := cg169_72.2.2.1
theorem c169_79 : mc_cd 169 79 = some (.aload_n 0, 1) := cg169_72.2.2.2.1
theorem c169_80 : mc_cd 169 80 = some (.iconst 4, 1) := cg169_72.2.2.2.2.1
theorem c169_81 : mc_cd 169 81 = some (.putfield 51, 3) := cg169_72.2.2.2.2.2.1
theorem c169_84 : mc_cd 169 84 = some (.aload_n 0, 1) := cg169_72.2.2.2.2.2.2.1
theorem c169_85 : mc_cd 169 85 = some (.aload_n 0, 1) := cg169_72.2.2.2.2.2.2.2
theorem cg169_86 : mc_cd 169 86 = some (.getfield 107, 3) ∧ mc_cd 169 89 = some (.putfield 9, 3) ∧ mc_cd 169 92 = some (.iconst (-1), 1) ∧ mc_cd 169 93 = some (.ireturn, 1) ∧ mc_cd 169 94 = some (.aload_n 0, 1) ∧ mc_cd 169 95 = some (.aload_n 0, 1) ∧ mc_cd 169 96 = some (.getfield 166, 3) ∧ mc_cd 169 99 = some (.putfield 337, 3) := by decide +kernel
theorem c169_86 : mc_cd 169 86 = some (.getfield 107, 3) := cg169_86.1
theorem c169_89 : mc_cd 169 89 = some (.putfield 9, 3) := cg169_86.2.1
theorem c169_92 : mc_cd 169 92 = some (.iconst (-1), 1) := cg169_86.2.2.1
theorem c169_93 : mc_cd 169 93 = some (.ireturn, 1) := cg169_86.2.2.2.1
theorem c169_94 : mc_cd 169 94 = some (.aload_n 0, 1) := cg169_86.2.2.2.2.1
theorem c169_95 : mc_cd 169 95 = some (.aload_n 0, 1) := cg169_86.2.2.2.2.2.1
theorem c169_96 : mc_cd 169 96 = some (.getfield 166, 3) := cg169_86.2.2.2.2.2.2.1
theorem c169_99 : mc_cd 169 99 = some (.putfield 337, 3) := cg169_86.2.2.2.2.2.2.2
theorem cg169_102 : mc_cd 169 102 = some (.aload_n 0, 1) ∧ mc_cd 169 103 = some (.iconst 0, 1) ∧ mc_cd 169 104 = some (.putfield 340, 3) ∧ mc_cd 169 107 = some (.aload_n 0, 1) ∧ mc_cd 169 108 = some (.iconst 1, 1) ∧ mc_cd 169 109 = some (.aload_n 0, 1) ∧ mc_cd 169 110 = some (.getfield 337, 3) ∧ mc_cd 169 113 = some (.getfield 185, 3) := by decide +kernel
theorem c169_102 : mc_cd 169 102 = some (.aload_n 0, 1) := cg169_102.1
theorem c169_103 : mc_cd 169 103 = some (.iconst 0, 1) := cg169_102.2.1
theorem c169_104 : mc_cd 169 104 = some (.putfield 340, 3) := cg169_102.2.2.1
theorem c169_107 : mc_cd 169 107 = some (.aload_n 0, 1) := cg169_102.2.2.2.1
theorem c169_108 : mc_cd 169 108 = some (.iconst 1, 1) := cg169_102.2.2.2.2.1
theorem c169_109 : mc_cd 169 109 = some (.aload_n 0, 1) := cg169_102.2.2.2.2.2.1
theorem c169_110 : mc_cd 169 110 = some (.getfield 337, 3) := cg169_102.2.2.2.2.2.2.1
theorem c169_113 : mc_cd 169 113 = some (.getfield 185, 3) := cg169_102.2.2.2.2.2.2.2
theorem cg169_116 : mc_cd 169 116 = some (.ishl, 1) ∧ mc_cd 169 117 = some (.iconst 1, 1) ∧ mc_cd 169 118 = some (.isub, 1) ∧ mc_cd 169 119 = some (.putfield 343, 3) ∧ mc_cd 169 122 = some (.iconst 0, 1) ∧ mc_cd 169 123 = some (.istore_n 2, 1) ∧ mc_cd 169 124 = some (.iload_n 2, 1) ∧ mc_cd 169 125 = some (.bipush 24, 2) := by decide +kernel
theorem c169_116 : mc_cd 169 116 = some (.ishl, 1) := cg169_116.1
theorem c169_117 : mc_cd 169 117 = some (.iconst 1, 1) := cg169_116.2.1
theorem c169_118 : mc_cd 169 118 = some (.isub, 1) := cg169_116.2.2.1
theorem c169_119 : mc_cd 169 119 = some (.putfield 343, 3) := cg169_116.2.2.2.1
theorem c169_122 : mc_cd 169 122 = some (.iconst 0, 1) := cg169_116.2.2.2.2.1
theorem c169_123 : mc_cd 169 123 = some (.istore_n 2, 1) := cg169_116.2.2.2.2.2.1
theorem c169_124 : mc_cd 169 124 = some (.iload_n 2, 1) := cg169_116.2.2.2.2.2.2.1
theorem c169_125 : mc_cd 169 125 = some (.bipush 24, 2) := cg169_116.2.2.2.2.2.2.2
theorem cg169_127 : mc_cd 169 127 = some (.if_icmp .ge 39, 3) ∧ mc_cd 169 130 = some (.aload_n 0, 1) ∧ mc_cd 169 131 = some (.getfield 17, 3) ∧ mc_cd 169 134 = some (.iload_n 2, 1) ∧ mc_cd 169 135 = some (.aload_n 0, 1) ∧ mc_cd 169 136 = some (.getfield 343, 3) ∧ mc_cd 169 139 = some (.iload_n 2, 1) ∧ mc_cd 169 140 = some (.invokestatic 346, 3) := by decide +kernel
theorem c169_127 : mc_cd 169 127 = some (.if_icmp .ge 39, 3) := cg169_127.1
theorem c169_130 : mc_cd 169 130 = some (.aload_n 0, 1) := cg169_127.2.1
theorem c169_131 : mc_cd 169 131 = some (.getfield 17, 3) := cg169_127.2.2.1
theorem c169_134 : mc_cd 169 134 = some (.iload_n 2, 1) := cg169_127.2.2.2.1
theorem c169_135 : mc_cd 169 135 = some (.aload_n 0, 1) := cg169_127.2.2.2.2.1
theorem c169_136 : mc_cd 169 136 = some (.getfield 343, 3) := cg169_127.2.2.2.2.2.1
theorem c169_139 : mc_cd 169 139 = some (.iload_n 2, 1) := cg169_127.2.2.2.2.2.2.1
theorem c169_140 : mc_cd 169 140 = some (.invokestatic 346, 3) := cg169_127.2.2.2.2.2.2.2
theorem cg169_143 : mc_cd 169 143 = some (.ifCond .eq 15, 3) ∧ mc_cd 169 146 = some (.aload_n 0, 1) ∧ mc_cd 169 147 = some (.getfield 337, 3) ∧ mc_cd 169 150 = some (.getfield 296, 3) ∧ mc_cd 169 153 = some (.iload_n 2, 1) ∧ mc_cd 169 154 = some (.iaload, 1) ∧ mc_cd 169 155 = some (.goto 4, 3) ∧ mc_cd 169 158 = some (.iconst 0, 1) := by decide +kernel
theorem c169_143 : mc_cd 169 143 = some (.ifCond .eq 15, 3) := cg169_143.1
theorem c169_146 : mc_cd 169 146 = some (.aload_n 0, 1) := cg169_143.2.1
theorem c169_147 : mc_cd 169 147 = some (.getfield 337, 3) := cg169_143.2.2.1
theorem c169_150 : mc_cd 169 150 = some (.getfield 296, 3) := cg169_143.2.2.2.1
theorem c169_153 : mc_cd 169 153 = some (.iload_n 2, 1) := cg169_143.2.2.2.2.1
theorem c169_154 : mc_cd 169 154 = some (.iaload, 1) := cg169_143.2.2.2.2.2.1
theorem c169_155 : mc_cd 169 155 = some (.goto 4, 3) := cg169_143.2.2.2.2.2.2.1
theorem c169_158 : mc_cd 169 158 = some (.iconst 0, 1) := cg169_143.2.2.2.2.2.2.2
theorem cg169_159 : mc_cd 169 159 = some (.iastore, 1) ∧ mc_cd 169 160 = some (.iinc 2 1, 3) ∧ mc_cd 169 163 = some (.goto (-39), 3) ∧ mc_cd 169 166 = some (.iconst 0, 1) ∧ mc_cd 169 167 = some (.istore_n 2, 1) ∧ mc_cd 169 168 = some (.iload_n 2, 1) ∧ mc_cd 169 169 = some (.bipush 6, 2) ∧ mc_cd 169 171 = some (.if_icmp .ge 16, 3) := by decide +kernel
theorem c169_159 : mc_cd 169 159 = some (.iastore, 1) := cg169_159.1
theorem c169_160 : mc_cd 169 160 = some (.iinc 2 1, 3) := cg169_159.2.1
theorem c169_163 : mc_cd 169 163 = some (.goto (-39), 3) := cg169_159.2.2.1
theorem c169_166 : mc_cd 169 166 = some (.iconst 0, 1) := cg169_159.2.2.2.1
theorem c169_167 : mc_cd 169 167 = some (.istore_n 2, 1) := cg169_159.2.2.2.2.1
theorem c169_168 : mc_cd 169 168 = some (.iload_n 2, 1) := cg169_159.2.2.2.2.2.1
theorem c169_169 : mc_cd 169 169 = some (.bipush 6, 2) := cg169_159.2.2.2.2.2.2.1
theorem c169_171 : mc_cd 169 171 = some (.if_icmp .ge 16, 3) := cg169_159.2.2.2.2.2.2.2
theorem cg169_174 : mc_cd 169 174 = some (.aload_n 0, 1) ∧ mc_cd 169 175 = some (.getfield 36, 3) ∧ mc_cd 169 178 = some (.iload_n 2, 1) ∧ mc_cd 169 179 = some (.iconst 0, 1) ∧ mc_cd 169 180 = some (.iastore, 1) ∧ mc_cd 169 181 = some (.iinc 2 1, 3) ∧ mc_cd 169 184 = some (.goto (-16), 3) ∧ mc_cd 169 187 = some (.aload_n 0, 1) := by decide +kernel
theorem c169_174 : mc_cd 169 174 = some (.aload_n 0, 1) := cg169_174.1
theorem c169_175 : mc_cd 169 175 = some (.getfield 36, 3) := cg169_174.2.1
theorem c169_178 : mc_cd 169 178 = some (.iload_n 2, 1) := cg169_174.2.2.1
theorem c169_179 : mc_cd 169 179 = some (.iconst 0, 1) := cg169_174.2.2.2.1
theorem c169_180 : mc_cd 169 180 = some (.iastore, 1) := cg169_174.2.2.2.2.1
theorem c169_181 : mc_cd 169 181 = some (.iinc 2 1, 3) := cg169_174.2.2.2.2.2.1
theorem c169_184 : mc_cd 169 184 = some (.goto (-16), 3) := cg169_174.2.2.2.2.2.2.1
theorem c169_187 : mc_cd 169 187 = some (.aload_n 0, 1) := cg169_174.2.2.2.2.2.2.2
theorem cg169_188 : mc_cd 169 188 = some (.invokevirtual 350, 3) ∧ mc_cd 169 191 = some (.aload_n 0, 1) ∧ mc_cd 169 192 = some (.iconst 0, 1) ∧ mc_cd 169 193 = some (.putfield 353, 3) ∧ mc_cd 169 196 = some (.aload_n 0, 1) ∧ mc_cd 169 197 = some (.aload_n 0, 1) ∧ mc_cd 169 198 = some (.getfield 337, 3) ∧ mc_cd 169 201 = some (.getfield 188, 3) := by decide +kernel
theorem c169_188 : mc_cd 169 188 = some (.invokevirtual 350, 3) := cg169_188.1
theorem c169_191 : mc_cd 169 191 = some (.aload_n 0, 1) := cg169_188.2.1
theorem c169_192 : mc_cd 169 192 = some (.iconst 0, 1) := cg169_188.2.2.1
theorem c169_193 : mc_cd 169 193 = some (.putfield 353, 3) := cg169_188.2.2.2.1
theorem c169_196 : mc_cd 169 196 = some (.aload_n 0, 1) := cg169_188.2.2.2.2.1
theorem c169_197 : mc_cd 169 197 = some (.aload_n 0, 1) := cg169_188.2.2.2.2.2.1
theorem c169_198 : mc_cd 169 198 = some (.getfield 337, 3) := cg169_188.2.2.2.2.2.2.1
theorem c169_201 : mc_cd 169 201 = some (.getfield 188, 3) := cg169_188.2.2.2.2.2.2.2
theorem cg169_204 : mc_cd 169 204 = some (.invokevirtual 58, 3) ∧ mc_cd 169 207 = some (.ireturn, 1) := by decide +kernel
theorem c169_204 : mc_cd 169 204 = some (.invokevirtual 58, 3) := cg169_204.1
theorem c169_207 : mc_cd 169 207 = some (.ireturn, 1) := cg169_204.2
end
section
/-! THE ONE METHOD THAT THROWS: it answers, or comes to its 'new' with the memory that it found (own work) -/
def mc_seg (kt : Nat → Option mc_E) (call : Nat → List Value → mc_M → Option mc_R) (own nL : Nat) (ini : Bool) (ret : Option FieldType) (cc : ByteArray) : Nat → mc_S → Option mc_S
  | 0, S => some S
  | n + 1, S => match decode cc S.1 with
    | .ok (x, k) => match mc_step kt call own nL ini ret x k S with
      | some (.inl S1) => mc_seg kt call own nL ini ret cc n S1
      | _ => none
    | .error _ => none
theorem mc_seg_mono {kt : Nat → Option mc_E} {own nL : Nat} {ini : Bool} {ret : Option FieldType} {cc : ByteArray} {call call' : Nat → List Value → mc_M → Option mc_R} (hc : ∀ (k : Nat) (as : List Value) (M : mc_M) (w : mc_R), call k as M = some w → call' k as M = some w) : ∀ (n : Nat) (S S' : mc_S), mc_seg kt call own nL ini ret cc n S = some S' → mc_seg kt call' own nL ini ret cc n S = some S'
  | 0, _, _, h => h
  | n + 1, S, S', h => by
    unfold mc_seg at h ⊢
    split at h
    · next x k hd =>
      split at h
      · next S1 hs =>
        rw [mc_step_mono hc hs]
        exact mc_seg_mono hc n S1 S' h
      · cases h
    · cases h
def wq_sg (kt : Nat → Option mc_E) (F d k n : Nat) (S : mc_S) : Option mc_S := match mc_mt k with
  | some q => mc_seg kt (mc_call kt F d) q.1 q.2.2.2.1 (q.2.2.2.2.2.2 == 2) q.2.2.2.2.1 q.2.2.1 n S
  | none => none
/-- from this place method k ends, and Q holds; or it comes to 46, its stack empty, its memory T0, H0 -/
def wpx (T0 : wq_T) (H0 : wq_H) (kt : Nat → Option mc_E) (d k pc : Nat) (L : List (Nat × Value)) (st : List Value) (T : wq_T) (H : wq_H) (Q : Option Value → wq_T → wq_H → Prop) : Prop :=
  ∀ M, wq_R kt M T H → (∃ (F n : Nat) (w : mc_R) (T' : wq_T) (H' : wq_H), wq_lp kt F d k n (pc, L, st, M) = some w ∧ wq_R kt w.2 T' H' ∧ Q w.1 T' H') ∨ ∃ (F n : Nat) (L' : List (Nat × Value)) (M' : mc_M), wq_sg kt F d k n (pc, L, st, M) = some (46, L', [], M') ∧ wq_R kt M' T0 H0
theorem wpx_ret {T0 : wq_T} {H0 : wq_H} {kt : Nat → Option mc_E} {d k pc : Nat} {L : List (Nat × Value)} {st : List Value} {T : wq_T} {H : wq_H} {Q : Option Value → wq_T → wq_H → Prop} (h : wp kt d k pc L st T H Q) : wpx T0 H0 kt d k pc L st T H Q := fun M hM => Or.inl (h M hM)
theorem wpx_stop {kt : Nat → Option mc_E} {d k : Nat} {L : List (Nat × Value)} {T : wq_T} {H : wq_H} {Q : Option Value → wq_T → wq_H → Prop} {E : wq_E} (he : wq_en k = some E) : wpx T H kt d k 46 L [] T H Q := fun M hM => by
  obtain ⟨q, hq, rfl⟩ := wq_en_mt he
  refine Or.inr ⟨0, 0, L, M, ?_, hM⟩
  unfold wq_sg
  rw [hq]
  rfl
theorem wpx_of {T0 : wq_T} {H0 : wq_H} {kt : Nat → Option mc_E} {d k pc : Nat} {L : List (Nat × Value)} {st : List Value} {T : wq_T} {H : wq_H} {Q : Option Value → wq_T → wq_H → Prop} {E : wq_E} {x : Instr} {n : Nat} (he : wq_en k = some E) (hd : mc_cd k pc = some (x, n)) (h : wq_s kt d E x n pc L st T H (fun pc' L' st' T' H' => wpx T0 H0 kt d k pc' L' st' T' H' Q)) : wpx T0 H0 kt d k pc L st T H Q := fun M hM => by
  obtain ⟨q, hq, rfl⟩ := wq_en_mt he
  obtain ⟨F1, pc', L', st', M', T', H', h1, h2, h3⟩ := h M hM
  have hd' := mc_cd_ok hq hd
  rcases h3 M' h2 with ⟨F2, n2, w, T2, H2, h4, h5, h6⟩ | ⟨F2, n2, L2, M2, h4, h5⟩
  · refine Or.inl ⟨max F1 F2, n2 + 1, w, T2, H2, ?_, h5, h6⟩
    unfold wq_lp at h4 ⊢
    rw [hq] at h4 ⊢
    dsimp only at h4 ⊢
    unfold mc_loop
    dsimp only
    rw [hd']
    dsimp only
    rw [mc_step_mono (mc_call_mono (Nat.le_max_left F1 F2) d d (Nat.le_refl _)) h1]
    exact mc_loop_mono (mc_call_mono (Nat.le_max_right F1 F2) d d (Nat.le_refl _)) n2 n2 _ w (Nat.le_refl _) h4
  · refine Or.inr ⟨max F1 F2, n2 + 1, L2, M2, ?_, h5⟩
    unfold wq_sg at h4 ⊢
    rw [hq] at h4 ⊢
    dsimp only at h4 ⊢
    unfold mc_seg
    dsimp only
    rw [hd']
    dsimp only
    rw [mc_step_mono (mc_call_mono (Nat.le_max_left F1 F2) d d (Nat.le_refl _)) h1]
    exact mc_seg_mono (mc_call_mono (Nat.le_max_right F1 F2) d d (Nat.le_refl _)) n2 _ _ h4
/-! StrikeAwake.led(I)I -/
theorem e166 : wq_en 166 = some (0, 4, false, some FieldType.int) := rfl
theorem cg166_0 : mc_cd 166 0 = some (.iconst 0, 1) ∧ mc_cd 166 1 = some (.istore_n 2, 1) ∧ mc_cd 166 2 = some (.iconst 0, 1) ∧ mc_cd 166 3 = some (.istore_n 3, 1) ∧ mc_cd 166 4 = some (.iload_n 3, 1) ∧ mc_cd 166 5 = some (.aload_n 0, 1) ∧ mc_cd 166 6 = some (.getfield 51, 3) ∧ mc_cd 166 9 = some (.getfield 96, 3) := by decide +kernel
theorem c166_0 : mc_cd 166 0 = some (.iconst 0, 1) := cg166_0.1
theorem c166_1 : mc_cd 166 1 = some (.istore_n 2, 1) := cg166_0.2.1
theorem c166_2 : mc_cd 166 2 = some (.iconst 0, 1) := cg166_0.2.2.1
theorem c166_3 : mc_cd 166 3 = some (.istore_n 3, 1) := cg166_0.2.2.2.1
theorem c166_4 : mc_cd 166 4 = some (.iload_n 3, 1) := cg166_0.2.2.2.2.1
theorem c166_5 : mc_cd 166 5 = some (.aload_n 0, 1) := cg166_0.2.2.2.2.2.1
theorem c166_6 : mc_cd 166 6 = some (.getfield 51, 3) := cg166_0.2.2.2.2.2.2.1
theorem c166_9 : mc_cd 166 9 = some (.getfield 96, 3) := cg166_0.2.2.2.2.2.2.2
theorem cg166_12 : mc_cd 166 12 = some (.if_icmp .ge 34, 3) ∧ mc_cd 166 15 = some (.aload_n 0, 1) ∧ mc_cd 166 16 = some (.getfield 51, 3) ∧ mc_cd 166 19 = some (.getfield 109, 3) ∧ mc_cd 166 22 = some (.iload_n 3, 1) ∧ mc_cd 166 23 = some (.aaload, 1) ∧ mc_cd 166 24 = some (.getfield 317, 3) ∧ mc_cd 166 27 = some (.ifCond .eq 13, 3) := by decide +kernel
theorem c166_12 : mc_cd 166 12 = some (.if_icmp .ge 34, 3) := cg166_12.1
theorem c166_15 : mc_cd 166 15 = some (.aload_n 0, 1) := cg166_12.2.1
theorem c166_16 : mc_cd 166 16 = some (.getfield 51, 3) := cg166_12.2.2.1
theorem c166_19 : mc_cd 166 19 = some (.getfield 109, 3) := cg166_12.2.2.2.1
theorem c166_22 : mc_cd 166 22 = some (.iload_n 3, 1) := cg166_12.2.2.2.2.1
theorem c166_23 : mc_cd 166 23 = some (.aaload, 1) := cg166_12.2.2.2.2.2.1
theorem c166_24 : mc_cd 166 24 = some (.getfield 317, 3) := cg166_12.2.2.2.2.2.2.1
theorem c166_27 : mc_cd 166 27 = some (.ifCond .eq 13, 3) := cg166_12.2.2.2.2.2.2.2
theorem cg166_30 : mc_cd 166 30 = some (.iload_n 2, 1) ∧ mc_cd 166 31 = some (.iload_n 1, 1) ∧ mc_cd 166 32 = some (.if_icmp .ne 5, 3) ∧ mc_cd 166 35 = some (.iload_n 3, 1) ∧ mc_cd 166 36 = some (.ireturn, 1) ∧ mc_cd 166 37 = some (.iinc 2 1, 3) ∧ mc_cd 166 40 = some (.iinc 3 1, 3) ∧ mc_cd 166 43 = some (.goto (-39), 3) := by decide +kernel
theorem c166_30 : mc_cd 166 30 = some (.iload_n 2, 1) := cg166_30.1
theorem c166_31 : mc_cd 166 31 = some (.iload_n 1, 1) := cg166_30.2.1
theorem c166_32 : mc_cd 166 32 = some (.if_icmp .ne 5, 3) := cg166_30.2.2.1
theorem c166_35 : mc_cd 166 35 = some (.iload_n 3, 1) := cg166_30.2.2.2.1
theorem c166_36 : mc_cd 166 36 = some (.ireturn, 1) := cg166_30.2.2.2.2.1
theorem c166_37 : mc_cd 166 37 = some (.iinc 2 1, 3) := cg166_30.2.2.2.2.2.1
theorem c166_40 : mc_cd 166 40 = some (.iinc 3 1, 3) := cg166_30.2.2.2.2.2.2.1
theorem c166_43 : mc_cd 166 43 = some (.goto (-39), 3) := cg166_30.2.2.2.2.2.2.2
abbrev q_166 (r0 : Nat) (a1 : Int) (T : wq_T) (H : wq_H) : Option Value → wq_T → wq_H → Prop := fun r T' H' => T = T' ∧ H = H' ∧ ∃ z : Int, some (vI z) = r ∧ ((-2147483648) ≤ z ∧ z ≤ 2147483647)
set_option maxHeartbeats 4000000 in
theorem x_166 {kt : Nat → Option mc_E} {T : wq_T} {H : wq_H} {r0 : Nat} {a1 : Int} (hW : WT T H) (g0 : T.2.2.2 r0 = some 1) (i1 : (-2147483648) ≤ a1 ∧ a1 ≤ 2147483647) : wpx T H kt 0 166 0 [(0, .ref r0), (1, vI a1)] [] T H (q_166 r0 a1 T H) := by
  show wpx _ _ _ _ 166 0 [(0, .ref r0), (1, vI a1)] [] _ H _
  refine wpx_of e166 c166_0 (rw_iconst (pc' := 1) rfl ?_)
  refine wpx_of e166 c166_1 (rw_istore_n (pc' := 2) (z := 0) (L' := [(2, vI 0), (0, .ref r0), (1, vI a1)]) rfl rfl rfl ?_)
  refine wpx_of e166 c166_2 (rw_iconst (pc' := 3) rfl ?_)
  refine wpx_of e166 c166_3 (rw_istore_n (pc' := 4) (z := 0) (L' := [(3, vI 0), (2, vI 0), (0, .ref r0), (1, vI a1)]) rfl rfl rfl ?_)
  have lp242 : ∀ (n243 : Nat) (v245 : Int) (v246 : Int), (0 ≤ v245 ∧ v245 ≤ 6) → (0 ≤ v246 ∧ v246 ≤ 6) → (v246 ≤ v245) → (6 - v245).toNat = n243 → wpx T H kt 0 166 4 [(3, vI v245), (2, vI v246), (0, .ref r0), (1, vI a1)] [] T H (q_166 r0 a1 T H) := by
    intro n243
    induction n243 using Nat.strongRecOn with
    | _ n243 ih244 =>
      intro v245 v246 b249 b250 x251 m252
      refine wpx_of e166 c166_4 (rw_iload_n (pc' := 5) (z := v245) rfl rfl ?_)
      refine wpx_of e166 c166_5 (rw_aload_n (pc' := 6) (v := .ref r0) rfl rfl rfl ?_)
      refine wpx_of e166 c166_6 (xg_R (pc' := 9) lf_0_51 hW g0 sh_1 (by decide) (by decide) ty_1_6 rfl rfl (fun r253 q254 g255 => ?_))
      refine wpx_of e166 c166_9 (xg_I (pc' := 12) lf_0_96 hW g255 sh_27 (by decide) (by decide) ty_27_10 rfl rfl (fun b256 b257 => ?_))
      refine wpx_of e166 c166_12 (rw_icmp_ge (p1 := 46) (p2 := 15) (by decide) rfl ⟨by omega, by omega⟩ ⟨by omega, by omega⟩ (fun c258 => ?_) (fun c258 => ?_))
      · exact wpx_stop e166
      · refine wpx_of e166 c166_15 (rw_aload_n (pc' := 16) (v := .ref r0) rfl rfl rfl ?_)
        refine wpx_of e166 c166_16 (xg_K (pc' := 19) lf_0_51 hW g0 sh_1 (by decide) (by decide) rfl q254 rfl ?_)
        refine wpx_of e166 c166_19 (xg_R (pc' := 22) lf_0_109 hW g255 sh_27 (by decide) (by decide) ty_27_0 rfl rfl (fun r259 q260 g261 => ?_))
        refine wpx_of e166 c166_22 (rw_iload_n (pc' := 23) (z := v245) rfl rfl ?_)
        refine wpx_of e166 c166_23 (xa_R (pc' := 24) (by decide) hW g261 sh_28 (by decide) (ty_28 _) (by omega) (by omega) rfl (fun r262 q263 g264 => ?_))
        refine wpx_of e166 c166_24 (xg_I (pc' := 27) lf_0_317 hW g264 sh_35 (by decide) (by decide) ty_35_13 rfl rfl (fun b265 b266 => ?_))
        refine wpx_of e166 c166_27 (rw_if_eq (p1 := 40) (p2 := 30) (by decide) rfl ⟨by omega, by omega⟩ (fun c267 => ?_) (fun c267 => ?_))
        · refine wpx_of e166 c166_40 (rw_iinc (pc' := 43) (z := v245) (L' := [(3, vI (v245 + 1)), (2, vI v246), (0, .ref r0), (1, vI a1)]) rfl rfl rfl rfl ?_)
          refine wpx_of e166 c166_43 (rw_goto (p1 := 4) (by decide) ?_)
          exact ih244 _ (by omega) (v245 + 1) v246 ⟨by omega, by omega⟩ ⟨by omega, by omega⟩ (by omega) rfl
        · refine wpx_of e166 c166_30 (rw_iload_n (pc' := 31) (z := v246) rfl rfl ?_)
          refine wpx_of e166 c166_31 (rw_iload_n (pc' := 32) (z := a1) rfl rfl ?_)
          refine wpx_of e166 c166_32 (rw_icmp_ne (p1 := 37) (p2 := 35) (by decide) rfl ⟨by omega, by omega⟩ ⟨by omega, by omega⟩ (fun c268 => ?_) (fun c268 => ?_))
          · refine wpx_of e166 c166_37 (rw_iinc (pc' := 40) (z := v246) (L' := [(2, vI (v246 + 1)), (3, vI v245), (0, .ref r0), (1, vI a1)]) rfl rfl rfl rfl ?_)
            refine wpx_of e166 c166_40 (rw_iinc (pc' := 43) (z := v245) (L' := [(3, vI (v245 + 1)), (2, vI (v246 + 1)), (0, .ref r0), (1, vI a1)]) rfl rfl rfl rfl ?_)
            refine wpx_of e166 c166_43 (rw_goto (p1 := 4) (by decide) ?_)
            exact ih244 _ (by omega) (v245 + 1) (v246 + 1) ⟨by omega, by omega⟩ ⟨by omega, by omega⟩ (by omega) rfl
          · refine wpx_of e166 c166_35 (rw_iload_n (pc' := 36) (z := v245) rfl rfl ?_)
            exact wpx_ret (wp_ireturn e166 c166_36 rfl ⟨rfl, rfl, v245, rfl, ⟨by omega, by omega⟩⟩)
  exact lp242 _ 0 0 ⟨by omega, by omega⟩ ⟨by omega, by omega⟩ (by omega) rfl
end
section
/-! THE READING, as functions (own work): the tokens of a tape, the faults of a line, what it tells -/
/-- from p on as long as a byte lies between lo and hi -/
def xGf (lo hi : Int) (B : Nat → Int) (n : Int) : Nat → Int → Int
  | 0, p => p
  | f + 1, p => if p < n ∧ lo ≤ B p.toNat ∧ B p.toNat ≤ hi then xGf lo hi B n f (p + 1) else p
def xG (lo hi : Int) (B : Nat → Int) (n p : Int) : Int := xGf lo hi B n (n - p).toNat p
/-- the first i places from q on, as a number: m to the place, c off each byte -/
def xkf (m c : Int) (B : Nat → Int) (q : Int) : Nat → Int
  | 0 => 0
  | i + 1 => m * xkf m c B q i + (B (q + i).toNat - c)
/-- a token at q: its kind (0 the end, 1 a word, 2 a whole, 3 and 4 signs, 5 none), its end, its value, its key, and where the next one stands -/
def xK (B : Nat → Int) (n q : Int) : Int := if n ≤ q then 0 else if 97 ≤ B q.toNat ∧ B q.toNat ≤ 122 then (if xG 97 122 B n q - q ≤ 8 then 1 else 5) else if 48 ≤ B q.toNat ∧ B q.toNat ≤ 57 then (if xG 48 57 B n q - q ≤ 3 then 2 else 5) else if B q.toNat = 59 then 3 else if B q.toNat = 44 then 4 else 5
def xE (B : Nat → Int) (n q : Int) : Int := if n ≤ q then q else if 97 ≤ B q.toNat ∧ B q.toNat ≤ 122 then xG 97 122 B n q else if 48 ≤ B q.toNat ∧ B q.toNat ≤ 57 then xG 48 57 B n q else q + 1
def xY (B : Nat → Int) (n q : Int) : Int := xkf 32 96 B q (xG 97 122 B n q - q).toNat
def xV (B : Nat → Int) (n q : Int) : Int := xkf 10 48 B q (xG 48 57 B n q - q).toNat
def xN (B : Nat → Int) (n q : Int) : Int := xG 32 32 B n (xE B n q)
section XSP

variable {lo hi : Int} {B : Nat → Int} {n p q : Int}
theorem xG_s (h1 : p < n) (h2 : lo ≤ B p.toNat) (h3 : B p.toNat ≤ hi) : xG lo hi B n p = xG lo hi B n (p + 1) := by
  unfold xG
  rw [show (n - p).toNat = (n - (p + 1)).toNat + 1 by omega]
  exact if_pos ⟨h1, h2, h3⟩
theorem xG_e (h : ¬ (p < n ∧ lo ≤ B p.toNat ∧ B p.toNat ≤ hi)) : xG lo hi B n p = p := by
  unfold xG
  match (n - p).toNat with
  | 0 => rfl
  | f + 1 => exact if_neg h
theorem xGf_b : ∀ (f : Nat) (p : Int), p ≤ xGf lo hi B n f p ∧ (xGf lo hi B n f p ≤ n ∨ xGf lo hi B n f p = p)
  | 0, p => ⟨Int.le_refl _, Or.inr rfl⟩
  | f + 1, p => by
    by_cases h : p < n ∧ lo ≤ B p.toNat ∧ B p.toNat ≤ hi
    · rw [show xGf lo hi B n (f + 1) p = xGf lo hi B n f (p + 1) from if_pos h]
      have := xGf_b f (p + 1)
      omega
    · rw [show xGf lo hi B n (f + 1) p = p from if_neg h]
      omega
theorem xG_b : p ≤ xG lo hi B n p ∧ (xG lo hi B n p ≤ n ∨ xG lo hi B n p = p) := xGf_b _ _
theorem xGf_in : ∀ (f : Nat) (p j : Int), p ≤ j → j < xGf lo hi B n f p → lo ≤ B j.toNat ∧ B j.toNat ≤ hi
  | 0, p, j, h1, h2 => by
    have h2 : j < p := h2
    omega
  | f + 1, p, j, h1, h2 => by
    by_cases h : p < n ∧ lo ≤ B p.toNat ∧ B p.toNat ≤ hi
    · rw [show xGf lo hi B n (f + 1) p = xGf lo hi B n f (p + 1) from if_pos h] at h2
      by_cases hj : j = p
      · subst hj
        exact h.2
      · exact xGf_in f (p + 1) j (by omega) h2
    · rw [show xGf lo hi B n (f + 1) p = p from if_neg h] at h2
      omega
theorem xG_in {j : Int} (h1 : p ≤ j) (h2 : j < xG lo hi B n p) : lo ≤ B j.toNat ∧ B j.toNat ≤ hi := xGf_in _ _ _ h1 h2
theorem xG_1 (h1 : p < n) (h2 : lo ≤ B p.toNat) (h3 : B p.toNat ≤ hi) : p < xG lo hi B n p := by
  rw [xG_s h1 h2 h3]
  have := @xG_b lo hi B n (p + 1)
  omega
theorem xkf_s {m c v : Int} (h : q ≤ v) : xkf m c B q (v + 1 - q).toNat = m * xkf m c B q (v - q).toNat + (B v.toNat - c) := by
  rw [show (v + 1 - q).toNat = (v - q).toNat + 1 by omega]
  show m * xkf m c B q (v - q).toNat + (B (q + ((v - q).toNat : Nat)).toNat - c) = _
  rw [show q + ((v - q).toNat : Nat) = v by omega]
theorem xkf_0 {m c : Int} : xkf m c B q (q - q).toNat = 0 := by
  rw [show (q - q).toNat = 0 by omega]
  rfl
theorem xkf_b {m c : Int} (hm : 1 ≤ m) {i : Nat} (h : ∀ j : Nat, j < i → 0 ≤ B (q + j).toNat - c ∧ B (q + j).toNat - c ≤ m - 1) : 0 ≤ xkf m c B q i ∧ xkf m c B q i + 1 ≤ m ^ i := by
  induction i with
  | zero => exact ⟨Int.le_refl _, by show (0 : Int) + 1 ≤ m ^ 0; rw [Int.pow_zero]; omega⟩
  | succ i ih =>
    have h1 := ih (fun j hj => h j (by omega))
    have h2 := h i (by omega)
    show 0 ≤ m * xkf m c B q i + (B (q + i).toNat - c) ∧ m * xkf m c B q i + (B (q + i).toNat - c) + 1 ≤ m ^ (i + 1)
    rw [Int.pow_succ]
    have h3 : 0 ≤ m * xkf m c B q i := Int.mul_nonneg (by omega) h1.1
    have h4 : m * (xkf m c B q i + 1) ≤ m * m ^ i := Int.mul_le_mul_of_nonneg_left h1.2 (by omega)
    rw [Int.mul_add, Int.mul_one] at h4
    rw [Int.mul_comm (m ^ i) m]
    omega
theorem p32 {i : Nat} (h : i ≤ 8) : (32 : Int) ^ i ≤ 1099511627776 := by
  match i, h with
  | 0, _ => decide
  | 1, _ => decide
  | 2, _ => decide
  | 3, _ => decide
  | 4, _ => decide
  | 5, _ => decide
  | 6, _ => decide
  | 7, _ => decide
  | 8, _ => decide
  | n + 9, h => omega
theorem p10 {i : Nat} (h : i ≤ 3) : (10 : Int) ^ i ≤ 1000 := by
  match i, h with
  | 0, _ => decide
  | 1, _ => decide
  | 2, _ => decide
  | 3, _ => decide
  | n + 4, h => omega
/-- up to eight letters fill 40 bits -/
theorem xkf_Y {v : Int} (h0 : q ≤ v) (h : v - q ≤ 8) (hl : ∀ j : Int, q ≤ j → j < v → 97 ≤ B j.toNat ∧ B j.toNat ≤ 122) : 0 ≤ xkf 32 96 B q (v - q).toNat ∧ xkf 32 96 B q (v - q).toNat ≤ 1099511627775 := by
  have h1 := @xkf_b B q 32 96 (by omega) (v - q).toNat (fun j hj => by have := hl (q + j) (by omega) (by omega); omega)
  have h2 := @p32 (v - q).toNat (by omega)
  omega
theorem xkf_V {v : Int} (h0 : q ≤ v) (h : v - q ≤ 3) (hl : ∀ j : Int, q ≤ j → j < v → 48 ≤ B j.toNat ∧ B j.toNat ≤ 57) : 0 ≤ xkf 10 48 B q (v - q).toNat ∧ xkf 10 48 B q (v - q).toNat ≤ 999 := by
  have h1 := @xkf_b B q 10 48 (by omega) (v - q).toNat (fun j hj => by have := hl (q + j) (by omega) (by omega); omega)
  have h2 := @p10 (v - q).toNat (by omega)
  omega
theorem xK_b : 0 ≤ xK B n q ∧ xK B n q ≤ 5 := by
  unfold xK
  split
  · omega
  · split
    · split <;> omega
    · split
      · split <;> omega
      · split
        · omega
        · split <;> omega
theorem xV_b (h : xK B n q = 2) : 0 ≤ xV B n q ∧ xV B n q ≤ 999 := by
  unfold xK at h
  split at h
  · omega
  · split at h
    · split at h <;> omega
    · split at h
      · next h4 h5 h6 =>
        split at h
        · next h7 => exact xkf_V (xG_b).1 h7 (fun j => xG_in)
        · omega
      · split at h
        · omega
        · split at h <;> omega
theorem xV_b2 : xK B n q ≠ 2 ∨ (0 ≤ xV B n q ∧ xV B n q ≤ 999) := by
  by_cases h : xK B n q = 2
  · exact Or.inr (xV_b h)
  · exact Or.inl h
theorem xE_b (h0 : 0 ≤ q) (h : q ≤ n) : q ≤ xE B n q ∧ xE B n q ≤ n ∧ (q < n → q < xE B n q) := by
  unfold xE
  split
  · omega
  · next h1 =>
    split
    · next h2 =>
      have := @xG_b 97 122 B n q
      have := @xG_1 97 122 B n q (by omega) h2.1 h2.2
      omega
    · split
      · next h2 =>
        have := @xG_b 48 57 B n q
        have := @xG_1 48 57 B n q (by omega) h2.1 h2.2
        omega
      · omega
theorem xN_b (h0 : 0 ≤ q) (h : q ≤ n) : q ≤ xN B n q ∧ xN B n q ≤ n ∧ (q < n → q < xN B n q) := by
  have h1 := @xE_b B n q h0 h
  have := @xG_b 32 32 B n (xE B n q)
  unfold xN
  omega
theorem xK_0 (h : 0 ≤ q) (hq : q ≤ n) : xK B n q = 0 ↔ q = n := by
  constructor
  · intro h1
    unfold xK at h1
    split at h1
    · omega
    · split at h1
      · split at h1 <;> omega
      · split at h1
        · split at h1 <;> omega
        · split at h1
          · omega
          · split at h1 <;> omega
  · intro h1
    exact if_pos (by omega)
end XSP
/-- the words that are no names, and that begin lines -/
def xRK (i : Nat) : Int := [12343, 542723566, 643584494, 1574484, 81486, 659117163, 671108, 15931570, 8423732, 14384, 56377].getD i 0
def xref (y : Int) : Nat → Int → Int
  | 0, v => v
  | f + 1, v => if y = xRK v.toNat then v else xref y f (v + 1)
/-- which of those a token is: its place; 11 another word; 12 no word -/
def xre (B : Nat → Int) (n q : Int) : Int := if xK B n q = 1 then xref (xY B n q) 11 0 else 12
theorem xref_s {y v : Int} {f : Nat} (h : y ≠ xRK v.toNat) : xref y (f + 1) v = xref y f (v + 1) := if_neg h
theorem xref_e {y v : Int} {f : Nat} (h : y = xRK v.toNat) : xref y (f + 1) v = v := if_pos h
/-- codes of faults: a word, a kind, a whole -/
def xw (B : Nat → Int) (n q kk : Int) : Int := if xK B n q = 1 ∧ xY B n q = kk then 0 else 1
def xk (B : Nat → Int) (n q kd : Int) : Int := if xK B n q = kd then 0 else 1
def xh (B : Nat → Int) (n q lo hi : Int) : Int := if xK B n q = 2 then (if lo ≤ xV B n q ∧ xV B n q ≤ hi then 0 else 4) else 1
theorem xw_b {B : Nat → Int} {n q kk : Int} : (xw B n q kk = 0 ∧ xK B n q = 1 ∧ xY B n q = kk) ∨ (xw B n q kk = 1 ∧ (xK B n q ≠ 1 ∨ xY B n q ≠ kk)) := by
  unfold xw
  split <;> omega
theorem xk_b {B : Nat → Int} {n q kd : Int} : (xk B n q kd = 0 ∧ xK B n q = kd) ∨ (xk B n q kd = 1 ∧ xK B n q ≠ kd) := by
  unfold xk
  split <;> omega
theorem xh_b {B : Nat → Int} {n q lo hi : Int} : (xh B n q lo hi = 0 ∧ xK B n q = 2 ∧ lo ≤ xV B n q ∧ xV B n q ≤ hi) ∨ (xh B n q lo hi = 4 ∧ xK B n q = 2 ∧ (xV B n q < lo ∨ hi < xV B n q)) ∨ (xh B n q lo hi = 1 ∧ xK B n q ≠ 2) := by
  unfold xh
  split
  · split <;> omega
  · omega
/-- the first of n places whose value is y; -1 if none -/
def xff (f : Nat → Int) (n y : Int) : Nat → Int → Int
  | 0, _ => -1
  | g + 1, i => if i < n then (if f i.toNat = y then i else xff f n y g (i + 1)) else -1
def xfr (f : Nat → Int) (n y i : Int) : Int := xff f n y (n - i).toNat i
def xfi (f : Nat → Int) (n y : Int) : Int := xfr f n y 0
theorem xfr_s {f : Nat → Int} {n y i : Int} (h : i < n) (h1 : f i.toNat ≠ y) : xfr f n y i = xfr f n y (i + 1) := by
  unfold xfr
  rw [show (n - i).toNat = (n - (i + 1)).toNat + 1 by omega]
  exact (if_pos h).trans (if_neg h1)
theorem xfr_e {f : Nat → Int} {n y i : Int} (h : i < n) (h1 : f i.toNat = y) : xfr f n y i = i := by
  unfold xfr
  rw [show (n - i).toNat = (n - (i + 1)).toNat + 1 by omega]
  exact (if_pos h).trans (if_pos h1)
theorem xfr_n {f : Nat → Int} {n y i : Int} (h : n ≤ i) : xfr f n y i = -1 := by
  unfold xfr
  rw [show (n - i).toNat = 0 by omega]
  rfl
theorem xff_b {f : Nat → Int} {n y : Int} : ∀ (g : Nat) (i : Int), xff f n y g i = -1 ∨ (i ≤ xff f n y g i ∧ xff f n y g i < n ∧ f (xff f n y g i).toNat = y)
  | 0, i => Or.inl rfl
  | g + 1, i => by
    by_cases h : i < n
    · rw [show xff f n y (g + 1) i = if f i.toNat = y then i else xff f n y g (i + 1) from if_pos h]
      split
      · next h1 => exact Or.inr ⟨Int.le_refl _, h, h1⟩
      · rcases xff_b g (i + 1) with h2 | ⟨h2, h3⟩
        · exact Or.inl h2
        · exact Or.inr ⟨by omega, h3⟩
    · exact Or.inl (if_neg h)
theorem xfi_b {f : Nat → Int} {n y : Int} : xfi f n y = -1 ∨ (0 ≤ xfi f n y ∧ xfi f n y < n ∧ f (xfi f n y).toNat = y) := xff_b _ _
/-- what a text has told so far: row 0 its counts (hours 0, beside 1, off 2, people 3, apart 4, born 5, told 6, offers 7, sexton 8), then rows by number (name 1, bed 2 3, long 4 5, habit 6, nap 7 8, away 9, apart 10 11, born 12, struck, one more, 13, who told 14, told hours 15, offered hours 16, who offers 17) -/
abbrev xD : Type := Nat → Nat → Int
def xD0 : xD := fun i j => if i = 0 ∧ j = 8 then -1 else 0
abbrev xO : Type := Int × Int × Int
def xkn (B : Nat → Int) (n q : Int) (d : xD) : Int := if xre B n q = 11 then (if xfi (d 1) (d 0 3) (xY B n q) = -1 then 2 else 0) else 1
def xnm (B : Nat → Int) (n q : Int) (d : xD) : Int := if xre B n q = 11 then (if xfi (d 1) (d 0 3) (xY B n q) = -1 then 0 else 3) else 1
def xs (f q : Int) (k : xO) : xO := if f = 0 then k else (f, q, q)
theorem xs_0 {f q : Int} {k : xO} (h : f = 0) : xs f q k = k := if_pos h
theorem xs_1 {f q : Int} {k : xO} (h : f ≠ 0) : xs f q k = (f, q, q) := if_neg h
section XLN

variable (B : Nat → Int) (n q : Int)
def xlaw : xO := xs (xw B n q 8902227) q <| xs (xh B n (xN B n q) 1 24) (xN B n q) <| xs (xw B n (xN B n (xN B n q)) 72983685) (xN B n (xN B n q)) <| xs (xh B n (xN B n (xN B n (xN B n q))) 0 9) (xN B n (xN B n (xN B n q))) <| xs (xw B n (xN B n (xN B n (xN B n (xN B n q)))) 15558) (xN B n (xN B n (xN B n (xN B n q)))) <| xs (xh B n (xN B n (xN B n (xN B n (xN B n (xN B n q))))) 0 3) (xN B n (xN B n (xN B n (xN B n (xN B n q))))) (0, q, xN B n (xN B n (xN B n (xN B n (xN B n (xN B n q))))))
/-- bounds apart: a whole to a0, the word to, a whole from a2 more up to a3 more, at most a4 -/
def xrg (a1 a2 a3 a4 : Int) : xO := xs (xh B n q 0 a1) q <| xs (xw B n (xN B n q) 655) (xN B n q) <| xs (xh B n (xN B n (xN B n q)) (xV B n q + a2) (min (xV B n q + a3) a4)) (xN B n (xN B n q)) (0, q, xN B n (xN B n (xN B n q)))
def xbd (d : xD) : xO := xs (xnm B n q d) q <| xs (xw B n (xN B n q) 2212) (xN B n q) <| xs (xrg B n (xN B n (xN B n q)) 23 0 7 23).1 (xrg B n (xN B n (xN B n q)) 23 0 7 23).2.1 <| xs (xw B n (xN B n (xN B n (xN B n (xN B n (xN B n q))))) 409031) (xN B n (xN B n (xN B n (xN B n (xN B n q))))) <| xs (xrg B n (xN B n (xN B n (xN B n (xN B n (xN B n (xN B n q)))))) 12 0 4 12).1 (xrg B n (xN B n (xN B n (xN B n (xN B n (xN B n (xN B n q)))))) 12 0 4 12).2.1 (0, q, xN B n (xN B n (xN B n (xN B n (xN B n (xN B n (xN B n (xN B n (xN B n q)))))))))
/-- behind the habit, the nap, away -/
def xqa : Int := if xw B n q 8423732 = 0 then xN B n (xN B n q) else q
def xqb : Int := if xw B n q 14384 = 0 then xN B n (xN B n (xN B n (xN B n q))) else q
def xqc : Int := if xw B n q 56377 = 0 then xN B n q else q
def xca (k : xO) : xO := if xw B n q 8423732 = 0 then xs (xh B n (xN B n q) 0 23) (xN B n q) k else k
def xcb (k : xO) : xO := if xw B n q 14384 = 0 then xs (xrg B n (xN B n q) 23 1 24 24).1 (xrg B n (xN B n q) 23 1 24 24).2.1 k else k
def xcs : xO := xca B n q <| xcb B n (xqa B n q) (0, q, xqc B n (xqb B n (xqa B n q)))
def xper (d : xD) : xO := xs (xbd B n q d).1 (xbd B n q d).2.1 <| xcs B n (xN B n (xN B n (xN B n (xN B n (xN B n (xN B n (xN B n (xN B n (xN B n q)))))))))
def xsex (d : xD) : xO := xs (xkn B n q d) q (0, q, xN B n q)
/-- is it told already that a and b are apart -/
def xagf (d : xD) (a b : Int) : Nat → Int
  | 0 => 0
  | k + 1 => if (d 10 k = a ∧ d 11 k = b) ∨ (d 10 k = b ∧ d 11 k = a) then 1 else xagf d a b k
def xag (d : xD) (a b : Int) : Int := if a = b then 1 else xagf d a b (d 0 4).toNat
def xac (d : xD) (a b : Int) : Int := if xag d a b = 0 then 0 else 3
def xwho (d : xD) : Int := xfi (d 1) (d 0 3) (xY B n q)
def xap (d : xD) : xO := xs (xkn B n q d) q <| xs (xk B n (xN B n q) 4) (xN B n q) <| xs (xkn B n (xN B n (xN B n q)) d) (xN B n (xN B n q)) <| xs (xac d (xwho B n q d) (xwho B n (xN B n (xN B n q)) d)) (xN B n (xN B n q)) (0, q, xN B n (xN B n (xN B n q)))
def xbo : xO := xs (xh B n q 0 23) q (0, q, xN B n q)
def xsh (d : xD) : Int := if xK B n q = 2 ∧ xV B n q ≤ 23 ∧ d 13 (xV B n q).toNat > 0 then 3 else xh B n q 0 23
def xst (d : xD) : xO := xs (xsh B n q d) q <| xs (xw B n (xN B n q) 307) (xN B n q) <| xs (xh B n (xN B n (xN B n q)) 0 99) (xN B n (xN B n q)) (0, q, xN B n (xN B n (xN B n q)))
def xtl (d : xD) : xO := xs (xkn B n q d) q <| xs (xrg B n (xN B n q) 23 1 24 24).1 (xrg B n (xN B n q) 23 1 24 24).2.1 (0, q, xN B n (xN B n (xN B n (xN B n q))))
/-- how many HOURS are struck -/
def xcn (f : Nat → Int) : Nat → Int
  | 0 => 0
  | h + 1 => xcn f h + (if f h > 0 then 1 else 0)
/-- a line -/
def xl0 (d : xD) : xO := if d 0 0 > 0 then (3, q, q) else xlaw B n (xN B n q)
def xl1 (d : xD) : xO := if d 0 3 ≥ 6 then (5, q, q) else xper B n (xN B n q) d
def xl2 (d : xD) : xO := if d 0 8 ≥ 0 then (3, q, q) else xsex B n (xN B n q) d
def xl3 (d : xD) : xO := if d 0 4 ≥ 3 then (5, q, q) else xap B n (xN B n q) d
def xl4 (d : xD) : xO := if d 0 5 ≥ 3 then (5, q, q) else xbo B n (xN B n q)
def xl5 (d : xD) : xO := if xcn (d 13) 24 ≥ 24 then (5, q, q) else xst B n (xN B n q) d
def xl6 (d : xD) : xO := if d 0 6 ≥ 4 then (5, q, q) else xtl B n (xN B n q) d
def xl7 (d : xD) : xO := if d 0 7 ≥ 6 then (5, q, q) else xtl B n (xN B n q) d
def xline (d : xD) : xO :=
  if xre B n q = 0 then xl0 B n q d
  else if xre B n q = 1 then xl1 B n q d
  else if xre B n q = 2 then xl2 B n q d
  else if xre B n q = 3 then xl3 B n q d
  else if xre B n q = 4 then xl4 B n q d
  else if xre B n q = 5 then xl5 B n q d
  else if xre B n q = 6 then xl6 B n q d
  else if xre B n q = 7 then xl7 B n q d
  else (1, q, q)
/-- bits of HOURS from one up to the one ahead of another -/
def xhf (a b : Int) : Nat → Int
  | 0 => 0
  | h + 1 => xhf a b h + (if a ≤ h ∧ (h : Int) < b then 2 ^ h else 0)
def xhs (a b : Int) : Int := xhf a b 24
/-- what is told behind the line -/
def xdlaw (d : xD) : xD := wq_u (wq_u (wq_u d 0 0 (xV B n (xN B n q))) 0 1 (xV B n (xN B n (xN B n (xN B n q))))) 0 2 (xV B n (xN B n (xN B n (xN B n (xN B n (xN B n q))))))
def xhb : Int := if xw B n q 8423732 = 0 then xV B n (xN B n q) else -1
def xnf : Int := if xw B n q 14384 = 0 then xV B n (xN B n q) else 0
def xnt : Int := if xw B n q 14384 = 0 then xV B n (xN B n (xN B n (xN B n q))) else 0
def xaw : Int := if xw B n q 56377 = 0 then 1 else 0
def xdper (d : xD) : xD := wq_u (wq_u (wq_u (wq_u (wq_u (wq_u (wq_u (wq_u (wq_u (wq_u d 1 (d 0 3).toNat (xY B n q)) 2 (d 0 3).toNat (xV B n (xN B n (xN B n q)))) 3 (d 0 3).toNat (xV B n (xN B n (xN B n (xN B n (xN B n q)))))) 4 (d 0 3).toNat (xV B n (xN B n (xN B n (xN B n (xN B n (xN B n (xN B n q)))))))) 5 (d 0 3).toNat (xV B n (xN B n (xN B n (xN B n (xN B n (xN B n (xN B n (xN B n (xN B n q)))))))))) 6 (d 0 3).toNat (xhb B n (xN B n (xN B n (xN B n (xN B n (xN B n (xN B n (xN B n (xN B n (xN B n q))))))))))) 7 (d 0 3).toNat (xnf B n (xqa B n (xN B n (xN B n (xN B n (xN B n (xN B n (xN B n (xN B n (xN B n (xN B n q)))))))))))) 8 (d 0 3).toNat (xnt B n (xqa B n (xN B n (xN B n (xN B n (xN B n (xN B n (xN B n (xN B n (xN B n (xN B n q)))))))))))) 9 (d 0 3).toNat (xaw B n (xqb B n (xqa B n (xN B n (xN B n (xN B n (xN B n (xN B n (xN B n (xN B n (xN B n (xN B n q))))))))))))) 0 3 (d 0 3 + 1)
def xdsex (d : xD) : xD := wq_u d 0 8 (xwho B n q d)
def xdap (d : xD) : xD := wq_u (wq_u (wq_u d 10 (d 0 4).toNat (xwho B n q d)) 11 (d 0 4).toNat (xwho B n (xN B n (xN B n q)) d)) 0 4 (d 0 4 + 1)
def xdbo (d : xD) : xD := wq_u (wq_u d 12 (d 0 5).toNat (xV B n q)) 0 5 (d 0 5 + 1)
def xdst (d : xD) : xD := wq_u d 13 (xV B n q).toNat (xV B n (xN B n (xN B n q)) + 1)
def xdtl (d : xD) : xD := wq_u (wq_u (wq_u d 14 (d 0 6).toNat (xwho B n q d)) 15 (d 0 6).toNat (xhs (xV B n (xN B n q)) (xV B n (xN B n (xN B n (xN B n q)))))) 0 6 (d 0 6 + 1)
def xdof (d : xD) : xD := wq_u (wq_u (wq_u d 17 (d 0 7).toNat (xwho B n q d)) 16 (d 0 7).toNat (xhs (xV B n (xN B n q)) (xV B n (xN B n (xN B n (xN B n q)))))) 0 7 (d 0 7 + 1)
def xdline (d : xD) : xD :=
  if xre B n q = 0 then xdlaw B n (xN B n q) d
  else if xre B n q = 1 then xdper B n (xN B n q) d
  else if xre B n q = 2 then xdsex B n (xN B n q) d
  else if xre B n q = 3 then xdap B n (xN B n q) d
  else if xre B n q = 4 then xdbo B n (xN B n q) d
  else if xre B n q = 5 then xdst B n (xN B n q) d
  else if xre B n q = 6 then xdtl B n (xN B n q) d
  else xdof B n (xN B n q) d
end XLN
/-- a text: line behind line -/
def xpf (B : Nat → Int) (n : Int) : Nat → Int → xD → xO × xD
  | 0, q, d => ((1, q, q), d)
  | f + 1, q, d =>
    if (xline B n q d).1 = 0 then
      (if xK B n (xline B n q d).2.2 = 0 then
        (if xdline B n q d 0 0 > 0 ∧ xdline B n q d 0 3 > 0 then ((0, q, q), xdline B n q d) else ((6, (xline B n q d).2.2, q), xdline B n q d))
      else if xK B n (xline B n q d).2.2 = 3 then xpf B n f (xN B n (xline B n q d).2.2) (xdline B n q d)
      else ((1, (xline B n q d).2.2, q), xdline B n q d))
    else (xline B n q d, d)
def xparse (B : Nat → Int) (n : Int) : xO × xD := xpf B n 902 (xG 32 32 B n 0) xD0
section XTK

variable {lo hi : Int} {B : Nat → Int} {n p q v : Int}
theorem xG_at : xG lo hi B n q = q ∨ (lo ≤ B q.toNat ∧ B q.toNat ≤ hi ∧ q < n) := by
  by_cases h : q < n ∧ lo ≤ B q.toNat ∧ B q.toNat ≤ hi
  · exact Or.inr ⟨h.2.1, h.2.2, h.1⟩
  · exact Or.inl (xG_e h)
theorem xG_ez : (q < n ∧ lo ≤ B q.toNat ∧ B q.toNat ≤ hi) ∨ xG lo hi B n q = q := by
  by_cases h : q < n ∧ lo ≤ B q.toNat ∧ B q.toNat ≤ hi
  · exact Or.inl h
  · exact Or.inr (xG_e h)
theorem xkf_Y2 (h0 : q ≤ v) (h : v ≤ xG 97 122 B n q) : 8 < v - q ∨ (0 ≤ xkf 32 96 B q (v - q).toNat ∧ xkf 32 96 B q (v - q).toNat ≤ 1099511627775) := by
  by_cases h8 : 8 < v - q
  · exact Or.inl h8
  · exact Or.inr (xkf_Y h0 (by omega) (fun j h1 h2 => xG_in (n := n) h1 (by omega)))
theorem xkf_V2 (h0 : q ≤ v) : xG 48 57 B n q < v ∨ 3 < v - q ∨ (0 ≤ xkf 10 48 B q (v - q).toNat ∧ xkf 10 48 B q (v - q).toNat ≤ 999) := by
  by_cases h : xG 48 57 B n q < v
  · exact Or.inl h
  · by_cases h8 : 3 < v - q
    · exact Or.inr (Or.inl h8)
    · exact Or.inr (Or.inr (xkf_V h0 (by omega) (fun j h1 h2 => xG_in (n := n) h1 (by omega))))
theorem xG_q : v ≠ q ∨ xG lo hi B n v = xG lo hi B n q := by
  by_cases h : v = q
  · subst h
    exact Or.inr rfl
  · exact Or.inl h
theorem xkf_q {m c : Int} : v ≠ q ∨ xkf m c B q (v - q).toNat = 0 := by
  by_cases h : v = q
  · subst h
    exact Or.inr xkf_0
  · exact Or.inl h
theorem xY_of : v ≠ xG 97 122 B n q ∨ xkf 32 96 B q (v - q).toNat = xY B n q := by
  by_cases h : v = xG 97 122 B n q
  · subst h
    exact Or.inr rfl
  · exact Or.inl h
theorem xV_of : v ≠ xG 48 57 B n q ∨ xkf 10 48 B q (v - q).toNat = xV B n q := by
  by_cases h : v = xG 48 57 B n q
  · subst h
    exact Or.inr rfl
  · exact Or.inl h
end XTK
/-- a string's key, as it is computed -/
def wkw (t : List Int32) : Nat → Int
  | 0 => 0
  | i + 1 => wl_w (wl_w (wkw t i * 32) + wq_w (wq_w ((t.getD i 0).toInt - 97) + 1))
theorem wkw_s {t : List Int32} {i : Int} (h : 0 ≤ i) : wkw t (i + 1).toNat = wl_w (wl_w (wkw t i.toNat * 32) + wq_w (wq_w ((t.getD i.toNat 0).toInt - 97) + 1)) := by
  rw [show (i + 1).toNat = i.toNat + 1 by omega]
  rfl
theorem wkw_m {t : List Int32} {i : Int} (h : 0 ≤ i) : wkw t (i + 1).toNat = wl_w (wl_w (32 * wkw t i.toNat) + wq_w (wq_w ((t.getD i.toNat 0).toInt - 97) + 1)) := by
  rw [wkw_s h, Int.mul_comm]
theorem xref_b {y : Int} : ∀ (f : Nat) (v : Int), v ≤ xref y f v ∧ xref y f v ≤ v + f
  | 0, v => by
    show v ≤ v ∧ v ≤ v + (0 : Nat)
    omega
  | f + 1, v => by
    by_cases h : y = xRK v.toNat
    · rw [xref_e h]
      omega
    · rw [xref_s h]
      have := @xref_b y f (v + 1)
      omega
theorem xref_at {y : Int} : ∀ (f : Nat) (v : Int), xref y f v = v + f ∨ y = xRK (xref y f v).toNat
  | 0, v => Or.inl (by show v = v + (0 : Nat); omega)
  | f + 1, v => by
    by_cases h : y = xRK v.toNat
    · rw [xref_e h]
      exact Or.inr h
    · rw [xref_s h]
      rcases @xref_at y f (v + 1) with h1 | h1
      · exact Or.inl (by rw [h1]; omega)
      · exact Or.inr h1
theorem xref_le {y : Int} : ∀ (f : Nat) (v i : Int), v ≤ i → i < v + f → y = xRK i.toNat → xref y f v ≤ i
  | 0, v, i, h1, h2, h3 => by omega
  | f + 1, v, i, h1, h2, h3 => by
    by_cases h : y = xRK v.toNat
    · rw [xref_e h]
      exact h1
    · rw [xref_s h]
      by_cases hi : i = v
      · subst hi
        exact absurd h3 h
      · exact xref_le f (v + 1) i (by omega) (by omega) h3
section XRE

variable {B : Nat → Int} {n q : Int}
theorem xre_b : (xK B n q = 1 ∧ 0 ≤ xre B n q ∧ xre B n q ≤ 11) ∨ (xK B n q ≠ 1 ∧ xre B n q = 12) := by
  unfold xre
  split
  · next h =>
    have := @xref_b (xY B n q) 11 0
    exact Or.inl ⟨h, by omega, by omega⟩
  · next h => exact Or.inr ⟨h, rfl⟩
theorem xre_at (i K : Int) (h : xRK i.toNat = K) (h0 : 0 ≤ i ∧ i < 11) : xre B n q ≠ i ∨ (xK B n q = 1 ∧ xY B n q = K) := by
  by_cases hi : xre B n q = i
  · rcases @xre_b B n q with ⟨h1, h2⟩ | h1
    · refine Or.inr ⟨h1, ?_⟩
      have e : xre B n q = xref (xY B n q) 11 0 := if_pos h1
      rcases @xref_at (xY B n q) 11 0 with h3 | h3
      · rw [← e] at h3
        omega
      · rw [← e, hi, h] at h3
        exact h3
    · omega
  · exact Or.inl hi
theorem xre_le (i K : Int) (h : xRK i.toNat = K) (h0 : 0 ≤ i ∧ i < 11) : xK B n q ≠ 1 ∨ xY B n q ≠ K ∨ xre B n q ≤ i := by
  by_cases h1 : xK B n q = 1
  · by_cases h2 : xY B n q = K
    · refine Or.inr (Or.inr ?_)
      have e : xre B n q = xref (xY B n q) 11 0 := if_pos h1
      rw [e]
      exact xref_le 11 0 i (by omega) (by omega) (by rw [h2, h])
    · exact Or.inr (Or.inl h2)
  · exact Or.inl h1
end XRE
/-! bits, by trial of all (own work) -/
theorem hb_all : (List.range 25).all (fun a => (List.range 37).all (fun b => decide (b < a) || decide (wq_and (wq_w (wl_w (wl_shl 1 (b : Int) - wl_shl 1 (a : Int)))) 16777215 = xhs a b))) = true := by decide +kernel
theorem hb_ok {a b : Int} (h0 : 0 ≤ a) (h1 : a ≤ 24) (h2 : a ≤ b) (h3 : b ≤ 36) : wq_and (wq_w (wl_w (wl_shl 1 b - wl_shl 1 a))) 16777215 = xhs a b := by
  have h := List.all_eq_true.mp (List.all_eq_true.mp hb_all a.toNat (List.mem_range.mpr (by omega))) b.toNat (List.mem_range.mpr (by omega))
  simp only [Bool.or_eq_true, decide_eq_true_eq, Int.toNat_of_nonneg h0, Int.toNat_of_nonneg (Int.le_trans h0 h2)] at h
  rcases h with h | h
  · omega
  · exact h
theorem ab_all : (List.range 64).all (fun m => (List.range 6).all (fun s => decide (0 ≤ wq_or (m : Int) (wq_shl 1 (s : Int)) ∧ wq_or (m : Int) (wq_shl 1 (s : Int)) ≤ 63) && (List.range 6).all (fun j => decide (wq_and (wq_shr (wq_or (m : Int) (wq_shl 1 (s : Int))) (j : Int)) 1 = if j = s then 1 else wq_and (wq_shr (m : Int) (j : Int)) 1)))) = true := by decide +kernel
theorem ab_ok {m s : Int} (h0 : 0 ≤ m) (h1 : m ≤ 63) (h2 : 0 ≤ s) (h3 : s < 6) : 0 ≤ wq_or m (wq_shl 1 s) ∧ wq_or m (wq_shl 1 s) ≤ 63 ∧ ∀ j : Nat, j < 6 → wq_and (wq_shr (wq_or m (wq_shl 1 s)) (j : Int)) 1 = if (j : Int) = s then 1 else wq_and (wq_shr m (j : Int)) 1 := by
  have h := List.all_eq_true.mp (List.all_eq_true.mp ab_all m.toNat (List.mem_range.mpr (by omega))) s.toNat (List.mem_range.mpr (by omega))
  simp only [Bool.and_eq_true, decide_eq_true_eq, Int.toNat_of_nonneg h0, Int.toNat_of_nonneg h2] at h
  refine ⟨h.1.1, h.1.2, fun j hj => ?_⟩
  have h5 := List.all_eq_true.mp h.2 j (List.mem_range.mpr hj)
  simp only [decide_eq_true_eq] at h5
  rw [h5]
  by_cases e : j = s.toNat
  · rw [if_pos e, if_pos (by omega)]
  · rw [if_neg e, if_neg (by omega)]
theorem ab_0 : (List.range 6).all (fun j => decide (wq_and (wq_shr 0 (j : Int)) 1 = 0)) = true := by decide +kernel
theorem ab_z {j : Nat} (h : j < 6) : wq_and (wq_shr 0 (j : Int)) 1 = 0 := by
  have h1 := List.all_eq_true.mp ab_0 j (List.mem_range.mpr h)
  simpa using h1
theorem xpf_u {B : Nat → Int} {n q : Int} {d : xD} (f : Nat) : xpf B n (f + 1) q d = if (xline B n q d).1 = 0 then (if xK B n (xline B n q d).2.2 = 0 then (if xdline B n q d 0 0 > 0 ∧ xdline B n q d 0 3 > 0 then ((0, q, q), xdline B n q d) else ((6, (xline B n q d).2.2, q), xdline B n q d)) else if xK B n (xline B n q d).2.2 = 3 then xpf B n f (xN B n (xline B n q d).2.2) (xdline B n q d) else ((1, (xline B n q d).2.2, q), xdline B n q d)) else (xline B n q d, d) := rfl
theorem xpf_e {B : Nat → Int} {n q v : Int} {d : xD} (h : v ≤ 901) : xpf B n (902 - v).toNat q d = if (xline B n q d).1 = 0 then (if xK B n (xline B n q d).2.2 = 0 then (if xdline B n q d 0 0 > 0 ∧ xdline B n q d 0 3 > 0 then ((0, q, q), xdline B n q d) else ((6, (xline B n q d).2.2, q), xdline B n q d)) else if xK B n (xline B n q d).2.2 = 3 then xpf B n (902 - (v + 1)).toNat (xN B n (xline B n q d).2.2) (xdline B n q d) else ((1, (xline B n q d).2.2, q), xdline B n q d)) else (xline B n q d, d) := by
  rw [show (902 - v).toNat = (902 - (v + 1)).toNat + 1 by omega]
  exact xpf_u _
/-! what a token is, by the numbers that both readers hold -/
/-- where letters or else digits end -/
def xZ (B : Nat → Int) (n q : Int) : Int := if xG 97 122 B n q = q then xG 48 57 B n q else xG 97 122 B n q
theorem xG_b2 {lo hi : Int} {B : Nat → Int} {n p : Int} (h : p ≤ n) : p ≤ xG lo hi B n p ∧ xG lo hi B n p ≤ n := by
  have := @xG_b lo hi B n p
  omega
theorem xB_e {B : Nat → Int} {q v : Int} (h : v = q) : B v.toNat = B q.toNat := by rw [h]
theorem xZ_w {B : Nat → Int} {n q : Int} : xG 97 122 B n q = q ∨ xZ B n q = xG 97 122 B n q := by
  by_cases h : xG 97 122 B n q = q
  · exact Or.inl h
  · exact Or.inr (if_neg h)
theorem xZ_d {B : Nat → Int} {n q : Int} : xG 97 122 B n q ≠ q ∨ xZ B n q = xG 48 57 B n q := by
  by_cases h : xG 97 122 B n q = q
  · exact Or.inr (if_pos h)
  · exact Or.inl h
theorem xZ_b {B : Nat → Int} {n q : Int} (h : q ≤ n) : q ≤ xZ B n q ∧ xZ B n q ≤ n := by
  have h1 := @xG_b2 97 122 B n q h
  have h2 := @xG_b2 48 57 B n q h
  unfold xZ
  split
  · exact h2
  · exact h1
theorem xM0 {B : Nat → Int} {n q : Int} (h : n ≤ q) : xK B n q = 0 ∧ xE B n q = q := ⟨if_pos h, if_pos h⟩
theorem xM1 {B : Nat → Int} {n q : Int} (h0 : q < n) (h1 : 97 ≤ B q.toNat) (h2 : B q.toNat ≤ 122) (h3 : xG 97 122 B n q - q ≤ 8) : xK B n q = 1 ∧ xE B n q = xG 97 122 B n q := by
  have c1 : ¬ (n ≤ q) := by omega
  have c2 : 97 ≤ B q.toNat ∧ B q.toNat ≤ 122 := ⟨h1, h2⟩
  unfold xK xE
  exact ⟨by rw [if_neg c1, if_pos c2, if_pos h3], by rw [if_neg c1, if_pos c2]⟩
theorem xM5 {B : Nat → Int} {n q : Int} (h0 : q < n) (h1 : 97 ≤ B q.toNat) (h2 : B q.toNat ≤ 122) (h3 : 8 < xG 97 122 B n q - q) : xK B n q = 5 ∧ xE B n q = xG 97 122 B n q := by
  have c1 : ¬ (n ≤ q) := by omega
  have c2 : 97 ≤ B q.toNat ∧ B q.toNat ≤ 122 := ⟨h1, h2⟩
  have c3 : ¬ (xG 97 122 B n q - q ≤ 8) := by omega
  unfold xK xE
  exact ⟨by rw [if_neg c1, if_pos c2, if_neg c3], by rw [if_neg c1, if_pos c2]⟩
theorem xM2 {B : Nat → Int} {n q : Int} (h0 : q < n) (h1 : 48 ≤ B q.toNat) (h2 : B q.toNat ≤ 57) (h3 : xG 48 57 B n q - q ≤ 3) : xK B n q = 2 ∧ xE B n q = xG 48 57 B n q := by
  have c1 : ¬ (n ≤ q) := by omega
  have c2 : ¬ (97 ≤ B q.toNat ∧ B q.toNat ≤ 122) := by omega
  have c4 : 48 ≤ B q.toNat ∧ B q.toNat ≤ 57 := ⟨h1, h2⟩
  unfold xK xE
  exact ⟨by rw [if_neg c1, if_neg c2, if_pos c4, if_pos h3], by rw [if_neg c1, if_neg c2, if_pos c4]⟩
theorem xM6 {B : Nat → Int} {n q : Int} (h0 : q < n) (h1 : 48 ≤ B q.toNat) (h2 : B q.toNat ≤ 57) (h3 : 3 < xG 48 57 B n q - q) : xK B n q = 5 ∧ xE B n q = xG 48 57 B n q := by
  have c1 : ¬ (n ≤ q) := by omega
  have c2 : ¬ (97 ≤ B q.toNat ∧ B q.toNat ≤ 122) := by omega
  have c4 : 48 ≤ B q.toNat ∧ B q.toNat ≤ 57 := ⟨h1, h2⟩
  have c5 : ¬ (xG 48 57 B n q - q ≤ 3) := by omega
  unfold xK xE
  exact ⟨by rw [if_neg c1, if_neg c2, if_pos c4, if_neg c5], by rw [if_neg c1, if_neg c2, if_pos c4]⟩
theorem xM7 {B : Nat → Int} {n q : Int} (h0 : q < n) (h1 : ¬ (97 ≤ B q.toNat ∧ B q.toNat ≤ 122)) (h2 : ¬ (48 ≤ B q.toNat ∧ B q.toNat ≤ 57)) (h3 : B q.toNat ≠ 59) (h4 : B q.toNat ≠ 44) : xK B n q = 5 ∧ xE B n q = q + 1 := by
  have c1 : ¬ (n ≤ q) := by omega
  unfold xK xE
  exact ⟨by rw [if_neg c1, if_neg h1, if_neg h2, if_neg h3, if_neg h4], by rw [if_neg c1, if_neg h1, if_neg h2]⟩
theorem xM3 {B : Nat → Int} {n q : Int} (h0 : q < n) (h8 : 59 ≤ B q.toNat) (h9 : B q.toNat ≤ 59) : xK B n q = 3 ∧ xE B n q = q + 1 := by
  have h1 := Int.le_antisymm h9 h8
  have c1 : ¬ (n ≤ q) := by omega
  have c2 : ¬ (97 ≤ B q.toNat ∧ B q.toNat ≤ 122) := by omega
  have c3 : ¬ (48 ≤ B q.toNat ∧ B q.toNat ≤ 57) := by omega
  unfold xK xE
  exact ⟨by rw [if_neg c1, if_neg c2, if_neg c3, if_pos h1], by rw [if_neg c1, if_neg c2, if_neg c3]⟩
theorem xM4 {B : Nat → Int} {n q : Int} (h0 : q < n) (h8 : 44 ≤ B q.toNat) (h9 : B q.toNat ≤ 44) : xK B n q = 4 ∧ xE B n q = q + 1 := by
  have h1 := Int.le_antisymm h9 h8
  have c1 : ¬ (n ≤ q) := by omega
  have c2 : ¬ (97 ≤ B q.toNat ∧ B q.toNat ≤ 122) := by omega
  have c3 : ¬ (48 ≤ B q.toNat ∧ B q.toNat ≤ 57) := by omega
  have c4 : ¬ (B q.toNat = 59) := by omega
  unfold xK xE
  exact ⟨by rw [if_neg c1, if_neg c2, if_neg c3, if_neg c4, if_pos h1], by rw [if_neg c1, if_neg c2, if_neg c3]⟩
theorem xG_up {lo hi : Int} {B : Nat → Int} {n q : Int} (h : q < xG lo hi B n q) : lo ≤ B q.toNat ∧ B q.toNat ≤ hi ∧ q < n := by
  rcases @xG_at lo hi B n q with a | a
  · omega
  · exact a
theorem xG_no {lo hi : Int} {B : Nat → Int} {n q : Int} (h0 : q < n) (h : xG lo hi B n q ≤ q) : ¬ (lo ≤ B q.toNat ∧ B q.toNat ≤ hi) := fun c => by
  have := xG_1 h0 c.1 c.2
  omega
theorem xL1 {B : Nat → Int} {n q : Int} (h1 : q < xG 97 122 B n q) (h2 : xG 97 122 B n q - q ≤ 8) : xK B n q = 1 ∧ xE B n q = xZ B n q := by
  obtain ⟨a1, a2, a3⟩ := xG_up h1
  have e : xZ B n q = xG 97 122 B n q := if_neg (by omega)
  rw [e]
  exact xM1 a3 a1 a2 h2
theorem xL5 {B : Nat → Int} {n q : Int} (h1 : 8 < xG 97 122 B n q - q) : xK B n q = 5 ∧ xE B n q = xZ B n q := by
  obtain ⟨a1, a2, a3⟩ := xG_up (lo := 97) (hi := 122) (B := B) (n := n) (q := q) (by omega)
  have e : xZ B n q = xG 97 122 B n q := if_neg (by omega)
  rw [e]
  exact xM5 a3 a1 a2 h1
theorem xL2 {B : Nat → Int} {n q : Int} (h1 : xG 97 122 B n q ≤ q) (h2 : q < xZ B n q) (h3 : xZ B n q - q ≤ 3) : xK B n q = 2 ∧ xE B n q = xZ B n q := by
  have b := (@xG_b 97 122 B n q).1
  have e : xZ B n q = xG 48 57 B n q := if_pos (by omega)
  rw [e] at h2 h3 ⊢
  obtain ⟨a1, a2, a3⟩ := xG_up h2
  exact xM2 a3 a1 a2 h3
theorem xL6 {B : Nat → Int} {n q : Int} (h1 : xG 97 122 B n q ≤ q) (h3 : 3 < xZ B n q - q) : xK B n q = 5 ∧ xE B n q = xZ B n q := by
  have b := (@xG_b 97 122 B n q).1
  have e : xZ B n q = xG 48 57 B n q := if_pos (by omega)
  rw [e] at h3 ⊢
  obtain ⟨a1, a2, a3⟩ := xG_up (lo := 48) (hi := 57) (B := B) (n := n) (q := q) (by omega)
  exact xM6 a3 a1 a2 h3
theorem xL3 {B : Nat → Int} {n q : Int} (h0 : q < n) (h8 : 59 ≤ B q.toNat) (h9 : B q.toNat ≤ 59) : xK B n q = 3 ∧ xE B n q = q + 1 := xM3 h0 h8 h9
theorem xL4 {B : Nat → Int} {n q : Int} (h0 : q < n) (h8 : 44 ≤ B q.toNat) (h9 : B q.toNat ≤ 44) : xK B n q = 4 ∧ xE B n q = q + 1 := xM4 h0 h8 h9
theorem xL7 {B : Nat → Int} {n q : Int} (h0 : q < n) (h1 : xG 97 122 B n q ≤ q) (h2 : xZ B n q ≤ q) (h3 : B q.toNat ≠ 59) (h4 : B q.toNat ≠ 44) : xK B n q = 5 ∧ xE B n q = q + 1 := by
  have b := (@xG_b 97 122 B n q).1
  have e : xZ B n q = xG 48 57 B n q := if_pos (by omega)
  rw [e] at h2
  exact xM7 h0 (xG_no h0 h1) (xG_no h0 h2) h3 h4
end
section
/-! RELATIONS (own work): a tape's bytes, a token that stands -/
def TP (T : wq_T) (H : wq_H) (rb : Nat) (B : Nat → Int) : Prop := ∀ j, j < 900 → H rb j = B j
def TC (T : wq_T) (H : wq_H) (tk : Nat) (B : Nat → Int) (n q : Int) : Prop := (∃ rb : Nat, H tk 0 = (rb : Int) ∧ T.2.2.2 rb = some 2 ∧ TP T H rb B) ∧ H tk 1 = n ∧ 0 ≤ q ∧ q ≤ n ∧ n ≤ 900 ∧ H tk 2 = xE B n q ∧ H tk 3 = xK B n q ∧ H tk 4 = q ∧ (xK B n q = 2 → H tk 5 = xV B n q) ∧ (xK B n q = 1 → H tk 6 = xY B n q)
def TPx (l : List (Nat × Nat)) : Bool := l.all (fun q => !(q.1 == 2))
def TCx (l : List (Nat × Nat)) : Bool := l.all (fun q => !(q.1 == 4) && !(q.1 == 2))
section TREL

variable {T : wq_T} {H H' : wq_H} {l : List (Nat × Nat)} {tk rb : Nat} {B : Nat → Int} {n q : Int}
theorem TP_fr (hW : WT T H) (g : T.2.2.2 rb = some 2) (f : wfr l T H H') (x : TPx l = true) (h : TP T H rb B) : TP T H' rb B := fun j hj => by
  rw [f.fn g x]
  exact h j hj
theorem wall_1 {l : List (Nat × Nat)} {p r : Nat × Nat → Bool} (x : l.all (fun q => p q && r q) = true) : l.all p = true ∧ l.all r = true := by
  constructor <;> refine List.all_eq_true.mpr (fun q hq => ?_) <;> have := List.all_eq_true.mp x q hq <;> simp only [Bool.and_eq_true] at this
  · exact this.1
  · exact this.2
theorem TC_fr (hW : WT T H) (g : T.2.2.2 tk = some 4) (f : wfr l T H H') (x : TCx l = true) (h : TC T H tk B n q) : TC T H' tk B n q := by
  obtain ⟨⟨rb, h1, h2, h3⟩, h4⟩ := h
  obtain ⟨x1, x2⟩ := wall_1 x
  have e := f.fn g x1
  refine ⟨⟨rb, by rw [e]; exact h1, h2, TP_fr hW h2 f x2 h3⟩, ?_⟩
  rw [e]
  exact h4
theorem TC_tp (h : TC T H tk B n q) (e : H tk 0 = (rb : Int)) : TP T H rb B := by
  obtain ⟨⟨r, h1, -, h3⟩, -⟩ := h
  have : r = rb := by omega
  subst this
  exact h3
theorem TC_k (h : TC T H tk B n q) : H tk 1 = n ∧ 0 ≤ q ∧ q ≤ n ∧ n ≤ 900 ∧ H tk 2 = xE B n q ∧ H tk 3 = xK B n q ∧ H tk 4 = q ∧ q ≤ xN B n q ∧ xE B n q ≤ n := by
  obtain ⟨-, h1, h2, h3, h4, h5, h6, h7, h8, h9⟩ := h
  have := @xN_b B n q h2 h3
  have := @xE_b B n q h2 h3
  exact ⟨h1, h2, h3, h4, h5, h6, h7, by omega, by omega⟩
theorem TC_i (h : TC T H tk B n q) : (xK B n q ≠ 2 ∨ (H tk 5 = xV B n q ∧ 0 ≤ xV B n q ∧ xV B n q ≤ 999)) ∧ (xK B n q ≠ 1 ∨ H tk 6 = xY B n q) := by
  obtain ⟨-, h1, h2, h3, h4, h5, h6, h7, h8, h9⟩ := h
  refine ⟨?_, ?_⟩
  · by_cases e : xK B n q = 2
    · exact Or.inr ⟨h8 e, xV_b e⟩
    · exact Or.inl e
  · by_cases e : xK B n q = 1
    · exact Or.inr (h9 e)
    · exact Or.inl e
theorem TC_e (h : TC T H tk B n q) : (xK B n q = 0 ∧ q = n) ∨ (xK B n q ≠ 0 ∧ q < n ∧ q < xN B n q) := by
  obtain ⟨-, h1, h2, h3, h4, -⟩ := h
  have := @xN_b B n q h2 h3
  have := @xK_0 B n q h2 h3
  omega
theorem TC_mk (g0 : H tk 0 = (rb : Int)) (gt : T.2.2.2 rb = some 2) (tp : TP T H rb B) (h : H tk 1 = n ∧ 0 ≤ q ∧ q ≤ n ∧ n ≤ 900 ∧ H tk 2 = xE B n q ∧ H tk 3 = xK B n q ∧ H tk 4 = q) (hv : xK B n q = 2 → H tk 5 = xV B n q) (hy : xK B n q = 1 → H tk 6 = xY B n q) : TC T H tk B n q := ⟨⟨rb, g0, gt, tp⟩, h.1, h.2.1, h.2.2.1, h.2.2.2.1, h.2.2.2.2.1, h.2.2.2.2.2.1, h.2.2.2.2.2.2, hv, hy⟩
end TREL
end
section
/-! RELATIONS (own work): what a PARISH of the StrikeAwake has been told -/
def xsx (z : Int) : Int := if z = -1 then -2 else z
theorem xsx_e {z : Int} : (z = -1 ∧ xsx z = -2) ∨ (z ≠ -1 ∧ xsx z = z) := by
  unfold xsx
  split <;> omega
def DSm (H : wq_H) (r : Nat) (d : xD) : Prop := H r 7 = d 0 0 ∧ H r 8 = d 0 1 ∧ H r 9 = d 0 2 ∧ H r 10 = d 0 3 ∧ H r 11 = d 0 4 ∧ H r 12 = d 0 5 ∧ H r 13 = d 0 6 ∧ H r 14 = d 0 7 ∧ -1 ≤ d 0 8 ∧ d 0 8 ≤ 5 ∧ H r 15 = xsx (d 0 8) ∧ H r 16 = xcn (d 13) 24 ∧ 0 ≤ d 0 3 ∧ d 0 3 ≤ 6 ∧ 0 ≤ d 0 4 ∧ d 0 4 ≤ 3
def PF (H : wq_H) (p : Nat) (d : xD) (k : Nat) : Prop := H p 6 = d 1 k ∧ H p 7 = d 2 k ∧ H p 8 = d 3 k ∧ H p 9 = d 4 k ∧ H p 10 = d 5 k ∧ H p 11 = d 6 k ∧ H p 12 = xhs (d 7 k) (d 8 k) ∧ H p 13 = d 9 k ∧ 0 ≤ H p 14 ∧ H p 14 ≤ 63 ∧ ∀ j : Nat, j < 6 → wq_and (wq_shr (H p 14) j) 1 = xagf d k j (d 0 4).toNat
def DQ (T : wq_T) (H : wq_H) (r : Nat) (d : xD) : Prop := (∀ k : Nat, (k : Int) < d 0 3 → ∃ p : Nat, H (H r 0).toNat k = (p : Int) ∧ T.2.2.2 p = some 35 ∧ PF H p d k) ∧ ∀ k : Nat, (k : Int) < d 0 4 → 0 ≤ d 10 k ∧ d 10 k < d 0 3 ∧ 0 ≤ d 11 k ∧ d 11 k < d 0 3
/-- HOURS struck: f, one more; in the order of the day the list -/
def ST (T : wq_T) (H : wq_H) (r : Nat) (f : Nat → Int) : Prop := ∃ s : Nat, H r 1 = (s : Int) ∧ T.2.2.2 s = some 29 ∧ ∀ k : Nat, k < 24 → 0 ≤ f k ∧ f k ≤ 100 ∧ H s k = if f k > 0 then f k - 1 else -2
def SV (T : wq_T) (H : wq_H) (r : Nat) (f : Nat → Int) (i : Int) : Prop := ∃ b : Nat, H r 2 = (b : Int) ∧ T.2.2.2 b = some 30 ∧ ∀ k : Nat, (k : Int) < i → f k > 0 → H b (xcn f k).toNat = k
/-- an array of a PARISH, as far as it is filled -/
def DA (S tg : Nat) (T : wq_T) (H : wq_H) (r : Nat) (c : Int) (f : Nat → Int) : Prop := ∃ b : Nat, H r S = (b : Int) ∧ T.2.2.2 b = some tg ∧ ∀ k : Nat, (k : Int) < c → H b k = f k
abbrev DA3 := DA 3 31
abbrev DA4 := DA 4 32
abbrev DA5 := DA 5 33
abbrev DA6 := DA 6 34
def DC (T : wq_T) (H : wq_H) (r : Nat) (d : xD) : Prop := DSm H r d ∧ DQ T H r d ∧ ST T H r (d 13) ∧ SV T H r (d 13) 24 ∧ DA3 T H r (d 0 5) (d 12) ∧ DA4 T H r (d 0 6) (d 14) ∧ DA5 T H r (d 0 6) (d 15) ∧ DA6 T H r (d 0 7) (d 16)
/-- its persons are six -/
def DD (T : wq_T) (H : wq_H) (r : Nat) : Prop := ∃ pa : Nat, H r 0 = (pa : Int) ∧ T.2.2.2 pa = some 28 ∧ ∀ i j : Nat, i < 6 → j < 6 → H pa i = H pa j → i = j
def wno (l : List (Nat × Nat)) (t : Nat) (s : Nat → Bool) : Bool := l.all (fun q => !(q.1 == t && (q.2 == 999 || s q.2)))
theorem wno_m {l : List (Nat × Nat)} {t j : Nat} {s : Nat → Bool} (h : wno l t s = true) (hj : s j = true) : wmem l t j = false := by
  refine wmem_no (fun q hq hh => ?_)
  have h1 := List.all_eq_true.mp h q hq
  rcases hh.2 with h2 | h2 <;> simp [hh.1, h2, hj] at h1
def DSx (l : List (Nat × Nat)) : Bool := wno l 27 (fun j => decide (7 ≤ j ∧ j ≤ 16))
def DQx (l : List (Nat × Nat)) : Bool := wno l 27 (fun j => decide (j = 0)) && wno l 28 (fun _ => true) && wno l 35 (fun j => decide (6 ≤ j ∧ j ≤ 14))
def STx (l : List (Nat × Nat)) : Bool := wno l 27 (fun j => decide (j = 1)) && wno l 29 (fun _ => true)
def SVx (l : List (Nat × Nat)) : Bool := wno l 27 (fun j => decide (j = 2)) && wno l 30 (fun _ => true)
def DAx (S tg : Nat) (l : List (Nat × Nat)) : Bool := wno l 27 (fun j => decide (j = S)) && wno l tg (fun _ => true)
def DCx (l : List (Nat × Nat)) : Bool := DSx l && DQx l && STx l && SVx l && DAx 3 31 l && DAx 4 32 l && DAx 5 33 l && DAx 6 34 l
def DDx (l : List (Nat × Nat)) : Bool := wno l 27 (fun j => decide (j = 0)) && wno l 28 (fun _ => true)
section DREL

variable {T : wq_T} {H H' : wq_H} {l : List (Nat × Nat)} {r : Nat} {d d' : xD}
theorem wno_f {a t j : Nat} {s : Nat → Bool} (f : wfr l T H H') (g : T.2.2.2 a = some t) (x : wno l t s = true) (hj : s j = true) : H' a j = H a j := f a j t g (wno_m x hj)
theorem DS_fr (g : T.2.2.2 r = some 27) (f : wfr l T H H') (x : DSx l = true) (h : DSm H r d) : DSm H' r d := by
  unfold DSm
  rw [wno_f f g x (j := 7) rfl, wno_f f g x (j := 8) rfl, wno_f f g x (j := 9) rfl, wno_f f g x (j := 10) rfl, wno_f f g x (j := 11) rfl, wno_f f g x (j := 12) rfl, wno_f f g x (j := 13) rfl, wno_f f g x (j := 14) rfl, wno_f f g x (j := 15) rfl, wno_f f g x (j := 16) rfl]
  exact h
theorem PF_fr {p k : Nat} (g : T.2.2.2 p = some 35) (f : wfr l T H H') (x : wno l 35 (fun j => decide (6 ≤ j ∧ j ≤ 14)) = true) (h : PF H p d k) : PF H' p d k := by
  unfold PF
  rw [wno_f f g x (j := 6) rfl, wno_f f g x (j := 7) rfl, wno_f f g x (j := 8) rfl, wno_f f g x (j := 9) rfl, wno_f f g x (j := 10) rfl, wno_f f g x (j := 11) rfl, wno_f f g x (j := 12) rfl, wno_f f g x (j := 13) rfl, wno_f f g x (j := 14) rfl]
  exact h
theorem pa_fr (hW : WT T H) (g : T.2.2.2 r = some 27) (f : wfr l T H H') (x1 : wno l 27 (fun j => decide (j = 0)) = true) (x2 : wno l 28 (fun _ => true) = true) (k : Nat) : H' (H' r 0).toNat k = H (H r 0).toNat k := by
  rw [wno_f f g x1 (j := 0) rfl]
  obtain ⟨pa, h1, h2⟩ := hW.ref g (t' := 28) (n := 19) (j := 0) (p := 0) (q := 0) rfl (by decide) rfl
  rw [h1, Int.toNat_natCast]
  exact wno_f f h2 x2 rfl
theorem DQ_fr (hW : WT T H) (g : T.2.2.2 r = some 27) (f : wfr l T H H') (x : DQx l = true) (h : DQ T H r d) : DQ T H' r d := by
  unfold DQx at x
  simp only [Bool.and_eq_true] at x
  refine ⟨fun k hk => ?_, h.2⟩
  obtain ⟨p, h1, h2, h3⟩ := h.1 k hk
  exact ⟨p, (pa_fr hW g f x.1.1 x.1.2 k).trans h1, h2, PF_fr h2 f x.2 h3⟩
theorem ST_fr {f' : Nat → Int} (hW : WT T H) (g : T.2.2.2 r = some 27) (f : wfr l T H H') (x : STx l = true) (h : ST T H r f') : ST T H' r f' := by
  unfold STx at x
  simp only [Bool.and_eq_true] at x
  obtain ⟨s, h1, h2, h5⟩ := h
  exact ⟨s, (wno_f f g x.1 rfl).trans h1, h2, fun k hk => ⟨(h5 k hk).1, (h5 k hk).2.1, (wno_f f h2 x.2 rfl).trans (h5 k hk).2.2⟩⟩
theorem SV_fr {f' : Nat → Int} {i : Int} (hW : WT T H) (g : T.2.2.2 r = some 27) (f : wfr l T H H') (x : SVx l = true) (h : SV T H r f' i) : SV T H' r f' i := by
  unfold SVx at x
  simp only [Bool.and_eq_true] at x
  obtain ⟨s, h1, h2, h5⟩ := h
  exact ⟨s, (wno_f f g x.1 rfl).trans h1, h2, fun k hk hp => (wno_f f h2 x.2 rfl).trans (h5 k hk hp)⟩
theorem DA_fr {S tg : Nat} {c : Int} {f' : Nat → Int} (hW : WT T H) (g : T.2.2.2 r = some 27) (f : wfr l T H H') (x : DAx S tg l = true) (h : DA S tg T H r c f') : DA S tg T H' r c f' := by
  unfold DAx at x
  simp only [Bool.and_eq_true] at x
  obtain ⟨b, h1, h2, h3⟩ := h
  exact ⟨b, (wno_f f g x.1 (by simp)).trans h1, h2, fun k hk => (wno_f f h2 x.2 rfl).trans (h3 k hk)⟩
theorem DA3_fr {c : Int} {f' : Nat → Int} (hW : WT T H) (g : T.2.2.2 r = some 27) (f : wfr l T H H') (x : DAx 3 31 l = true) (h : DA3 T H r c f') : DA3 T H' r c f' := DA_fr hW g f x h
theorem DA4_fr {c : Int} {f' : Nat → Int} (hW : WT T H) (g : T.2.2.2 r = some 27) (f : wfr l T H H') (x : DAx 4 32 l = true) (h : DA4 T H r c f') : DA4 T H' r c f' := DA_fr hW g f x h
theorem DA5_fr {c : Int} {f' : Nat → Int} (hW : WT T H) (g : T.2.2.2 r = some 27) (f : wfr l T H H') (x : DAx 5 33 l = true) (h : DA5 T H r c f') : DA5 T H' r c f' := DA_fr hW g f x h
theorem DA6_fr {c : Int} {f' : Nat → Int} (hW : WT T H) (g : T.2.2.2 r = some 27) (f : wfr l T H H') (x : DAx 6 34 l = true) (h : DA6 T H r c f') : DA6 T H' r c f' := DA_fr hW g f x h
theorem DC_fr (hW : WT T H) (g : T.2.2.2 r = some 27) (f : wfr l T H H') (x : DCx l = true) (h : DC T H r d) : DC T H' r d := by
  unfold DCx at x
  simp only [Bool.and_eq_true] at x
  exact ⟨DS_fr g f x.1.1.1.1.1.1.1 h.1, DQ_fr hW g f x.1.1.1.1.1.1.2 h.2.1, ST_fr hW g f x.1.1.1.1.1.2 h.2.2.1, SV_fr hW g f x.1.1.1.1.2 h.2.2.2.1, DA_fr hW g f x.1.1.1.2 h.2.2.2.2.1, DA_fr hW g f x.1.1.2 h.2.2.2.2.2.1, DA_fr hW g f x.1.2 h.2.2.2.2.2.2.1, DA_fr hW g f x.2 h.2.2.2.2.2.2.2⟩
theorem DD_fr (hW : WT T H) (g : T.2.2.2 r = some 27) (f : wfr l T H H') (x : DDx l = true) (h : DD T H r) : DD T H' r := by
  unfold DDx at x
  simp only [Bool.and_eq_true] at x
  obtain ⟨pa, h1, h2, h3⟩ := h
  refine ⟨pa, (wno_f f g x.1 rfl).trans h1, h2, fun i j hi hj e => h3 i j hi hj ?_⟩
  rw [wno_f f h2 x.2 rfl, wno_f f h2 x.2 rfl] at e
  exact e
/-- other told things of other rows -/
theorem PF_cg {p k : Nat} (e : ∀ i, 1 ≤ i → i ≤ 11 → d' i = d i) (e4 : d' 0 4 = d 0 4) (h : PF H p d k) : PF H p d' k := by
  have ex : ∀ (n : Nat) (a b : Int), xagf d' a b n = xagf d a b n := by
    intro n a b
    induction n with
    | zero => rfl
    | succ n ih =>
      show (if (d' 10 n = a ∧ d' 11 n = b) ∨ (d' 10 n = b ∧ d' 11 n = a) then 1 else xagf d' a b n) = _
      rw [e 10 (by omega) (by omega), e 11 (by omega) (by omega), ih]
      rfl
  unfold PF
  rw [e 1 (by omega) (by omega), e 2 (by omega) (by omega), e 3 (by omega) (by omega), e 4 (by omega) (by omega), e 5 (by omega) (by omega), e 6 (by omega) (by omega), e 7 (by omega) (by omega), e 8 (by omega) (by omega), e 9 (by omega) (by omega), e4]
  simp only [ex]
  exact h
theorem DQ_cg (e : ∀ i, 1 ≤ i → i ≤ 11 → d' i = d i) (e3 : d' 0 3 = d 0 3) (e4 : d' 0 4 = d 0 4) (h : DQ T H r d) : DQ T H r d' := by
  refine ⟨fun k hk => ?_, fun k hk => ?_⟩
  · obtain ⟨p, h1, h2, h3⟩ := h.1 k (by omega)
    exact ⟨p, h1, h2, PF_cg e e4 h3⟩
  · rw [e 10 (by omega) (by omega), e 11 (by omega) (by omega), e3]
    exact h.2 k (by omega)
theorem DC_k (h : DC T H r d) : H r 7 = d 0 0 ∧ H r 8 = d 0 1 ∧ H r 9 = d 0 2 ∧ H r 10 = d 0 3 ∧ H r 11 = d 0 4 ∧ H r 12 = d 0 5 ∧ H r 13 = d 0 6 ∧ H r 14 = d 0 7 ∧ -1 ≤ d 0 8 ∧ d 0 8 ≤ 5 ∧ H r 15 = xsx (d 0 8) ∧ H r 16 = xcn (d 13) 24 ∧ 0 ≤ d 0 3 ∧ d 0 3 ≤ 6 ∧ 0 ≤ d 0 4 ∧ d 0 4 ≤ 3 := h.1
theorem DC_nm {pa p k : Nat} (h : DC T H r d) (e0 : H r 0 = (pa : Int)) (e1 : H pa k = (p : Int)) (hk : (k : Int) < d 0 3) : H p 6 = d 1 k := by
  obtain ⟨b, h1, -, h3⟩ := h.2.1.1 k hk
  rw [e0, Int.toNat_natCast, e1] at h1
  have : p = b := by omega
  subst this
  exact h3.1
theorem xkn_b {B : Nat → Int} {n q : Int} : (xkn B n q d = 0 ∧ xre B n q = 11 ∧ xwho B n q d ≠ -1) ∨ (xkn B n q d = 2 ∧ xre B n q = 11 ∧ xwho B n q d = -1) ∨ (xkn B n q d = 1 ∧ xre B n q ≠ 11) := by
  unfold xkn xwho
  split
  · split <;> omega
  · omega
theorem xwho_e {B : Nat → Int} {n q : Int} : xwho B n q d = xfi (d 1) (d 0 3) (xY B n q) ∧ (xwho B n q d = -1 ∨ (0 ≤ xwho B n q d ∧ xwho B n q d < d 0 3)) := ⟨rfl, by have := @xfi_b (d 1) (d 0 3) (xY B n q); unfold xwho; omega⟩
end DREL

section DROW

variable {B : Nat → Int} {n q v : Int} {d : xD} {a j i : Nat}
theorem wq_u_row (h : i ≠ a) : wq_u d a j v i = d i := by
  funext k
  exact if_neg (fun q => h q.1)
theorem wq_u_e2 {k : Nat} (h : ¬ (i = a ∧ k = j)) : wq_u d a j v i k = d i k := if_neg h
theorem xdlaw_v : xdlaw B n q d 0 0 = xV B n (xN B n q) ∧ xdlaw B n q d 0 1 = xV B n (xN B n (xN B n (xN B n q))) ∧ xdlaw B n q d 0 2 = xV B n (xN B n (xN B n (xN B n (xN B n (xN B n q))))) ∧ xdlaw B n q d 0 3 = d 0 3 ∧ xdlaw B n q d 0 4 = d 0 4 ∧ xdlaw B n q d 0 5 = d 0 5 ∧ xdlaw B n q d 0 6 = d 0 6 ∧ xdlaw B n q d 0 7 = d 0 7 ∧ xdlaw B n q d 0 8 = d 0 8 ∧ xsx (xdlaw B n q d 0 8) = xsx (d 0 8) ∧ xcn (xdlaw B n q d 13) 24 = xcn (d 13) 24 := ⟨rfl, rfl, rfl, rfl, rfl, rfl, rfl, rfl, rfl, rfl, rfl⟩
theorem xdlaw_r (h : 1 ≤ i) : xdlaw B n q d i = d i := by
  unfold xdlaw
  rw [wq_u_row (by omega), wq_u_row (by omega), wq_u_row (by omega)]
end DROW

section DLAW

variable {T : wq_T} {H H' : wq_H} {l : List (Nat × Nat)} {r b k : Nat} {d d' : xD} {f f12 f14 f15 f16 : Nat → Int} {c5 c6 c7 v : Int}
theorem DC_mk (s : DSm H r d') (q : DQ T H r d') (st : ST T H r f) (sh : SV T H r f 24) (a3 : DA3 T H r c5 f12) (a4 : DA4 T H r c6 f14) (a5 : DA5 T H r c6 f15) (a6 : DA6 T H r c7 f16) (e : d' 13 = f ∧ d' 12 = f12 ∧ d' 14 = f14 ∧ d' 15 = f15 ∧ d' 16 = f16) (c : d' 0 5 = c5 ∧ d' 0 6 = c6 ∧ d' 0 7 = c7) : DC T H r d' := by
  obtain ⟨e1, e2, e3, e4, e5⟩ := e
  obtain ⟨c1, c2, c3⟩ := c
  unfold DC
  rw [e1, e2, e3, e4, e5, c1, c2, c3]
  exact ⟨s, q, st, sh, a3, a4, a5, a6⟩
/-- counts alone have changed -/
theorem DC_cnt (hW : WT T H) (g : T.2.2.2 r = some 27) (hd : DC T H r d) (f : wfr l T H H') (x : (DQx l && STx l && SVx l && DAx 3 31 l && DAx 4 32 l && DAx 5 33 l && DAx 6 34 l) = true) (e : ∀ i, 1 ≤ i → d' i = d i) (e3 : d' 0 3 = d 0 3 ∧ d' 0 4 = d 0 4 ∧ d' 0 5 = d 0 5 ∧ d' 0 6 = d 0 6 ∧ d' 0 7 = d 0 7) (s : DSm H' r d') : DC T H' r d' := by
  simp only [Bool.and_eq_true] at x
  exact DC_mk s (DQ_cg (fun i h1 _ => e i h1) e3.1 e3.2.1 (DQ_fr hW g f x.1.1.1.1.1.1 hd.2.1)) (ST_fr hW g f x.1.1.1.1.1.2 hd.2.2.1) (SV_fr hW g f x.1.1.1.1.2 hd.2.2.2.1) (DA_fr hW g f x.1.1.1.2 hd.2.2.2.2.1) (DA_fr hW g f x.1.1.2 hd.2.2.2.2.2.1) (DA_fr hW g f x.1.2 hd.2.2.2.2.2.2.1) (DA_fr hW g f x.2 hd.2.2.2.2.2.2.2) ⟨e 13 (by omega), e 12 (by omega), e 14 (by omega), e 15 (by omega), e 16 (by omega)⟩ ⟨e3.2.2.1, e3.2.2.2.1, e3.2.2.2.2⟩
theorem DA_put {S tg : Nat} {c c' : Int} {f f' : Nat → Int} (h : DA S tg T H r c f) (e0 : H r S = (b : Int)) (gr : T.2.2.2 r = some 27) (gb : T.2.2.2 b = some tg) (ne : tg ≠ 27) (e : H' = wq_u H b k v) (hk : (k : Int) = c) (hc : c' = c + 1) (fk : f' k = v) (fn : ∀ j, j ≠ k → f' j = f j) : DA S tg T H' r c' f' := by
  obtain ⟨b', h1, h2, h3⟩ := h
  have hb : b' = b := by omega
  subst hb
  refine ⟨b', ?_, h2, fun j hj => ?_⟩
  · rw [e, wq_u_na (fun q => ?_)]
    · exact h1
    · subst q
      rw [gr] at gb
      exact ne (Option.some.inj gb).symm
  · by_cases hjk : j = k
    · subst hjk
      rw [e, wq_u_eq, fk]
    · rw [e, wq_u_ne (fun q => hjk q.2), fn j hjk]
      exact h3 j (by omega)
theorem ST_at {s k : Nat} (h : ST T H r f) (e0 : H r 1 = (s : Int)) (hk : k < 24) : 0 ≤ f k ∧ f k ≤ 100 ∧ ((f k > 0 ∧ H s k = f k - 1) ∨ (f k = 0 ∧ H s k = -2)) := by
  obtain ⟨b, h1, -, h3⟩ := h
  have : b = s := by omega
  subst this
  have h4 := h3 k hk
  split at h4 <;> omega
theorem ST_put {s k : Nat} {w : Int} {f' : Nat → Int} (h : ST T H r f) (e0 : H r 1 = (s : Int)) (gr : T.2.2.2 r = some 27) (gb : T.2.2.2 s = some 29) (e : H' = wq_u H s k v) (hv : (0 ≤ v ∧ v ≤ 99 ∧ w = v + 1) ∨ (v = -2 ∧ w = 0)) (fk : f' k = w) (fn : ∀ j, j ≠ k → f' j = f j) : ST T H' r f' := by
  obtain ⟨b', h1, h2, h3⟩ := h
  have hb : b' = s := by omega
  subst hb
  refine ⟨b', ?_, h2, fun j hj => ?_⟩
  · rw [e, wq_u_na (fun q => ?_)]
    · exact h1
    · subst q
      rw [gr] at gb
      cases gb
  · by_cases hjk : j = k
    · subst hjk
      rw [e, wq_u_eq, fk]
      split <;> omega
    · rw [e, wq_u_ne (fun q => hjk q.2), fn j hjk]
      exact h3 j hj
theorem xcn_b : ∀ n : Nat, 0 ≤ xcn f n ∧ xcn f n ≤ n
  | 0 => ⟨Int.le_refl _, Int.le_refl _⟩
  | n + 1 => by
    have := xcn_b n
    show 0 ≤ xcn f n + (if f n > 0 then 1 else 0) ∧ xcn f n + (if f n > 0 then 1 else 0) ≤ (n + 1 : Nat)
    split <;> omega
theorem xcn_mono {m : Nat} : ∀ n : Nat, m ≤ n → xcn f m ≤ xcn f n
  | 0, h => by
    have : m = 0 := by omega
    subst this
    omega
  | n + 1, h => by
    by_cases e : m = n + 1
    · subst e
      omega
    · have := xcn_mono n (show m ≤ n by omega)
      show xcn f m ≤ xcn f n + (if f n > 0 then 1 else 0)
      split <;> omega
theorem xcn_lt {m n : Nat} (h : m < n) (hp : f m > 0) : xcn f m < xcn f n := by
  have h1 := xcn_mono (f := f) (m := m + 1) n h
  have h2 : xcn f (m + 1) = xcn f m + 1 := by
    show xcn f m + (if f m > 0 then 1 else 0) = _
    rw [if_pos hp]
  omega
theorem xcn_s {i : Int} (h : 0 ≤ i) : xcn f (i + 1).toNat = xcn f i.toNat + (if f i.toNat > 0 then 1 else 0) := by
  rw [show (i + 1).toNat = i.toNat + 1 by omega]
  rfl
theorem xcn_s1 {i : Int} (h : 0 ≤ i) : (f i.toNat > 0 ∧ xcn f (i + 1).toNat = xcn f i.toNat + 1) ∨ (f i.toNat ≤ 0 ∧ xcn f (i + 1).toNat = xcn f i.toNat) := by
  rw [xcn_s h]
  split <;> omega
theorem SV_0 (hW : WT T H) (g : T.2.2.2 r = some 27) : SV T H r f 0 := by
  obtain ⟨b, h1, h2⟩ := hW.ref g (t' := 30) (n := 19) (j := 2) (p := 0) (q := 0) rfl (by decide) rfl
  exact ⟨b, h1, h2, fun k hk => by omega⟩
theorem SV_skip {i : Int} (h : SV T H r f i) (h0 : 0 ≤ i) (hi : f i.toNat ≤ 0) : SV T H r f (i + 1) := by
  obtain ⟨b, h1, h2, h3⟩ := h
  refine ⟨b, h1, h2, fun k hk hp => ?_⟩
  by_cases e : (k : Int) = i
  · rw [show i.toNat = k by omega] at hi
    omega
  · exact h3 k (by omega) hp
theorem SV_put {i : Int} (h : SV T H r f i) (e0 : H r 2 = (b : Int)) (gr : T.2.2.2 r = some 27) (gb : T.2.2.2 b = some 30) (e : H' = wq_u H b k v) (h0 : 0 ≤ i) (hk : (k : Int) = xcn f i.toNat) (hv : v = i) (hi : f i.toNat > 0) : SV T H' r f (i + 1) := by
  obtain ⟨b', h1, h2, h3⟩ := h
  have hb : b' = b := by omega
  subst hb
  refine ⟨b', ?_, h2, fun j hj hp => ?_⟩
  · rw [e, wq_u_na (fun q => ?_)]
    · exact h1
    · subst q
      rw [gr] at gb
      cases gb
  · by_cases e1 : (j : Int) = i
    · have ej : i.toNat = j := by omega
      rw [ej] at hk
      rw [e, show (xcn f j).toNat = k by omega, wq_u_eq]
      omega
    · have h4 := xcn_lt (f := f) (m := j) (n := i.toNat) (by omega) hp
      have h5 := @xcn_b f j
      rw [e, wq_u_ne (fun q => by omega)]
      exact h3 j (by omega) hp
end DLAW

section DROW2

variable {B : Nat → Int} {n q : Int} {d : xD} {i : Nat}
theorem xdbo_v : xdbo B n q d 0 0 = d 0 0 ∧ xdbo B n q d 0 1 = d 0 1 ∧ xdbo B n q d 0 2 = d 0 2 ∧ xdbo B n q d 0 3 = d 0 3 ∧ xdbo B n q d 0 4 = d 0 4 ∧ xdbo B n q d 0 5 = d 0 5 + 1 ∧ xdbo B n q d 0 6 = d 0 6 ∧ xdbo B n q d 0 7 = d 0 7 ∧ xdbo B n q d 0 8 = d 0 8 ∧ xsx (xdbo B n q d 0 8) = xsx (d 0 8) ∧ xcn (xdbo B n q d 13) 24 = xcn (d 13) 24 := ⟨rfl, rfl, rfl, rfl, rfl, rfl, rfl, rfl, rfl, rfl, rfl⟩
theorem xdtl_v : xdtl B n q d 0 0 = d 0 0 ∧ xdtl B n q d 0 1 = d 0 1 ∧ xdtl B n q d 0 2 = d 0 2 ∧ xdtl B n q d 0 3 = d 0 3 ∧ xdtl B n q d 0 4 = d 0 4 ∧ xdtl B n q d 0 5 = d 0 5 ∧ xdtl B n q d 0 6 = d 0 6 + 1 ∧ xdtl B n q d 0 7 = d 0 7 ∧ xdtl B n q d 0 8 = d 0 8 ∧ xsx (xdtl B n q d 0 8) = xsx (d 0 8) ∧ xcn (xdtl B n q d 13) 24 = xcn (d 13) 24 := ⟨rfl, rfl, rfl, rfl, rfl, rfl, rfl, rfl, rfl, rfl, rfl⟩
theorem xdof_v : xdof B n q d 0 0 = d 0 0 ∧ xdof B n q d 0 1 = d 0 1 ∧ xdof B n q d 0 2 = d 0 2 ∧ xdof B n q d 0 3 = d 0 3 ∧ xdof B n q d 0 4 = d 0 4 ∧ xdof B n q d 0 5 = d 0 5 ∧ xdof B n q d 0 6 = d 0 6 ∧ xdof B n q d 0 7 = d 0 7 + 1 ∧ xdof B n q d 0 8 = d 0 8 ∧ xsx (xdof B n q d 0 8) = xsx (d 0 8) ∧ xcn (xdof B n q d 13) 24 = xcn (d 13) 24 := ⟨rfl, rfl, rfl, rfl, rfl, rfl, rfl, rfl, rfl, rfl, rfl⟩
theorem xdap_v : xdap B n q d 0 0 = d 0 0 ∧ xdap B n q d 0 1 = d 0 1 ∧ xdap B n q d 0 2 = d 0 2 ∧ xdap B n q d 0 3 = d 0 3 ∧ xdap B n q d 0 4 = d 0 4 + 1 ∧ xdap B n q d 0 5 = d 0 5 ∧ xdap B n q d 0 6 = d 0 6 ∧ xdap B n q d 0 7 = d 0 7 ∧ xdap B n q d 0 8 = d 0 8 ∧ xsx (xdap B n q d 0 8) = xsx (d 0 8) ∧ xcn (xdap B n q d 13) 24 = xcn (d 13) 24 := ⟨rfl, rfl, rfl, rfl, rfl, rfl, rfl, rfl, rfl, rfl, rfl⟩
theorem xdper_v : xdper B n q d 0 0 = d 0 0 ∧ xdper B n q d 0 1 = d 0 1 ∧ xdper B n q d 0 2 = d 0 2 ∧ xdper B n q d 0 3 = d 0 3 + 1 ∧ xdper B n q d 0 4 = d 0 4 ∧ xdper B n q d 0 5 = d 0 5 ∧ xdper B n q d 0 6 = d 0 6 ∧ xdper B n q d 0 7 = d 0 7 ∧ xdper B n q d 0 8 = d 0 8 ∧ xsx (xdper B n q d 0 8) = xsx (d 0 8) ∧ xcn (xdper B n q d 13) 24 = xcn (d 13) 24 := ⟨rfl, rfl, rfl, rfl, rfl, rfl, rfl, rfl, rfl, rfl, rfl⟩
theorem xdbo_r (h1 : 1 ≤ i) (h2 : i ≤ 11) : xdbo B n q d i = d i := by
  unfold xdbo
  rw [wq_u_row (by omega), wq_u_row (by omega)]
theorem xdtl_r (h1 : 1 ≤ i) (h2 : i ≤ 11) : xdtl B n q d i = d i := by
  unfold xdtl
  rw [wq_u_row (by omega), wq_u_row (by omega), wq_u_row (by omega)]
theorem xdof_r (h1 : 1 ≤ i) (h2 : i ≤ 11) : xdof B n q d i = d i := by
  unfold xdof
  rw [wq_u_row (by omega), wq_u_row (by omega), wq_u_row (by omega)]
theorem xdbo_c {k : Nat} (hk : (k : Int) = d 0 5) : xdbo B n q d 12 k = xV B n q ∧ ∀ j, j ≠ k → xdbo B n q d 12 j = d 12 j := by
  have e : (d 0 5).toNat = k := by omega
  unfold xdbo
  rw [e]
  exact ⟨by simp [wq_u], fun j hj => by simp [wq_u, hj]⟩
theorem xdtl_c {k : Nat} (hk : (k : Int) = d 0 6) : xdtl B n q d 14 k = xwho B n q d ∧ ∀ j, j ≠ k → xdtl B n q d 14 j = d 14 j := by
  have e : (d 0 6).toNat = k := by omega
  unfold xdtl
  rw [e]
  exact ⟨by simp [wq_u], fun j hj => by simp [wq_u, hj]⟩
theorem xdtl_e {k : Nat} (hk : (k : Int) = d 0 6) : xdtl B n q d 15 k = xhs (xV B n (xN B n q)) (xV B n (xN B n (xN B n (xN B n q)))) ∧ ∀ j, j ≠ k → xdtl B n q d 15 j = d 15 j := by
  have e : (d 0 6).toNat = k := by omega
  unfold xdtl
  rw [e]
  exact ⟨by simp [wq_u], fun j hj => by simp [wq_u, hj]⟩
theorem xdof_c {k : Nat} (hk : (k : Int) = d 0 7) : xdof B n q d 16 k = xhs (xV B n (xN B n q)) (xV B n (xN B n (xN B n (xN B n q)))) ∧ ∀ j, j ≠ k → xdof B n q d 16 j = d 16 j := by
  have e : (d 0 7).toNat = k := by omega
  unfold xdof
  rw [e]
  exact ⟨by simp [wq_u], fun j hj => by simp [wq_u, hj]⟩
theorem xnm_b : (xnm B n q d = 0 ∧ xre B n q = 11 ∧ xfi (d 1) (d 0 3) (xY B n q) = -1) ∨ (xnm B n q d = 3 ∧ xre B n q = 11 ∧ xfi (d 1) (d 0 3) (xY B n q) ≠ -1) ∨ (xnm B n q d = 1 ∧ xre B n q ≠ 11) := by
  unfold xnm
  split
  · split <;> omega
  · omega
theorem xsh_b : (xsh B n q d = 3 ∧ xK B n q = 2 ∧ xV B n q ≤ 23 ∧ d 13 (xV B n q).toNat > 0) ∨ (xsh B n q d = xh B n q 0 23 ∧ (xK B n q ≠ 2 ∨ 23 < xV B n q ∨ d 13 (xV B n q).toNat ≤ 0)) := by
  unfold xsh
  split <;> omega
theorem xdsex_v : xdsex B n q d 0 0 = d 0 0 ∧ xdsex B n q d 0 1 = d 0 1 ∧ xdsex B n q d 0 2 = d 0 2 ∧ xdsex B n q d 0 3 = d 0 3 ∧ xdsex B n q d 0 4 = d 0 4 ∧ xdsex B n q d 0 5 = d 0 5 ∧ xdsex B n q d 0 6 = d 0 6 ∧ xdsex B n q d 0 7 = d 0 7 ∧ xdsex B n q d 0 8 = xwho B n q d ∧ xsx (xdsex B n q d 0 8) = xsx (xwho B n q d) ∧ xcn (xdsex B n q d 13) 24 = xcn (d 13) 24 := ⟨rfl, rfl, rfl, rfl, rfl, rfl, rfl, rfl, rfl, rfl, rfl⟩
theorem xdsex_r (h : 1 ≤ i) : xdsex B n q d i = d i := by
  unfold xdsex
  rw [wq_u_row (by omega)]
end DROW2

section DPER

variable {T : wq_T} {H H' H0 : wq_H} {l : List (Nat × Nat)} {r p pa k : Nat} {d d' : xD} {B : Nat → Int} {n q y : Int} {M : wq_H}
theorem wq_u_nf {H2 : wq_H} {a b j : Nat} {z : Int} (e : H2 = wq_u H a j z) (h : b ≠ a) : H2 b = H b := by
  subst e
  funext i
  exact if_neg (fun q => h q.1)
theorem wq_u_tf {H2 : wq_H} {a b j t t' : Nat} {z : Int} (e : H2 = wq_u H a j z) (g : T.2.2.2 a = some t) (g' : T.2.2.2 b = some t') (h : t ≠ t') : H2 b = H b := by
  refine wq_u_nf e (fun q => ?_)
  subst q
  rw [g] at g'
  exact h (Option.some.inj g')
/-- bits by a matrix -/
def xM (d : xD) : wq_H := fun k j => xagf d k j (d 0 4).toNat
def PG (H : wq_H) (p : Nat) (d : xD) (M : wq_H) (k : Nat) : Prop := H p 6 = d 1 k ∧ H p 7 = d 2 k ∧ H p 8 = d 3 k ∧ H p 9 = d 4 k ∧ H p 10 = d 5 k ∧ H p 11 = d 6 k ∧ H p 12 = xhs (d 7 k) (d 8 k) ∧ H p 13 = d 9 k ∧ 0 ≤ H p 14 ∧ H p 14 ≤ 63 ∧ ∀ j : Nat, j < 6 → wq_and (wq_shr (H p 14) j) 1 = M k j
def DG (T : wq_T) (H : wq_H) (r : Nat) (d : xD) (M : wq_H) : Prop := ∀ k : Nat, (k : Int) < d 0 3 → ∃ p : Nat, H (H r 0).toNat k = (p : Int) ∧ T.2.2.2 p = some 35 ∧ PG H p d M k
theorem DG_fr (hW : WT T H) (g : T.2.2.2 r = some 27) (f : wfr l T H H') (x : DQx l = true) (h : DG T H r d M) : DG T H' r d M := by
  unfold DQx at x
  simp only [Bool.and_eq_true] at x
  intro k hk
  obtain ⟨p, h1, h2, h3⟩ := h k hk
  refine ⟨p, (pa_fr hW g f x.1.1 x.1.2 k).trans h1, h2, ?_⟩
  unfold PG
  rw [wno_f f h2 x.2 (j := 6) rfl, wno_f f h2 x.2 (j := 7) rfl, wno_f f h2 x.2 (j := 8) rfl, wno_f f h2 x.2 (j := 9) rfl, wno_f f h2 x.2 (j := 10) rfl, wno_f f h2 x.2 (j := 11) rfl, wno_f f h2 x.2 (j := 12) rfl, wno_f f h2 x.2 (j := 13) rfl, wno_f f h2 x.2 (j := 14) rfl]
  exact h3
theorem DG_at {s : Int} (h : DG T H r d M) (e0 : H r 0 = (pa : Int)) (e1 : H pa k = (p : Int)) (hk : (k : Int) < d 0 3) (h0 : 0 ≤ s) (h1 : s < 6) : wq_and (wq_shr (H p 14) s) 1 = M k s.toNat ∧ 0 ≤ H p 14 ∧ H p 14 ≤ 63 := by
  obtain ⟨p', h2, -, h3⟩ := h k hk
  rw [e0, Int.toNat_natCast, e1] at h2
  have : p = p' := by omega
  subst this
  have h4 := h3.2.2.2.2.2.2.2.2.2.2 s.toNat (by omega)
  rw [Int.toNat_of_nonneg h0] at h4
  exact ⟨h4, h3.2.2.2.2.2.2.2.2.1, h3.2.2.2.2.2.2.2.2.2.1⟩
theorem DG_put {v s : Int} (hW : WT T H) (g : T.2.2.2 r = some 27) (h : DG T H r d M) (dd : DD T H r) (e0 : H r 0 = (pa : Int)) (e1 : H pa k = (p : Int)) (gp : T.2.2.2 p = some 35) (hk : (k : Int) < d 0 3) (h6 : d 0 3 ≤ 6) (h0 : 0 ≤ s) (h1 : s < 6) (e : H' = wq_u H p 14 v) (hv : v = wq_or (H p 14) (wq_shl 1 s)) : DG T H' r d (wq_u M k s.toNat 1) := by
  intro j hj
  obtain ⟨p', h2, h3, h4⟩ := h j hj
  have er : H' r = H r := wq_u_tf e gp g (by decide)
  obtain ⟨pa', d1, d2, d3⟩ := dd
  have epa : pa' = pa := by omega
  subst epa
  have epa : H' pa' = H pa' := wq_u_tf e gp d2 (by decide)
  refine ⟨p', by rw [er, e0, Int.toNat_natCast, epa, ← h2, e0, Int.toNat_natCast], h3, ?_⟩
  rw [e0, Int.toNat_natCast] at h2
  by_cases hjk : j = k
  · subst hjk
    have : p' = p := by omega
    subst this
    have hb := ab_ok h4.2.2.2.2.2.2.2.2.1 h4.2.2.2.2.2.2.2.2.2.1 h0 h1
    subst e
    unfold PG
    rw [wq_u_eq, wq_u_ne (i := 6) (by omega), wq_u_ne (i := 7) (by omega), wq_u_ne (i := 8) (by omega), wq_u_ne (i := 9) (by omega), wq_u_ne (i := 10) (by omega), wq_u_ne (i := 11) (by omega), wq_u_ne (i := 12) (by omega), wq_u_ne (i := 13) (by omega), hv]
    refine ⟨h4.1, h4.2.1, h4.2.2.1, h4.2.2.2.1, h4.2.2.2.2.1, h4.2.2.2.2.2.1, h4.2.2.2.2.2.2.1, h4.2.2.2.2.2.2.2.1, hb.1, hb.2.1, fun i hi => ?_⟩
    rw [hb.2.2 i hi, h4.2.2.2.2.2.2.2.2.2.2 i hi]
    unfold wq_u
    by_cases hi2 : (i : Int) = s
    · rw [if_pos hi2, if_pos ⟨rfl, by omega⟩]
    · rw [if_neg hi2, if_neg (by omega)]
  · have hp : p' ≠ p := fun q => hjk (d3 j k (by omega) (by omega) (by rw [h2, e1, q]))
    unfold PG
    rw [wq_u_nf e hp]
    refine ⟨h4.1, h4.2.1, h4.2.2.1, h4.2.2.2.1, h4.2.2.2.2.1, h4.2.2.2.2.2.1, h4.2.2.2.2.2.2.1, h4.2.2.2.2.2.2.2.1, h4.2.2.2.2.2.2.2.2.1, h4.2.2.2.2.2.2.2.2.2.1, fun i hi => ?_⟩
    rw [h4.2.2.2.2.2.2.2.2.2.2 i hi]
    exact (wq_u_ne (by omega)).symm
theorem xac_M {a b : Int} (h0 : 0 ≤ a) (h1 : 0 ≤ b) : (a = b ∧ xac d a b = 3) ∨ (a ≠ b ∧ xM d a.toNat b.toNat = 0 ∧ xac d a b = 0) ∨ (a ≠ b ∧ xM d a.toNat b.toNat ≠ 0 ∧ xac d a b = 3) := by
  unfold xac xag xM
  rw [Int.toNat_of_nonneg h0, Int.toNat_of_nonneg h1]
  by_cases e : a = b
  · rw [if_pos e, if_neg (by omega)]
    exact Or.inl ⟨e, rfl⟩
  · rw [if_neg e]
    split <;> omega
theorem xagf_u {a b : Int} : ∀ m : Nat, (∀ i, i < m → d' 10 i = d 10 i ∧ d' 11 i = d 11 i) → xagf d' a b m = xagf d a b m
  | 0, _ => rfl
  | m + 1, h => by
    show (if (d' 10 m = a ∧ d' 11 m = b) ∨ (d' 10 m = b ∧ d' 11 m = a) then 1 else xagf d' a b m) = _
    rw [(h m (by omega)).1, (h m (by omega)).2, xagf_u m (fun i hi => h i (by omega))]
    rfl
theorem xagf_0 {a b : Int} : ∀ m : Nat, (∀ i, i < m → d 10 i ≠ a ∧ d 11 i ≠ a) → xagf d a b m = 0
  | 0, _ => rfl
  | m + 1, h => by
    have := h m (by omega)
    show (if (d 10 m = a ∧ d 11 m = b) ∨ (d 10 m = b ∧ d 11 m = a) then 1 else xagf d a b m) = _
    rw [if_neg (by omega)]
    exact xagf_0 m (fun i hi => h i (by omega))
theorem xdap_r {i : Nat} (h1 : 1 ≤ i) (h2 : i ≠ 10) (h3 : i ≠ 11) : xdap B n q d i = d i := by
  unfold xdap
  rw [wq_u_row (by omega), wq_u_row (by omega), wq_u_row (by omega)]
/-- a pair more -/
theorem DQ_ap {a b : Int} (hq : DQ T H0 r d) (h4 : 0 ≤ d 0 4) (ha : xwho B n q d = a) (hb : xwho B n (xN B n (xN B n q)) d = b) (a0 : 0 ≤ a) (a1 : a < d 0 3) (b0 : 0 ≤ b) (b1 : b < d 0 3) (h : DG T H r d (wq_u (wq_u (xM d) a.toNat b.toNat 1) b.toNat a.toNat 1)) : DQ T H r (xdap B n q d) := by
  have e10 : xdap B n q d 10 (d 0 4).toNat = a := by
    unfold xdap
    rw [ha, hb]
    simp [wq_u]
  have e11 : xdap B n q d 11 (d 0 4).toNat = b := by
    unfold xdap
    rw [ha, hb]
    simp [wq_u]
  have en : ∀ i, i ≠ (d 0 4).toNat → xdap B n q d 10 i = d 10 i ∧ xdap B n q d 11 i = d 11 i := fun i hi => by
    unfold xdap
    constructor <;> simp [wq_u, hi]
  have e4 : xdap B n q d 0 4 = d 0 4 + 1 := rfl
  have e3 : xdap B n q d 0 3 = d 0 3 := rfl
  refine ⟨fun k hk => ?_, fun k hk => ?_⟩
  · obtain ⟨p, h1, h2, h5⟩ := h k (by omega)
    refine ⟨p, h1, h2, ?_⟩
    unfold PF
    rw [xdap_r (i := 1) (by omega) (by omega) (by omega), xdap_r (i := 2) (by omega) (by omega) (by omega), xdap_r (i := 3) (by omega) (by omega) (by omega), xdap_r (i := 4) (by omega) (by omega) (by omega), xdap_r (i := 5) (by omega) (by omega) (by omega), xdap_r (i := 6) (by omega) (by omega) (by omega), xdap_r (i := 7) (by omega) (by omega) (by omega), xdap_r (i := 8) (by omega) (by omega) (by omega), xdap_r (i := 9) (by omega) (by omega) (by omega)]
    refine ⟨h5.1, h5.2.1, h5.2.2.1, h5.2.2.2.1, h5.2.2.2.2.1, h5.2.2.2.2.2.1, h5.2.2.2.2.2.2.1, h5.2.2.2.2.2.2.2.1, h5.2.2.2.2.2.2.2.2.1, h5.2.2.2.2.2.2.2.2.2.1, fun j hj => ?_⟩
    rw [h5.2.2.2.2.2.2.2.2.2.2 j hj, e4, show (d 0 4 + 1).toNat = (d 0 4).toNat + 1 by omega]
    show _ = (if (xdap B n q d 10 (d 0 4).toNat = k ∧ xdap B n q d 11 (d 0 4).toNat = j) ∨ (xdap B n q d 10 (d 0 4).toNat = j ∧ xdap B n q d 11 (d 0 4).toNat = k) then 1 else xagf (xdap B n q d) k j (d 0 4).toNat)
    rw [e10, e11, xagf_u (d := d) (d 0 4).toNat (fun i hi => en i (by omega))]
    unfold wq_u
    by_cases c1 : k = b.toNat ∧ j = a.toNat
    · rw [if_pos c1, if_pos (by omega)]
    · rw [if_neg c1]
      by_cases c2 : k = a.toNat ∧ j = b.toNat
      · rw [if_pos c2, if_pos (by omega)]
      · rw [if_neg c2, if_neg (by omega)]
        rfl
  · by_cases e : k = (d 0 4).toNat
    · subst e
      rw [e10, e11, e3]
      omega
    · rw [(en k e).1, (en k e).2, e3]
      exact hq.2 k (by omega)
/-- the person that is told of, not counted yet -/
def PK (T : wq_T) (H : wq_H) (r : Nat) (B : Nat → Int) (n y : Int) (d : xD) : Prop := ∃ p : Nat, H (H r 0).toNat (d 0 3).toNat = (p : Int) ∧ T.2.2.2 p = some 35 ∧ H p 6 = xY B n y ∧ H p 7 = xV B n (xN B n (xN B n y)) ∧ H p 8 = xV B n (xN B n (xN B n (xN B n (xN B n y)))) ∧ H p 9 = xV B n (xN B n (xN B n (xN B n (xN B n (xN B n (xN B n y)))))) ∧ H p 10 = xV B n (xN B n (xN B n (xN B n (xN B n (xN B n (xN B n (xN B n (xN B n y)))))))) ∧ H p 11 = -1 ∧ H p 12 = 0 ∧ H p 13 = 0 ∧ H p 14 = 0
theorem PK_k (h : PK T H r B n y d) (e0 : H r 0 = (pa : Int)) (e1 : H pa k = (p : Int)) (hk : (k : Int) = d 0 3) : H p 6 = xY B n y ∧ H p 7 = xV B n (xN B n (xN B n y)) ∧ H p 8 = xV B n (xN B n (xN B n (xN B n (xN B n y)))) ∧ H p 9 = xV B n (xN B n (xN B n (xN B n (xN B n (xN B n (xN B n y)))))) ∧ H p 10 = xV B n (xN B n (xN B n (xN B n (xN B n (xN B n (xN B n (xN B n (xN B n y)))))))) ∧ H p 11 = -1 ∧ H p 12 = 0 ∧ H p 13 = 0 ∧ H p 14 = 0 := by
  obtain ⟨p', h1, h2, h3⟩ := h
  rw [e0, Int.toNat_natCast, show (d 0 3).toNat = k by omega, e1] at h1
  have : p = p' := by omega
  subst this
  exact h3
/-- a person that isn't counted is written to -/
theorem DQ_oth (hW : WT T H) (g : T.2.2.2 r = some 27) (f : wfr l T H H') (x : (wno l 27 (fun j => decide (j = 0)) && wno l 28 (fun _ => true)) = true) (dd : DD T H r) (e0 : H' r 0 = (pa : Int)) (e1 : H' pa k = (p : Int)) (hk : (k : Int) = d 0 3) (h6 : d 0 3 ≤ 5) (oth : ∀ a, a ≠ p → T.2.2.2 a = some 35 → H' a = H a) (h : DQ T H r d) : DQ T H' r d := by
  simp only [Bool.and_eq_true] at x
  refine ⟨fun j hj => ?_, h.2⟩
  obtain ⟨p', h1, h2, h3⟩ := h.1 j hj
  have e2 := pa_fr hW g f x.1 x.2 k
  have e4 := pa_fr hW g f x.1 x.2 j
  rw [e0, Int.toNat_natCast, e1] at e2
  obtain ⟨pa', d1, d2, d3⟩ := dd
  have hp : p' ≠ p := fun q => by
    have h7 : H pa' j = H pa' k := by
      rw [d1, Int.toNat_natCast] at h1 e2
      rw [h1, ← e2, q]
    have := d3 j k (by omega) (by omega) h7
    omega
  refine ⟨p', e4.trans h1, h2, ?_⟩
  unfold PF
  rw [oth p' hp h2]
  exact h3
theorem xdper_r {i : Nat} (h1 : 10 ≤ i) : xdper B n q d i = d i := by
  unfold xdper
  rw [wq_u_row (by omega), wq_u_row (by omega), wq_u_row (by omega), wq_u_row (by omega), wq_u_row (by omega), wq_u_row (by omega), wq_u_row (by omega), wq_u_row (by omega), wq_u_row (by omega), wq_u_row (by omega)]
theorem xdper_k (hk : (k : Int) = d 0 3) : xdper B n q d 1 k = xY B n q ∧ xdper B n q d 2 k = xV B n (xN B n (xN B n q)) ∧ xdper B n q d 3 k = xV B n (xN B n (xN B n (xN B n (xN B n q)))) ∧ xdper B n q d 4 k = xV B n (xN B n (xN B n (xN B n (xN B n (xN B n (xN B n q)))))) ∧ xdper B n q d 5 k = xV B n (xN B n (xN B n (xN B n (xN B n (xN B n (xN B n (xN B n (xN B n q)))))))) ∧ xdper B n q d 6 k = xhb B n (xN B n (xN B n (xN B n (xN B n (xN B n (xN B n (xN B n (xN B n (xN B n q))))))))) ∧ xdper B n q d 7 k = xnf B n (xqa B n (xN B n (xN B n (xN B n (xN B n (xN B n (xN B n (xN B n (xN B n (xN B n q)))))))))) ∧ xdper B n q d 8 k = xnt B n (xqa B n (xN B n (xN B n (xN B n (xN B n (xN B n (xN B n (xN B n (xN B n (xN B n q)))))))))) ∧ xdper B n q d 9 k = xaw B n (xqb B n (xqa B n (xN B n (xN B n (xN B n (xN B n (xN B n (xN B n (xN B n (xN B n (xN B n q))))))))))) := by
  have e : (d 0 3).toNat = k := by omega
  unfold xdper
  rw [e]
  refine ⟨?_, ?_, ?_, ?_, ?_, ?_, ?_, ?_, ?_⟩ <;> simp [wq_u]
theorem xdper_n (hk : (k : Int) = d 0 3) {i j : Nat} (hi : 1 ≤ i) (hj : j ≠ k) : xdper B n q d i j = d i j := by
  have e : (d 0 3).toNat = k := by omega
  unfold xdper
  rw [e, wq_u_e2 (by omega), wq_u_e2 (by omega), wq_u_e2 (by omega), wq_u_e2 (by omega), wq_u_e2 (by omega), wq_u_e2 (by omega), wq_u_e2 (by omega), wq_u_e2 (by omega), wq_u_e2 (by omega), wq_u_e2 (by omega)]
/-- a person more -/
theorem DQ_per (gp : T.2.2.2 p = some 35) (h : DQ T H r d) (h4 : 0 ≤ d 0 4) (e0 : H r 0 = (pa : Int)) (e1 : H pa k = (p : Int)) (hk : (k : Int) = d 0 3) (hf : H p 6 = xdper B n q d 1 k ∧ H p 7 = xdper B n q d 2 k ∧ H p 8 = xdper B n q d 3 k ∧ H p 9 = xdper B n q d 4 k ∧ H p 10 = xdper B n q d 5 k ∧ H p 11 = xdper B n q d 6 k ∧ H p 12 = xhs (xdper B n q d 7 k) (xdper B n q d 8 k) ∧ H p 13 = xdper B n q d 9 k ∧ H p 14 = 0) : DQ T H r (xdper B n q d) := by
  have e3 : xdper B n q d 0 3 = d 0 3 + 1 := rfl
  have e4 : xdper B n q d 0 4 = d 0 4 := rfl
  have ea : ∀ i, i < (d 0 4).toNat → xdper B n q d 10 i = d 10 i ∧ xdper B n q d 11 i = d 11 i := fun i _ => ⟨by rw [xdper_r (by omega)], by rw [xdper_r (by omega)]⟩
  refine ⟨fun j hj => ?_, fun j hj => ?_⟩
  · by_cases hjk : j = k
    · subst hjk
      refine ⟨p, by rw [e0, Int.toNat_natCast]; exact e1, gp, ?_⟩
      obtain ⟨f1, f2, f3, f4, f5, f6, f7, f8, f9⟩ := hf
      refine ⟨f1, f2, f3, f4, f5, f6, f7, f8, by omega, by omega, fun i hi => ?_⟩
      rw [f9, ab_z hi, e4, xagf_u (d := d) _ ea]
      exact (xagf_0 _ (fun m hm => by have := h.2 m (by omega); omega)).symm
    · obtain ⟨p', h1, h2, h3⟩ := h.1 j (by omega)
      refine ⟨p', h1, h2, ?_⟩
      unfold PF
      rw [xdper_n hk (i := 1) (by omega) hjk, xdper_n hk (i := 2) (by omega) hjk, xdper_n hk (i := 3) (by omega) hjk, xdper_n hk (i := 4) (by omega) hjk, xdper_n hk (i := 5) (by omega) hjk, xdper_n hk (i := 6) (by omega) hjk, xdper_n hk (i := 7) (by omega) hjk, xdper_n hk (i := 8) (by omega) hjk, xdper_n hk (i := 9) (by omega) hjk, e4]
      refine ⟨h3.1, h3.2.1, h3.2.2.1, h3.2.2.2.1, h3.2.2.2.2.1, h3.2.2.2.2.2.1, h3.2.2.2.2.2.2.1, h3.2.2.2.2.2.2.2.1, h3.2.2.2.2.2.2.2.2.1, h3.2.2.2.2.2.2.2.2.2.1, fun i hi => ?_⟩
      rw [xagf_u (d := d) _ ea]
      exact h3.2.2.2.2.2.2.2.2.2.2 i hi
  · rw [(ea j (by omega)).1, (ea j (by omega)).2, e3]
    have := h.2 j (by omega)
    omega
theorem DQ_0 (h3 : d 0 3 ≤ 0) (h4 : d 0 4 ≤ 0) : DQ T H r d := ⟨fun k hk => by omega, fun k hk => by omega⟩
theorem DA_0 {S tg t n : Nat} {a b c : Int} {f : Nat → Int} (hW : WT T H) (g : T.2.2.2 r = some t) (hn : (wsh t).2 = n) (hS : S < n) (hty : wty t S = (2, a, b, tg)) (hc : c ≤ 0) : DA S tg T H r c f := by
  obtain ⟨b, h1, h2⟩ := hW.ref g hn hS hty
  exact ⟨b, h1, h2, fun k hk => by omega⟩
/-- no strokes, as far as i -/
def SZ (T : wq_T) (H : wq_H) (r : Nat) (i : Int) : Prop := ∃ s : Nat, H r 1 = (s : Int) ∧ T.2.2.2 s = some 29 ∧ ∀ k : Nat, (k : Int) < i → H s k = -2
theorem SZ_0 (hW : WT T H) (g : T.2.2.2 r = some 27) : SZ T H r 0 := by
  obtain ⟨b, h1, h2⟩ := hW.ref g (t' := 29) (n := 19) (j := 1) (p := 0) (q := 0) rfl (by decide) rfl
  exact ⟨b, h1, h2, fun k hk => by omega⟩
theorem SZ_put {s : Nat} {i v : Int} (h : SZ T H r i) (e0 : H r 1 = (s : Int)) (gr : T.2.2.2 r = some 27) (gs : T.2.2.2 s = some 29) (e : H' = wq_u H s k v) (hk : (k : Int) = i) (hv : v = -2) : SZ T H' r (i + 1) := by
  obtain ⟨s', h1, h2, h3⟩ := h
  have : s' = s := by omega
  subst this
  refine ⟨s', ?_, h2, fun j hj => ?_⟩
  · rw [wq_u_tf e gs gr (by decide)]
    exact h1
  · subst e
    by_cases hjk : j = k
    · subst hjk
      rw [wq_u_eq, hv]
    · rw [wq_u_ne (fun q => hjk q.2)]
      exact h3 j (by omega)
theorem ST_z {f : Nat → Int} {i : Int} (h : SZ T H r i) (hi : 24 ≤ i) (hf : ∀ k, k < 24 → f k = 0) : ST T H r f := by
  obtain ⟨s, h1, h2, h3⟩ := h
  refine ⟨s, h1, h2, fun k hk => ?_⟩
  rw [hf k hk, h3 k (by omega)]
  exact ⟨by omega, by omega, rfl⟩
theorem SV_z {f : Nat → Int} {i : Int} (hW : WT T H) (g : T.2.2.2 r = some 27) (hf : ∀ k, f k ≤ 0) : SV T H r f i := by
  obtain ⟨b, h1, h2⟩ := hW.ref g (t' := 30) (n := 19) (j := 2) (p := 0) (q := 0) rfl (by decide) rfl
  exact ⟨b, h1, h2, fun k hk hp => by have := hf k; omega⟩
end DPER
end
section
/-! RELATIONS (own work): the reference's token, its fault, what it has read -/
def TM (T : wq_T) (H : wq_H) (rb : Nat) (B : Nat → Int) : Prop := ∀ j, j < 900 → H rb j = B j
/-- its sorts -/
def xso (k : Int) : Int := if k = 0 then 1 else if k = 1 then 2 else if k = 2 then 3 else if k = 3 then 4 else if k = 4 then 4 else 0
theorem xso_e {k : Int} (h0 : 0 ≤ k) (h5 : k ≤ 5) : (k = 0 ∧ xso k = 1) ∨ (k = 1 ∧ xso k = 2) ∨ (k = 2 ∧ xso k = 3) ∨ (k = 3 ∧ xso k = 4) ∨ (k = 4 ∧ xso k = 4) ∨ (k = 5 ∧ xso k = 0) := by
  unfold xso
  omega
def RC (T : wq_T) (H : wq_H) (m : Nat) (B : Nat → Int) (n q : Int) : Prop := (∃ rb : Nat, H m 5 = (rb : Int) ∧ T.2.2.2 rb = some 43 ∧ TM T H rb B) ∧ H m 7 = n ∧ 0 ≤ q ∧ q ≤ n ∧ n ≤ 900 ∧ H m 13 = 0 ∧ H m 10 = q ∧ H m 9 = xso (xK B n q) ∧ (xK B n q = 5 ∨ H m 8 = xE B n q) ∧ (xK B n q = 1 → H m 15 = xY B n q) ∧ (xK B n q = 2 → H m 12 = xV B n q) ∧ (xK B n q = 3 → H m 11 = 59) ∧ (xK B n q = 4 → H m 11 = 44)
def RO (T : wq_T) (H : wq_H) (m : Nat) (f p : Int) : Prop := H m 9 = 5 ∧ H m 13 = f ∧ H m 14 = p ∧ 1 ≤ f
def TMx (l : List (Nat × Nat)) : Bool := wno l 43 (fun _ => true)
def RCx (l : List (Nat × Nat)) : Bool := wno l 43 (fun _ => true) && wno l 42 (fun j => decide (j = 5 ∨ 7 ≤ j ∧ j ≤ 13 ∨ j = 15))
def ROx (l : List (Nat × Nat)) : Bool := wno l 42 (fun j => decide (j = 9 ∨ j = 13 ∨ j = 14))
section RREL

variable {T : wq_T} {H H' : wq_H} {l : List (Nat × Nat)} {m rb : Nat} {B : Nat → Int} {n q f p : Int}
theorem TM_fr (hW : WT T H) (g : T.2.2.2 rb = some 43) (f : wfr l T H H') (x : TMx l = true) (h : TM T H rb B) : TM T H' rb B := fun j hj => (wno_f f g x rfl).trans (h j hj)
theorem RC_fr (hW : WT T H) (g : T.2.2.2 m = some 42) (f : wfr l T H H') (x : RCx l = true) (h : RC T H m B n q) : RC T H' m B n q := by
  unfold RCx at x
  simp only [Bool.and_eq_true] at x
  obtain ⟨⟨rb, h1, h2, h3⟩, h4⟩ := h
  refine ⟨⟨rb, (wno_f f g x.2 rfl).trans h1, h2, TM_fr hW h2 f x.1 h3⟩, ?_⟩
  rw [wno_f f g x.2 (j := 7) rfl, wno_f f g x.2 (j := 8) rfl, wno_f f g x.2 (j := 9) rfl, wno_f f g x.2 (j := 10) rfl, wno_f f g x.2 (j := 11) rfl, wno_f f g x.2 (j := 12) rfl, wno_f f g x.2 (j := 13) rfl, wno_f f g x.2 (j := 15) rfl]
  exact h4
theorem RO_fr {fo : Int} (hW : WT T H) (g : T.2.2.2 m = some 42) (f : wfr l T H H') (x : ROx l = true) (h : RO T H m fo p) : RO T H' m fo p := by
  unfold RO
  rw [wno_f f g x (j := 9) rfl, wno_f f g x (j := 13) rfl, wno_f f g x (j := 14) rfl]
  exact h
theorem RC_tm (h : RC T H m B n q) (e : H m 5 = (rb : Int)) : TM T H rb B := by
  obtain ⟨⟨r, h1, -, h3⟩, -⟩ := h
  have : r = rb := by omega
  subst this
  exact h3
theorem RC_k (h : RC T H m B n q) : H m 7 = n ∧ 0 ≤ q ∧ q ≤ n ∧ n ≤ 900 ∧ H m 13 = 0 ∧ H m 10 = q ∧ H m 9 = xso (xK B n q) ∧ xso (xK B n q) ≤ 4 ∧ q ≤ xN B n q ∧ xE B n q ≤ n := by
  obtain ⟨-, h1, h2, h3, h4, h5, h6, h7, h8⟩ := h
  have := @xN_b B n q h2 h3
  have := @xE_b B n q h2 h3
  have k := @xK_b B n q
  have := xso_e k.1 k.2
  exact ⟨h1, h2, h3, h4, h5, h6, h7, by omega, by omega, by omega⟩
theorem RC_s (h : RC T H m B n q) : (xK B n q = 0 ∧ xso (xK B n q) = 1) ∨ (xK B n q = 1 ∧ xso (xK B n q) = 2 ∧ H m 15 = xY B n q) ∨ (xK B n q = 2 ∧ xso (xK B n q) = 3 ∧ H m 12 = xV B n q ∧ 0 ≤ xV B n q ∧ xV B n q ≤ 999) ∨ (xK B n q = 3 ∧ xso (xK B n q) = 4 ∧ H m 11 = 59) ∨ (xK B n q = 4 ∧ xso (xK B n q) = 4 ∧ H m 11 = 44) ∨ (xK B n q = 5 ∧ xso (xK B n q) = 0) := by
  obtain ⟨-, h1, h2, h3, h4, h5, h6, h7, h8, h9, h10, h11, h12⟩ := h
  have k := @xK_b B n q
  rcases xso_e k.1 k.2 with a | a | a | a | a | a
  · exact Or.inl a
  · exact Or.inr (Or.inl ⟨a.1, a.2, h9 a.1⟩)
  · exact Or.inr (Or.inr (Or.inl ⟨a.1, a.2, h10 a.1, xV_b a.1⟩))
  · exact Or.inr (Or.inr (Or.inr (Or.inl ⟨a.1, a.2, h11 a.1⟩)))
  · exact Or.inr (Or.inr (Or.inr (Or.inr (Or.inl ⟨a.1, a.2, h12 a.1⟩))))
  · exact Or.inr (Or.inr (Or.inr (Or.inr (Or.inr a))))
theorem RC_e (h : RC T H m B n q) : (xK B n q = 0 ∧ q = n) ∨ (xK B n q ≠ 0 ∧ q < n ∧ q < xN B n q) := by
  obtain ⟨-, h1, h2, h3, -⟩ := h
  have := @xN_b B n q h2 h3
  have := @xK_0 B n q h2 h3
  omega
theorem RC_a (h : RC T H m B n q) : xK B n q = 5 ∨ H m 8 = xE B n q := by
  obtain ⟨-, h1, h2, h3, h4, h5, h6, h7, h8, -⟩ := h
  exact h8
theorem RC_mk (g0 : H m 5 = (rb : Int)) (gt : T.2.2.2 rb = some 43) (tp : TM T H rb B) (h : H m 7 = n ∧ 0 ≤ q ∧ q ≤ n ∧ n ≤ 900 ∧ H m 13 = 0 ∧ H m 10 = q) (hs : H m 9 = xso (xK B n q)) (ha : xK B n q = 5 ∨ H m 8 = xE B n q) (hy : xK B n q ≠ 1 ∨ H m 15 = xY B n q) (hv : xK B n q ≠ 2 ∨ H m 12 = xV B n q) (h3 : xK B n q ≠ 3 ∨ H m 11 = 59) (h4 : xK B n q ≠ 4 ∨ H m 11 = 44) : RC T H m B n q := ⟨⟨rb, g0, gt, tp⟩, h.1, h.2.1, h.2.2.1, h.2.2.2.1, h.2.2.2.2.1, h.2.2.2.2.2, hs, ha, fun e => hy.resolve_left (fun c => c e), fun e => hv.resolve_left (fun c => c e), fun e => h3.resolve_left (fun c => c e), fun e => h4.resolve_left (fun c => c e)⟩
theorem RO_k (h : RO T H m f p) : H m 9 = 5 ∧ H m 13 = f ∧ H m 14 = p ∧ 1 ≤ f := h
theorem RO_eq {f' p' : Int} (h : RO T H m f p) (e : f' = f) (e2 : p' = p) : RO T H m f' p' := by rw [e, e2]; exact h
/-- a byte as the reference sees it -/
theorem by_all : (List.range 256).all (fun i => decide (wq_and ((i : Int) - 128) 255 = if i < 128 then (i : Int) + 128 else (i : Int) - 128)) = true := by decide +kernel
theorem by_ok {x : Int} (h0 : -128 ≤ x) (h1 : x ≤ 127) : (0 ≤ x ∧ wq_and x 255 = x) ∨ (x < 0 ∧ wq_and x 255 = x + 256) := by
  have h := List.all_eq_true.mp by_all (x + 128).toNat (List.mem_range.mpr (by omega))
  simp only [decide_eq_true_eq] at h
  rw [show (((x + 128).toNat : Nat) : Int) - 128 = x by omega] at h
  split at h <;> omega
/-- bits of HOURS, one more -/
theorem hf_all : (List.range 25).all (fun a => (List.range 25).all (fun b => decide (b < a) || decide (24 ≤ b) || decide (wq_or (xhs a b) (wq_shl 1 b) = xhs a (b + 1)))) = true := by decide +kernel
theorem hf_ok {a b : Int} (h0 : 0 ≤ a) (h1 : a ≤ 24) (h2 : a ≤ b) (h3 : b < 24) : wq_or (xhs a b) (wq_shl 1 b) = xhs a (b + 1) := by
  have h := List.all_eq_true.mp (List.all_eq_true.mp hf_all a.toNat (List.mem_range.mpr (by omega))) b.toNat (List.mem_range.mpr (by omega))
  simp only [Bool.or_eq_true, decide_eq_true_eq, Int.toNat_of_nonneg h0, Int.toNat_of_nonneg (Int.le_trans h0 h2)] at h
  rcases h with (h | h) | h
  · omega
  · omega
  · exact h
theorem hf_0 : (List.range 25).all (fun a => decide (xhs a a = 0)) = true := by decide +kernel
theorem hf_z {a : Int} (h0 : 0 ≤ a) (h1 : a ≤ 24) : xhs a a = 0 := by
  have h := List.all_eq_true.mp hf_0 a.toNat (List.mem_range.mpr (by omega))
  simpa [Int.toNat_of_nonneg h0] using h
/-- which of the words that are no names -/
theorem xre_r : 0 ≤ xre B n q ∧ xre B n q ≤ 12 ∧ (xre B n q = 12 ∨ xK B n q = 1) := by
  have := @xre_b B n q
  omega
theorem xre_y (i K : Int) (h : xRK i.toNat = K) (h0 : 0 ≤ i ∧ i < 11) (hw : xw B n q K = 0) : xre B n q ≤ i ∧ xK B n q = 1 := by
  have h1 := @xw_b B n q K
  have h2 := @xre_le B n q i K h h0
  omega
theorem xre_n (i K : Int) (h : xRK i.toNat = K) (h0 : 0 ≤ i ∧ i < 11) (hw : xw B n q K = 1) : xre B n q ≠ i := by
  have h1 := @xw_b B n q K
  have h2 := @xre_at B n q i K h h0
  omega
end RREL
/-- an array that the reference has read, whole -/
def MA (S tg len : Nat) (T : wq_T) (H : wq_H) (R : Nat) (f : Nat → Int) : Prop := ∃ b : Nat, H R S = (b : Int) ∧ T.2.2.2 b = some tg ∧ ∀ k : Nat, k < len → H b k = f k
def MS (H : wq_H) (R m : Nat) (d : xD) : Prop := H R 0 = d 0 0 ∧ H R 1 = d 0 1 ∧ H R 2 = d 0 2 ∧ H R 3 = d 0 3 ∧ H R 4 = d 0 4 ∧ H R 5 = d 0 5 ∧ H R 6 = d 0 6 ∧ H R 7 = d 0 7 ∧ H R 8 = d 0 8 ∧ H m 16 = xcn (d 13) 24 ∧ -1 ≤ d 0 8 ∧ d 0 8 ≤ 5
abbrev MA9 := MA 9 55 6
abbrev MA10 := MA 10 56 6
abbrev MA11 := MA 11 57 6
abbrev MA12 := MA 12 58 6
abbrev MA13 := MA 13 59 6
abbrev MA14 := MA 14 60 6
abbrev MA15 := MA 15 61 6
abbrev MA16 := MA 16 62 6
abbrev MA17 := MA 17 63 6
abbrev MA18 := MA 18 64 3
abbrev MA19 := MA 19 65 3
abbrev MA20 := MA 20 66 3
abbrev MA21 := MA 21 67 24
abbrev MA22 := MA 22 68 4
abbrev MA23 := MA 23 69 4
abbrev MA25 := MA 25 71 6
abbrev MA26 := MA 26 72 6
/-- what is told of people lies between its bounds -/
def xdP (d : xD) : Prop := ∀ k : Nat, 0 ≤ d 2 k ∧ d 2 k ≤ d 3 k ∧ d 3 k ≤ d 2 k + 7 ∧ d 3 k ≤ 23 ∧ 0 ≤ d 4 k ∧ d 4 k ≤ d 5 k ∧ d 5 k ≤ d 4 k + 4 ∧ d 5 k ≤ 12 ∧ -1 ≤ d 6 k ∧ d 6 k ≤ 23 ∧ 0 ≤ d 7 k ∧ d 7 k ≤ d 8 k ∧ d 8 k ≤ 24 ∧ 0 ≤ d 9 k ∧ d 9 k ≤ 1
theorem xdP_0 : xdP xD0 := fun k => ⟨Int.le_refl _, Int.le_refl _, by show (0 : Int) ≤ 0 + 7; omega, by show (0 : Int) ≤ 23; omega, Int.le_refl _, Int.le_refl _, by show (0 : Int) ≤ 0 + 4; omega, by show (0 : Int) ≤ 12; omega, by show (-1 : Int) ≤ 0; omega, by show (0 : Int) ≤ 23; omega, Int.le_refl _, Int.le_refl _, by show (0 : Int) ≤ 24; omega, Int.le_refl _, by show (0 : Int) ≤ 1; omega⟩
theorem xdP_cg {d d' : xD} (h : xdP d) (e : ∀ i, 2 ≤ i → i ≤ 9 → d' i = d i) : xdP d' := fun k => by
  rw [e 2 (by omega) (by omega), e 3 (by omega) (by omega), e 4 (by omega) (by omega), e 5 (by omega) (by omega), e 6 (by omega) (by omega), e 7 (by omega) (by omega), e 8 (by omega) (by omega), e 9 (by omega) (by omega)]
  exact h k
def DM (T : wq_T) (H : wq_H) (R m : Nat) (d : xD) : Prop := T.2.2.2 m = some 42 ∧ MS H R m d ∧ xdP d ∧ MA9 T H R (d 1) ∧ MA10 T H R (d 2) ∧ MA11 T H R (d 3) ∧ MA12 T H R (d 4) ∧ MA13 T H R (d 5) ∧ MA14 T H R (d 6) ∧ MA15 T H R (d 7) ∧ MA16 T H R (d 8) ∧ MA17 T H R (d 9) ∧ MA18 T H R (d 10) ∧ MA19 T H R (d 11) ∧ MA20 T H R (d 12) ∧ MA21 T H R (d 13) ∧ MA22 T H R (d 14) ∧ MA23 T H R (d 15) ∧ MA25 T H R (d 17) ∧ MA26 T H R (d 16)
def MAx (S tg : Nat) (l : List (Nat × Nat)) : Bool := wno l 54 (fun j => decide (j = S)) && wno l tg (fun _ => true)
def DMx (l : List (Nat × Nat)) : Bool := wno l 42 (fun j => decide (j = 16)) && wno l 54 (fun j => decide (j ≤ 8)) && MAx 9 55 l && MAx 10 56 l && MAx 11 57 l && MAx 12 58 l && MAx 13 59 l && MAx 14 60 l && MAx 15 61 l && MAx 16 62 l && MAx 17 63 l && MAx 18 64 l && MAx 19 65 l && MAx 20 66 l && MAx 21 67 l && MAx 22 68 l && MAx 23 69 l && MAx 25 71 l && MAx 26 72 l
section MREL

variable {T : wq_T} {H H' : wq_H} {l : List (Nat × Nat)} {R m b k : Nat} {d d' : xD}
theorem MA_fr {S tg len : Nat} {f' : Nat → Int} (hW : WT T H) (g : T.2.2.2 R = some 54) (f : wfr l T H H') (x : MAx S tg l = true) (h : MA S tg len T H R f') : MA S tg len T H' R f' := by
  unfold MAx at x
  simp only [Bool.and_eq_true] at x
  obtain ⟨b, h1, h2, h3⟩ := h
  exact ⟨b, (wno_f f g x.1 (by simp)).trans h1, h2, fun k hk => (wno_f f h2 x.2 rfl).trans (h3 k hk)⟩
theorem MA9_fr {f' : Nat → Int} (hW : WT T H) (g : T.2.2.2 R = some 54) (f : wfr l T H H') (x : MAx 9 55 l = true) (h : MA9 T H R f') : MA9 T H' R f' := MA_fr hW g f x h
theorem MA10_fr {f' : Nat → Int} (hW : WT T H) (g : T.2.2.2 R = some 54) (f : wfr l T H H') (x : MAx 10 56 l = true) (h : MA10 T H R f') : MA10 T H' R f' := MA_fr hW g f x h
theorem MA11_fr {f' : Nat → Int} (hW : WT T H) (g : T.2.2.2 R = some 54) (f : wfr l T H H') (x : MAx 11 57 l = true) (h : MA11 T H R f') : MA11 T H' R f' := MA_fr hW g f x h
theorem MA12_fr {f' : Nat → Int} (hW : WT T H) (g : T.2.2.2 R = some 54) (f : wfr l T H H') (x : MAx 12 58 l = true) (h : MA12 T H R f') : MA12 T H' R f' := MA_fr hW g f x h
theorem MA13_fr {f' : Nat → Int} (hW : WT T H) (g : T.2.2.2 R = some 54) (f : wfr l T H H') (x : MAx 13 59 l = true) (h : MA13 T H R f') : MA13 T H' R f' := MA_fr hW g f x h
theorem MA14_fr {f' : Nat → Int} (hW : WT T H) (g : T.2.2.2 R = some 54) (f : wfr l T H H') (x : MAx 14 60 l = true) (h : MA14 T H R f') : MA14 T H' R f' := MA_fr hW g f x h
theorem MA15_fr {f' : Nat → Int} (hW : WT T H) (g : T.2.2.2 R = some 54) (f : wfr l T H H') (x : MAx 15 61 l = true) (h : MA15 T H R f') : MA15 T H' R f' := MA_fr hW g f x h
theorem MA16_fr {f' : Nat → Int} (hW : WT T H) (g : T.2.2.2 R = some 54) (f : wfr l T H H') (x : MAx 16 62 l = true) (h : MA16 T H R f') : MA16 T H' R f' := MA_fr hW g f x h
theorem MA17_fr {f' : Nat → Int} (hW : WT T H) (g : T.2.2.2 R = some 54) (f : wfr l T H H') (x : MAx 17 63 l = true) (h : MA17 T H R f') : MA17 T H' R f' := MA_fr hW g f x h
theorem MA18_fr {f' : Nat → Int} (hW : WT T H) (g : T.2.2.2 R = some 54) (f : wfr l T H H') (x : MAx 18 64 l = true) (h : MA18 T H R f') : MA18 T H' R f' := MA_fr hW g f x h
theorem MA19_fr {f' : Nat → Int} (hW : WT T H) (g : T.2.2.2 R = some 54) (f : wfr l T H H') (x : MAx 19 65 l = true) (h : MA19 T H R f') : MA19 T H' R f' := MA_fr hW g f x h
theorem MA20_fr {f' : Nat → Int} (hW : WT T H) (g : T.2.2.2 R = some 54) (f : wfr l T H H') (x : MAx 20 66 l = true) (h : MA20 T H R f') : MA20 T H' R f' := MA_fr hW g f x h
theorem MA21_fr {f' : Nat → Int} (hW : WT T H) (g : T.2.2.2 R = some 54) (f : wfr l T H H') (x : MAx 21 67 l = true) (h : MA21 T H R f') : MA21 T H' R f' := MA_fr hW g f x h
theorem MA22_fr {f' : Nat → Int} (hW : WT T H) (g : T.2.2.2 R = some 54) (f : wfr l T H H') (x : MAx 22 68 l = true) (h : MA22 T H R f') : MA22 T H' R f' := MA_fr hW g f x h
theorem MA23_fr {f' : Nat → Int} (hW : WT T H) (g : T.2.2.2 R = some 54) (f : wfr l T H H') (x : MAx 23 69 l = true) (h : MA23 T H R f') : MA23 T H' R f' := MA_fr hW g f x h
theorem MA25_fr {f' : Nat → Int} (hW : WT T H) (g : T.2.2.2 R = some 54) (f : wfr l T H H') (x : MAx 25 71 l = true) (h : MA25 T H R f') : MA25 T H' R f' := MA_fr hW g f x h
theorem MA26_fr {f' : Nat → Int} (hW : WT T H) (g : T.2.2.2 R = some 54) (f : wfr l T H H') (x : MAx 26 72 l = true) (h : MA26 T H R f') : MA26 T H' R f' := MA_fr hW g f x h
theorem DM_fr (hW : WT T H) (g : T.2.2.2 R = some 54) (f : wfr l T H H') (x : DMx l = true) (h : DM T H R m d) : DM T H' R m d := by
  unfold DMx at x
  simp only [Bool.and_eq_true] at x
  obtain ⟨gm, hs, hp, hr⟩ := h
  refine ⟨gm, ?_, hp, ?_⟩
  · unfold MS
    rw [wno_f f g x.1.1.1.1.1.1.1.1.1.1.1.1.1.1.1.1.1.2 (j := 0) rfl, wno_f f g x.1.1.1.1.1.1.1.1.1.1.1.1.1.1.1.1.1.2 (j := 1) rfl, wno_f f g x.1.1.1.1.1.1.1.1.1.1.1.1.1.1.1.1.1.2 (j := 2) rfl, wno_f f g x.1.1.1.1.1.1.1.1.1.1.1.1.1.1.1.1.1.2 (j := 3) rfl, wno_f f g x.1.1.1.1.1.1.1.1.1.1.1.1.1.1.1.1.1.2 (j := 4) rfl, wno_f f g x.1.1.1.1.1.1.1.1.1.1.1.1.1.1.1.1.1.2 (j := 5) rfl, wno_f f g x.1.1.1.1.1.1.1.1.1.1.1.1.1.1.1.1.1.2 (j := 6) rfl, wno_f f g x.1.1.1.1.1.1.1.1.1.1.1.1.1.1.1.1.1.2 (j := 7) rfl, wno_f f g x.1.1.1.1.1.1.1.1.1.1.1.1.1.1.1.1.1.2 (j := 8) rfl, wno_f f gm x.1.1.1.1.1.1.1.1.1.1.1.1.1.1.1.1.1.1 (j := 16) rfl]
    exact hs
  · obtain ⟨h9, h10, h11, h12, h13, h14, h15, h16, h17, h18, h19, h20, h21, h22, h23, h25, h26⟩ := hr
    exact ⟨MA_fr hW g f x.1.1.1.1.1.1.1.1.1.1.1.1.1.1.1.1.2 h9, MA_fr hW g f x.1.1.1.1.1.1.1.1.1.1.1.1.1.1.1.2 h10, MA_fr hW g f x.1.1.1.1.1.1.1.1.1.1.1.1.1.1.2 h11, MA_fr hW g f x.1.1.1.1.1.1.1.1.1.1.1.1.1.2 h12, MA_fr hW g f x.1.1.1.1.1.1.1.1.1.1.1.1.2 h13, MA_fr hW g f x.1.1.1.1.1.1.1.1.1.1.1.2 h14, MA_fr hW g f x.1.1.1.1.1.1.1.1.1.1.2 h15, MA_fr hW g f x.1.1.1.1.1.1.1.1.1.2 h16, MA_fr hW g f x.1.1.1.1.1.1.1.1.2 h17, MA_fr hW g f x.1.1.1.1.1.1.1.2 h18, MA_fr hW g f x.1.1.1.1.1.1.2 h19, MA_fr hW g f x.1.1.1.1.1.2 h20, MA_fr hW g f x.1.1.1.1.2 h21, MA_fr hW g f x.1.1.1.2 h22, MA_fr hW g f x.1.1.2 h23, MA_fr hW g f x.1.2 h25, MA_fr hW g f x.2 h26⟩
theorem DM_k (h : DM T H R m d) : H R 0 = d 0 0 ∧ H R 1 = d 0 1 ∧ H R 2 = d 0 2 ∧ H R 3 = d 0 3 ∧ H R 4 = d 0 4 ∧ H R 5 = d 0 5 ∧ H R 6 = d 0 6 ∧ H R 7 = d 0 7 ∧ H R 8 = d 0 8 ∧ H m 16 = xcn (d 13) 24 ∧ -1 ≤ d 0 8 ∧ d 0 8 ≤ 5 := h.2.1
theorem DM_mk {f9 f10 f11 f12 f13 f14 f15 f16 f17 f18 f19 f20 f21 f22 f23 f25 f26 : Nat → Int} (g : T.2.2.2 m = some 42) (s : MS H R m d) (hp : xdP d) (a9 : MA9 T H R f9) (a10 : MA10 T H R f10) (a11 : MA11 T H R f11) (a12 : MA12 T H R f12) (a13 : MA13 T H R f13) (a14 : MA14 T H R f14) (a15 : MA15 T H R f15) (a16 : MA16 T H R f16) (a17 : MA17 T H R f17) (a18 : MA18 T H R f18) (a19 : MA19 T H R f19) (a20 : MA20 T H R f20) (a21 : MA21 T H R f21) (a22 : MA22 T H R f22) (a23 : MA23 T H R f23) (a25 : MA25 T H R f25) (a26 : MA26 T H R f26) (e : d 1 = f9 ∧ d 2 = f10 ∧ d 3 = f11 ∧ d 4 = f12 ∧ d 5 = f13 ∧ d 6 = f14 ∧ d 7 = f15 ∧ d 8 = f16 ∧ d 9 = f17 ∧ d 10 = f18 ∧ d 11 = f19 ∧ d 12 = f20 ∧ d 13 = f21 ∧ d 14 = f22 ∧ d 15 = f23 ∧ d 17 = f25 ∧ d 16 = f26) : DM T H R m d := by
  obtain ⟨e9, e10, e11, e12, e13, e14, e15, e16, e17, e18, e19, e20, e21, e22, e23, e25, e26⟩ := e
  unfold DM
  rw [e9, e10, e11, e12, e13, e14, e15, e16, e17, e18, e19, e20, e21, e22, e23, e25, e26]
  exact ⟨g, s, hp, a9, a10, a11, a12, a13, a14, a15, a16, a17, a18, a19, a20, a21, a22, a23, a25, a26⟩
theorem MA_at {S tg len : Nat} {f : Nat → Int} (h : MA S tg len T H R f) (e0 : H R S = (b : Int)) (hk : k < len) : H b k = f k := by
  obtain ⟨c, h1, -, h3⟩ := h
  have : c = b := by omega
  subst this
  exact h3 k hk
theorem MA_put {S tg len : Nat} {f f' : Nat → Int} {v : Int} (h : MA S tg len T H R f) (e0 : H R S = (b : Int)) (gr : T.2.2.2 R = some 54) (gb : T.2.2.2 b = some tg) (ne : tg ≠ 54) (e : H' = wq_u H b k v) (fk : f' k = v) (fn : ∀ j, j ≠ k → f' j = f j) : MA S tg len T H' R f' := by
  obtain ⟨c, h1, h2, h3⟩ := h
  have hb : c = b := by omega
  subst hb
  refine ⟨c, ?_, h2, fun j hj => ?_⟩
  · rw [wq_u_tf e gb gr ne]
    exact h1
  · by_cases hjk : j = k
    · subst hjk
      rw [e, wq_u_eq, fk]
    · rw [e, wq_u_ne (fun q => hjk q.2), fn j hjk]
      exact h3 j hj
end MREL
/-! outcomes, flat (own work) -/
theorem xs_xs {f q : Int} {k j : xO} : xs (xs f q k).1 (xs f q k).2.1 j = xs f q (xs k.1 k.2.1 j) := by
  unfold xs
  by_cases h : f = 0
  · rw [if_pos h, if_pos h]
  · rw [if_neg h, if_neg h]
    exact (if_neg h).symm
theorem xs_z {q p : Int} {j : xO} : xs ((0, q, p) : xO).1 ((0, q, p) : xO).2.1 j = j := rfl
theorem xagf_s {d : xD} {a b i : Int} (h : 0 ≤ i) : (((d 10 i.toNat = a ∧ d 11 i.toNat = b) ∨ (d 10 i.toNat = b ∧ d 11 i.toNat = a)) ∧ xagf d a b (i + 1).toNat = 1) ∨ (¬ ((d 10 i.toNat = a ∧ d 11 i.toNat = b) ∨ (d 10 i.toNat = b ∧ d 11 i.toNat = a)) ∧ xagf d a b (i + 1).toNat = xagf d a b i.toNat) := by
  rw [show (i + 1).toNat = i.toNat + 1 by omega]
  by_cases h1 : (d 10 i.toNat = a ∧ d 11 i.toNat = b) ∨ (d 10 i.toNat = b ∧ d 11 i.toNat = a)
  · exact Or.inl ⟨h1, if_pos h1⟩
  · exact Or.inr ⟨h1, if_neg h1⟩
/-- the pairs up to i, or one with itself -/
def xgg (d : xD) (a b : Int) (i : Int) : Int := if a = b then 1 else xagf d a b i.toNat
theorem xgg_0 {d : xD} {a b : Int} : (a = b ∧ xgg d a b 0 = 1) ∨ (a ≠ b ∧ xgg d a b 0 = 0) := by
  unfold xgg
  by_cases h : a = b
  · exact Or.inl ⟨h, if_pos h⟩
  · exact Or.inr ⟨h, if_neg h⟩
theorem xagf_01 {d : xD} {a b : Int} : ∀ n : Nat, xagf d a b n = 0 ∨ xagf d a b n = 1
  | 0 => Or.inl rfl
  | n + 1 => by
    show (if (d 10 n = a ∧ d 11 n = b) ∨ (d 10 n = b ∧ d 11 n = a) then 1 else xagf d a b n) = 0 ∨ _
    split
    · next h => exact Or.inr (if_pos h)
    · next h =>
      rw [show xagf d a b (n + 1) = xagf d a b n from if_neg h]
      exact xagf_01 n
theorem xgg_s {d : xD} {a b i : Int} (h : 0 ≤ i) : (xgg d a b i = 1 ∧ xgg d a b (i + 1) = 1) ∨ (xgg d a b i = 0 ∧ ((d 10 i.toNat = a ∧ d 11 i.toNat = b) ∨ (d 10 i.toNat = b ∧ d 11 i.toNat = a)) ∧ xgg d a b (i + 1) = 1) ∨ (xgg d a b i = 0 ∧ ¬ ((d 10 i.toNat = a ∧ d 11 i.toNat = b) ∨ (d 10 i.toNat = b ∧ d 11 i.toNat = a)) ∧ xgg d a b (i + 1) = 0) := by
  unfold xgg
  by_cases e : a = b
  · rw [if_pos e, if_pos e]
    exact Or.inl ⟨rfl, rfl⟩
  · rw [if_neg e, if_neg e]
    rcases xagf_s (d := d) (a := a) (b := b) h with h1 | h1
    · rcases xagf_01 (d := d) (a := a) (b := b) i.toNat with h2 | h2
      · exact Or.inr (Or.inl ⟨h2, h1⟩)
      · exact Or.inl ⟨h2, h1.2⟩
    · rcases xagf_01 (d := d) (a := a) (b := b) i.toNat with h2 | h2
      · exact Or.inr (Or.inr ⟨h2, h1.1, h1.2.trans h2⟩)
      · exact Or.inl ⟨h2, h1.2.trans h2⟩
theorem xac_g {d : xD} {a b : Int} {i : Int} (h : i = d 0 4) : (xgg d a b i = 0 ∧ xac d a b = 0) ∨ (xgg d a b i ≠ 0 ∧ xac d a b = 3) := by
  subst h
  unfold xac xag xgg
  by_cases e : a = b
  · rw [if_pos e]
    exact Or.inr ⟨by omega, rfl⟩
  · rw [if_neg e]
    split <;> omega
theorem xhf_24 {a b : Int} (hb : 24 ≤ b) : ∀ n : Nat, n ≤ 24 → xhf a b n = xhf a 24 n
  | 0, _ => rfl
  | n + 1, hn => by
    show xhf a b n + (if a ≤ n ∧ (n : Int) < b then 2 ^ n else 0) = xhf a 24 n + (if a ≤ n ∧ (n : Int) < 24 then 2 ^ n else 0)
    rw [xhf_24 hb n (by omega)]
    by_cases h : a ≤ n
    · rw [if_pos ⟨h, by omega⟩, if_pos ⟨h, by omega⟩]
    · rw [if_neg (fun c => h c.1), if_neg (fun c => h c.1)]
theorem xhs_24 {a b : Int} (hb : 24 ≤ b) : xhs a b = xhs a 24 := xhf_24 hb 24 (Nat.le_refl _)
section RST

variable {B : Nat → Int} {n q : Int} {d : xD}
theorem xcn_lo {f f' : Nat → Int} {k : Nat} (e : ∀ j, j ≠ k → f' j = f j) : ∀ m : Nat, m ≤ k → xcn f' m = xcn f m
  | 0, _ => rfl
  | m + 1, h => by
    show xcn f' m + (if f' m > 0 then 1 else 0) = xcn f m + (if f m > 0 then 1 else 0)
    rw [xcn_lo e m (by omega), e m (by omega)]
theorem xcn_up {f f' : Nat → Int} {k : Nat} (e : ∀ j, j ≠ k → f' j = f j) (h0 : f k ≤ 0) (h1 : f' k > 0) : ∀ m : Nat, k < m → xcn f' m = xcn f m + 1
  | 0, h => by omega
  | m + 1, h => by
    show xcn f' m + (if f' m > 0 then 1 else 0) = xcn f m + (if f m > 0 then 1 else 0) + 1
    by_cases hk : m = k
    · subst hk
      rw [xcn_lo e m (Nat.le_refl _), if_pos h1, if_neg (by omega)]
      omega
    · rw [xcn_up e h0 h1 m (by omega), e m hk]
      omega
theorem xdst_c {k : Nat} (hk : (k : Int) = xV B n q) : xdst B n q d 13 k = xV B n (xN B n (xN B n q)) + 1 ∧ ∀ j, j ≠ k → xdst B n q d 13 j = d 13 j := by
  have e : (xV B n q).toNat = k := by omega
  unfold xdst
  rw [e]
  exact ⟨by simp [wq_u], fun j hj => by simp [wq_u, hj]⟩
theorem xdst_v (h0 : 0 ≤ xV B n q ∧ xV B n q ≤ 23) (h1 : d 13 (xV B n q).toNat ≤ 0) (h2 : 0 ≤ xV B n (xN B n (xN B n q))) : xdst B n q d 0 0 = d 0 0 ∧ xdst B n q d 0 1 = d 0 1 ∧ xdst B n q d 0 2 = d 0 2 ∧ xdst B n q d 0 3 = d 0 3 ∧ xdst B n q d 0 4 = d 0 4 ∧ xdst B n q d 0 5 = d 0 5 ∧ xdst B n q d 0 6 = d 0 6 ∧ xdst B n q d 0 7 = d 0 7 ∧ xdst B n q d 0 8 = d 0 8 ∧ xcn (xdst B n q d 13) 24 = xcn (d 13) 24 + 1 := by
  have e := @xdst_c B n q d (xV B n q).toNat (by omega)
  exact ⟨rfl, rfl, rfl, rfl, rfl, rfl, rfl, rfl, rfl, xcn_up e.2 h1 (by omega) 24 (by omega)⟩
theorem xdap_c {k : Nat} (hk : (k : Int) = d 0 4) : xdap B n q d 10 k = xwho B n q d ∧ ∀ j, j ≠ k → xdap B n q d 10 j = d 10 j := by
  have e : (d 0 4).toNat = k := by omega
  unfold xdap
  rw [e]
  exact ⟨by simp [wq_u], fun j hj => by simp [wq_u, hj]⟩
theorem xdap_e {k : Nat} (hk : (k : Int) = d 0 4) : xdap B n q d 11 k = xwho B n (xN B n (xN B n q)) d ∧ ∀ j, j ≠ k → xdap B n q d 11 j = d 11 j := by
  have e : (d 0 4).toNat = k := by omega
  unfold xdap
  rw [e]
  exact ⟨by simp [wq_u], fun j hj => by simp [wq_u, hj]⟩
theorem xdP_per {k : Nat} (h : xdP d) (hk : (k : Int) = d 0 3) (e : 0 ≤ xdper B n q d 2 k ∧ xdper B n q d 2 k ≤ xdper B n q d 3 k ∧ xdper B n q d 3 k ≤ xdper B n q d 2 k + 7 ∧ xdper B n q d 3 k ≤ 23 ∧ 0 ≤ xdper B n q d 4 k ∧ xdper B n q d 4 k ≤ xdper B n q d 5 k ∧ xdper B n q d 5 k ≤ xdper B n q d 4 k + 4 ∧ xdper B n q d 5 k ≤ 12 ∧ -1 ≤ xdper B n q d 6 k ∧ xdper B n q d 6 k ≤ 23 ∧ 0 ≤ xdper B n q d 7 k ∧ xdper B n q d 7 k ≤ xdper B n q d 8 k ∧ xdper B n q d 8 k ≤ 24 ∧ 0 ≤ xdper B n q d 9 k ∧ xdper B n q d 9 k ≤ 1) : xdP (xdper B n q d) := fun j => by
  by_cases hj : j = k
  · subst hj
    exact e
  · rw [xdper_n hk (i := 2) (by omega) hj, xdper_n hk (i := 3) (by omega) hj, xdper_n hk (i := 4) (by omega) hj, xdper_n hk (i := 5) (by omega) hj, xdper_n hk (i := 6) (by omega) hj, xdper_n hk (i := 7) (by omega) hj, xdper_n hk (i := 8) (by omega) hj, xdper_n hk (i := 9) (by omega) hj]
    exact h j
theorem xdof_e {k : Nat} (hk : (k : Int) = d 0 7) : xdof B n q d 17 k = xwho B n q d ∧ ∀ j, j ≠ k → xdof B n q d 17 j = d 17 j := by
  have e : (d 0 7).toNat = k := by omega
  unfold xdof
  rw [e]
  exact ⟨by simp [wq_u], fun j hj => by simp [wq_u, hj]⟩
end RST
end
section
/-! THE TAPE (own work): what is fed -/
def xub (B : Nat → Int) (i z : Int) : Nat → Int := fun j => if j = i.toNat then z else B j
def xby (v s : Int) : Int := wq_i2b (wq_shr v s)
def xpk (B : Nat → Int) (t v : Int) : Nat → Nat → Int
  | 0 => B
  | i + 1 => xub (xpk B t v i) (t + i) (xby v (24 - 8 * i))
def xw5 (a b c d e : Int) (j : Nat) : Int := if j = 0 then a else if j = 1 then b else if j = 2 then c else if j = 3 then d else e
def xfk (B : Nat → Int) (t a b c d e : Int) : Nat → Nat → Int
  | 0 => B
  | k + 1 => xub (xfk B t a b c d e k) (t + k) (xby (xw5 a b c d e (k / 4)) (24 - 8 * (k % 4 : Nat)))
section TAPE

variable {T : wq_T} {H H' : wq_H} {rb k : Nat} {B : Nat → Int} {t v z s : Int} {i : Nat}
theorem TP_pk (h : TP T H rb (xpk B t v i)) (e : H' = wq_u H rb k z) (hk : (k : Int) = t + i) (hz : z = wq_i2b (wq_shr v s)) (hs : s = 24 - 8 * i) : TP T H' rb (xpk B t v (i + 1)) := fun j hj => by
  show H' rb j = if j = (t + i).toNat then xby v (24 - 8 * i) else xpk B t v i j
  rw [e]
  by_cases hjk : j = k
  · rw [hjk, wq_u_eq, if_pos (by omega), hz, hs]
    rfl
  · rw [wq_u_ne (fun q => hjk q.2), if_neg (by omega)]
    exact h j hj
theorem xfk_4 {a b c d e : Int} : xpk (xpk (xpk (xpk (xpk B t a 4) (t + 4) b 4) (t + 8) c 4) (t + 12) d 4) (t + 16) e 4 = xfk B t a b c d e 20 := by
  unfold xpk xpk xpk xpk xpk
  show _ = xub (xfk B t a b c d e 19) _ _
  simp only [xpk, xfk, Int.add_assoc]
  rfl
theorem TM_fk {a b c d e w sh : Int} (h : TM T H rb (xfk B t a b c d e i)) (e1 : H' = wq_u H rb k z) (hk : (k : Int) = t + i) (hz : z = wq_i2b (wq_shr w sh)) (hs : sh = 24 - 8 * (i % 4 : Nat)) (hw : w = xw5 a b c d e (i / 4)) : TM T H' rb (xfk B t a b c d e (i + 1)) := fun j hj => by
  show H' rb j = if j = (t + i).toNat then xby (xw5 a b c d e (i / 4)) (24 - 8 * (i % 4 : Nat)) else xfk B t a b c d e i j
  rw [e1]
  by_cases hjk : j = k
  · rw [hjk, wq_u_eq, if_pos (by omega), hz, hs, hw]
    rfl
  · rw [wq_u_ne (fun q => hjk q.2), if_neg (by omega)]
    exact h j hj
theorem xw5_e {a b c d e : Int} : (i / 4 = 0 ∧ xw5 a b c d e (i / 4) = a) ∨ (i / 4 = 1 ∧ xw5 a b c d e (i / 4) = b) ∨ (i / 4 = 2 ∧ xw5 a b c d e (i / 4) = c) ∨ (i / 4 = 3 ∧ xw5 a b c d e (i / 4) = d) ∨ (4 ≤ i / 4 ∧ xw5 a b c d e (i / 4) = e) := by
  unfold xw5
  repeat' split
  all_goals omega
end TAPE
end
