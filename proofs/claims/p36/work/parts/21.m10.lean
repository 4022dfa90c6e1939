/-! StrikeAwake.size(I)I -/
theorem e164 : wq_en 164 = some (0, 2, false, some FieldType.int) := rfl
theorem c164_0 : mc_cd 164 0 = some (.iload_n 1, 1) := by decide +kernel
theorem c164_1 : mc_cd 164 1 = some (.tableswitch 143 0 9 #[55, 63, 71, 79, 87, 95, 103, 111, 130, 138], 55) := by decide +kernel
theorem c164_56 : mc_cd 164 56 = some (.aload_n 0, 1) := by decide +kernel
theorem c164_57 : mc_cd 164 57 = some (.getfield 51, 3) := by decide +kernel
theorem c164_60 : mc_cd 164 60 = some (.getfield 96, 3) := by decide +kernel
theorem c164_63 : mc_cd 164 63 = some (.ireturn, 1) := by decide +kernel
theorem c164_64 : mc_cd 164 64 = some (.aload_n 0, 1) := by decide +kernel
theorem c164_65 : mc_cd 164 65 = some (.getfield 51, 3) := by decide +kernel
theorem c164_68 : mc_cd 164 68 = some (.getfield 327, 3) := by decide +kernel
theorem c164_71 : mc_cd 164 71 = some (.ireturn, 1) := by decide +kernel
theorem c164_72 : mc_cd 164 72 = some (.aload_n 0, 1) := by decide +kernel
theorem c164_73 : mc_cd 164 73 = some (.getfield 51, 3) := by decide +kernel
theorem c164_76 : mc_cd 164 76 = some (.getfield 330, 3) := by decide +kernel
theorem c164_79 : mc_cd 164 79 = some (.ireturn, 1) := by decide +kernel
theorem c164_80 : mc_cd 164 80 = some (.aload_n 0, 1) := by decide +kernel
theorem c164_81 : mc_cd 164 81 = some (.getfield 51, 3) := by decide +kernel
theorem c164_84 : mc_cd 164 84 = some (.getfield 295, 3) := by decide +kernel
theorem c164_87 : mc_cd 164 87 = some (.ireturn, 1) := by decide +kernel
theorem c164_88 : mc_cd 164 88 = some (.aload_n 0, 1) := by decide +kernel
theorem c164_89 : mc_cd 164 89 = some (.getfield 51, 3) := by decide +kernel
theorem c164_92 : mc_cd 164 92 = some (.getfield 333, 3) := by decide +kernel
theorem c164_95 : mc_cd 164 95 = some (.ireturn, 1) := by decide +kernel
theorem c164_96 : mc_cd 164 96 = some (.aload_n 0, 1) := by decide +kernel
theorem c164_97 : mc_cd 164 97 = some (.getfield 51, 3) := by decide +kernel
theorem c164_100 : mc_cd 164 100 = some (.getfield 336, 3) := by decide +kernel
theorem c164_103 : mc_cd 164 103 = some (.ireturn, 1) := by decide +kernel
theorem c164_104 : mc_cd 164 104 = some (.aload_n 0, 1) := by decide +kernel
theorem c164_105 : mc_cd 164 105 = some (.getfield 51, 3) := by decide +kernel
theorem c164_108 : mc_cd 164 108 = some (.getfield 339, 3) := by decide +kernel
theorem c164_111 : mc_cd 164 111 = some (.ireturn, 1) := by decide +kernel
theorem c164_112 : mc_cd 164 112 = some (.aload_n 0, 1) := by decide +kernel
theorem c164_113 : mc_cd 164 113 = some (.getfield 58, 3) := by decide +kernel
theorem c164_116 : mc_cd 164 116 = some (.ifCond .eq 13, 3) := by decide +kernel
theorem c164_119 : mc_cd 164 119 = some (.aload_n 0, 1) := by decide +kernel
theorem c164_120 : mc_cd 164 120 = some (.getfield 51, 3) := by decide +kernel
theorem c164_123 : mc_cd 164 123 = some (.getfield 342, 3) := by decide +kernel
theorem c164_126 : mc_cd 164 126 = some (.goto 4, 3) := by decide +kernel
theorem c164_129 : mc_cd 164 129 = some (.iconst 0, 1) := by decide +kernel
theorem c164_130 : mc_cd 164 130 = some (.ireturn, 1) := by decide +kernel
theorem c164_131 : mc_cd 164 131 = some (.aload_n 0, 1) := by decide +kernel
theorem c164_132 : mc_cd 164 132 = some (.getfield 51, 3) := by decide +kernel
theorem c164_135 : mc_cd 164 135 = some (.getfield 298, 3) := by decide +kernel
theorem c164_138 : mc_cd 164 138 = some (.ireturn, 1) := by decide +kernel
theorem c164_139 : mc_cd 164 139 = some (.aload_n 0, 1) := by decide +kernel
theorem c164_140 : mc_cd 164 140 = some (.getfield 62, 3) := by decide +kernel
theorem c164_143 : mc_cd 164 143 = some (.ireturn, 1) := by decide +kernel
theorem c164_144 : mc_cd 164 144 = some (.iconst (-1), 1) := by decide +kernel
theorem c164_145 : mc_cd 164 145 = some (.ireturn, 1) := by decide +kernel
