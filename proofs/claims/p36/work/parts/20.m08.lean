/-! StrikeAwake$Census.hasTold(LStrikeAwake$Parish;I)Z -/
theorem e134 : wq_en 134 = some (4, 7, false, some FieldType.boolean) := rfl
theorem c134_0 : mc_cd 134 0 = some (.aload_n 1, 1) := by decide +kernel
theorem c134_1 : mc_cd 134 1 = some (.getfield 144, 3) := by decide +kernel
theorem c134_4 : mc_cd 134 4 = some (.iload_n 2, 1) := by decide +kernel
theorem c134_5 : mc_cd 134 5 = some (.iaload, 1) := by decide +kernel
theorem c134_6 : mc_cd 134 6 = some (.istore_n 3, 1) := by decide +kernel
theorem c134_7 : mc_cd 134 7 = some (.aload_n 1, 1) := by decide +kernel
theorem c134_8 : mc_cd 134 8 = some (.getfield 147, 3) := by decide +kernel
theorem c134_11 : mc_cd 134 11 = some (.iload_n 2, 1) := by decide +kernel
theorem c134_12 : mc_cd 134 12 = some (.iaload, 1) := by decide +kernel
theorem c134_13 : mc_cd 134 13 = some (.istore 4, 2) := by decide +kernel
theorem c134_15 : mc_cd 134 15 = some (.aload_n 1, 1) := by decide +kernel
theorem c134_16 : mc_cd 134 16 = some (.getfield 78, 3) := by decide +kernel
theorem c134_19 : mc_cd 134 19 = some (.iload_n 3, 1) := by decide +kernel
theorem c134_20 : mc_cd 134 20 = some (.aaload, 1) := by decide +kernel
theorem c134_21 : mc_cd 134 21 = some (.astore 5, 2) := by decide +kernel
theorem c134_23 : mc_cd 134 23 = some (.iconst 0, 1) := by decide +kernel
theorem c134_24 : mc_cd 134 24 = some (.istore 6, 2) := by decide +kernel
theorem c134_26 : mc_cd 134 26 = some (.iload 6, 2) := by decide +kernel
theorem c134_28 : mc_cd 134 28 = some (.aload 5, 2) := by decide +kernel
theorem c134_30 : mc_cd 134 30 = some (.getfield 116, 3) := by decide +kernel
theorem c134_33 : mc_cd 134 33 = some (.if_icmp .ge 39, 3) := by decide +kernel
theorem c134_36 : mc_cd 134 36 = some (.aload_n 0, 1) := by decide +kernel
theorem c134_37 : mc_cd 134 37 = some (.getfield 17, 3) := by decide +kernel
theorem c134_40 : mc_cd 134 40 = some (.iload_n 3, 1) := by decide +kernel
theorem c134_41 : mc_cd 134 41 = some (.aaload, 1) := by decide +kernel
theorem c134_42 : mc_cd 134 42 = some (.iload 6, 2) := by decide +kernel
theorem c134_44 : mc_cd 134 44 = some (.iaload, 1) := by decide +kernel
theorem c134_45 : mc_cd 134 45 = some (.ifCond .le 21, 3) := by decide +kernel
theorem c134_48 : mc_cd 134 48 = some (.aload 5, 2) := by decide +kernel
theorem c134_50 : mc_cd 134 50 = some (.getfield 138, 3) := by decide +kernel
theorem c134_53 : mc_cd 134 53 = some (.iload 6, 2) := by decide +kernel
theorem c134_55 : mc_cd 134 55 = some (.iaload, 1) := by decide +kernel
theorem c134_56 : mc_cd 134 56 = some (.iload 4, 2) := by decide +kernel
theorem c134_58 : mc_cd 134 58 = some (.iand, 1) := by decide +kernel
theorem c134_59 : mc_cd 134 59 = some (.iload 4, 2) := by decide +kernel
theorem c134_61 : mc_cd 134 61 = some (.if_icmp .ne 5, 3) := by decide +kernel
theorem c134_64 : mc_cd 134 64 = some (.iconst 1, 1) := by decide +kernel
theorem c134_65 : mc_cd 134 65 = some (.ireturn, 1) := by decide +kernel
theorem c134_66 : mc_cd 134 66 = some (.iinc 6 1, 3) := by decide +kernel
theorem c134_69 : mc_cd 134 69 = some (.goto (-43), 3) := by decide +kernel
theorem c134_72 : mc_cd 134 72 = some (.iconst 0, 1) := by decide +kernel
theorem c134_73 : mc_cd 134 73 = some (.ireturn, 1) := by decide +kernel
/-! StrikeAwake.lie(I)I -/
theorem e132 : wq_en 132 = some (0, 3, false, some FieldType.int) := rfl
theorem c132_0 : mc_cd 132 0 = some (.aload_n 0, 1) := by decide +kernel
theorem c132_1 : mc_cd 132 1 = some (.aload_n 0, 1) := by decide +kernel
theorem c132_2 : mc_cd 132 2 = some (.iload_n 1, 1) := by decide +kernel
theorem c132_3 : mc_cd 132 3 = some (.invokevirtual 238, 3) := by decide +kernel
theorem c132_6 : mc_cd 132 6 = some (.invokevirtual 174, 3) := by decide +kernel
theorem c132_9 : mc_cd 132 9 = some (.istore_n 2, 1) := by decide +kernel
theorem c132_10 : mc_cd 132 10 = some (.iload_n 2, 1) := by decide +kernel
theorem c132_11 : mc_cd 132 11 = some (.ifCond .eq 9, 3) := by decide +kernel
theorem c132_14 : mc_cd 132 14 = some (.aload_n 0, 1) := by decide +kernel
theorem c132_15 : mc_cd 132 15 = some (.iload_n 2, 1) := by decide +kernel
theorem c132_16 : mc_cd 132 16 = some (.invokevirtual 70, 3) := by decide +kernel
theorem c132_19 : mc_cd 132 19 = some (.ireturn, 1) := by decide +kernel
theorem c132_20 : mc_cd 132 20 = some (.aload_n 0, 1) := by decide +kernel
theorem c132_21 : mc_cd 132 21 = some (.aload_n 0, 1) := by decide +kernel
theorem c132_22 : mc_cd 132 22 = some (.getfield 30, 3) := by decide +kernel
theorem c132_25 : mc_cd 132 25 = some (.aload_n 0, 1) := by decide +kernel
theorem c132_26 : mc_cd 132 26 = some (.getfield 51, 3) := by decide +kernel
theorem c132_29 : mc_cd 132 29 = some (.iload_n 1, 1) := by decide +kernel
theorem c132_30 : mc_cd 132 30 = some (.invokevirtual 241, 3) := by decide +kernel
theorem c132_33 : mc_cd 132 33 = some (.ifCond .eq 7, 3) := by decide +kernel
theorem c132_36 : mc_cd 132 36 = some (.iconst 0, 1) := by decide +kernel
theorem c132_37 : mc_cd 132 37 = some (.goto 4, 3) := by decide +kernel
theorem c132_40 : mc_cd 132 40 = some (.iconst 1, 1) := by decide +kernel
theorem c132_41 : mc_cd 132 41 = some (.invokevirtual 99, 3) := by decide +kernel
theorem c132_44 : mc_cd 132 44 = some (.ireturn, 1) := by decide +kernel
/-! StrikeAwake$Grounds.barringHour(LStrikeAwake$Parish;LStrikeAwake$Walk;I)I -/
theorem e136 : wq_en 136 = some (6, 10, false, some FieldType.int) := rfl
theorem c136_0 : mc_cd 136 0 = some (.aload_n 1, 1) := by decide +kernel
theorem c136_1 : mc_cd 136 1 = some (.getfield 15, 3) := by decide +kernel
theorem c136_4 : mc_cd 136 4 = some (.aload_n 1, 1) := by decide +kernel
theorem c136_5 : mc_cd 136 5 = some (.getfield 21, 3) := by decide +kernel
theorem c136_8 : mc_cd 136 8 = some (.iload_n 3, 1) := by decide +kernel
theorem c136_9 : mc_cd 136 9 = some (.iaload, 1) := by decide +kernel
theorem c136_10 : mc_cd 136 10 = some (.aaload, 1) := by decide +kernel
theorem c136_11 : mc_cd 136 11 = some (.astore 4, 2) := by decide +kernel
theorem c136_13 : mc_cd 136 13 = some (.aload_n 1, 1) := by decide +kernel
theorem c136_14 : mc_cd 136 14 = some (.getfield 25, 3) := by decide +kernel
theorem c136_17 : mc_cd 136 17 = some (.iload_n 3, 1) := by decide +kernel
theorem c136_18 : mc_cd 136 18 = some (.iaload, 1) := by decide +kernel
theorem c136_19 : mc_cd 136 19 = some (.istore 5, 2) := by decide +kernel
theorem c136_21 : mc_cd 136 21 = some (.sipush (-1000), 3) := by decide +kernel
theorem c136_24 : mc_cd 136 24 = some (.istore 6, 2) := by decide +kernel
theorem c136_26 : mc_cd 136 26 = some (.aload_n 2, 1) := by decide +kernel
theorem c136_27 : mc_cd 136 27 = some (.aload_n 1, 1) := by decide +kernel
theorem c136_28 : mc_cd 136 28 = some (.invokevirtual 28, 3) := by decide +kernel
theorem c136_31 : mc_cd 136 31 = some (.iconst 0, 1) := by decide +kernel
theorem c136_32 : mc_cd 136 32 = some (.istore 7, 2) := by decide +kernel
theorem c136_34 : mc_cd 136 34 = some (.iload 7, 2) := by decide +kernel
theorem c136_36 : mc_cd 136 36 = some (.i2l, 1) := by decide +kernel
theorem c136_37 : mc_cd 136 37 = some (.aload_n 1, 1) := by decide +kernel
theorem c136_38 : mc_cd 136 38 = some (.getfield 34, 3) := by decide +kernel
theorem c136_41 : mc_cd 136 41 = some (.lcmp, 1) := by decide +kernel
theorem c136_42 : mc_cd 136 42 = some (.ifCond .ge 83, 3) := by decide +kernel
theorem c136_45 : mc_cd 136 45 = some (.iload 7, 2) := by decide +kernel
theorem c136_47 : mc_cd 136 47 = some (.sipush 20000, 3) := by decide +kernel
theorem c136_50 : mc_cd 136 50 = some (.if_icmp .ge 75, 3) := by decide +kernel
theorem c136_53 : mc_cd 136 53 = some (.aload 4, 2) := by decide +kernel
theorem c136_55 : mc_cd 136 55 = some (.getfield 38, 3) := by decide +kernel
theorem c136_58 : mc_cd 136 58 = some (.aload_n 2, 1) := by decide +kernel
theorem c136_59 : mc_cd 136 59 = some (.aload_n 1, 1) := by decide +kernel
theorem c136_60 : mc_cd 136 60 = some (.getfield 21, 3) := by decide +kernel
theorem c136_63 : mc_cd 136 63 = some (.iload_n 3, 1) := by decide +kernel
theorem c136_64 : mc_cd 136 64 = some (.iaload, 1) := by decide +kernel
theorem c136_65 : mc_cd 136 65 = some (.invokevirtual 43, 3) := by decide +kernel
theorem c136_68 : mc_cd 136 68 = some (.iaload, 1) := by decide +kernel
theorem c136_69 : mc_cd 136 69 = some (.istore 8, 2) := by decide +kernel
theorem c136_71 : mc_cd 136 71 = some (.aload_n 2, 1) := by decide +kernel
theorem c136_72 : mc_cd 136 72 = some (.invokevirtual 47, 3) := by decide +kernel
theorem c136_75 : mc_cd 136 75 = some (.ifCond .ne 39, 3) := by decide +kernel
theorem c136_78 : mc_cd 136 78 = some (.iload 8, 2) := by decide +kernel
theorem c136_80 : mc_cd 136 80 = some (.iload 5, 2) := by decide +kernel
theorem c136_82 : mc_cd 136 82 = some (.iand, 1) := by decide +kernel
theorem c136_83 : mc_cd 136 83 = some (.iload 5, 2) := by decide +kernel
theorem c136_85 : mc_cd 136 85 = some (.if_icmp .ne 29, 3) := by decide +kernel
theorem c136_88 : mc_cd 136 88 = some (.aload_n 2, 1) := by decide +kernel
theorem c136_89 : mc_cd 136 89 = some (.aload_n 1, 1) := by decide +kernel
theorem c136_90 : mc_cd 136 90 = some (.invokevirtual 51, 3) := by decide +kernel
theorem c136_93 : mc_cd 136 93 = some (.istore 9, 2) := by decide +kernel
theorem c136_95 : mc_cd 136 95 = some (.iload 9, 2) := by decide +kernel
theorem c136_97 : mc_cd 136 97 = some (.bipush 24, 2) := by decide +kernel
theorem c136_99 : mc_cd 136 99 = some (.if_icmp .ne 6, 3) := by decide +kernel
theorem c136_102 : mc_cd 136 102 = some (.bipush (-2), 2) := by decide +kernel
theorem c136_104 : mc_cd 136 104 = some (.ireturn, 1) := by decide +kernel
theorem c136_105 : mc_cd 136 105 = some (.iload 6, 2) := by decide +kernel
theorem c136_107 : mc_cd 136 107 = some (.iload 9, 2) := by decide +kernel
theorem c136_109 : mc_cd 136 109 = some (.invokestatic 55, 3) := by decide +kernel
theorem c136_112 : mc_cd 136 112 = some (.istore 6, 2) := by decide +kernel
theorem c136_114 : mc_cd 136 114 = some (.aload_n 2, 1) := by decide +kernel
theorem c136_115 : mc_cd 136 115 = some (.aload_n 1, 1) := by decide +kernel
theorem c136_116 : mc_cd 136 116 = some (.invokevirtual 61, 3) := by decide +kernel
theorem c136_119 : mc_cd 136 119 = some (.iinc 7 1, 3) := by decide +kernel
theorem c136_122 : mc_cd 136 122 = some (.goto (-88), 3) := by decide +kernel
theorem c136_125 : mc_cd 136 125 = some (.iload 6, 2) := by decide +kernel
theorem c136_127 : mc_cd 136 127 = some (.ireturn, 1) := by decide +kernel
/-! StrikeAwake.bars(I)I -/
theorem e135 : wq_en 135 = some (0, 3, false, some FieldType.int) := rfl
theorem c135_0 : mc_cd 135 0 = some (.aload_n 0, 1) := by decide +kernel
theorem c135_1 : mc_cd 135 1 = some (.aload_n 0, 1) := by decide +kernel
theorem c135_2 : mc_cd 135 2 = some (.iload_n 1, 1) := by decide +kernel
theorem c135_3 : mc_cd 135 3 = some (.invokevirtual 238, 3) := by decide +kernel
theorem c135_6 : mc_cd 135 6 = some (.invokevirtual 245, 3) := by decide +kernel
theorem c135_9 : mc_cd 135 9 = some (.istore_n 2, 1) := by decide +kernel
theorem c135_10 : mc_cd 135 10 = some (.iload_n 2, 1) := by decide +kernel
theorem c135_11 : mc_cd 135 11 = some (.ifCond .eq 9, 3) := by decide +kernel
theorem c135_14 : mc_cd 135 14 = some (.aload_n 0, 1) := by decide +kernel
theorem c135_15 : mc_cd 135 15 = some (.iload_n 2, 1) := by decide +kernel
theorem c135_16 : mc_cd 135 16 = some (.invokevirtual 70, 3) := by decide +kernel
theorem c135_19 : mc_cd 135 19 = some (.ireturn, 1) := by decide +kernel
theorem c135_20 : mc_cd 135 20 = some (.aload_n 0, 1) := by decide +kernel
theorem c135_21 : mc_cd 135 21 = some (.aload_n 0, 1) := by decide +kernel
theorem c135_22 : mc_cd 135 22 = some (.getfield 44, 3) := by decide +kernel
theorem c135_25 : mc_cd 135 25 = some (.aload_n 0, 1) := by decide +kernel
theorem c135_26 : mc_cd 135 26 = some (.getfield 51, 3) := by decide +kernel
theorem c135_29 : mc_cd 135 29 = some (.aload_n 0, 1) := by decide +kernel
theorem c135_30 : mc_cd 135 30 = some (.getfield 23, 3) := by decide +kernel
theorem c135_33 : mc_cd 135 33 = some (.iload_n 1, 1) := by decide +kernel
theorem c135_34 : mc_cd 135 34 = some (.invokevirtual 248, 3) := by decide +kernel
theorem c135_37 : mc_cd 135 37 = some (.invokevirtual 99, 3) := by decide +kernel
theorem c135_40 : mc_cd 135 40 = some (.ireturn, 1) := by decide +kernel
/-! StrikeAwake$Grounds.flawsOf(LStrikeAwake$Parish;LStrikeAwake$Walk;)J -/
theorem e140 : wq_en 140 = some (6, 7, false, some FieldType.long) := rfl
theorem c140_0 : mc_cd 140 0 = some (.lconst 0, 1) := by decide +kernel
theorem c140_1 : mc_cd 140 1 = some (.lstore_n 2, 1) := by decide +kernel
theorem c140_2 : mc_cd 140 2 = some (.iconst 0, 1) := by decide +kernel
theorem c140_3 : mc_cd 140 3 = some (.istore 4, 2) := by decide +kernel
theorem c140_5 : mc_cd 140 5 = some (.iload 4, 2) := by decide +kernel
theorem c140_7 : mc_cd 140 7 = some (.aload_n 0, 1) := by decide +kernel
theorem c140_8 : mc_cd 140 8 = some (.getfield 88, 3) := by decide +kernel
theorem c140_11 : mc_cd 140 11 = some (.if_icmp .ge 64, 3) := by decide +kernel
theorem c140_14 : mc_cd 140 14 = some (.aload_n 0, 1) := by decide +kernel
theorem c140_15 : mc_cd 140 15 = some (.getfield 91, 3) := by decide +kernel
theorem c140_18 : mc_cd 140 18 = some (.iload 4, 2) := by decide +kernel
theorem c140_20 : mc_cd 140 20 = some (.iaload, 1) := by decide +kernel
theorem c140_21 : mc_cd 140 21 = some (.istore 5, 2) := by decide +kernel
theorem c140_23 : mc_cd 140 23 = some (.aload_n 0, 1) := by decide +kernel
theorem c140_24 : mc_cd 140 24 = some (.iload 5, 2) := by decide +kernel
theorem c140_26 : mc_cd 140 26 = some (.aload_n 1, 1) := by decide +kernel
theorem c140_27 : mc_cd 140 27 = some (.iload 5, 2) := by decide +kernel
theorem c140_29 : mc_cd 140 29 = some (.invokevirtual 94, 3) := by decide +kernel
theorem c140_32 : mc_cd 140 32 = some (.invokevirtual 97, 3) := by decide +kernel
theorem c140_35 : mc_cd 140 35 = some (.istore 6, 2) := by decide +kernel
theorem c140_37 : mc_cd 140 37 = some (.iload 6, 2) := by decide +kernel
theorem c140_39 : mc_cd 140 39 = some (.iconst 2, 1) := by decide +kernel
theorem c140_40 : mc_cd 140 40 = some (.if_icmp .ne 13, 3) := by decide +kernel
theorem c140_43 : mc_cd 140 43 = some (.lload_n 2, 1) := by decide +kernel
theorem c140_44 : mc_cd 140 44 = some (.lconst 1, 1) := by decide +kernel
theorem c140_45 : mc_cd 140 45 = some (.iload 5, 2) := by decide +kernel
theorem c140_47 : mc_cd 140 47 = some (.lshl, 1) := by decide +kernel
theorem c140_48 : mc_cd 140 48 = some (.lor, 1) := by decide +kernel
theorem c140_49 : mc_cd 140 49 = some (.lstore_n 2, 1) := by decide +kernel
theorem c140_50 : mc_cd 140 50 = some (.goto 19, 3) := by decide +kernel
theorem c140_53 : mc_cd 140 53 = some (.iload 6, 2) := by decide +kernel
theorem c140_55 : mc_cd 140 55 = some (.iconst 1, 1) := by decide +kernel
theorem c140_56 : mc_cd 140 56 = some (.if_icmp .ne 13, 3) := by decide +kernel
theorem c140_59 : mc_cd 140 59 = some (.lload_n 2, 1) := by decide +kernel
theorem c140_60 : mc_cd 140 60 = some (.lconst 1, 1) := by decide +kernel
theorem c140_61 : mc_cd 140 61 = some (.iload 5, 2) := by decide +kernel
theorem c140_63 : mc_cd 140 63 = some (.bipush 32, 2) := by decide +kernel
theorem c140_65 : mc_cd 140 65 = some (.iadd, 1) := by decide +kernel
theorem c140_66 : mc_cd 140 66 = some (.lshl, 1) := by decide +kernel
theorem c140_67 : mc_cd 140 67 = some (.lor, 1) := by decide +kernel
theorem c140_68 : mc_cd 140 68 = some (.lstore_n 2, 1) := by decide +kernel
theorem c140_69 : mc_cd 140 69 = some (.iinc 4 1, 3) := by decide +kernel
theorem c140_72 : mc_cd 140 72 = some (.goto (-67), 3) := by decide +kernel
theorem c140_75 : mc_cd 140 75 = some (.lload_n 2, 1) := by decide +kernel
theorem c140_76 : mc_cd 140 76 = some (.lreturn, 1) := by decide +kernel
/-! StrikeAwake$Grounds.gather(LStrikeAwake$Parish;LStrikeAwake$Walk;)V -/
theorem e139 : wq_en 139 = some (6, 4, false, none) := rfl
theorem c139_0 : mc_cd 139 0 = some (.aload_n 0, 1) := by decide +kernel
theorem c139_1 : mc_cd 139 1 = some (.iconst 0, 1) := by decide +kernel
theorem c139_2 : mc_cd 139 2 = some (.putfield 68, 3) := by decide +kernel
theorem c139_5 : mc_cd 139 5 = some (.aload_n 0, 1) := by decide +kernel
theorem c139_6 : mc_cd 139 6 = some (.iconst 0, 1) := by decide +kernel
theorem c139_7 : mc_cd 139 7 = some (.putfield 81, 3) := by decide +kernel
theorem c139_10 : mc_cd 139 10 = some (.aload_n 2, 1) := by decide +kernel
theorem c139_11 : mc_cd 139 11 = some (.aload_n 1, 1) := by decide +kernel
theorem c139_12 : mc_cd 139 12 = some (.invokevirtual 28, 3) := by decide +kernel
theorem c139_15 : mc_cd 139 15 = some (.iconst 0, 1) := by decide +kernel
theorem c139_16 : mc_cd 139 16 = some (.istore_n 3, 1) := by decide +kernel
theorem c139_17 : mc_cd 139 17 = some (.iload_n 3, 1) := by decide +kernel
theorem c139_18 : mc_cd 139 18 = some (.i2l, 1) := by decide +kernel
theorem c139_19 : mc_cd 139 19 = some (.aload_n 1, 1) := by decide +kernel
theorem c139_20 : mc_cd 139 20 = some (.getfield 34, 3) := by decide +kernel
theorem c139_23 : mc_cd 139 23 = some (.lcmp, 1) := by decide +kernel
theorem c139_24 : mc_cd 139 24 = some (.ifCond .ge 52, 3) := by decide +kernel
theorem c139_27 : mc_cd 139 27 = some (.iload_n 3, 1) := by decide +kernel
theorem c139_28 : mc_cd 139 28 = some (.sipush 5000, 3) := by decide +kernel
theorem c139_31 : mc_cd 139 31 = some (.if_icmp .ge 45, 3) := by decide +kernel
theorem c139_34 : mc_cd 139 34 = some (.aload_n 2, 1) := by decide +kernel
theorem c139_35 : mc_cd 139 35 = some (.invokevirtual 47, 3) := by decide +kernel
theorem c139_38 : mc_cd 139 38 = some (.ifCond .ne 27, 3) := by decide +kernel
theorem c139_41 : mc_cd 139 41 = some (.aload_n 0, 1) := by decide +kernel
theorem c139_42 : mc_cd 139 42 = some (.getfield 9, 3) := by decide +kernel
theorem c139_45 : mc_cd 139 45 = some (.aload_n 0, 1) := by decide +kernel
theorem c139_46 : mc_cd 139 46 = some (.getfield 68, 3) := by decide +kernel
theorem c139_49 : mc_cd 139 49 = some (.aload_n 1, 1) := by decide +kernel
theorem c139_50 : mc_cd 139 50 = some (.aload_n 2, 1) := by decide +kernel
theorem c139_51 : mc_cd 139 51 = some (.invokestatic 84, 3) := by decide +kernel
theorem c139_54 : mc_cd 139 54 = some (.lastore, 1) := by decide +kernel
theorem c139_55 : mc_cd 139 55 = some (.aload_n 0, 1) := by decide +kernel
theorem c139_56 : mc_cd 139 56 = some (.dup, 1) := by decide +kernel
theorem c139_57 : mc_cd 139 57 = some (.getfield 68, 3) := by decide +kernel
theorem c139_60 : mc_cd 139 60 = some (.iconst 1, 1) := by decide +kernel
theorem c139_61 : mc_cd 139 61 = some (.iadd, 1) := by decide +kernel
theorem c139_62 : mc_cd 139 62 = some (.putfield 68, 3) := by decide +kernel
theorem c139_65 : mc_cd 139 65 = some (.aload_n 2, 1) := by decide +kernel
theorem c139_66 : mc_cd 139 66 = some (.aload_n 1, 1) := by decide +kernel
theorem c139_67 : mc_cd 139 67 = some (.invokevirtual 61, 3) := by decide +kernel
theorem c139_70 : mc_cd 139 70 = some (.iinc 3 1, 3) := by decide +kernel
theorem c139_73 : mc_cd 139 73 = some (.goto (-56), 3) := by decide +kernel
theorem c139_76 : mc_cd 139 76 = some (.return_, 1) := by decide +kernel
/-! StrikeAwake$Grounds.isLeft(LStrikeAwake$Parish;JI)Z -/
theorem e143 : wq_en 143 = some (6, 6, false, some FieldType.boolean) := rfl
theorem c143_0 : mc_cd 143 0 = some (.lload_n 1, 1) := by decide +kernel
theorem c143_1 : mc_cd 143 1 = some (.l2i, 1) := by decide +kernel
theorem c143_2 : mc_cd 143 2 = some (.iload_n 3, 1) := by decide +kernel
theorem c143_3 : mc_cd 143 3 = some (.iand, 1) := by decide +kernel
theorem c143_4 : mc_cd 143 4 = some (.istore 4, 2) := by decide +kernel
theorem c143_6 : mc_cd 143 6 = some (.lload_n 1, 1) := by decide +kernel
theorem c143_7 : mc_cd 143 7 = some (.bipush 32, 2) := by decide +kernel
theorem c143_9 : mc_cd 143 9 = some (.lshr, 1) := by decide +kernel
theorem c143_10 : mc_cd 143 10 = some (.l2i, 1) := by decide +kernel
theorem c143_11 : mc_cd 143 11 = some (.iload_n 3, 1) := by decide +kernel
theorem c143_12 : mc_cd 143 12 = some (.iand, 1) := by decide +kernel
theorem c143_13 : mc_cd 143 13 = some (.istore 5, 2) := by decide +kernel
theorem c143_15 : mc_cd 143 15 = some (.iload 4, 2) := by decide +kernel
theorem c143_17 : mc_cd 143 17 = some (.ifCond .ne 19, 3) := by decide +kernel
theorem c143_20 : mc_cd 143 20 = some (.iload 5, 2) := by decide +kernel
theorem c143_22 : mc_cd 143 22 = some (.invokestatic 108, 3) := by decide +kernel
theorem c143_25 : mc_cd 143 25 = some (.aload_n 0, 1) := by decide +kernel
theorem c143_26 : mc_cd 143 26 = some (.getfield 113, 3) := by decide +kernel
theorem c143_29 : mc_cd 143 29 = some (.if_icmp .gt 7, 3) := by decide +kernel
theorem c143_32 : mc_cd 143 32 = some (.iconst 1, 1) := by decide +kernel
theorem c143_33 : mc_cd 143 33 = some (.goto 4, 3) := by decide +kernel
theorem c143_36 : mc_cd 143 36 = some (.iconst 0, 1) := by decide +kernel
theorem c143_37 : mc_cd 143 37 = some (.ireturn, 1) := by decide +kernel
/-! StrikeAwake$Grounds.leavesNone(LStrikeAwake$Parish;I)Z -/
theorem e142 : wq_en 142 = some (6, 4, false, some FieldType.boolean) := rfl
theorem c142_0 : mc_cd 142 0 = some (.aload_n 0, 1) := by decide +kernel
theorem c142_1 : mc_cd 142 1 = some (.getfield 81, 3) := by decide +kernel
theorem c142_4 : mc_cd 142 4 = some (.aload_n 0, 1) := by decide +kernel
theorem c142_5 : mc_cd 142 5 = some (.getfield 68, 3) := by decide +kernel
theorem c142_8 : mc_cd 142 8 = some (.if_icmp .ge 22, 3) := by decide +kernel
theorem c142_11 : mc_cd 142 11 = some (.aload_n 1, 1) := by decide +kernel
theorem c142_12 : mc_cd 142 12 = some (.aload_n 0, 1) := by decide +kernel
theorem c142_13 : mc_cd 142 13 = some (.getfield 9, 3) := by decide +kernel
theorem c142_16 : mc_cd 142 16 = some (.aload_n 0, 1) := by decide +kernel
theorem c142_17 : mc_cd 142 17 = some (.getfield 81, 3) := by decide +kernel
theorem c142_20 : mc_cd 142 20 = some (.laload, 1) := by decide +kernel
theorem c142_21 : mc_cd 142 21 = some (.iload_n 2, 1) := by decide +kernel
theorem c142_22 : mc_cd 142 22 = some (.invokestatic 104, 3) := by decide +kernel
theorem c142_25 : mc_cd 142 25 = some (.ifCond .eq 5, 3) := by decide +kernel
theorem c142_28 : mc_cd 142 28 = some (.iconst 0, 1) := by decide +kernel
theorem c142_29 : mc_cd 142 29 = some (.ireturn, 1) := by decide +kernel
theorem c142_30 : mc_cd 142 30 = some (.iconst 0, 1) := by decide +kernel
theorem c142_31 : mc_cd 142 31 = some (.istore_n 3, 1) := by decide +kernel
theorem c142_32 : mc_cd 142 32 = some (.iload_n 3, 1) := by decide +kernel
theorem c142_33 : mc_cd 142 33 = some (.aload_n 0, 1) := by decide +kernel
theorem c142_34 : mc_cd 142 34 = some (.getfield 68, 3) := by decide +kernel
theorem c142_37 : mc_cd 142 37 = some (.if_icmp .ge 30, 3) := by decide +kernel
theorem c142_40 : mc_cd 142 40 = some (.aload_n 1, 1) := by decide +kernel
theorem c142_41 : mc_cd 142 41 = some (.aload_n 0, 1) := by decide +kernel
theorem c142_42 : mc_cd 142 42 = some (.getfield 9, 3) := by decide +kernel
theorem c142_45 : mc_cd 142 45 = some (.iload_n 3, 1) := by decide +kernel
theorem c142_46 : mc_cd 142 46 = some (.laload, 1) := by decide +kernel
theorem c142_47 : mc_cd 142 47 = some (.iload_n 2, 1) := by decide +kernel
theorem c142_48 : mc_cd 142 48 = some (.invokestatic 104, 3) := by decide +kernel
theorem c142_51 : mc_cd 142 51 = some (.ifCond .eq 10, 3) := by decide +kernel
theorem c142_54 : mc_cd 142 54 = some (.aload_n 0, 1) := by decide +kernel
theorem c142_55 : mc_cd 142 55 = some (.iload_n 3, 1) := by decide +kernel
theorem c142_56 : mc_cd 142 56 = some (.putfield 81, 3) := by decide +kernel
theorem c142_59 : mc_cd 142 59 = some (.iconst 0, 1) := by decide +kernel
theorem c142_60 : mc_cd 142 60 = some (.ireturn, 1) := by decide +kernel
theorem c142_61 : mc_cd 142 61 = some (.iinc 3 1, 3) := by decide +kernel
theorem c142_64 : mc_cd 142 64 = some (.goto (-32), 3) := by decide +kernel
theorem c142_67 : mc_cd 142 67 = some (.iconst 1, 1) := by decide +kernel
theorem c142_68 : mc_cd 142 68 = some (.ireturn, 1) := by decide +kernel
/-! StrikeAwake$Grounds.oneHour(LStrikeAwake$Parish;)I -/
theorem e141 : wq_en 141 = some (6, 4, false, some FieldType.int) := rfl
theorem c141_0 : mc_cd 141 0 = some (.iconst 0, 1) := by decide +kernel
theorem c141_1 : mc_cd 141 1 = some (.istore_n 2, 1) := by decide +kernel
theorem c141_2 : mc_cd 141 2 = some (.iload_n 2, 1) := by decide +kernel
theorem c141_3 : mc_cd 141 3 = some (.aload_n 1, 1) := by decide +kernel
theorem c141_4 : mc_cd 141 4 = some (.getfield 88, 3) := by decide +kernel
theorem c141_7 : mc_cd 141 7 = some (.if_icmp .ge 29, 3) := by decide +kernel
theorem c141_10 : mc_cd 141 10 = some (.iconst 1, 1) := by decide +kernel
theorem c141_11 : mc_cd 141 11 = some (.aload_n 1, 1) := by decide +kernel
theorem c141_12 : mc_cd 141 12 = some (.getfield 91, 3) := by decide +kernel
theorem c141_15 : mc_cd 141 15 = some (.iload_n 2, 1) := by decide +kernel
theorem c141_16 : mc_cd 141 16 = some (.iaload, 1) := by decide +kernel
theorem c141_17 : mc_cd 141 17 = some (.ishl, 1) := by decide +kernel
theorem c141_18 : mc_cd 141 18 = some (.istore_n 3, 1) := by decide +kernel
theorem c141_19 : mc_cd 141 19 = some (.aload_n 0, 1) := by decide +kernel
theorem c141_20 : mc_cd 141 20 = some (.aload_n 1, 1) := by decide +kernel
theorem c141_21 : mc_cd 141 21 = some (.iload_n 3, 1) := by decide +kernel
theorem c141_22 : mc_cd 141 22 = some (.invokevirtual 100, 3) := by decide +kernel
theorem c141_25 : mc_cd 141 25 = some (.ifCond .eq 5, 3) := by decide +kernel
theorem c141_28 : mc_cd 141 28 = some (.iload_n 3, 1) := by decide +kernel
theorem c141_29 : mc_cd 141 29 = some (.ireturn, 1) := by decide +kernel
theorem c141_30 : mc_cd 141 30 = some (.iinc 2 1, 3) := by decide +kernel
theorem c141_33 : mc_cd 141 33 = some (.goto (-31), 3) := by decide +kernel
theorem c141_36 : mc_cd 141 36 = some (.bipush (-2), 2) := by decide +kernel
theorem c141_38 : mc_cd 141 38 = some (.ireturn, 1) := by decide +kernel
/-! StrikeAwake$Grounds.twoHours(LStrikeAwake$Parish;)I -/
theorem e144 : wq_en 144 = some (6, 5, false, some FieldType.int) := rfl
theorem c144_0 : mc_cd 144 0 = some (.iconst 1, 1) := by decide +kernel
theorem c144_1 : mc_cd 144 1 = some (.istore_n 2, 1) := by decide +kernel
theorem c144_2 : mc_cd 144 2 = some (.iload_n 2, 1) := by decide +kernel
theorem c144_3 : mc_cd 144 3 = some (.aload_n 1, 1) := by decide +kernel
theorem c144_4 : mc_cd 144 4 = some (.getfield 88, 3) := by decide +kernel
theorem c144_7 : mc_cd 144 7 = some (.if_icmp .ge 54, 3) := by decide +kernel
theorem c144_10 : mc_cd 144 10 = some (.iconst 0, 1) := by decide +kernel
theorem c144_11 : mc_cd 144 11 = some (.istore_n 3, 1) := by decide +kernel
theorem c144_12 : mc_cd 144 12 = some (.iload_n 3, 1) := by decide +kernel
theorem c144_13 : mc_cd 144 13 = some (.iload_n 2, 1) := by decide +kernel
theorem c144_14 : mc_cd 144 14 = some (.if_icmp .ge 41, 3) := by decide +kernel
theorem c144_17 : mc_cd 144 17 = some (.iconst 1, 1) := by decide +kernel
theorem c144_18 : mc_cd 144 18 = some (.aload_n 1, 1) := by decide +kernel
theorem c144_19 : mc_cd 144 19 = some (.getfield 91, 3) := by decide +kernel
theorem c144_22 : mc_cd 144 22 = some (.iload_n 2, 1) := by decide +kernel
theorem c144_23 : mc_cd 144 23 = some (.iaload, 1) := by decide +kernel
theorem c144_24 : mc_cd 144 24 = some (.ishl, 1) := by decide +kernel
theorem c144_25 : mc_cd 144 25 = some (.iconst 1, 1) := by decide +kernel
theorem c144_26 : mc_cd 144 26 = some (.aload_n 1, 1) := by decide +kernel
theorem c144_27 : mc_cd 144 27 = some (.getfield 91, 3) := by decide +kernel
theorem c144_30 : mc_cd 144 30 = some (.iload_n 3, 1) := by decide +kernel
theorem c144_31 : mc_cd 144 31 = some (.iaload, 1) := by decide +kernel
theorem c144_32 : mc_cd 144 32 = some (.ishl, 1) := by decide +kernel
theorem c144_33 : mc_cd 144 33 = some (.ior, 1) := by decide +kernel
theorem c144_34 : mc_cd 144 34 = some (.istore 4, 2) := by decide +kernel
theorem c144_36 : mc_cd 144 36 = some (.aload_n 0, 1) := by decide +kernel
theorem c144_37 : mc_cd 144 37 = some (.aload_n 1, 1) := by decide +kernel
theorem c144_38 : mc_cd 144 38 = some (.iload 4, 2) := by decide +kernel
theorem c144_40 : mc_cd 144 40 = some (.invokevirtual 100, 3) := by decide +kernel
theorem c144_43 : mc_cd 144 43 = some (.ifCond .eq 6, 3) := by decide +kernel
theorem c144_46 : mc_cd 144 46 = some (.iload 4, 2) := by decide +kernel
theorem c144_48 : mc_cd 144 48 = some (.ireturn, 1) := by decide +kernel
theorem c144_49 : mc_cd 144 49 = some (.iinc 3 1, 3) := by decide +kernel
theorem c144_52 : mc_cd 144 52 = some (.goto (-40), 3) := by decide +kernel
theorem c144_55 : mc_cd 144 55 = some (.iinc 2 1, 3) := by decide +kernel
theorem c144_58 : mc_cd 144 58 = some (.goto (-56), 3) := by decide +kernel
theorem c144_61 : mc_cd 144 61 = some (.bipush (-2), 2) := by decide +kernel
theorem c144_63 : mc_cd 144 63 = some (.ireturn, 1) := by decide +kernel
/-! StrikeAwake$Grounds.threeHours(LStrikeAwake$Parish;)I -/
theorem e145 : wq_en 145 = some (6, 7, false, some FieldType.int) := rfl
theorem c145_0 : mc_cd 145 0 = some (.iconst 2, 1) := by decide +kernel
theorem c145_1 : mc_cd 145 1 = some (.istore_n 2, 1) := by decide +kernel
theorem c145_2 : mc_cd 145 2 = some (.iload_n 2, 1) := by decide +kernel
theorem c145_3 : mc_cd 145 3 = some (.aload_n 1, 1) := by decide +kernel
theorem c145_4 : mc_cd 145 4 = some (.getfield 88, 3) := by decide +kernel
theorem c145_7 : mc_cd 145 7 = some (.if_icmp .ge 83, 3) := by decide +kernel
theorem c145_10 : mc_cd 145 10 = some (.iconst 1, 1) := by decide +kernel
theorem c145_11 : mc_cd 145 11 = some (.istore_n 3, 1) := by decide +kernel
theorem c145_12 : mc_cd 145 12 = some (.iload_n 3, 1) := by decide +kernel
theorem c145_13 : mc_cd 145 13 = some (.iload_n 2, 1) := by decide +kernel
theorem c145_14 : mc_cd 145 14 = some (.if_icmp .ge 70, 3) := by decide +kernel
theorem c145_17 : mc_cd 145 17 = some (.iconst 0, 1) := by decide +kernel
theorem c145_18 : mc_cd 145 18 = some (.istore 4, 2) := by decide +kernel
theorem c145_20 : mc_cd 145 20 = some (.iload 4, 2) := by decide +kernel
theorem c145_22 : mc_cd 145 22 = some (.iload_n 3, 1) := by decide +kernel
theorem c145_23 : mc_cd 145 23 = some (.if_icmp .ge 55, 3) := by decide +kernel
theorem c145_26 : mc_cd 145 26 = some (.iconst 1, 1) := by decide +kernel
theorem c145_27 : mc_cd 145 27 = some (.aload_n 1, 1) := by decide +kernel
theorem c145_28 : mc_cd 145 28 = some (.getfield 91, 3) := by decide +kernel
theorem c145_31 : mc_cd 145 31 = some (.iload_n 2, 1) := by decide +kernel
theorem c145_32 : mc_cd 145 32 = some (.iaload, 1) := by decide +kernel
theorem c145_33 : mc_cd 145 33 = some (.ishl, 1) := by decide +kernel
theorem c145_34 : mc_cd 145 34 = some (.iconst 1, 1) := by decide +kernel
theorem c145_35 : mc_cd 145 35 = some (.aload_n 1, 1) := by decide +kernel
theorem c145_36 : mc_cd 145 36 = some (.getfield 91, 3) := by decide +kernel
theorem c145_39 : mc_cd 145 39 = some (.iload_n 3, 1) := by decide +kernel
theorem c145_40 : mc_cd 145 40 = some (.iaload, 1) := by decide +kernel
theorem c145_41 : mc_cd 145 41 = some (.ishl, 1) := by decide +kernel
theorem c145_42 : mc_cd 145 42 = some (.ior, 1) := by decide +kernel
theorem c145_43 : mc_cd 145 43 = some (.istore 5, 2) := by decide +kernel
theorem c145_45 : mc_cd 145 45 = some (.iload 5, 2) := by decide +kernel
theorem c145_47 : mc_cd 145 47 = some (.iconst 1, 1) := by decide +kernel
theorem c145_48 : mc_cd 145 48 = some (.aload_n 1, 1) := by decide +kernel
theorem c145_49 : mc_cd 145 49 = some (.getfield 91, 3) := by decide +kernel
theorem c145_52 : mc_cd 145 52 = some (.iload 4, 2) := by decide +kernel
theorem c145_54 : mc_cd 145 54 = some (.iaload, 1) := by decide +kernel
theorem c145_55 : mc_cd 145 55 = some (.ishl, 1) := by decide +kernel
theorem c145_56 : mc_cd 145 56 = some (.ior, 1) := by decide +kernel
theorem c145_57 : mc_cd 145 57 = some (.istore 6, 2) := by decide +kernel
theorem c145_59 : mc_cd 145 59 = some (.aload_n 0, 1) := by decide +kernel
theorem c145_60 : mc_cd 145 60 = some (.aload_n 1, 1) := by decide +kernel
theorem c145_61 : mc_cd 145 61 = some (.iload 6, 2) := by decide +kernel
theorem c145_63 : mc_cd 145 63 = some (.invokevirtual 100, 3) := by decide +kernel
theorem c145_66 : mc_cd 145 66 = some (.ifCond .eq 6, 3) := by decide +kernel
theorem c145_69 : mc_cd 145 69 = some (.iload 6, 2) := by decide +kernel
theorem c145_71 : mc_cd 145 71 = some (.ireturn, 1) := by decide +kernel
theorem c145_72 : mc_cd 145 72 = some (.iinc 4 1, 3) := by decide +kernel
theorem c145_75 : mc_cd 145 75 = some (.goto (-55), 3) := by decide +kernel
theorem c145_78 : mc_cd 145 78 = some (.iinc 3 1, 3) := by decide +kernel
theorem c145_81 : mc_cd 145 81 = some (.goto (-69), 3) := by decide +kernel
theorem c145_84 : mc_cd 145 84 = some (.iinc 2 1, 3) := by decide +kernel
theorem c145_87 : mc_cd 145 87 = some (.goto (-85), 3) := by decide +kernel
theorem c145_90 : mc_cd 145 90 = some (.bipush (-2), 2) := by decide +kernel
theorem c145_92 : mc_cd 145 92 = some (.ireturn, 1) := by decide +kernel
/-! StrikeAwake$Grounds.fewestHours(LStrikeAwake$Parish;LStrikeAwake$Walk;)I -/
theorem e138 : wq_en 138 = some (6, 4, false, some FieldType.int) := rfl
theorem c138_0 : mc_cd 138 0 = some (.aload_n 0, 1) := by decide +kernel
theorem c138_1 : mc_cd 138 1 = some (.aload_n 1, 1) := by decide +kernel
theorem c138_2 : mc_cd 138 2 = some (.aload_n 2, 1) := by decide +kernel
theorem c138_3 : mc_cd 138 3 = some (.invokevirtual 64, 3) := by decide +kernel
theorem c138_6 : mc_cd 138 6 = some (.aload_n 0, 1) := by decide +kernel
theorem c138_7 : mc_cd 138 7 = some (.getfield 68, 3) := by decide +kernel
theorem c138_10 : mc_cd 138 10 = some (.ifCond .ne 5, 3) := by decide +kernel
theorem c138_13 : mc_cd 138 13 = some (.iconst 0, 1) := by decide +kernel
theorem c138_14 : mc_cd 138 14 = some (.ireturn, 1) := by decide +kernel
theorem c138_15 : mc_cd 138 15 = some (.aload_n 0, 1) := by decide +kernel
theorem c138_16 : mc_cd 138 16 = some (.aload_n 1, 1) := by decide +kernel
theorem c138_17 : mc_cd 138 17 = some (.invokevirtual 72, 3) := by decide +kernel
theorem c138_20 : mc_cd 138 20 = some (.istore_n 3, 1) := by decide +kernel
theorem c138_21 : mc_cd 138 21 = some (.iload_n 3, 1) := by decide +kernel
theorem c138_22 : mc_cd 138 22 = some (.bipush (-2), 2) := by decide +kernel
theorem c138_24 : mc_cd 138 24 = some (.if_icmp .ne 9, 3) := by decide +kernel
theorem c138_27 : mc_cd 138 27 = some (.aload_n 0, 1) := by decide +kernel
theorem c138_28 : mc_cd 138 28 = some (.aload_n 1, 1) := by decide +kernel
theorem c138_29 : mc_cd 138 29 = some (.invokevirtual 75, 3) := by decide +kernel
theorem c138_32 : mc_cd 138 32 = some (.istore_n 3, 1) := by decide +kernel
theorem c138_33 : mc_cd 138 33 = some (.iload_n 3, 1) := by decide +kernel
theorem c138_34 : mc_cd 138 34 = some (.bipush (-2), 2) := by decide +kernel
theorem c138_36 : mc_cd 138 36 = some (.if_icmp .ne 11, 3) := by decide +kernel
theorem c138_39 : mc_cd 138 39 = some (.aload_n 0, 1) := by decide +kernel
theorem c138_40 : mc_cd 138 40 = some (.aload_n 1, 1) := by decide +kernel
theorem c138_41 : mc_cd 138 41 = some (.invokevirtual 78, 3) := by decide +kernel
theorem c138_44 : mc_cd 138 44 = some (.goto 4, 3) := by decide +kernel
theorem c138_47 : mc_cd 138 47 = some (.iload_n 3, 1) := by decide +kernel
theorem c138_48 : mc_cd 138 48 = some (.ireturn, 1) := by decide +kernel
