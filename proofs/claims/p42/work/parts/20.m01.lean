/-! methods (own work, written by wip/gen2/sx.py) -/
/-! StrikeAwake$Tokens.begin([BI)V -/
theorem e15 : wq_en 15 = some (2, 3, false, none) := rfl
theorem c15_0 : mc_cd 15 0 = some (.aload_n 0, 1) := by decide +kernel
theorem c15_1 : mc_cd 15 1 = some (.aload_n 1, 1) := by decide +kernel
theorem c15_2 : mc_cd 15 2 = some (.putfield 7, 3) := by decide +kernel
theorem c15_5 : mc_cd 15 5 = some (.aload_n 0, 1) := by decide +kernel
theorem c15_6 : mc_cd 15 6 = some (.iload_n 2, 1) := by decide +kernel
theorem c15_7 : mc_cd 15 7 = some (.aload_n 1, 1) := by decide +kernel
theorem c15_8 : mc_cd 15 8 = some (.arraylength, 1) := by decide +kernel
theorem c15_9 : mc_cd 15 9 = some (.invokestatic 13, 3) := by decide +kernel
theorem c15_12 : mc_cd 15 12 = some (.putfield 19, 3) := by decide +kernel
theorem c15_15 : mc_cd 15 15 = some (.aload_n 0, 1) := by decide +kernel
theorem c15_16 : mc_cd 15 16 = some (.iconst 0, 1) := by decide +kernel
theorem c15_17 : mc_cd 15 17 = some (.putfield 23, 3) := by decide +kernel
theorem c15_20 : mc_cd 15 20 = some (.aload_n 0, 1) := by decide +kernel
theorem c15_21 : mc_cd 15 21 = some (.invokevirtual 26, 3) := by decide +kernel
theorem c15_24 : mc_cd 15 24 = some (.return_, 1) := by decide +kernel
/-! StrikeAwake$Tokens.isWord(Ljava/lang/String;)Z -/
theorem e19 : wq_en 19 = some (2, 5, false, some FieldType.boolean) := rfl
theorem c19_0 : mc_cd 19 0 = some (.aload_n 0, 1) := by decide +kernel
theorem c19_1 : mc_cd 19 1 = some (.getfield 41, 3) := by decide +kernel
theorem c19_4 : mc_cd 19 4 = some (.iconst 1, 1) := by decide +kernel
theorem c19_5 : mc_cd 19 5 = some (.if_icmp .eq 5, 3) := by decide +kernel
theorem c19_8 : mc_cd 19 8 = some (.iconst 0, 1) := by decide +kernel
theorem c19_9 : mc_cd 19 9 = some (.ireturn, 1) := by decide +kernel
theorem c19_10 : mc_cd 19 10 = some (.lconst 0, 1) := by decide +kernel
theorem c19_11 : mc_cd 19 11 = some (.lstore_n 2, 1) := by decide +kernel
theorem c19_12 : mc_cd 19 12 = some (.iconst 0, 1) := by decide +kernel
theorem c19_13 : mc_cd 19 13 = some (.istore 4, 2) := by decide +kernel
theorem c19_15 : mc_cd 19 15 = some (.iload 4, 2) := by decide +kernel
theorem c19_17 : mc_cd 19 17 = some (.aload_n 1, 1) := by decide +kernel
theorem c19_18 : mc_cd 19 18 = some (.invokevirtual 44, 3) := by decide +kernel
theorem c19_21 : mc_cd 19 21 = some (.if_icmp .ge 28, 3) := by decide +kernel
theorem c19_24 : mc_cd 19 24 = some (.lload_n 2, 1) := by decide +kernel
theorem c19_25 : mc_cd 19 25 = some (.ldc2_w 36, 3) := by decide +kernel
theorem c19_28 : mc_cd 19 28 = some (.lmul, 1) := by decide +kernel
theorem c19_29 : mc_cd 19 29 = some (.aload_n 1, 1) := by decide +kernel
theorem c19_30 : mc_cd 19 30 = some (.iload 4, 2) := by decide +kernel
theorem c19_32 : mc_cd 19 32 = some (.invokevirtual 49, 3) := by decide +kernel
theorem c19_35 : mc_cd 19 35 = some (.bipush 97, 2) := by decide +kernel
theorem c19_37 : mc_cd 19 37 = some (.isub, 1) := by decide +kernel
theorem c19_38 : mc_cd 19 38 = some (.iconst 1, 1) := by decide +kernel
theorem c19_39 : mc_cd 19 39 = some (.iadd, 1) := by decide +kernel
theorem c19_40 : mc_cd 19 40 = some (.i2l, 1) := by decide +kernel
theorem c19_41 : mc_cd 19 41 = some (.ladd, 1) := by decide +kernel
theorem c19_42 : mc_cd 19 42 = some (.lstore_n 2, 1) := by decide +kernel
theorem c19_43 : mc_cd 19 43 = some (.iinc 4 1, 3) := by decide +kernel
theorem c19_46 : mc_cd 19 46 = some (.goto (-31), 3) := by decide +kernel
theorem c19_49 : mc_cd 19 49 = some (.lload_n 2, 1) := by decide +kernel
theorem c19_50 : mc_cd 19 50 = some (.aload_n 0, 1) := by decide +kernel
theorem c19_51 : mc_cd 19 51 = some (.getfield 32, 3) := by decide +kernel
theorem c19_54 : mc_cd 19 54 = some (.lcmp, 1) := by decide +kernel
theorem c19_55 : mc_cd 19 55 = some (.ifCond .ne 7, 3) := by decide +kernel
theorem c19_58 : mc_cd 19 58 = some (.iconst 1, 1) := by decide +kernel
theorem c19_59 : mc_cd 19 59 = some (.goto 4, 3) := by decide +kernel
theorem c19_62 : mc_cd 19 62 = some (.iconst 0, 1) := by decide +kernel
theorem c19_63 : mc_cd 19 63 = some (.ireturn, 1) := by decide +kernel
/-! StrikeAwake$Reader.reserved()LStrikeAwake$Reserved; -/
theorem e18 : wq_en 18 = some (1, 2, false, some (FieldType.object "StrikeAwake$Reserved")) := rfl
theorem c18_0 : mc_cd 18 0 = some (.iconst 0, 1) := by decide +kernel
theorem c18_1 : mc_cd 18 1 = some (.istore_n 1, 1) := by decide +kernel
theorem c18_2 : mc_cd 18 2 = some (.iload_n 1, 1) := by decide +kernel
theorem c18_3 : mc_cd 18 3 = some (.getstatic 258, 3) := by decide +kernel
theorem c18_6 : mc_cd 18 6 = some (.arraylength, 1) := by decide +kernel
theorem c18_7 : mc_cd 18 7 = some (.if_icmp .ge 33, 3) := by decide +kernel
theorem c18_10 : mc_cd 18 10 = some (.aload_n 0, 1) := by decide +kernel
theorem c18_11 : mc_cd 18 11 = some (.getfield 12, 3) := by decide +kernel
theorem c18_14 : mc_cd 18 14 = some (.getstatic 258, 3) := by decide +kernel
theorem c18_17 : mc_cd 18 17 = some (.iload_n 1, 1) := by decide +kernel
theorem c18_18 : mc_cd 18 18 = some (.aaload, 1) := by decide +kernel
theorem c18_19 : mc_cd 18 19 = some (.getfield 181, 3) := by decide +kernel
theorem c18_22 : mc_cd 18 22 = some (.invokevirtual 185, 3) := by decide +kernel
theorem c18_25 : mc_cd 18 25 = some (.ifCond .eq 9, 3) := by decide +kernel
theorem c18_28 : mc_cd 18 28 = some (.getstatic 258, 3) := by decide +kernel
theorem c18_31 : mc_cd 18 31 = some (.iload_n 1, 1) := by decide +kernel
theorem c18_32 : mc_cd 18 32 = some (.aaload, 1) := by decide +kernel
theorem c18_33 : mc_cd 18 33 = some (.areturn, 1) := by decide +kernel
theorem c18_34 : mc_cd 18 34 = some (.iinc 1 1, 3) := by decide +kernel
theorem c18_37 : mc_cd 18 37 = some (.goto (-35), 3) := by decide +kernel
theorem c18_40 : mc_cd 18 40 = some (.aconst_null, 1) := by decide +kernel
theorem c18_41 : mc_cd 18 41 = some (.areturn, 1) := by decide +kernel
/-! StrikeAwake$Reader.fail(I)Z -/
theorem e20 : wq_en 20 = some (1, 2, false, some FieldType.boolean) := rfl
theorem c20_0 : mc_cd 20 0 = some (.aload_n 0, 1) := by decide +kernel
theorem c20_1 : mc_cd 20 1 = some (.iload_n 1, 1) := by decide +kernel
theorem c20_2 : mc_cd 20 2 = some (.putfield 18, 3) := by decide +kernel
theorem c20_5 : mc_cd 20 5 = some (.aload_n 0, 1) := by decide +kernel
theorem c20_6 : mc_cd 20 6 = some (.aload_n 0, 1) := by decide +kernel
theorem c20_7 : mc_cd 20 7 = some (.getfield 12, 3) := by decide +kernel
theorem c20_10 : mc_cd 20 10 = some (.getfield 257, 3) := by decide +kernel
theorem c20_13 : mc_cd 20 13 = some (.putfield 22, 3) := by decide +kernel
theorem c20_16 : mc_cd 20 16 = some (.iconst 0, 1) := by decide +kernel
theorem c20_17 : mc_cd 20 17 = some (.ireturn, 1) := by decide +kernel
/-! StrikeAwake$Parish.linesOf(LStrikeAwake$Reserved;)I -/
theorem e21 : wq_en 21 = some (7, 2, false, some FieldType.int) := rfl
theorem c21_0 : mc_cd 21 0 = some (.getstatic 75, 3) := by decide +kernel
theorem c21_3 : mc_cd 21 3 = some (.aload_n 1, 1) := by decide +kernel
theorem c21_4 : mc_cd 21 4 = some (.invokevirtual 80, 3) := by decide +kernel
theorem c21_7 : mc_cd 21 7 = some (.iaload, 1) := by decide +kernel
theorem c21_8 : mc_cd 21 8 = some (.tableswitch 104 1 8 #[48, 61, 66, 79, 84, 89, 94, 99], 48) := by decide +kernel
theorem c21_56 : mc_cd 21 56 = some (.aload_n 0, 1) := by decide +kernel
theorem c21_57 : mc_cd 21 57 = some (.getfield 41, 3) := by decide +kernel
theorem c21_60 : mc_cd 21 60 = some (.ifCond .le 7, 3) := by decide +kernel
theorem c21_63 : mc_cd 21 63 = some (.iconst 1, 1) := by decide +kernel
theorem c21_64 : mc_cd 21 64 = some (.goto 4, 3) := by decide +kernel
theorem c21_67 : mc_cd 21 67 = some (.iconst 0, 1) := by decide +kernel
theorem c21_68 : mc_cd 21 68 = some (.ireturn, 1) := by decide +kernel
theorem c21_69 : mc_cd 21 69 = some (.aload_n 0, 1) := by decide +kernel
theorem c21_70 : mc_cd 21 70 = some (.getfield 50, 3) := by decide +kernel
theorem c21_73 : mc_cd 21 73 = some (.ireturn, 1) := by decide +kernel
theorem c21_74 : mc_cd 21 74 = some (.aload_n 0, 1) := by decide +kernel
theorem c21_75 : mc_cd 21 75 = some (.getfield 37, 3) := by decide +kernel
theorem c21_78 : mc_cd 21 78 = some (.ifCond .lt 7, 3) := by decide +kernel
theorem c21_81 : mc_cd 21 81 = some (.iconst 1, 1) := by decide +kernel
theorem c21_82 : mc_cd 21 82 = some (.goto 4, 3) := by decide +kernel
theorem c21_85 : mc_cd 21 85 = some (.iconst 0, 1) := by decide +kernel
theorem c21_86 : mc_cd 21 86 = some (.ireturn, 1) := by decide +kernel
theorem c21_87 : mc_cd 21 87 = some (.aload_n 0, 1) := by decide +kernel
theorem c21_88 : mc_cd 21 88 = some (.getfield 53, 3) := by decide +kernel
theorem c21_91 : mc_cd 21 91 = some (.ireturn, 1) := by decide +kernel
theorem c21_92 : mc_cd 21 92 = some (.aload_n 0, 1) := by decide +kernel
theorem c21_93 : mc_cd 21 93 = some (.getfield 56, 3) := by decide +kernel
theorem c21_96 : mc_cd 21 96 = some (.ireturn, 1) := by decide +kernel
theorem c21_97 : mc_cd 21 97 = some (.aload_n 0, 1) := by decide +kernel
theorem c21_98 : mc_cd 21 98 = some (.getfield 65, 3) := by decide +kernel
theorem c21_101 : mc_cd 21 101 = some (.ireturn, 1) := by decide +kernel
theorem c21_102 : mc_cd 21 102 = some (.aload_n 0, 1) := by decide +kernel
theorem c21_103 : mc_cd 21 103 = some (.getfield 59, 3) := by decide +kernel
theorem c21_106 : mc_cd 21 106 = some (.ireturn, 1) := by decide +kernel
theorem c21_107 : mc_cd 21 107 = some (.aload_n 0, 1) := by decide +kernel
theorem c21_108 : mc_cd 21 108 = some (.getfield 62, 3) := by decide +kernel
theorem c21_111 : mc_cd 21 111 = some (.ireturn, 1) := by decide +kernel
/-! StrikeAwake$Reader.takesWord(Ljava/lang/String;)Z -/
theorem e23 : wq_en 23 = some (1, 2, false, some FieldType.boolean) := rfl
theorem c23_0 : mc_cd 23 0 = some (.aload_n 0, 1) := by decide +kernel
theorem c23_1 : mc_cd 23 1 = some (.getfield 12, 3) := by decide +kernel
theorem c23_4 : mc_cd 23 4 = some (.aload_n 1, 1) := by decide +kernel
theorem c23_5 : mc_cd 23 5 = some (.invokevirtual 185, 3) := by decide +kernel
theorem c23_8 : mc_cd 23 8 = some (.ifCond .ne 9, 3) := by decide +kernel
theorem c23_11 : mc_cd 23 11 = some (.aload_n 0, 1) := by decide +kernel
theorem c23_12 : mc_cd 23 12 = some (.iconst 1, 1) := by decide +kernel
theorem c23_13 : mc_cd 23 13 = some (.invokevirtual 47, 3) := by decide +kernel
theorem c23_16 : mc_cd 23 16 = some (.ireturn, 1) := by decide +kernel
theorem c23_17 : mc_cd 23 17 = some (.aload_n 0, 1) := by decide +kernel
theorem c23_18 : mc_cd 23 18 = some (.getfield 12, 3) := by decide +kernel
theorem c23_21 : mc_cd 23 21 = some (.invokevirtual 74, 3) := by decide +kernel
theorem c23_24 : mc_cd 23 24 = some (.iconst 1, 1) := by decide +kernel
theorem c23_25 : mc_cd 23 25 = some (.ireturn, 1) := by decide +kernel
/-! StrikeAwake$Reader.whole(II)I -/
theorem e24 : wq_en 24 = some (1, 4, false, some FieldType.int) := rfl
theorem c24_0 : mc_cd 24 0 = some (.aload_n 0, 1) := by decide +kernel
theorem c24_1 : mc_cd 24 1 = some (.getfield 12, 3) := by decide +kernel
theorem c24_4 : mc_cd 24 4 = some (.getfield 38, 3) := by decide +kernel
theorem c24_7 : mc_cd 24 7 = some (.iconst 2, 1) := by decide +kernel
theorem c24_8 : mc_cd 24 8 = some (.if_icmp .eq 11, 3) := by decide +kernel
theorem c24_11 : mc_cd 24 11 = some (.aload_n 0, 1) := by decide +kernel
theorem c24_12 : mc_cd 24 12 = some (.iconst 1, 1) := by decide +kernel
theorem c24_13 : mc_cd 24 13 = some (.invokevirtual 47, 3) := by decide +kernel
theorem c24_16 : mc_cd 24 16 = some (.pop, 1) := by decide +kernel
theorem c24_17 : mc_cd 24 17 = some (.iconst (-1), 1) := by decide +kernel
theorem c24_18 : mc_cd 24 18 = some (.ireturn, 1) := by decide +kernel
theorem c24_19 : mc_cd 24 19 = some (.aload_n 0, 1) := by decide +kernel
theorem c24_20 : mc_cd 24 20 = some (.getfield 12, 3) := by decide +kernel
theorem c24_23 : mc_cd 24 23 = some (.getfield 230, 3) := by decide +kernel
theorem c24_26 : mc_cd 24 26 = some (.istore_n 3, 1) := by decide +kernel
theorem c24_27 : mc_cd 24 27 = some (.iload_n 3, 1) := by decide +kernel
theorem c24_28 : mc_cd 24 28 = some (.iload_n 1, 1) := by decide +kernel
theorem c24_29 : mc_cd 24 29 = some (.if_icmp .lt 8, 3) := by decide +kernel
theorem c24_32 : mc_cd 24 32 = some (.iload_n 3, 1) := by decide +kernel
theorem c24_33 : mc_cd 24 33 = some (.iload_n 2, 1) := by decide +kernel
theorem c24_34 : mc_cd 24 34 = some (.if_icmp .le 11, 3) := by decide +kernel
theorem c24_37 : mc_cd 24 37 = some (.aload_n 0, 1) := by decide +kernel
theorem c24_38 : mc_cd 24 38 = some (.iconst 4, 1) := by decide +kernel
theorem c24_39 : mc_cd 24 39 = some (.invokevirtual 47, 3) := by decide +kernel
theorem c24_42 : mc_cd 24 42 = some (.pop, 1) := by decide +kernel
theorem c24_43 : mc_cd 24 43 = some (.iconst (-1), 1) := by decide +kernel
theorem c24_44 : mc_cd 24 44 = some (.ireturn, 1) := by decide +kernel
theorem c24_45 : mc_cd 24 45 = some (.aload_n 0, 1) := by decide +kernel
theorem c24_46 : mc_cd 24 46 = some (.getfield 12, 3) := by decide +kernel
theorem c24_49 : mc_cd 24 49 = some (.invokevirtual 74, 3) := by decide +kernel
theorem c24_52 : mc_cd 24 52 = some (.iload_n 3, 1) := by decide +kernel
theorem c24_53 : mc_cd 24 53 = some (.ireturn, 1) := by decide +kernel
/-! StrikeAwake$Reader.readsLaw(LStrikeAwake$Parish;)Z -/
theorem e22 : wq_en 22 = some (1, 5, false, some FieldType.boolean) := rfl
theorem c22_0 : mc_cd 22 0 = some (.aload_n 0, 1) := by decide +kernel
theorem c22_1 : mc_cd 22 1 = some (.ldc 114, 2) := by decide +kernel
theorem c22_3 : mc_cd 22 3 = some (.invokevirtual 115, 3) := by decide +kernel
theorem c22_6 : mc_cd 22 6 = some (.ifCond .eq 13, 3) := by decide +kernel
theorem c22_9 : mc_cd 22 9 = some (.aload_n 0, 1) := by decide +kernel
theorem c22_10 : mc_cd 22 10 = some (.iconst 1, 1) := by decide +kernel
theorem c22_11 : mc_cd 22 11 = some (.bipush 24, 2) := by decide +kernel
theorem c22_13 : mc_cd 22 13 = some (.invokevirtual 119, 3) := by decide +kernel
theorem c22_16 : mc_cd 22 16 = some (.goto 4, 3) := by decide +kernel
theorem c22_19 : mc_cd 22 19 = some (.iconst (-1), 1) := by decide +kernel
theorem c22_20 : mc_cd 22 20 = some (.istore_n 2, 1) := by decide +kernel
theorem c22_21 : mc_cd 22 21 = some (.iload_n 2, 1) := by decide +kernel
theorem c22_22 : mc_cd 22 22 = some (.ifCond .lt 22, 3) := by decide +kernel
theorem c22_25 : mc_cd 22 25 = some (.aload_n 0, 1) := by decide +kernel
theorem c22_26 : mc_cd 22 26 = some (.ldc 123, 2) := by decide +kernel
theorem c22_28 : mc_cd 22 28 = some (.invokevirtual 115, 3) := by decide +kernel
theorem c22_31 : mc_cd 22 31 = some (.ifCond .eq 13, 3) := by decide +kernel
theorem c22_34 : mc_cd 22 34 = some (.aload_n 0, 1) := by decide +kernel
theorem c22_35 : mc_cd 22 35 = some (.iconst 0, 1) := by decide +kernel
theorem c22_36 : mc_cd 22 36 = some (.bipush 9, 2) := by decide +kernel
theorem c22_38 : mc_cd 22 38 = some (.invokevirtual 119, 3) := by decide +kernel
theorem c22_41 : mc_cd 22 41 = some (.goto 4, 3) := by decide +kernel
theorem c22_44 : mc_cd 22 44 = some (.iconst (-1), 1) := by decide +kernel
theorem c22_45 : mc_cd 22 45 = some (.istore_n 3, 1) := by decide +kernel
theorem c22_46 : mc_cd 22 46 = some (.iload_n 3, 1) := by decide +kernel
theorem c22_47 : mc_cd 22 47 = some (.ifCond .lt 21, 3) := by decide +kernel
theorem c22_50 : mc_cd 22 50 = some (.aload_n 0, 1) := by decide +kernel
theorem c22_51 : mc_cd 22 51 = some (.ldc 125, 2) := by decide +kernel
theorem c22_53 : mc_cd 22 53 = some (.invokevirtual 115, 3) := by decide +kernel
theorem c22_56 : mc_cd 22 56 = some (.ifCond .eq 12, 3) := by decide +kernel
theorem c22_59 : mc_cd 22 59 = some (.aload_n 0, 1) := by decide +kernel
theorem c22_60 : mc_cd 22 60 = some (.iconst 0, 1) := by decide +kernel
theorem c22_61 : mc_cd 22 61 = some (.iconst 3, 1) := by decide +kernel
theorem c22_62 : mc_cd 22 62 = some (.invokevirtual 119, 3) := by decide +kernel
theorem c22_65 : mc_cd 22 65 = some (.goto 4, 3) := by decide +kernel
theorem c22_68 : mc_cd 22 68 = some (.iconst (-1), 1) := by decide +kernel
theorem c22_69 : mc_cd 22 69 = some (.istore 4, 2) := by decide +kernel
theorem c22_71 : mc_cd 22 71 = some (.iload 4, 2) := by decide +kernel
theorem c22_73 : mc_cd 22 73 = some (.ifCond .ge 5, 3) := by decide +kernel
theorem c22_76 : mc_cd 22 76 = some (.iconst 0, 1) := by decide +kernel
theorem c22_77 : mc_cd 22 77 = some (.ireturn, 1) := by decide +kernel
theorem c22_78 : mc_cd 22 78 = some (.aload_n 1, 1) := by decide +kernel
theorem c22_79 : mc_cd 22 79 = some (.iload_n 2, 1) := by decide +kernel
theorem c22_80 : mc_cd 22 80 = some (.putfield 41, 3) := by decide +kernel
theorem c22_83 : mc_cd 22 83 = some (.aload_n 1, 1) := by decide +kernel
theorem c22_84 : mc_cd 22 84 = some (.iload_n 3, 1) := by decide +kernel
theorem c22_85 : mc_cd 22 85 = some (.putfield 127, 3) := by decide +kernel
theorem c22_88 : mc_cd 22 88 = some (.aload_n 1, 1) := by decide +kernel
theorem c22_89 : mc_cd 22 89 = some (.iload 4, 2) := by decide +kernel
theorem c22_91 : mc_cd 22 91 = some (.putfield 129, 3) := by decide +kernel
theorem c22_94 : mc_cd 22 94 = some (.iconst 1, 1) := by decide +kernel
theorem c22_95 : mc_cd 22 95 = some (.ireturn, 1) := by decide +kernel
/-! StrikeAwake$Reader.isName()Z -/
theorem e26 : wq_en 26 = some (1, 1, false, some FieldType.boolean) := rfl
theorem c26_0 : mc_cd 26 0 = some (.aload_n 0, 1) := by decide +kernel
theorem c26_1 : mc_cd 26 1 = some (.getfield 12, 3) := by decide +kernel
theorem c26_4 : mc_cd 26 4 = some (.getfield 38, 3) := by decide +kernel
theorem c26_7 : mc_cd 26 7 = some (.iconst 1, 1) := by decide +kernel
theorem c26_8 : mc_cd 26 8 = some (.if_icmp .ne 14, 3) := by decide +kernel
theorem c26_11 : mc_cd 26 11 = some (.aload_n 0, 1) := by decide +kernel
theorem c26_12 : mc_cd 26 12 = some (.invokevirtual 54, 3) := by decide +kernel
theorem c26_15 : mc_cd 26 15 = some (.ifnonnull 7, 3) := by decide +kernel
theorem c26_18 : mc_cd 26 18 = some (.iconst 1, 1) := by decide +kernel
theorem c26_19 : mc_cd 26 19 = some (.goto 4, 3) := by decide +kernel
theorem c26_22 : mc_cd 26 22 = some (.iconst 0, 1) := by decide +kernel
theorem c26_23 : mc_cd 26 23 = some (.ireturn, 1) := by decide +kernel
/-! StrikeAwake$Parish.personNamed(J)I -/
theorem e27 : wq_en 27 = some (7, 4, false, some FieldType.int) := rfl
theorem c27_0 : mc_cd 27 0 = some (.iconst 0, 1) := by decide +kernel
theorem c27_1 : mc_cd 27 1 = some (.istore_n 3, 1) := by decide +kernel
theorem c27_2 : mc_cd 27 2 = some (.iload_n 3, 1) := by decide +kernel
theorem c27_3 : mc_cd 27 3 = some (.aload_n 0, 1) := by decide +kernel
theorem c27_4 : mc_cd 27 4 = some (.getfield 50, 3) := by decide +kernel
theorem c27_7 : mc_cd 27 7 = some (.if_icmp .ge 25, 3) := by decide +kernel
theorem c27_10 : mc_cd 27 10 = some (.aload_n 0, 1) := by decide +kernel
theorem c27_11 : mc_cd 27 11 = some (.getfield 11, 3) := by decide +kernel
theorem c27_14 : mc_cd 27 14 = some (.iload_n 3, 1) := by decide +kernel
theorem c27_15 : mc_cd 27 15 = some (.aaload, 1) := by decide +kernel
theorem c27_16 : mc_cd 27 16 = some (.getfield 86, 3) := by decide +kernel
theorem c27_19 : mc_cd 27 19 = some (.lload_n 1, 1) := by decide +kernel
theorem c27_20 : mc_cd 27 20 = some (.lcmp, 1) := by decide +kernel
theorem c27_21 : mc_cd 27 21 = some (.ifCond .ne 5, 3) := by decide +kernel
theorem c27_24 : mc_cd 27 24 = some (.iload_n 3, 1) := by decide +kernel
theorem c27_25 : mc_cd 27 25 = some (.ireturn, 1) := by decide +kernel
theorem c27_26 : mc_cd 27 26 = some (.iinc 3 1, 3) := by decide +kernel
theorem c27_29 : mc_cd 27 29 = some (.goto (-27), 3) := by decide +kernel
theorem c27_32 : mc_cd 27 32 = some (.iconst (-1), 1) := by decide +kernel
theorem c27_33 : mc_cd 27 33 = some (.ireturn, 1) := by decide +kernel
/-! StrikeAwake$Person.clear(J)V -/
theorem e28 : wq_en 28 = some (8, 3, false, none) := rfl
theorem c28_0 : mc_cd 28 0 = some (.aload_n 0, 1) := by decide +kernel
theorem c28_1 : mc_cd 28 1 = some (.lload_n 1, 1) := by decide +kernel
theorem c28_2 : mc_cd 28 2 = some (.putfield 31, 3) := by decide +kernel
theorem c28_5 : mc_cd 28 5 = some (.aload_n 0, 1) := by decide +kernel
theorem c28_6 : mc_cd 28 6 = some (.iconst (-1), 1) := by decide +kernel
theorem c28_7 : mc_cd 28 7 = some (.putfield 35, 3) := by decide +kernel
theorem c28_10 : mc_cd 28 10 = some (.aload_n 0, 1) := by decide +kernel
theorem c28_11 : mc_cd 28 11 = some (.iconst 0, 1) := by decide +kernel
theorem c28_12 : mc_cd 28 12 = some (.putfield 39, 3) := by decide +kernel
theorem c28_15 : mc_cd 28 15 = some (.aload_n 0, 1) := by decide +kernel
theorem c28_16 : mc_cd 28 16 = some (.iconst 0, 1) := by decide +kernel
theorem c28_17 : mc_cd 28 17 = some (.putfield 42, 3) := by decide +kernel
theorem c28_20 : mc_cd 28 20 = some (.aload_n 0, 1) := by decide +kernel
theorem c28_21 : mc_cd 28 21 = some (.iconst 0, 1) := by decide +kernel
theorem c28_22 : mc_cd 28 22 = some (.putfield 46, 3) := by decide +kernel
theorem c28_25 : mc_cd 28 25 = some (.aload_n 0, 1) := by decide +kernel
theorem c28_26 : mc_cd 28 26 = some (.iconst 0, 1) := by decide +kernel
theorem c28_27 : mc_cd 28 27 = some (.putfield 49, 3) := by decide +kernel
theorem c28_30 : mc_cd 28 30 = some (.aload_n 0, 1) := by decide +kernel
theorem c28_31 : mc_cd 28 31 = some (.iconst 0, 1) := by decide +kernel
theorem c28_32 : mc_cd 28 32 = some (.putfield 52, 3) := by decide +kernel
theorem c28_35 : mc_cd 28 35 = some (.aload_n 0, 1) := by decide +kernel
theorem c28_36 : mc_cd 28 36 = some (.iconst 0, 1) := by decide +kernel
theorem c28_37 : mc_cd 28 37 = some (.putfield 55, 3) := by decide +kernel
theorem c28_40 : mc_cd 28 40 = some (.return_, 1) := by decide +kernel
/-! StrikeAwake$Reader.takesRange(IIII)Z -/
theorem e29 : wq_en 29 = some (1, 5, false, some FieldType.boolean) := rfl
theorem c29_0 : mc_cd 29 0 = some (.aload_n 0, 1) := by decide +kernel
theorem c29_1 : mc_cd 29 1 = some (.aload_n 0, 1) := by decide +kernel
theorem c29_2 : mc_cd 29 2 = some (.iconst 0, 1) := by decide +kernel
theorem c29_3 : mc_cd 29 3 = some (.iload_n 1, 1) := by decide +kernel
theorem c29_4 : mc_cd 29 4 = some (.invokevirtual 119, 3) := by decide +kernel
theorem c29_7 : mc_cd 29 7 = some (.putfield 158, 3) := by decide +kernel
theorem c29_10 : mc_cd 29 10 = some (.aload_n 0, 1) := by decide +kernel
theorem c29_11 : mc_cd 29 11 = some (.getfield 158, 3) := by decide +kernel
theorem c29_14 : mc_cd 29 14 = some (.ifCond .lt 13, 3) := by decide +kernel
theorem c29_17 : mc_cd 29 17 = some (.aload_n 0, 1) := by decide +kernel
theorem c29_18 : mc_cd 29 18 = some (.ldc_w 262, 3) := by decide +kernel
theorem c29_21 : mc_cd 29 21 = some (.invokevirtual 115, 3) := by decide +kernel
theorem c29_24 : mc_cd 29 24 = some (.ifCond .ne 5, 3) := by decide +kernel
theorem c29_27 : mc_cd 29 27 = some (.iconst 0, 1) := by decide +kernel
theorem c29_28 : mc_cd 29 28 = some (.ireturn, 1) := by decide +kernel
theorem c29_29 : mc_cd 29 29 = some (.aload_n 0, 1) := by decide +kernel
theorem c29_30 : mc_cd 29 30 = some (.aload_n 0, 1) := by decide +kernel
theorem c29_31 : mc_cd 29 31 = some (.aload_n 0, 1) := by decide +kernel
theorem c29_32 : mc_cd 29 32 = some (.getfield 158, 3) := by decide +kernel
theorem c29_35 : mc_cd 29 35 = some (.iload_n 2, 1) := by decide +kernel
theorem c29_36 : mc_cd 29 36 = some (.iadd, 1) := by decide +kernel
theorem c29_37 : mc_cd 29 37 = some (.aload_n 0, 1) := by decide +kernel
theorem c29_38 : mc_cd 29 38 = some (.getfield 158, 3) := by decide +kernel
theorem c29_41 : mc_cd 29 41 = some (.iload_n 3, 1) := by decide +kernel
theorem c29_42 : mc_cd 29 42 = some (.iadd, 1) := by decide +kernel
theorem c29_43 : mc_cd 29 43 = some (.iload 4, 2) := by decide +kernel
theorem c29_45 : mc_cd 29 45 = some (.invokestatic 263, 3) := by decide +kernel
theorem c29_48 : mc_cd 29 48 = some (.invokevirtual 119, 3) := by decide +kernel
theorem c29_51 : mc_cd 29 51 = some (.putfield 164, 3) := by decide +kernel
theorem c29_54 : mc_cd 29 54 = some (.aload_n 0, 1) := by decide +kernel
theorem c29_55 : mc_cd 29 55 = some (.getfield 164, 3) := by decide +kernel
theorem c29_58 : mc_cd 29 58 = some (.ifCond .lt 7, 3) := by decide +kernel
theorem c29_61 : mc_cd 29 61 = some (.iconst 1, 1) := by decide +kernel
theorem c29_62 : mc_cd 29 62 = some (.goto 4, 3) := by decide +kernel
theorem c29_65 : mc_cd 29 65 = some (.iconst 0, 1) := by decide +kernel
theorem c29_66 : mc_cd 29 66 = some (.ireturn, 1) := by decide +kernel
/-! StrikeAwake$Reader.readsPerson(LStrikeAwake$Parish;)Z -/
theorem e25 : wq_en 25 = some (1, 3, false, some FieldType.boolean) := rfl
theorem c25_0 : mc_cd 25 0 = some (.aload_n 0, 1) := by decide +kernel
theorem c25_1 : mc_cd 25 1 = some (.invokevirtual 131, 3) := by decide +kernel
theorem c25_4 : mc_cd 25 4 = some (.ifCond .ne 9, 3) := by decide +kernel
theorem c25_7 : mc_cd 25 7 = some (.aload_n 0, 1) := by decide +kernel
theorem c25_8 : mc_cd 25 8 = some (.iconst 1, 1) := by decide +kernel
theorem c25_9 : mc_cd 25 9 = some (.invokevirtual 47, 3) := by decide +kernel
theorem c25_12 : mc_cd 25 12 = some (.ireturn, 1) := by decide +kernel
theorem c25_13 : mc_cd 25 13 = some (.aload_n 1, 1) := by decide +kernel
theorem c25_14 : mc_cd 25 14 = some (.aload_n 0, 1) := by decide +kernel
theorem c25_15 : mc_cd 25 15 = some (.getfield 12, 3) := by decide +kernel
theorem c25_18 : mc_cd 25 18 = some (.getfield 135, 3) := by decide +kernel
theorem c25_21 : mc_cd 25 21 = some (.invokevirtual 139, 3) := by decide +kernel
theorem c25_24 : mc_cd 25 24 = some (.ifCond .lt 9, 3) := by decide +kernel
theorem c25_27 : mc_cd 25 27 = some (.aload_n 0, 1) := by decide +kernel
theorem c25_28 : mc_cd 25 28 = some (.iconst 3, 1) := by decide +kernel
theorem c25_29 : mc_cd 25 29 = some (.invokevirtual 47, 3) := by decide +kernel
theorem c25_32 : mc_cd 25 32 = some (.ireturn, 1) := by decide +kernel
theorem c25_33 : mc_cd 25 33 = some (.aload_n 1, 1) := by decide +kernel
theorem c25_34 : mc_cd 25 34 = some (.getfield 143, 3) := by decide +kernel
theorem c25_37 : mc_cd 25 37 = some (.aload_n 1, 1) := by decide +kernel
theorem c25_38 : mc_cd 25 38 = some (.getfield 44, 3) := by decide +kernel
theorem c25_41 : mc_cd 25 41 = some (.aaload, 1) := by decide +kernel
theorem c25_42 : mc_cd 25 42 = some (.astore_n 2, 1) := by decide +kernel
theorem c25_43 : mc_cd 25 43 = some (.aload_n 2, 1) := by decide +kernel
theorem c25_44 : mc_cd 25 44 = some (.aload_n 0, 1) := by decide +kernel
theorem c25_45 : mc_cd 25 45 = some (.getfield 12, 3) := by decide +kernel
theorem c25_48 : mc_cd 25 48 = some (.getfield 135, 3) := by decide +kernel
theorem c25_51 : mc_cd 25 51 = some (.invokevirtual 147, 3) := by decide +kernel
theorem c25_54 : mc_cd 25 54 = some (.aload_n 0, 1) := by decide +kernel
theorem c25_55 : mc_cd 25 55 = some (.getfield 12, 3) := by decide +kernel
theorem c25_58 : mc_cd 25 58 = some (.invokevirtual 74, 3) := by decide +kernel
theorem c25_61 : mc_cd 25 61 = some (.aload_n 0, 1) := by decide +kernel
theorem c25_62 : mc_cd 25 62 = some (.ldc 152, 2) := by decide +kernel
theorem c25_64 : mc_cd 25 64 = some (.invokevirtual 115, 3) := by decide +kernel
theorem c25_67 : mc_cd 25 67 = some (.ifCond .eq 17, 3) := by decide +kernel
theorem c25_70 : mc_cd 25 70 = some (.aload_n 0, 1) := by decide +kernel
theorem c25_71 : mc_cd 25 71 = some (.bipush 23, 2) := by decide +kernel
theorem c25_73 : mc_cd 25 73 = some (.iconst 0, 1) := by decide +kernel
theorem c25_74 : mc_cd 25 74 = some (.bipush 7, 2) := by decide +kernel
theorem c25_76 : mc_cd 25 76 = some (.bipush 23, 2) := by decide +kernel
theorem c25_78 : mc_cd 25 78 = some (.invokevirtual 154, 3) := by decide +kernel
theorem c25_81 : mc_cd 25 81 = some (.ifCond .ne 5, 3) := by decide +kernel
theorem c25_84 : mc_cd 25 84 = some (.iconst 0, 1) := by decide +kernel
theorem c25_85 : mc_cd 25 85 = some (.ireturn, 1) := by decide +kernel
theorem c25_86 : mc_cd 25 86 = some (.aload_n 2, 1) := by decide +kernel
theorem c25_87 : mc_cd 25 87 = some (.aload_n 0, 1) := by decide +kernel
theorem c25_88 : mc_cd 25 88 = some (.getfield 158, 3) := by decide +kernel
theorem c25_91 : mc_cd 25 91 = some (.putfield 161, 3) := by decide +kernel
theorem c25_94 : mc_cd 25 94 = some (.aload_n 2, 1) := by decide +kernel
theorem c25_95 : mc_cd 25 95 = some (.aload_n 0, 1) := by decide +kernel
theorem c25_96 : mc_cd 25 96 = some (.getfield 164, 3) := by decide +kernel
theorem c25_99 : mc_cd 25 99 = some (.putfield 167, 3) := by decide +kernel
theorem c25_102 : mc_cd 25 102 = some (.aload_n 0, 1) := by decide +kernel
theorem c25_103 : mc_cd 25 103 = some (.ldc 170, 2) := by decide +kernel
theorem c25_105 : mc_cd 25 105 = some (.invokevirtual 115, 3) := by decide +kernel
theorem c25_108 : mc_cd 25 108 = some (.ifCond .eq 16, 3) := by decide +kernel
theorem c25_111 : mc_cd 25 111 = some (.aload_n 0, 1) := by decide +kernel
theorem c25_112 : mc_cd 25 112 = some (.bipush 12, 2) := by decide +kernel
theorem c25_114 : mc_cd 25 114 = some (.iconst 0, 1) := by decide +kernel
theorem c25_115 : mc_cd 25 115 = some (.iconst 4, 1) := by decide +kernel
theorem c25_116 : mc_cd 25 116 = some (.bipush 12, 2) := by decide +kernel
theorem c25_118 : mc_cd 25 118 = some (.invokevirtual 154, 3) := by decide +kernel
theorem c25_121 : mc_cd 25 121 = some (.ifCond .ne 5, 3) := by decide +kernel
theorem c25_124 : mc_cd 25 124 = some (.iconst 0, 1) := by decide +kernel
theorem c25_125 : mc_cd 25 125 = some (.ireturn, 1) := by decide +kernel
theorem c25_126 : mc_cd 25 126 = some (.aload_n 2, 1) := by decide +kernel
theorem c25_127 : mc_cd 25 127 = some (.aload_n 0, 1) := by decide +kernel
theorem c25_128 : mc_cd 25 128 = some (.getfield 158, 3) := by decide +kernel
theorem c25_131 : mc_cd 25 131 = some (.putfield 172, 3) := by decide +kernel
theorem c25_134 : mc_cd 25 134 = some (.aload_n 2, 1) := by decide +kernel
theorem c25_135 : mc_cd 25 135 = some (.aload_n 0, 1) := by decide +kernel
theorem c25_136 : mc_cd 25 136 = some (.getfield 164, 3) := by decide +kernel
theorem c25_139 : mc_cd 25 139 = some (.putfield 175, 3) := by decide +kernel
theorem c25_142 : mc_cd 25 142 = some (.iconst 1, 1) := by decide +kernel
theorem c25_143 : mc_cd 25 143 = some (.ireturn, 1) := by decide +kernel
/-! StrikeAwake.hourBits(II)I -/
theorem e31 : wq_en 31 = some (0, 2, false, some FieldType.int) := rfl
theorem c31_0 : mc_cd 31 0 = some (.lconst 1, 1) := by decide +kernel
theorem c31_1 : mc_cd 31 1 = some (.iload_n 1, 1) := by decide +kernel
theorem c31_2 : mc_cd 31 2 = some (.lshl, 1) := by decide +kernel
theorem c31_3 : mc_cd 31 3 = some (.lconst 1, 1) := by decide +kernel
theorem c31_4 : mc_cd 31 4 = some (.iload_n 0, 1) := by decide +kernel
theorem c31_5 : mc_cd 31 5 = some (.lshl, 1) := by decide +kernel
theorem c31_6 : mc_cd 31 6 = some (.lsub, 1) := by decide +kernel
theorem c31_7 : mc_cd 31 7 = some (.l2i, 1) := by decide +kernel
theorem c31_8 : mc_cd 31 8 = some (.ldc_w 350, 3) := by decide +kernel
theorem c31_11 : mc_cd 31 11 = some (.iand, 1) := by decide +kernel
theorem c31_12 : mc_cd 31 12 = some (.ireturn, 1) := by decide +kernel
abbrev q_31 (a0 : Int) (a1 : Int) (T : wq_T) (H : wq_H) : Option Value → wq_T → wq_H → Prop := fun r T' H' => T = T' ∧ H = H' ∧ ∃ z : Int, some (vI z) = r ∧ ((-2147483648) ≤ z ∧ z ≤ 2147483647)
set_option maxHeartbeats 4000000 in
theorem s_31 {kt : Nat → Option mc_E} {T : wq_T} {H : wq_H} {a0 : Int} {a1 : Int} (hW : WT T H) (i0 : (-2147483648) ≤ a0 ∧ a0 ≤ 2147483647) (i1 : (-2147483648) ≤ a1 ∧ a1 ≤ 2147483647) : wpc kt 1 31 [vI a0, vI a1] T H (q_31 a0 a1 T H) := by
  refine wp_enter e31 (Nat.le_of_ble_eq_true rfl) rfl ?_
  show wp _ _ 31 0 [(0, vI a0), (1, vI a1)] [] _ H _
  refine wp_of e31 c31_0 (rw_lconst (pc' := 1) (z := 1) rfl rfl ?_)
  refine wp_of e31 c31_1 (rw_iload_n (pc' := 2) (z := a1) rfl rfl ?_)
  refine wp_of e31 c31_2 (rw_lshl (pc' := 3) rfl ?_)
  obtain ⟨v9155, e9156⟩ : ∃ x : Int, x = wl_shl 1 a1 := ⟨_, rfl⟩
  rw [← e9156]
  have b9157 : -9223372036854775808 ≤ v9155 ∧ v9155 ≤ 9223372036854775807 := by
    rw [e9156]
    exact wL_shl _ _
  refine wp_of e31 c31_3 (rw_lconst (pc' := 4) (z := 1) rfl rfl ?_)
  refine wp_of e31 c31_4 (rw_iload_n (pc' := 5) (z := a0) rfl rfl ?_)
  refine wp_of e31 c31_5 (rw_lshl (pc' := 6) rfl ?_)
  obtain ⟨v9158, e9159⟩ : ∃ x : Int, x = wl_shl 1 a0 := ⟨_, rfl⟩
  rw [← e9159]
  have b9160 : -9223372036854775808 ≤ v9158 ∧ v9158 ≤ 9223372036854775807 := by
    rw [e9159]
    exact wL_shl _ _
  refine wp_of e31 c31_6 (rw_lsubw (pc' := 7) rfl ?_)
  obtain ⟨v9161, e9162⟩ : ∃ x : Int, x = wl_w (v9155 - v9158) := ⟨_, rfl⟩
  rw [← e9162]
  have b9163 : -9223372036854775808 ≤ v9161 ∧ v9161 ≤ 9223372036854775807 := by
    rw [e9162]
    exact wL_w _
  refine wp_of e31 c31_7 (rw_l2i (pc' := 8) rfl ?_)
  obtain ⟨v9164, e9165⟩ : ∃ x : Int, x = wq_w v9161 := ⟨_, rfl⟩
  rw [← e9165]
  have b9166 : -2147483648 ≤ v9164 ∧ v9164 ≤ 2147483647 := by
    rw [e9165]
    exact wI_w _
  have b9167 : (-2147483648 ≤ v9161 ∧ v9161 ≤ 2147483647) → v9164 = v9161 := by
    rw [e9165]
    exact fun h => wq_w_id h
  refine wp_of e31 c31_8 (rw_ldc_wI (pc' := 11) (z := 16777215) rfl rfl rfl ?_)
  refine wp_of e31 c31_11 (rw_iand (pc' := 12) rfl ?_)
  obtain ⟨v9168, e9169⟩ : ∃ x : Int, x = wq_and v9164 16777215 := ⟨_, rfl⟩
  rw [← e9169]
  have b9170 : 0 ≤ v9168 ∧ v9168 ≤ 16777215 := by
    rw [e9169]
    exact wq_and_b _ (by omega) (by omega)
  exact wp_ireturn e31 c31_12 rfl ⟨rfl, rfl, v9168, rfl, ⟨by omega, by omega⟩⟩
/-! StrikeAwake$Reader.readsCustoms(LStrikeAwake$Parish;)Z -/
theorem e30 : wq_en 30 = some (1, 3, false, some FieldType.boolean) := rfl
theorem c30_0 : mc_cd 30 0 = some (.aload_n 1, 1) := by decide +kernel
theorem c30_1 : mc_cd 30 1 = some (.getfield 143, 3) := by decide +kernel
theorem c30_4 : mc_cd 30 4 = some (.aload_n 1, 1) := by decide +kernel
theorem c30_5 : mc_cd 30 5 = some (.getfield 44, 3) := by decide +kernel
theorem c30_8 : mc_cd 30 8 = some (.aaload, 1) := by decide +kernel
theorem c30_9 : mc_cd 30 9 = some (.astore_n 2, 1) := by decide +kernel
theorem c30_10 : mc_cd 30 10 = some (.aload_n 0, 1) := by decide +kernel
theorem c30_11 : mc_cd 30 11 = some (.getfield 12, 3) := by decide +kernel
theorem c30_14 : mc_cd 30 14 = some (.getstatic 178, 3) := by decide +kernel
theorem c30_17 : mc_cd 30 17 = some (.getfield 181, 3) := by decide +kernel
theorem c30_20 : mc_cd 30 20 = some (.invokevirtual 185, 3) := by decide +kernel
theorem c30_23 : mc_cd 30 23 = some (.ifCond .eq 30, 3) := by decide +kernel
theorem c30_26 : mc_cd 30 26 = some (.aload_n 0, 1) := by decide +kernel
theorem c30_27 : mc_cd 30 27 = some (.getfield 12, 3) := by decide +kernel
theorem c30_30 : mc_cd 30 30 = some (.invokevirtual 74, 3) := by decide +kernel
theorem c30_33 : mc_cd 30 33 = some (.aload_n 2, 1) := by decide +kernel
theorem c30_34 : mc_cd 30 34 = some (.aload_n 0, 1) := by decide +kernel
theorem c30_35 : mc_cd 30 35 = some (.iconst 0, 1) := by decide +kernel
theorem c30_36 : mc_cd 30 36 = some (.bipush 23, 2) := by decide +kernel
theorem c30_38 : mc_cd 30 38 = some (.invokevirtual 119, 3) := by decide +kernel
theorem c30_41 : mc_cd 30 41 = some (.putfield 188, 3) := by decide +kernel
theorem c30_44 : mc_cd 30 44 = some (.aload_n 2, 1) := by decide +kernel
theorem c30_45 : mc_cd 30 45 = some (.getfield 188, 3) := by decide +kernel
theorem c30_48 : mc_cd 30 48 = some (.ifCond .ge 5, 3) := by decide +kernel
theorem c30_51 : mc_cd 30 51 = some (.iconst 0, 1) := by decide +kernel
theorem c30_52 : mc_cd 30 52 = some (.ireturn, 1) := by decide +kernel
theorem c30_53 : mc_cd 30 53 = some (.aload_n 0, 1) := by decide +kernel
theorem c30_54 : mc_cd 30 54 = some (.getfield 12, 3) := by decide +kernel
theorem c30_57 : mc_cd 30 57 = some (.getstatic 191, 3) := by decide +kernel
theorem c30_60 : mc_cd 30 60 = some (.getfield 181, 3) := by decide +kernel
theorem c30_63 : mc_cd 30 63 = some (.invokevirtual 185, 3) := by decide +kernel
theorem c30_66 : mc_cd 30 66 = some (.ifCond .eq 41, 3) := by decide +kernel
theorem c30_69 : mc_cd 30 69 = some (.aload_n 0, 1) := by decide +kernel
theorem c30_70 : mc_cd 30 70 = some (.getfield 12, 3) := by decide +kernel
theorem c30_73 : mc_cd 30 73 = some (.invokevirtual 74, 3) := by decide +kernel
theorem c30_76 : mc_cd 30 76 = some (.aload_n 0, 1) := by decide +kernel
theorem c30_77 : mc_cd 30 77 = some (.bipush 23, 2) := by decide +kernel
theorem c30_79 : mc_cd 30 79 = some (.iconst 1, 1) := by decide +kernel
theorem c30_80 : mc_cd 30 80 = some (.bipush 24, 2) := by decide +kernel
theorem c30_82 : mc_cd 30 82 = some (.bipush 24, 2) := by decide +kernel
theorem c30_84 : mc_cd 30 84 = some (.invokevirtual 154, 3) := by decide +kernel
theorem c30_87 : mc_cd 30 87 = some (.ifCond .ne 5, 3) := by decide +kernel
theorem c30_90 : mc_cd 30 90 = some (.iconst 0, 1) := by decide +kernel
theorem c30_91 : mc_cd 30 91 = some (.ireturn, 1) := by decide +kernel
theorem c30_92 : mc_cd 30 92 = some (.aload_n 2, 1) := by decide +kernel
theorem c30_93 : mc_cd 30 93 = some (.aload_n 0, 1) := by decide +kernel
theorem c30_94 : mc_cd 30 94 = some (.getfield 158, 3) := by decide +kernel
theorem c30_97 : mc_cd 30 97 = some (.aload_n 0, 1) := by decide +kernel
theorem c30_98 : mc_cd 30 98 = some (.getfield 164, 3) := by decide +kernel
theorem c30_101 : mc_cd 30 101 = some (.invokestatic 194, 3) := by decide +kernel
theorem c30_104 : mc_cd 30 104 = some (.putfield 197, 3) := by decide +kernel
theorem c30_107 : mc_cd 30 107 = some (.aload_n 0, 1) := by decide +kernel
theorem c30_108 : mc_cd 30 108 = some (.getfield 12, 3) := by decide +kernel
theorem c30_111 : mc_cd 30 111 = some (.getstatic 200, 3) := by decide +kernel
theorem c30_114 : mc_cd 30 114 = some (.getfield 181, 3) := by decide +kernel
theorem c30_117 : mc_cd 30 117 = some (.invokevirtual 185, 3) := by decide +kernel
theorem c30_120 : mc_cd 30 120 = some (.ifCond .eq 15, 3) := by decide +kernel
theorem c30_123 : mc_cd 30 123 = some (.aload_n 0, 1) := by decide +kernel
theorem c30_124 : mc_cd 30 124 = some (.getfield 12, 3) := by decide +kernel
theorem c30_127 : mc_cd 30 127 = some (.invokevirtual 74, 3) := by decide +kernel
theorem c30_130 : mc_cd 30 130 = some (.aload_n 2, 1) := by decide +kernel
theorem c30_131 : mc_cd 30 131 = some (.iconst 1, 1) := by decide +kernel
theorem c30_132 : mc_cd 30 132 = some (.putfield 203, 3) := by decide +kernel
theorem c30_135 : mc_cd 30 135 = some (.aload_n 1, 1) := by decide +kernel
theorem c30_136 : mc_cd 30 136 = some (.dup, 1) := by decide +kernel
theorem c30_137 : mc_cd 30 137 = some (.getfield 44, 3) := by decide +kernel
theorem c30_140 : mc_cd 30 140 = some (.iconst 1, 1) := by decide +kernel
theorem c30_141 : mc_cd 30 141 = some (.iadd, 1) := by decide +kernel
theorem c30_142 : mc_cd 30 142 = some (.putfield 44, 3) := by decide +kernel
theorem c30_145 : mc_cd 30 145 = some (.iconst 1, 1) := by decide +kernel
theorem c30_146 : mc_cd 30 146 = some (.ireturn, 1) := by decide +kernel
