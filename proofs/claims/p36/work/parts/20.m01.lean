section
/-! methods (own work, written by wip/gen2/sx.py) -/
/-! StrikeAwake$Tokens.begin([BI)V -/
theorem e15 : wq_en 15 = some (2, 3, false, none) := rfl
theorem cg15_0 : mc_cd 15 0 = some (.aload_n 0, 1) ∧ mc_cd 15 1 = some (.aload_n 1, 1) ∧ mc_cd 15 2 = some (.putfield 7, 3) ∧ mc_cd 15 5 = some (.aload_n 0, 1) ∧ mc_cd 15 6 = some (.iload_n 2, 1) ∧ mc_cd 15 7 = some (.aload_n 1, 1) ∧ mc_cd 15 8 = some (.arraylength, 1) ∧ mc_cd 15 9 = some (.invokestatic 13, 3) := by decide +kernel
theorem c15_0 : mc_cd 15 0 = some (.aload_n 0, 1) := cg15_0.1
theorem c15_1 : mc_cd 15 1 = some (.aload_n 1, 1) := cg15_0.2.1
theorem c15_2 : mc_cd 15 2 = some (.putfield 7, 3) := cg15_0.2.2.1
theorem c15_5 : mc_cd 15 5 = some (.aload_n 0, 1) := cg15_0.2.2.2.1
theorem c15_6 : mc_cd 15 6 = some (.iload_n 2, 1) := cg15_0.2.2.2.2.1
theorem c15_7 : mc_cd 15 7 = some (.aload_n 1, 1) := cg15_0.2.2.2.2.2.1
theorem c15_8 : mc_cd 15 8 = some (.arraylength, 1) := cg15_0.2.2.2.2.2.2.1
theorem c15_9 : mc_cd 15 9 = some (.invokestatic 13, 3) := cg15_0.2.2.2.2.2.2.2
theorem cg15_12 : mc_cd 15 12 = some (.putfield 19, 3) ∧ mc_cd 15 15 = some (.aload_n 0, 1) ∧ mc_cd 15 16 = some (.iconst 0, 1) ∧ mc_cd 15 17 = some (.putfield 23, 3) ∧ mc_cd 15 20 = some (.aload_n 0, 1) ∧ mc_cd 15 21 = some (.invokevirtual 26, 3) ∧ mc_cd 15 24 = some (.return_, 1) := by decide +kernel
theorem c15_12 : mc_cd 15 12 = some (.putfield 19, 3) := cg15_12.1
theorem c15_15 : mc_cd 15 15 = some (.aload_n 0, 1) := cg15_12.2.1
theorem c15_16 : mc_cd 15 16 = some (.iconst 0, 1) := cg15_12.2.2.1
theorem c15_17 : mc_cd 15 17 = some (.putfield 23, 3) := cg15_12.2.2.2.1
theorem c15_20 : mc_cd 15 20 = some (.aload_n 0, 1) := cg15_12.2.2.2.2.1
theorem c15_21 : mc_cd 15 21 = some (.invokevirtual 26, 3) := cg15_12.2.2.2.2.2.1
theorem c15_24 : mc_cd 15 24 = some (.return_, 1) := cg15_12.2.2.2.2.2.2
/-! StrikeAwake$Tokens.isWord(Ljava/lang/String;)Z -/
theorem e19 : wq_en 19 = some (2, 5, false, some FieldType.boolean) := rfl
theorem cg19_0 : mc_cd 19 0 = some (.aload_n 0, 1) ∧ mc_cd 19 1 = some (.getfield 41, 3) ∧ mc_cd 19 4 = some (.iconst 1, 1) ∧ mc_cd 19 5 = some (.if_icmp .eq 5, 3) ∧ mc_cd 19 8 = some (.iconst 0, 1) ∧ mc_cd 19 9 = some (.ireturn, 1) ∧ mc_cd 19 10 = some (.lconst 0, 1) ∧ mc_cd 19 11 = some (.lstore_n 2, 1) := by decide +kernel
theorem c19_0 : mc_cd 19 0 = some (.aload_n 0, 1) := cg19_0.1
theorem c19_1 : mc_cd 19 1 = some (.getfield 41, 3) := cg19_0.2.1
theorem c19_4 : mc_cd 19 4 = some (.iconst 1, 1) := cg19_0.2.2.1
theorem c19_5 : mc_cd 19 5 = some (.if_icmp .eq 5, 3) := cg19_0.2.2.2.1
theorem c19_8 : mc_cd 19 8 = some (.iconst 0, 1) := cg19_0.2.2.2.2.1
theorem c19_9 : mc_cd 19 9 = some (.ireturn, 1) := cg19_0.2.2.2.2.2.1
theorem c19_10 : mc_cd 19 10 = some (.lconst 0, 1) := cg19_0.2.2.2.2.2.2.1
theorem c19_11 : mc_cd 19 11 = some (.lstore_n 2, 1) := cg19_0.2.2.2.2.2.2.2
theorem cg19_12 : mc_cd 19 12 = some (.iconst 0, 1) ∧ mc_cd 19 13 = some (.istore 4, 2) ∧ mc_cd 19 15 = some (.iload 4, 2) ∧ mc_cd 19 17 = some (.aload_n 1, 1) ∧ mc_cd 19 18 = some (.invokevirtual 44, 3) ∧ mc_cd 19 21 = some (.if_icmp .ge 28, 3) ∧ mc_cd 19 24 = some (.lload_n 2, 1) ∧ mc_cd 19 25 = some (.ldc2_w 36, 3) := by decide +kernel
theorem c19_12 : mc_cd 19 12 = some (.iconst 0, 1) := cg19_12.1
theorem c19_13 : mc_cd 19 13 = some (.istore 4, 2) := cg19_12.2.1
theorem c19_15 : mc_cd 19 15 = some (.iload 4, 2) := cg19_12.2.2.1
theorem c19_17 : mc_cd 19 17 = some (.aload_n 1, 1) := cg19_12.2.2.2.1
theorem c19_18 : mc_cd 19 18 = some (.invokevirtual 44, 3) := cg19_12.2.2.2.2.1
theorem c19_21 : mc_cd 19 21 = some (.if_icmp .ge 28, 3) := cg19_12.2.2.2.2.2.1
theorem c19_24 : mc_cd 19 24 = some (.lload_n 2, 1) := cg19_12.2.2.2.2.2.2.1
theorem c19_25 : mc_cd 19 25 = some (.ldc2_w 36, 3) := cg19_12.2.2.2.2.2.2.2
theorem cg19_28 : mc_cd 19 28 = some (.lmul, 1) ∧ mc_cd 19 29 = some (.aload_n 1, 1) ∧ mc_cd 19 30 = some (.iload 4, 2) ∧ mc_cd 19 32 = some (.invokevirtual 49, 3) ∧ mc_cd 19 35 = some (.bipush 97, 2) ∧ mc_cd 19 37 = some (.isub, 1) ∧ mc_cd 19 38 = some (.iconst 1, 1) ∧ mc_cd 19 39 = some (.iadd, 1) := by decide +kernel
theorem c19_28 : mc_cd 19 28 = some (.lmul, 1) := cg19_28.1
theorem c19_29 : mc_cd 19 29 = some (.aload_n 1, 1) := cg19_28.2.1
theorem c19_30 : mc_cd 19 30 = some (.iload 4, 2) := cg19_28.2.2.1
theorem c19_32 : mc_cd 19 32 = some (.invokevirtual 49, 3) := cg19_28.2.2.2.1
theorem c19_35 : mc_cd 19 35 = some (.bipush 97, 2) := cg19_28.2.2.2.2.1
theorem c19_37 : mc_cd 19 37 = some (.isub, 1) := cg19_28.2.2.2.2.2.1
theorem c19_38 : mc_cd 19 38 = some (.iconst 1, 1) := cg19_28.2.2.2.2.2.2.1
theorem c19_39 : mc_cd 19 39 = some (.iadd, 1) := cg19_28.2.2.2.2.2.2.2
theorem cg19_40 : mc_cd 19 40 = some (.i2l, 1) ∧ mc_cd 19 41 = some (.ladd, 1) ∧ mc_cd 19 42 = some (.lstore_n 2, 1) ∧ mc_cd 19 43 = some (.iinc 4 1, 3) ∧ mc_cd 19 46 = some (.goto (-31), 3) ∧ mc_cd 19 49 = some (.lload_n 2, 1) ∧ mc_cd 19 50 = some (.aload_n 0, 1) ∧ mc_cd 19 51 = some (.getfield 32, 3) := by decide +kernel
theorem c19_40 : mc_cd 19 40 = some (.i2l, 1) := cg19_40.1
theorem c19_41 : mc_cd 19 41 = some (.ladd, 1) := cg19_40.2.1
theorem c19_42 : mc_cd 19 42 = some (.lstore_n 2, 1) := cg19_40.2.2.1
theorem c19_43 : mc_cd 19 43 = some (.iinc 4 1, 3) := cg19_40.2.2.2.1
theorem c19_46 : mc_cd 19 46 = some (.goto (-31), 3) := cg19_40.2.2.2.2.1
theorem c19_49 : mc_cd 19 49 = some (.lload_n 2, 1) := cg19_40.2.2.2.2.2.1
theorem c19_50 : mc_cd 19 50 = some (.aload_n 0, 1) := cg19_40.2.2.2.2.2.2.1
theorem c19_51 : mc_cd 19 51 = some (.getfield 32, 3) := cg19_40.2.2.2.2.2.2.2
theorem cg19_54 : mc_cd 19 54 = some (.lcmp, 1) ∧ mc_cd 19 55 = some (.ifCond .ne 7, 3) ∧ mc_cd 19 58 = some (.iconst 1, 1) ∧ mc_cd 19 59 = some (.goto 4, 3) ∧ mc_cd 19 62 = some (.iconst 0, 1) ∧ mc_cd 19 63 = some (.ireturn, 1) := by decide +kernel
theorem c19_54 : mc_cd 19 54 = some (.lcmp, 1) := cg19_54.1
theorem c19_55 : mc_cd 19 55 = some (.ifCond .ne 7, 3) := cg19_54.2.1
theorem c19_58 : mc_cd 19 58 = some (.iconst 1, 1) := cg19_54.2.2.1
theorem c19_59 : mc_cd 19 59 = some (.goto 4, 3) := cg19_54.2.2.2.1
theorem c19_62 : mc_cd 19 62 = some (.iconst 0, 1) := cg19_54.2.2.2.2.1
theorem c19_63 : mc_cd 19 63 = some (.ireturn, 1) := cg19_54.2.2.2.2.2
/-! StrikeAwake$Reader.reserved()LStrikeAwake$Reserved; -/
theorem e18 : wq_en 18 = some (1, 2, false, some (FieldType.object "StrikeAwake$Reserved")) := rfl
theorem cg18_0 : mc_cd 18 0 = some (.iconst 0, 1) ∧ mc_cd 18 1 = some (.istore_n 1, 1) ∧ mc_cd 18 2 = some (.iload_n 1, 1) ∧ mc_cd 18 3 = some (.getstatic 258, 3) ∧ mc_cd 18 6 = some (.arraylength, 1) ∧ mc_cd 18 7 = some (.if_icmp .ge 33, 3) ∧ mc_cd 18 10 = some (.aload_n 0, 1) ∧ mc_cd 18 11 = some (.getfield 12, 3) := by decide +kernel
theorem c18_0 : mc_cd 18 0 = some (.iconst 0, 1) := cg18_0.1
theorem c18_1 : mc_cd 18 1 = some (.istore_n 1, 1) := cg18_0.2.1
theorem c18_2 : mc_cd 18 2 = some (.iload_n 1, 1) := cg18_0.2.2.1
theorem c18_3 : mc_cd 18 3 = some (.getstatic 258, 3) := cg18_0.2.2.2.1
theorem c18_6 : mc_cd 18 6 = some (.arraylength, 1) := cg18_0.2.2.2.2.1
theorem c18_7 : mc_cd 18 7 = some (.if_icmp .ge 33, 3) := cg18_0.2.2.2.2.2.1
theorem c18_10 : mc_cd 18 10 = some (.aload_n 0, 1) := cg18_0.2.2.2.2.2.2.1
theorem c18_11 : mc_cd 18 11 = some (.getfield 12, 3) := cg18_0.2.2.2.2.2.2.2
theorem cg18_14 : mc_cd 18 14 = some (.getstatic 258, 3) ∧ mc_cd 18 17 = some (.iload_n 1, 1) ∧ mc_cd 18 18 = some (.aaload, 1) ∧ mc_cd 18 19 = some (.getfield 181, 3) ∧ mc_cd 18 22 = some (.invokevirtual 185, 3) ∧ mc_cd 18 25 = some (.ifCond .eq 9, 3) ∧ mc_cd 18 28 = some (.getstatic 258, 3) ∧ mc_cd 18 31 = some (.iload_n 1, 1) := by decide +kernel
theorem c18_14 : mc_cd 18 14 = some (.getstatic 258, 3) := cg18_14.1
theorem c18_17 : mc_cd 18 17 = some (.iload_n 1, 1) := cg18_14.2.1
theorem c18_18 : mc_cd 18 18 = some (.aaload, 1) := cg18_14.2.2.1
theorem c18_19 : mc_cd 18 19 = some (.getfield 181, 3) := cg18_14.2.2.2.1
theorem c18_22 : mc_cd 18 22 = some (.invokevirtual 185, 3) := cg18_14.2.2.2.2.1
theorem c18_25 : mc_cd 18 25 = some (.ifCond .eq 9, 3) := cg18_14.2.2.2.2.2.1
theorem c18_28 : mc_cd 18 28 = some (.getstatic 258, 3) := cg18_14.2.2.2.2.2.2.1
theorem c18_31 : mc_cd 18 31 = some (.iload_n 1, 1) := cg18_14.2.2.2.2.2.2.2
theorem cg18_32 : mc_cd 18 32 = some (.aaload, 1) ∧ mc_cd 18 33 = some (.areturn, 1) ∧ mc_cd 18 34 = some (.iinc 1 1, 3) ∧ mc_cd 18 37 = some (.goto (-35), 3) ∧ mc_cd 18 40 = some (.aconst_null, 1) ∧ mc_cd 18 41 = some (.areturn, 1) := by decide +kernel
theorem c18_32 : mc_cd 18 32 = some (.aaload, 1) := cg18_32.1
theorem c18_33 : mc_cd 18 33 = some (.areturn, 1) := cg18_32.2.1
theorem c18_34 : mc_cd 18 34 = some (.iinc 1 1, 3) := cg18_32.2.2.1
theorem c18_37 : mc_cd 18 37 = some (.goto (-35), 3) := cg18_32.2.2.2.1
theorem c18_40 : mc_cd 18 40 = some (.aconst_null, 1) := cg18_32.2.2.2.2.1
theorem c18_41 : mc_cd 18 41 = some (.areturn, 1) := cg18_32.2.2.2.2.2
/-! StrikeAwake$Reader.fail(I)Z -/
theorem e20 : wq_en 20 = some (1, 2, false, some FieldType.boolean) := rfl
theorem cg20_0 : mc_cd 20 0 = some (.aload_n 0, 1) ∧ mc_cd 20 1 = some (.iload_n 1, 1) ∧ mc_cd 20 2 = some (.putfield 18, 3) ∧ mc_cd 20 5 = some (.aload_n 0, 1) ∧ mc_cd 20 6 = some (.aload_n 0, 1) ∧ mc_cd 20 7 = some (.getfield 12, 3) ∧ mc_cd 20 10 = some (.getfield 257, 3) ∧ mc_cd 20 13 = some (.putfield 22, 3) := by decide +kernel
theorem c20_0 : mc_cd 20 0 = some (.aload_n 0, 1) := cg20_0.1
theorem c20_1 : mc_cd 20 1 = some (.iload_n 1, 1) := cg20_0.2.1
theorem c20_2 : mc_cd 20 2 = some (.putfield 18, 3) := cg20_0.2.2.1
theorem c20_5 : mc_cd 20 5 = some (.aload_n 0, 1) := cg20_0.2.2.2.1
theorem c20_6 : mc_cd 20 6 = some (.aload_n 0, 1) := cg20_0.2.2.2.2.1
theorem c20_7 : mc_cd 20 7 = some (.getfield 12, 3) := cg20_0.2.2.2.2.2.1
theorem c20_10 : mc_cd 20 10 = some (.getfield 257, 3) := cg20_0.2.2.2.2.2.2.1
theorem c20_13 : mc_cd 20 13 = some (.putfield 22, 3) := cg20_0.2.2.2.2.2.2.2
theorem cg20_16 : mc_cd 20 16 = some (.iconst 0, 1) ∧ mc_cd 20 17 = some (.ireturn, 1) := by decide +kernel
theorem c20_16 : mc_cd 20 16 = some (.iconst 0, 1) := cg20_16.1
theorem c20_17 : mc_cd 20 17 = some (.ireturn, 1) := cg20_16.2
/-! StrikeAwake$Parish.linesOf(LStrikeAwake$Reserved;)I -/
theorem e21 : wq_en 21 = some (7, 2, false, some FieldType.int) := rfl
theorem cg21_0 : mc_cd 21 0 = some (.getstatic 75, 3) ∧ mc_cd 21 3 = some (.aload_n 1, 1) ∧ mc_cd 21 4 = some (.invokevirtual 80, 3) ∧ mc_cd 21 7 = some (.iaload, 1) ∧ mc_cd 21 8 = some (.tableswitch 104 1 8 #[48, 61, 66, 79, 84, 89, 94, 99], 48) ∧ mc_cd 21 56 = some (.aload_n 0, 1) ∧ mc_cd 21 57 = some (.getfield 41, 3) ∧ mc_cd 21 60 = some (.ifCond .le 7, 3) := by decide +kernel
theorem c21_0 : mc_cd 21 0 = some (.getstatic 75, 3) := cg21_0.1
theorem c21_3 : mc_cd 21 3 = some (.aload_n 1, 1) := cg21_0.2.1
theorem c21_4 : mc_cd 21 4 = some (.invokevirtual 80, 3) := cg21_0.2.2.1
theorem c21_7 : mc_cd 21 7 = some (.iaload, 1) := cg21_0.2.2.2.1
theorem c21_8 : mc_cd 21 8 = some (.tableswitch 104 1 8 #[48, 61, 66, 79, 84, 89, 94, 99], 48) := cg21_0.2.2.2.2.1
theorem c21_56 : mc_cd 21 56 = some (.aload_n 0, 1) := cg21_0.2.2.2.2.2.1
theorem c21_57 : mc_cd 21 57 = some (.getfield 41, 3) := cg21_0.2.2.2.2.2.2.1
theorem c21_60 : mc_cd 21 60 = some (.ifCond .le 7, 3) := cg21_0.2.2.2.2.2.2.2
theorem cg21_63 : mc_cd 21 63 = some (.iconst 1, 1) ∧ mc_cd 21 64 = some (.goto 4, 3) ∧ mc_cd 21 67 = some (.iconst 0, 1) ∧ mc_cd 21 68 = some (.ireturn, 1) ∧ mc_cd 21 69 = some (.aload_n 0, 1) ∧ mc_cd 21 70 = some (.getfield 50, 3) ∧ mc_cd 21 73 = some (.ireturn, 1) ∧ mc_cd 21 74 = some (.aload_n 0, 1) := by decide +kernel
theorem c21_63 : mc_cd 21 63 = some (.iconst 1, 1) := cg21_63.1
theorem c21_64 : mc_cd 21 64 = some (.goto 4, 3) := cg21_63.2.1
theorem c21_67 : mc_cd 21 67 = some (.iconst 0, 1) := cg21_63.2.2.1
theorem c21_68 : mc_cd 21 68 = some (.ireturn, 1) := cg21_63.2.2.2.1
theorem c21_69 : mc_cd 21 69 = some (.aload_n 0, 1) := cg21_63.2.2.2.2.1
theorem c21_70 : mc_cd 21 70 = some (.getfield 50, 3) := cg21_63.2.2.2.2.2.1
theorem c21_73 : mc_cd 21 73 = some (.ireturn, 1) := cg21_63.2.2.2.2.2.2.1
theorem c21_74 : mc_cd 21 74 = some (.aload_n 0, 1) := cg21_63.2.2.2.2.2.2.2
theorem cg21_75 : mc_cd 21 75 = some (.getfield 37, 3) ∧ mc_cd 21 78 = some (.ifCond .lt 7, 3) ∧ mc_cd 21 81 = some (.iconst 1, 1) ∧ mc_cd 21 82 = some (.goto 4, 3) ∧ mc_cd 21 85 = some (.iconst 0, 1) ∧ mc_cd 21 86 = some (.ireturn, 1) ∧ mc_cd 21 87 = some (.aload_n 0, 1) ∧ mc_cd 21 88 = some (.getfield 53, 3) := by decide +kernel
theorem c21_75 : mc_cd 21 75 = some (.getfield 37, 3) := cg21_75.1
theorem c21_78 : mc_cd 21 78 = some (.ifCond .lt 7, 3) := cg21_75.2.1
theorem c21_81 : mc_cd 21 81 = some (.iconst 1, 1) := cg21_75.2.2.1
theorem c21_82 : mc_cd 21 82 = some (.goto 4, 3) := cg21_75.2.2.2.1
theorem c21_85 : mc_cd 21 85 = some (.iconst 0, 1) := cg21_75.2.2.2.2.1
theorem c21_86 : mc_cd 21 86 = some (.ireturn, 1) := cg21_75.2.2.2.2.2.1
theorem c21_87 : mc_cd 21 87 = some (.aload_n 0, 1) := cg21_75.2.2.2.2.2.2.1
theorem c21_88 : mc_cd 21 88 = some (.getfield 53, 3) := cg21_75.2.2.2.2.2.2.2
theorem cg21_91 : mc_cd 21 91 = some (.ireturn, 1) ∧ mc_cd 21 92 = some (.aload_n 0, 1) ∧ mc_cd 21 93 = some (.getfield 56, 3) ∧ mc_cd 21 96 = some (.ireturn, 1) ∧ mc_cd 21 97 = some (.aload_n 0, 1) ∧ mc_cd 21 98 = some (.getfield 65, 3) ∧ mc_cd 21 101 = some (.ireturn, 1) ∧ mc_cd 21 102 = some (.aload_n 0, 1) := by decide +kernel
theorem c21_91 : mc_cd 21 91 = some (.ireturn, 1) := cg21_91.1
theorem c21_92 : mc_cd 21 92 = some (.aload_n 0, 1) := cg21_91.2.1
theorem c21_93 : mc_cd 21 93 = some (.getfield 56, 3) := cg21_91.2.2.1
theorem c21_96 : mc_cd 21 96 = some (.ireturn, 1) := cg21_91.2.2.2.1
theorem c21_97 : mc_cd 21 97 = some (.aload_n 0, 1) := cg21_91.2.2.2.2.1
theorem c21_98 : mc_cd 21 98 = some (.getfield 65, 3) := cg21_91.2.2.2.2.2.1
theorem c21_101 : mc_cd 21 101 = some (.ireturn, 1) := cg21_91.2.2.2.2.2.2.1
theorem c21_102 : mc_cd 21 102 = some (.aload_n 0, 1) := cg21_91.2.2.2.2.2.2.2
theorem cg21_103 : mc_cd 21 103 = some (.getfield 59, 3) ∧ mc_cd 21 106 = some (.ireturn, 1) ∧ mc_cd 21 107 = some (.aload_n 0, 1) ∧ mc_cd 21 108 = some (.getfield 62, 3) ∧ mc_cd 21 111 = some (.ireturn, 1) := by decide +kernel
theorem c21_103 : mc_cd 21 103 = some (.getfield 59, 3) := cg21_103.1
theorem c21_106 : mc_cd 21 106 = some (.ireturn, 1) := cg21_103.2.1
theorem c21_107 : mc_cd 21 107 = some (.aload_n 0, 1) := cg21_103.2.2.1
theorem c21_108 : mc_cd 21 108 = some (.getfield 62, 3) := cg21_103.2.2.2.1
theorem c21_111 : mc_cd 21 111 = some (.ireturn, 1) := cg21_103.2.2.2.2
/-! StrikeAwake$Reader.takesWord(Ljava/lang/String;)Z -/
theorem e23 : wq_en 23 = some (1, 2, false, some FieldType.boolean) := rfl
theorem cg23_0 : mc_cd 23 0 = some (.aload_n 0, 1) ∧ mc_cd 23 1 = some (.getfield 12, 3) ∧ mc_cd 23 4 = some (.aload_n 1, 1) ∧ mc_cd 23 5 = some (.invokevirtual 185, 3) ∧ mc_cd 23 8 = some (.ifCond .ne 9, 3) ∧ mc_cd 23 11 = some (.aload_n 0, 1) ∧ mc_cd 23 12 = some (.iconst 1, 1) ∧ mc_cd 23 13 = some (.invokevirtual 47, 3) := by decide +kernel
theorem c23_0 : mc_cd 23 0 = some (.aload_n 0, 1) := cg23_0.1
theorem c23_1 : mc_cd 23 1 = some (.getfield 12, 3) := cg23_0.2.1
theorem c23_4 : mc_cd 23 4 = some (.aload_n 1, 1) := cg23_0.2.2.1
theorem c23_5 : mc_cd 23 5 = some (.invokevirtual 185, 3) := cg23_0.2.2.2.1
theorem c23_8 : mc_cd 23 8 = some (.ifCond .ne 9, 3) := cg23_0.2.2.2.2.1
theorem c23_11 : mc_cd 23 11 = some (.aload_n 0, 1) := cg23_0.2.2.2.2.2.1
theorem c23_12 : mc_cd 23 12 = some (.iconst 1, 1) := cg23_0.2.2.2.2.2.2.1
theorem c23_13 : mc_cd 23 13 = some (.invokevirtual 47, 3) := cg23_0.2.2.2.2.2.2.2
theorem cg23_16 : mc_cd 23 16 = some (.ireturn, 1) ∧ mc_cd 23 17 = some (.aload_n 0, 1) ∧ mc_cd 23 18 = some (.getfield 12, 3) ∧ mc_cd 23 21 = some (.invokevirtual 74, 3) ∧ mc_cd 23 24 = some (.iconst 1, 1) ∧ mc_cd 23 25 = some (.ireturn, 1) := by decide +kernel
theorem c23_16 : mc_cd 23 16 = some (.ireturn, 1) := cg23_16.1
theorem c23_17 : mc_cd 23 17 = some (.aload_n 0, 1) := cg23_16.2.1
theorem c23_18 : mc_cd 23 18 = some (.getfield 12, 3) := cg23_16.2.2.1
theorem c23_21 : mc_cd 23 21 = some (.invokevirtual 74, 3) := cg23_16.2.2.2.1
theorem c23_24 : mc_cd 23 24 = some (.iconst 1, 1) := cg23_16.2.2.2.2.1
theorem c23_25 : mc_cd 23 25 = some (.ireturn, 1) := cg23_16.2.2.2.2.2
/-! StrikeAwake$Reader.whole(II)I -/
theorem e24 : wq_en 24 = some (1, 4, false, some FieldType.int) := rfl
theorem cg24_0 : mc_cd 24 0 = some (.aload_n 0, 1) ∧ mc_cd 24 1 = some (.getfield 12, 3) ∧ mc_cd 24 4 = some (.getfield 38, 3) ∧ mc_cd 24 7 = some (.iconst 2, 1) ∧ mc_cd 24 8 = some (.if_icmp .eq 11, 3) ∧ mc_cd 24 11 = some (.aload_n 0, 1) ∧ mc_cd 24 12 = some (.iconst 1, 1) ∧ mc_cd 24 13 = some (.invokevirtual 47, 3) := by decide +kernel
theorem c24_0 : mc_cd 24 0 = some (.aload_n 0, 1) := cg24_0.1
theorem c24_1 : mc_cd 24 1 = some (.getfield 12, 3) := cg24_0.2.1
theorem c24_4 : mc_cd 24 4 = some (.getfield 38, 3) := cg24_0.2.2.1
theorem c24_7 : mc_cd 24 7 = some (.iconst 2, 1) := cg24_0.2.2.2.1
theorem c24_8 : mc_cd 24 8 = some (.if_icmp .eq 11, 3) := cg24_0.2.2.2.2.1
theorem c24_11 : mc_cd 24 11 = some (.aload_n 0, 1) := cg24_0.2.2.2.2.2.1
theorem c24_12 : mc_cd 24 12 = some (.iconst 1, 1) := cg24_0.2.2.2.2.2.2.1
theorem c24_13 : mc_cd 24 13 = some (.invokevirtual 47, 3) := cg24_0.2.2.2.2.2.2.2
theorem cg24_16 : mc_cd 24 16 = some (.pop, 1) ∧ mc_cd 24 17 = some (.iconst (-1), 1) ∧ mc_cd 24 18 = some (.ireturn, 1) ∧ mc_cd 24 19 = some (.aload_n 0, 1) ∧ mc_cd 24 20 = some (.getfield 12, 3) ∧ mc_cd 24 23 = some (.getfield 230, 3) ∧ mc_cd 24 26 = some (.istore_n 3, 1) ∧ mc_cd 24 27 = some (.iload_n 3, 1) := by decide +kernel
theorem c24_16 : mc_cd 24 16 = some (.pop, 1) := cg24_16.1
theorem c24_17 : mc_cd 24 17 = some (.iconst (-1), 1) := cg24_16.2.1
theorem c24_18 : mc_cd 24 18 = some (.ireturn, 1) := cg24_16.2.2.1
theorem c24_19 : mc_cd 24 19 = some (.aload_n 0, 1) := cg24_16.2.2.2.1
theorem c24_20 : mc_cd 24 20 = some (.getfield 12, 3) := cg24_16.2.2.2.2.1
theorem c24_23 : mc_cd 24 23 = some (.getfield 230, 3) := cg24_16.2.2.2.2.2.1
theorem c24_26 : mc_cd 24 26 = some (.istore_n 3, 1) := cg24_16.2.2.2.2.2.2.1
theorem c24_27 : mc_cd 24 27 = some (.iload_n 3, 1) := cg24_16.2.2.2.2.2.2.2
theorem cg24_28 : mc_cd 24 28 = some (.iload_n 1, 1) ∧ mc_cd 24 29 = some (.if_icmp .lt 8, 3) ∧ mc_cd 24 32 = some (.iload_n 3, 1) ∧ mc_cd 24 33 = some (.iload_n 2, 1) ∧ mc_cd 24 34 = some (.if_icmp .le 11, 3) ∧ mc_cd 24 37 = some (.aload_n 0, 1) ∧ mc_cd 24 38 = some (.iconst 4, 1) ∧ mc_cd 24 39 = some (.invokevirtual 47, 3) := by decide +kernel
theorem c24_28 : mc_cd 24 28 = some (.iload_n 1, 1) := cg24_28.1
theorem c24_29 : mc_cd 24 29 = some (.if_icmp .lt 8, 3) := cg24_28.2.1
theorem c24_32 : mc_cd 24 32 = some (.iload_n 3, 1) := cg24_28.2.2.1
theorem c24_33 : mc_cd 24 33 = some (.iload_n 2, 1) := cg24_28.2.2.2.1
theorem c24_34 : mc_cd 24 34 = some (.if_icmp .le 11, 3) := cg24_28.2.2.2.2.1
theorem c24_37 : mc_cd 24 37 = some (.aload_n 0, 1) := cg24_28.2.2.2.2.2.1
theorem c24_38 : mc_cd 24 38 = some (.iconst 4, 1) := cg24_28.2.2.2.2.2.2.1
theorem c24_39 : mc_cd 24 39 = some (.invokevirtual 47, 3) := cg24_28.2.2.2.2.2.2.2
theorem cg24_42 : mc_cd 24 42 = some (.pop, 1) ∧ mc_cd 24 43 = some (.iconst (-1), 1) ∧ mc_cd 24 44 = some (.ireturn, 1) ∧ mc_cd 24 45 = some (.aload_n 0, 1) ∧ mc_cd 24 46 = some (.getfield 12, 3) ∧ mc_cd 24 49 = some (.invokevirtual 74, 3) ∧ mc_cd 24 52 = some (.iload_n 3, 1) ∧ mc_cd 24 53 = some (.ireturn, 1) := by decide +kernel
theorem c24_42 : mc_cd 24 42 = some (.pop, 1) := cg24_42.1
theorem c24_43 : mc_cd 24 43 = some (.iconst (-1), 1) := cg24_42.2.1
theorem c24_44 : mc_cd 24 44 = some (.ireturn, 1) := cg24_42.2.2.1
theorem c24_45 : mc_cd 24 45 = some (.aload_n 0, 1) := cg24_42.2.2.2.1
theorem c24_46 : mc_cd 24 46 = some (.getfield 12, 3) := cg24_42.2.2.2.2.1
theorem c24_49 : mc_cd 24 49 = some (.invokevirtual 74, 3) := cg24_42.2.2.2.2.2.1
theorem c24_52 : mc_cd 24 52 = some (.iload_n 3, 1) := cg24_42.2.2.2.2.2.2.1
theorem c24_53 : mc_cd 24 53 = some (.ireturn, 1) := cg24_42.2.2.2.2.2.2.2
/-! StrikeAwake$Reader.readsLaw(LStrikeAwake$Parish;)Z -/
theorem e22 : wq_en 22 = some (1, 5, false, some FieldType.boolean) := rfl
theorem cg22_0 : mc_cd 22 0 = some (.aload_n 0, 1) ∧ mc_cd 22 1 = some (.ldc 114, 2) ∧ mc_cd 22 3 = some (.invokevirtual 115, 3) ∧ mc_cd 22 6 = some (.ifCond .eq 13, 3) ∧ mc_cd 22 9 = some (.aload_n 0, 1) ∧ mc_cd 22 10 = some (.iconst 1, 1) ∧ mc_cd 22 11 = some (.bipush 24, 2) ∧ mc_cd 22 13 = some (.invokevirtual 119, 3) := by decide +kernel
theorem c22_0 : mc_cd 22 0 = some (.aload_n 0, 1) := cg22_0.1
theorem c22_1 : mc_cd 22 1 = some (.ldc 114, 2) := cg22_0.2.1
theorem c22_3 : mc_cd 22 3 = some (.invokevirtual 115, 3) := cg22_0.2.2.1
theorem c22_6 : mc_cd 22 6 = some (.ifCond .eq 13, 3) := cg22_0.2.2.2.1
theorem c22_9 : mc_cd 22 9 = some (.aload_n 0, 1) := cg22_0.2.2.2.2.1
theorem c22_10 : mc_cd 22 10 = some (.iconst 1, 1) := cg22_0.2.2.2.2.2.1
theorem c22_11 : mc_cd 22 11 = some (.bipush 24, 2) := cg22_0.2.2.2.2.2.2.1
theorem c22_13 : mc_cd 22 13 = some (.invokevirtual 119, 3) := cg22_0.2.2.2.2.2.2.2
theorem cg22_16 : mc_cd 22 16 = some (.goto 4, 3) ∧ mc_cd 22 19 = some (.iconst (-1), 1) ∧ mc_cd 22 20 = some (.istore_n 2, 1) ∧ mc_cd 22 21 = some (.iload_n 2, 1) ∧ mc_cd 22 22 = some (.ifCond .lt 22, 3) ∧ mc_cd 22 25 = some (.aload_n 0, 1) ∧ mc_cd 22 26 = some (.ldc 123, 2) ∧ mc_cd 22 28 = some (.invokevirtual 115, 3) := by decide +kernel
theorem c22_16 : mc_cd 22 16 = some (.goto 4, 3) := cg22_16.1
theorem c22_19 : mc_cd 22 19 = some (.iconst (-1), 1) := cg22_16.2.1
theorem c22_20 : mc_cd 22 20 = some (.istore_n 2, 1) := cg22_16.2.2.1
theorem c22_21 : mc_cd 22 21 = some (.iload_n 2, 1) := cg22_16.2.2.2.1
theorem c22_22 : mc_cd 22 22 = some (.ifCond .lt 22, 3) := cg22_16.2.2.2.2.1
theorem c22_25 : mc_cd 22 25 = some (.aload_n 0, 1) := cg22_16.2.2.2.2.2.1
theorem c22_26 : mc_cd 22 26 = some (.ldc 123, 2) := cg22_16.2.2.2.2.2.2.1
theorem c22_28 : mc_cd 22 28 = some (.invokevirtual 115, 3) := cg22_16.2.2.2.2.2.2.2
theorem cg22_31 : mc_cd 22 31 = some (.ifCond .eq 13, 3) ∧ mc_cd 22 34 = some (.aload_n 0, 1) ∧ mc_cd 22 35 = some (.iconst 0, 1) ∧ mc_cd 22 36 = some (.bipush 9, 2) ∧ mc_cd 22 38 = some (.invokevirtual 119, 3) ∧ mc_cd 22 41 = some (.goto 4, 3) ∧ mc_cd 22 44 = some (.iconst (-1), 1) ∧ mc_cd 22 45 = some (.istore_n 3, 1) := by decide +kernel
theorem c22_31 : mc_cd 22 31 = some (.ifCond .eq 13, 3) := cg22_31.1
theorem c22_34 : mc_cd 22 34 = some (.aload_n 0, 1) := cg22_31.2.1
theorem c22_35 : mc_cd 22 35 = some (.iconst 0, 1) := cg22_31.2.2.1
theorem c22_36 : mc_cd 22 36 = some (.bipush 9, 2) := cg22_31.2.2.2.1
theorem c22_38 : mc_cd 22 38 = some (.invokevirtual 119, 3) := cg22_31.2.2.2.2.1
theorem c22_41 : mc_cd 22 41 = some (.goto 4, 3) := cg22_31.2.2.2.2.2.1
theorem c22_44 : mc_cd 22 44 = some (.iconst (-1), 1) := cg22_31.2.2.2.2.2.2.1
theorem c22_45 : mc_cd 22 45 = some (.istore_n 3, 1) := cg22_31.2.2.2.2.2.2.2
theorem cg22_46 : mc_cd 22 46 = some (.iload_n 3, 1) ∧ mc_cd 22 47 = some (.ifCond .lt 21, 3) ∧ mc_cd 22 50 = some (.aload_n 0, 1) ∧ mc_cd 22 51 = some (.ldc 125, 2) ∧ mc_cd 22 53 = some (.invokevirtual 115, 3) ∧ mc_cd 22 56 = some (.ifCond .eq 12, 3) ∧ mc_cd 22 59 = some (.aload_n 0, 1) ∧ mc_cd 22 60 = some (.iconst 0, 1) := by decide +kernel
theorem c22_46 : mc_cd 22 46 = some (.iload_n 3, 1) := cg22_46.1
theorem c22_47 : mc_cd 22 47 = some (.ifCond .lt 21, 3) := cg22_46.2.1
theorem c22_50 : mc_cd 22 50 = some (.aload_n 0, 1) := cg22_46.2.2.1
theorem c22_51 : mc_cd 22 51 = some (.ldc 125, 2) := cg22_46.2.2.2.1
theorem c22_53 : mc_cd 22 53 = some (.invokevirtual 115, 3) := cg22_46.2.2.2.2.1
theorem c22_56 : mc_cd 22 56 = some (.ifCond .eq 12, 3) := cg22_46.2.2.2.2.2.1
theorem c22_59 : mc_cd 22 59 = some (.aload_n 0, 1) := cg22_46.2.2.2.2.2.2.1
theorem c22_60 : mc_cd 22 60 = some (.iconst 0, 1) := cg22_46.2.2.2.2.2.2.2
theorem cg22_61 : mc_cd 22 61 = some (.iconst 3, 1) ∧ mc_cd 22 62 = some (.invokevirtual 119, 3) ∧ mc_cd 22 65 = some (.goto 4, 3) ∧ mc_cd 22 68 = some (.iconst (-1), 1) ∧ mc_cd 22 69 = some (.istore 4, 2) ∧ mc_cd 22 71 = some (.iload 4, 2) ∧ mc_cd 22 73 = some (.ifCond .ge 5, 3) ∧ mc_cd 22 76 = some (.iconst 0, 1) := by decide +kernel
theorem c22_61 : mc_cd 22 61 = some (.iconst 3, 1) := cg22_61.1
theorem c22_62 : mc_cd 22 62 = some (.invokevirtual 119, 3) := cg22_61.2.1
theorem c22_65 : mc_cd 22 65 = some (.goto 4, 3) := cg22_61.2.2.1
theorem c22_68 : mc_cd 22 68 = some (.iconst (-1), 1) := cg22_61.2.2.2.1
theorem c22_69 : mc_cd 22 69 = some (.istore 4, 2) := cg22_61.2.2.2.2.1
theorem c22_71 : mc_cd 22 71 = some (.iload 4, 2) := cg22_61.2.2.2.2.2.1
theorem c22_73 : mc_cd 22 73 = some (.ifCond .ge 5, 3) := cg22_61.2.2.2.2.2.2.1
theorem c22_76 : mc_cd 22 76 = some (.iconst 0, 1) := cg22_61.2.2.2.2.2.2.2
theorem cg22_77 : mc_cd 22 77 = some (.ireturn, 1) ∧ mc_cd 22 78 = some (.aload_n 1, 1) ∧ mc_cd 22 79 = some (.iload_n 2, 1) ∧ mc_cd 22 80 = some (.putfield 41, 3) ∧ mc_cd 22 83 = some (.aload_n 1, 1) ∧ mc_cd 22 84 = some (.iload_n 3, 1) ∧ mc_cd 22 85 = some (.putfield 127, 3) ∧ mc_cd 22 88 = some (.aload_n 1, 1) := by decide +kernel
theorem c22_77 : mc_cd 22 77 = some (.ireturn, 1) := cg22_77.1
theorem c22_78 : mc_cd 22 78 = some (.aload_n 1, 1) := cg22_77.2.1
theorem c22_79 : mc_cd 22 79 = some (.iload_n 2, 1) := cg22_77.2.2.1
theorem c22_80 : mc_cd 22 80 = some (.putfield 41, 3) := cg22_77.2.2.2.1
theorem c22_83 : mc_cd 22 83 = some (.aload_n 1, 1) := cg22_77.2.2.2.2.1
theorem c22_84 : mc_cd 22 84 = some (.iload_n 3, 1) := cg22_77.2.2.2.2.2.1
theorem c22_85 : mc_cd 22 85 = some (.putfield 127, 3) := cg22_77.2.2.2.2.2.2.1
theorem c22_88 : mc_cd 22 88 = some (.aload_n 1, 1) := cg22_77.2.2.2.2.2.2.2
theorem cg22_89 : mc_cd 22 89 = some (.iload 4, 2) ∧ mc_cd 22 91 = some (.putfield 129, 3) ∧ mc_cd 22 94 = some (.iconst 1, 1) ∧ mc_cd 22 95 = some (.ireturn, 1) := by decide +kernel
theorem c22_89 : mc_cd 22 89 = some (.iload 4, 2) := cg22_89.1
theorem c22_91 : mc_cd 22 91 = some (.putfield 129, 3) := cg22_89.2.1
theorem c22_94 : mc_cd 22 94 = some (.iconst 1, 1) := cg22_89.2.2.1
theorem c22_95 : mc_cd 22 95 = some (.ireturn, 1) := cg22_89.2.2.2
/-! StrikeAwake$Reader.isName()Z -/
theorem e26 : wq_en 26 = some (1, 1, false, some FieldType.boolean) := rfl
theorem cg26_0 : mc_cd 26 0 = some (.aload_n 0, 1) ∧ mc_cd 26 1 = some (.getfield 12, 3) ∧ mc_cd 26 4 = some (.getfield 38, 3) ∧ mc_cd 26 7 = some (.iconst 1, 1) ∧ mc_cd 26 8 = some (.if_icmp .ne 14, 3) ∧ mc_cd 26 11 = some (.aload_n 0, 1) ∧ mc_cd 26 12 = some (.invokevirtual 54, 3) ∧ mc_cd 26 15 = some (.ifnonnull 7, 3) := by decide +kernel
theorem c26_0 : mc_cd 26 0 = some (.aload_n 0, 1) := cg26_0.1
theorem c26_1 : mc_cd 26 1 = some (.getfield 12, 3) := cg26_0.2.1
theorem c26_4 : mc_cd 26 4 = some (.getfield 38, 3) := cg26_0.2.2.1
theorem c26_7 : mc_cd 26 7 = some (.iconst 1, 1) := cg26_0.2.2.2.1
theorem c26_8 : mc_cd 26 8 = some (.if_icmp .ne 14, 3) := cg26_0.2.2.2.2.1
theorem c26_11 : mc_cd 26 11 = some (.aload_n 0, 1) := cg26_0.2.2.2.2.2.1
theorem c26_12 : mc_cd 26 12 = some (.invokevirtual 54, 3) := cg26_0.2.2.2.2.2.2.1
theorem c26_15 : mc_cd 26 15 = some (.ifnonnull 7, 3) := cg26_0.2.2.2.2.2.2.2
theorem cg26_18 : mc_cd 26 18 = some (.iconst 1, 1) ∧ mc_cd 26 19 = some (.goto 4, 3) ∧ mc_cd 26 22 = some (.iconst 0, 1) ∧ mc_cd 26 23 = some (.ireturn, 1) := by decide +kernel
theorem c26_18 : mc_cd 26 18 = some (.iconst 1, 1) := cg26_18.1
theorem c26_19 : mc_cd 26 19 = some (.goto 4, 3) := cg26_18.2.1
theorem c26_22 : mc_cd 26 22 = some (.iconst 0, 1) := cg26_18.2.2.1
theorem c26_23 : mc_cd 26 23 = some (.ireturn, 1) := cg26_18.2.2.2
/-! StrikeAwake$Parish.personNamed(J)I -/
theorem e27 : wq_en 27 = some (7, 4, false, some FieldType.int) := rfl
theorem cg27_0 : mc_cd 27 0 = some (.iconst 0, 1) ∧ mc_cd 27 1 = some (.istore_n 3, 1) ∧ mc_cd 27 2 = some (.iload_n 3, 1) ∧ mc_cd 27 3 = some (.aload_n 0, 1) ∧ mc_cd 27 4 = some (.getfield 50, 3) ∧ mc_cd 27 7 = some (.if_icmp .ge 25, 3) ∧ mc_cd 27 10 = some (.aload_n 0, 1) ∧ mc_cd 27 11 = some (.getfield 11, 3) := by decide +kernel
theorem c27_0 : mc_cd 27 0 = some (.iconst 0, 1) := cg27_0.1
theorem c27_1 : mc_cd 27 1 = some (.istore_n 3, 1) := cg27_0.2.1
theorem c27_2 : mc_cd 27 2 = some (.iload_n 3, 1) := cg27_0.2.2.1
theorem c27_3 : mc_cd 27 3 = some (.aload_n 0, 1) := cg27_0.2.2.2.1
theorem c27_4 : mc_cd 27 4 = some (.getfield 50, 3) := cg27_0.2.2.2.2.1
theorem c27_7 : mc_cd 27 7 = some (.if_icmp .ge 25, 3) := cg27_0.2.2.2.2.2.1
theorem c27_10 : mc_cd 27 10 = some (.aload_n 0, 1) := cg27_0.2.2.2.2.2.2.1
theorem c27_11 : mc_cd 27 11 = some (.getfield 11, 3) := cg27_0.2.2.2.2.2.2.2
theorem cg27_14 : mc_cd 27 14 = some (.iload_n 3, 1) ∧ mc_cd 27 15 = some (.aaload, 1) ∧ mc_cd 27 16 = some (.getfield 86, 3) ∧ mc_cd 27 19 = some (.lload_n 1, 1) ∧ mc_cd 27 20 = some (.lcmp, 1) ∧ mc_cd 27 21 = some (.ifCond .ne 5, 3) ∧ mc_cd 27 24 = some (.iload_n 3, 1) ∧ mc_cd 27 25 = some (.ireturn, 1) := by decide +kernel
theorem c27_14 : mc_cd 27 14 = some (.iload_n 3, 1) := cg27_14.1
theorem c27_15 : mc_cd 27 15 = some (.aaload, 1) := cg27_14.2.1
theorem c27_16 : mc_cd 27 16 = some (.getfield 86, 3) := cg27_14.2.2.1
theorem c27_19 : mc_cd 27 19 = some (.lload_n 1, 1) := cg27_14.2.2.2.1
theorem c27_20 : mc_cd 27 20 = some (.lcmp, 1) := cg27_14.2.2.2.2.1
theorem c27_21 : mc_cd 27 21 = some (.ifCond .ne 5, 3) := cg27_14.2.2.2.2.2.1
theorem c27_24 : mc_cd 27 24 = some (.iload_n 3, 1) := cg27_14.2.2.2.2.2.2.1
theorem c27_25 : mc_cd 27 25 = some (.ireturn, 1) := cg27_14.2.2.2.2.2.2.2
theorem cg27_26 : mc_cd 27 26 = some (.iinc 3 1, 3) ∧ mc_cd 27 29 = some (.goto (-27), 3) ∧ mc_cd 27 32 = some (.iconst (-1), 1) ∧ mc_cd 27 33 = some (.ireturn, 1) := by decide +kernel
theorem c27_26 : mc_cd 27 26 = some (.iinc 3 1, 3) := cg27_26.1
theorem c27_29 : mc_cd 27 29 = some (.goto (-27), 3) := cg27_26.2.1
theorem c27_32 : mc_cd 27 32 = some (.iconst (-1), 1) := cg27_26.2.2.1
theorem c27_33 : mc_cd 27 33 = some (.ireturn, 1) := cg27_26.2.2.2
/-! StrikeAwake$Person.clear(J)V -/
theorem e28 : wq_en 28 = some (8, 3, false, none) := rfl
theorem cg28_0 : mc_cd 28 0 = some (.aload_n 0, 1) ∧ mc_cd 28 1 = some (.lload_n 1, 1) ∧ mc_cd 28 2 = some (.putfield 31, 3) ∧ mc_cd 28 5 = some (.aload_n 0, 1) ∧ mc_cd 28 6 = some (.iconst (-1), 1) ∧ mc_cd 28 7 = some (.putfield 35, 3) ∧ mc_cd 28 10 = some (.aload_n 0, 1) ∧ mc_cd 28 11 = some (.iconst 0, 1) := by decide +kernel
theorem c28_0 : mc_cd 28 0 = some (.aload_n 0, 1) := cg28_0.1
theorem c28_1 : mc_cd 28 1 = some (.lload_n 1, 1) := cg28_0.2.1
theorem c28_2 : mc_cd 28 2 = some (.putfield 31, 3) := cg28_0.2.2.1
theorem c28_5 : mc_cd 28 5 = some (.aload_n 0, 1) := cg28_0.2.2.2.1
theorem c28_6 : mc_cd 28 6 = some (.iconst (-1), 1) := cg28_0.2.2.2.2.1
theorem c28_7 : mc_cd 28 7 = some (.putfield 35, 3) := cg28_0.2.2.2.2.2.1
theorem c28_10 : mc_cd 28 10 = some (.aload_n 0, 1) := cg28_0.2.2.2.2.2.2.1
theorem c28_11 : mc_cd 28 11 = some (.iconst 0, 1) := cg28_0.2.2.2.2.2.2.2
theorem cg28_12 : mc_cd 28 12 = some (.putfield 39, 3) ∧ mc_cd 28 15 = some (.aload_n 0, 1) ∧ mc_cd 28 16 = some (.iconst 0, 1) ∧ mc_cd 28 17 = some (.putfield 42, 3) ∧ mc_cd 28 20 = some (.aload_n 0, 1) ∧ mc_cd 28 21 = some (.iconst 0, 1) ∧ mc_cd 28 22 = some (.putfield 46, 3) ∧ mc_cd 28 25 = some (.aload_n 0, 1) := by decide +kernel
theorem c28_12 : mc_cd 28 12 = some (.putfield 39, 3) := cg28_12.1
theorem c28_15 : mc_cd 28 15 = some (.aload_n 0, 1) := cg28_12.2.1
theorem c28_16 : mc_cd 28 16 = some (.iconst 0, 1) := cg28_12.2.2.1
theorem c28_17 : mc_cd 28 17 = some (.putfield 42, 3) := cg28_12.2.2.2.1
theorem c28_20 : mc_cd 28 20 = some (.aload_n 0, 1) := cg28_12.2.2.2.2.1
theorem c28_21 : mc_cd 28 21 = some (.iconst 0, 1) := cg28_12.2.2.2.2.2.1
theorem c28_22 : mc_cd 28 22 = some (.putfield 46, 3) := cg28_12.2.2.2.2.2.2.1
theorem c28_25 : mc_cd 28 25 = some (.aload_n 0, 1) := cg28_12.2.2.2.2.2.2.2
theorem cg28_26 : mc_cd 28 26 = some (.iconst 0, 1) ∧ mc_cd 28 27 = some (.putfield 49, 3) ∧ mc_cd 28 30 = some (.aload_n 0, 1) ∧ mc_cd 28 31 = some (.iconst 0, 1) ∧ mc_cd 28 32 = some (.putfield 52, 3) ∧ mc_cd 28 35 = some (.aload_n 0, 1) ∧ mc_cd 28 36 = some (.iconst 0, 1) ∧ mc_cd 28 37 = some (.putfield 55, 3) := by decide +kernel
theorem c28_26 : mc_cd 28 26 = some (.iconst 0, 1) := cg28_26.1
theorem c28_27 : mc_cd 28 27 = some (.putfield 49, 3) := cg28_26.2.1
theorem c28_30 : mc_cd 28 30 = some (.aload_n 0, 1) := cg28_26.2.2.1
theorem c28_31 : mc_cd 28 31 = some (.iconst 0, 1) := cg28_26.2.2.2.1
theorem c28_32 : mc_cd 28 32 = some (.putfield 52, 3) := cg28_26.2.2.2.2.1
theorem c28_35 : mc_cd 28 35 = some (.aload_n 0, 1) := cg28_26.2.2.2.2.2.1
theorem c28_36 : mc_cd 28 36 = some (.iconst 0, 1) := cg28_26.2.2.2.2.2.2.1
theorem c28_37 : mc_cd 28 37 = some (.putfield 55, 3) := cg28_26.2.2.2.2.2.2.2
theorem c28_40 : mc_cd 28 40 = some (.return_, 1) := by decide +kernel
/-! StrikeAwake$Reader.takesRange(IIII)Z -/
theorem e29 : wq_en 29 = some (1, 5, false, some FieldType.boolean) := rfl
theorem cg29_0 : mc_cd 29 0 = some (.aload_n 0, 1) ∧ mc_cd 29 1 = some (.aload_n 0, 1) ∧ mc_cd 29 2 = some (.iconst 0, 1) ∧ mc_cd 29 3 = some (.iload_n 1, 1) ∧ mc_cd 29 4 = some (.invokevirtual 119, 3) ∧ mc_cd 29 7 = some (.putfield 158, 3) ∧ mc_cd 29 10 = some (.aload_n 0, 1) ∧ mc_cd 29 11 = some (.getfield 158, 3) := by decide +kernel
theorem c29_0 : mc_cd 29 0 = some (.aload_n 0, 1) := cg29_0.1
theorem c29_1 : mc_cd 29 1 = some (.aload_n 0, 1) := cg29_0.2.1
theorem c29_2 : mc_cd 29 2 = some (.iconst 0, 1) := cg29_0.2.2.1
theorem c29_3 : mc_cd 29 3 = some (.iload_n 1, 1) := cg29_0.2.2.2.1
theorem c29_4 : mc_cd 29 4 = some (.invokevirtual 119, 3) := cg29_0.2.2.2.2.1
theorem c29_7 : mc_cd 29 7 = some (.putfield 158, 3) := cg29_0.2.2.2.2.2.1
theorem c29_10 : mc_cd 29 10 = some (.aload_n 0, 1) := cg29_0.2.2.2.2.2.2.1
theorem c29_11 : mc_cd 29 11 = some (.getfield 158, 3) := cg29_0.2.2.2.2.2.2.2
theorem cg29_14 : mc_cd 29 14 = some (.ifCond .lt 13, 3) ∧ mc_cd 29 17 = some (.aload_n 0, 1) ∧ mc_cd 29 18 = some (.ldc_w 262, 3) ∧ mc_cd 29 21 = some (.invokevirtual 115, 3) ∧ mc_cd 29 24 = some (.ifCond .ne 5, 3) ∧ mc_cd 29 27 = some (.iconst 0, 1) ∧ mc_cd 29 28 = some (.ireturn, 1) ∧ mc_cd 29 29 = some (.aload_n 0, 1) := by decide +kernel
theorem c29_14 : mc_cd 29 14 = some (.ifCond .lt 13, 3) := cg29_14.1
theorem c29_17 : mc_cd 29 17 = some (.aload_n 0, 1) := cg29_14.2.1
theorem c29_18 : mc_cd 29 18 = some (.ldc_w 262, 3) := cg29_14.2.2.1
theorem c29_21 : mc_cd 29 21 = some (.invokevirtual 115, 3) := cg29_14.2.2.2.1
theorem c29_24 : mc_cd 29 24 = some (.ifCond .ne 5, 3) := cg29_14.2.2.2.2.1
theorem c29_27 : mc_cd 29 27 = some (.iconst 0, 1) := cg29_14.2.2.2.2.2.1
theorem c29_28 : mc_cd 29 28 = some (.ireturn, 1) := cg29_14.2.2.2.2.2.2.1
theorem c29_29 : mc_cd 29 29 = some (.aload_n 0, 1) := cg29_14.2.2.2.2.2.2.2
theorem cg29_30 : mc_cd 29 30 = some (.aload_n 0, 1) ∧ mc_cd 29 31 = some (.aload_n 0, 1) ∧ mc_cd 29 32 = some (.getfield 158, 3) ∧ mc_cd 29 35 = some (.iload_n 2, 1) ∧ mc_cd 29 36 = some (.iadd, 1) ∧ mc_cd 29 37 = some (.aload_n 0, 1) ∧ mc_cd 29 38 = some (.getfield 158, 3) ∧ mc_cd 29 41 = some (.iload_n 3, 1) := by decide +kernel
theorem c29_30 : mc_cd 29 30 = some (.aload_n 0, 1) := cg29_30.1
theorem c29_31 : mc_cd 29 31 = some (.aload_n 0, 1) := cg29_30.2.1
theorem c29_32 : mc_cd 29 32 = some (.getfield 158, 3) := cg29_30.2.2.1
theorem c29_35 : mc_cd 29 35 = some (.iload_n 2, 1) := cg29_30.2.2.2.1
theorem c29_36 : mc_cd 29 36 = some (.iadd, 1) := cg29_30.2.2.2.2.1
theorem c29_37 : mc_cd 29 37 = some (.aload_n 0, 1) := cg29_30.2.2.2.2.2.1
theorem c29_38 : mc_cd 29 38 = some (.getfield 158, 3) := cg29_30.2.2.2.2.2.2.1
theorem c29_41 : mc_cd 29 41 = some (.iload_n 3, 1) := cg29_30.2.2.2.2.2.2.2
theorem cg29_42 : mc_cd 29 42 = some (.iadd, 1) ∧ mc_cd 29 43 = some (.iload 4, 2) ∧ mc_cd 29 45 = some (.invokestatic 263, 3) ∧ mc_cd 29 48 = some (.invokevirtual 119, 3) ∧ mc_cd 29 51 = some (.putfield 164, 3) ∧ mc_cd 29 54 = some (.aload_n 0, 1) ∧ mc_cd 29 55 = some (.getfield 164, 3) ∧ mc_cd 29 58 = some (.ifCond .lt 7, 3) := by decide +kernel
theorem c29_42 : mc_cd 29 42 = some (.iadd, 1) := cg29_42.1
theorem c29_43 : mc_cd 29 43 = some (.iload 4, 2) := cg29_42.2.1
theorem c29_45 : mc_cd 29 45 = some (.invokestatic 263, 3) := cg29_42.2.2.1
theorem c29_48 : mc_cd 29 48 = some (.invokevirtual 119, 3) := cg29_42.2.2.2.1
theorem c29_51 : mc_cd 29 51 = some (.putfield 164, 3) := cg29_42.2.2.2.2.1
theorem c29_54 : mc_cd 29 54 = some (.aload_n 0, 1) := cg29_42.2.2.2.2.2.1
theorem c29_55 : mc_cd 29 55 = some (.getfield 164, 3) := cg29_42.2.2.2.2.2.2.1
theorem c29_58 : mc_cd 29 58 = some (.ifCond .lt 7, 3) := cg29_42.2.2.2.2.2.2.2
theorem cg29_61 : mc_cd 29 61 = some (.iconst 1, 1) ∧ mc_cd 29 62 = some (.goto 4, 3) ∧ mc_cd 29 65 = some (.iconst 0, 1) ∧ mc_cd 29 66 = some (.ireturn, 1) := by decide +kernel
theorem c29_61 : mc_cd 29 61 = some (.iconst 1, 1) := cg29_61.1
theorem c29_62 : mc_cd 29 62 = some (.goto 4, 3) := cg29_61.2.1
theorem c29_65 : mc_cd 29 65 = some (.iconst 0, 1) := cg29_61.2.2.1
theorem c29_66 : mc_cd 29 66 = some (.ireturn, 1) := cg29_61.2.2.2
/-! StrikeAwake$Reader.readsPerson(LStrikeAwake$Parish;)Z -/
theorem e25 : wq_en 25 = some (1, 3, false, some FieldType.boolean) := rfl
theorem cg25_0 : mc_cd 25 0 = some (.aload_n 0, 1) ∧ mc_cd 25 1 = some (.invokevirtual 131, 3) ∧ mc_cd 25 4 = some (.ifCond .ne 9, 3) ∧ mc_cd 25 7 = some (.aload_n 0, 1) ∧ mc_cd 25 8 = some (.iconst 1, 1) ∧ mc_cd 25 9 = some (.invokevirtual 47, 3) ∧ mc_cd 25 12 = some (.ireturn, 1) ∧ mc_cd 25 13 = some (.aload_n 1, 1) := by decide +kernel
theorem c25_0 : mc_cd 25 0 = some (.aload_n 0, 1) := cg25_0.1
theorem c25_1 : mc_cd 25 1 = some (.invokevirtual 131, 3) := cg25_0.2.1
theorem c25_4 : mc_cd 25 4 = some (.ifCond .ne 9, 3) := cg25_0.2.2.1
theorem c25_7 : mc_cd 25 7 = some (.aload_n 0, 1) := cg25_0.2.2.2.1
theorem c25_8 : mc_cd 25 8 = some (.iconst 1, 1) := cg25_0.2.2.2.2.1
theorem c25_9 : mc_cd 25 9 = some (.invokevirtual 47, 3) := cg25_0.2.2.2.2.2.1
theorem c25_12 : mc_cd 25 12 = some (.ireturn, 1) := cg25_0.2.2.2.2.2.2.1
theorem c25_13 : mc_cd 25 13 = some (.aload_n 1, 1) := cg25_0.2.2.2.2.2.2.2
theorem cg25_14 : mc_cd 25 14 = some (.aload_n 0, 1) ∧ mc_cd 25 15 = some (.getfield 12, 3) ∧ mc_cd 25 18 = some (.getfield 135, 3) ∧ mc_cd 25 21 = some (.invokevirtual 139, 3) ∧ mc_cd 25 24 = some (.ifCond .lt 9, 3) ∧ mc_cd 25 27 = some (.aload_n 0, 1) ∧ mc_cd 25 28 = some (.iconst 3, 1) ∧ mc_cd 25 29 = some (.invokevirtual 47, 3) := by decide +kernel
theorem c25_14 : mc_cd 25 14 = some (.aload_n 0, 1) := cg25_14.1
theorem c25_15 : mc_cd 25 15 = some (.getfield 12, 3) := cg25_14.2.1
theorem c25_18 : mc_cd 25 18 = some (.getfield 135, 3) := cg25_14.2.2.1
theorem c25_21 : mc_cd 25 21 = some (.invokevirtual 139, 3) := cg25_14.2.2.2.1
theorem c25_24 : mc_cd 25 24 = some (.ifCond .lt 9, 3) := cg25_14.2.2.2.2.1
theorem c25_27 : mc_cd 25 27 = some (.aload_n 0, 1) := cg25_14.2.2.2.2.2.1
theorem c25_28 : mc_cd 25 28 = some (.iconst 3, 1) := cg25_14.2.2.2.2.2.2.1
theorem c25_29 : mc_cd 25 29 = some (.invokevirtual 47, 3) := cg25_14.2.2.2.2.2.2.2
theorem cg25_32 : mc_cd 25 32 = some (.ireturn, 1) ∧ mc_cd 25 33 = some (.aload_n 1, 1) ∧ mc_cd 25 34 = some (.getfield 143, 3) ∧ mc_cd 25 37 = some (.aload_n 1, 1) ∧ mc_cd 25 38 = some (.getfield 44, 3) ∧ mc_cd 25 41 = some (.aaload, 1) ∧ mc_cd 25 42 = some (.astore_n 2, 1) ∧ mc_cd 25 43 = some (.aload_n 2, 1) := by decide +kernel
theorem c25_32 : mc_cd 25 32 = some (.ireturn, 1) := cg25_32.1
theorem c25_33 : mc_cd 25 33 = some (.aload_n 1, 1) := cg25_32.2.1
theorem c25_34 : mc_cd 25 34 = some (.getfield 143, 3) := cg25_32.2.2.1
theorem c25_37 : mc_cd 25 37 = some (.aload_n 1, 1) := cg25_32.2.2.2.1
theorem c25_38 : mc_cd 25 38 = some (.getfield 44, 3) := cg25_32.2.2.2.2.1
theorem c25_41 : mc_cd 25 41 = some (.aaload, 1) := cg25_32.2.2.2.2.2.1
theorem c25_42 : mc_cd 25 42 = some (.astore_n 2, 1) := cg25_32.2.2.2.2.2.2.1
theorem c25_43 : mc_cd 25 43 = some (.aload_n 2, 1) := cg25_32.2.2.2.2.2.2.2
theorem cg25_44 : mc_cd 25 44 = some (.aload_n 0, 1) ∧ mc_cd 25 45 = some (.getfield 12, 3) ∧ mc_cd 25 48 = some (.getfield 135, 3) ∧ mc_cd 25 51 = some (.invokevirtual 147, 3) ∧ mc_cd 25 54 = some (.aload_n 0, 1) ∧ mc_cd 25 55 = some (.getfield 12, 3) ∧ mc_cd 25 58 = some (.invokevirtual 74, 3) ∧ mc_cd 25 61 = some (.aload_n 0, 1) := by decide +kernel
theorem c25_44 : mc_cd 25 44 = some (.aload_n 0, 1) := cg25_44.1
theorem c25_45 : mc_cd 25 45 = some (.getfield 12, 3) := cg25_44.2.1
theorem c25_48 : mc_cd 25 48 = some (.getfield 135, 3) := cg25_44.2.2.1
theorem c25_51 : mc_cd 25 51 = some (.invokevirtual 147, 3) := cg25_44.2.2.2.1
theorem c25_54 : mc_cd 25 54 = some (.aload_n 0, 1) := cg25_44.2.2.2.2.1
theorem c25_55 : mc_cd 25 55 = some (.getfield 12, 3) := cg25_44.2.2.2.2.2.1
theorem c25_58 : mc_cd 25 58 = some (.invokevirtual 74, 3) := cg25_44.2.2.2.2.2.2.1
theorem c25_61 : mc_cd 25 61 = some (.aload_n 0, 1) := cg25_44.2.2.2.2.2.2.2
theorem cg25_62 : mc_cd 25 62 = some (.ldc 152, 2) ∧ mc_cd 25 64 = some (.invokevirtual 115, 3) ∧ mc_cd 25 67 = some (.ifCond .eq 17, 3) ∧ mc_cd 25 70 = some (.aload_n 0, 1) ∧ mc_cd 25 71 = some (.bipush 23, 2) ∧ mc_cd 25 73 = some (.iconst 0, 1) ∧ mc_cd 25 74 = some (.bipush 7, 2) ∧ mc_cd 25 76 = some (.bipush 23, 2) := by decide +kernel
theorem c25_62 : mc_cd 25 62 = some (.ldc 152, 2) := cg25_62.1
theorem c25_64 : mc_cd 25 64 = some (.invokevirtual 115, 3) := cg25_62.2.1
theorem c25_67 : mc_cd 25 67 = some (.ifCond .eq 17, 3) := cg25_62.2.2.1
theorem c25_70 : mc_cd 25 70 = some (.aload_n 0, 1) := cg25_62.2.2.2.1
theorem c25_71 : mc_cd 25 71 = some (.bipush 23, 2) := cg25_62.2.2.2.2.1
theorem c25_73 : mc_cd 25 73 = some (.iconst 0, 1) := cg25_62.2.2.2.2.2.1
theorem c25_74 : mc_cd 25 74 = some (.bipush 7, 2) := cg25_62.2.2.2.2.2.2.1
theorem c25_76 : mc_cd 25 76 = some (.bipush 23, 2) := cg25_62.2.2.2.2.2.2.2
theorem cg25_78 : mc_cd 25 78 = some (.invokevirtual 154, 3) ∧ mc_cd 25 81 = some (.ifCond .ne 5, 3) ∧ mc_cd 25 84 = some (.iconst 0, 1) ∧ mc_cd 25 85 = some (.ireturn, 1) ∧ mc_cd 25 86 = some (.aload_n 2, 1) ∧ mc_cd 25 87 = some (.aload_n 0, 1) ∧ mc_cd 25 88 = some (.getfield 158, 3) ∧ mc_cd 25 91 = some (.putfield 161, 3) := by decide +kernel
theorem c25_78 : mc_cd 25 78 = some (.invokevirtual 154, 3) := cg25_78.1
theorem c25_81 : mc_cd 25 81 = some (.ifCond .ne 5, 3) := cg25_78.2.1
theorem c25_84 : mc_cd 25 84 = some (.iconst 0, 1) := cg25_78.2.2.1
theorem c25_85 : mc_cd 25 85 = some (.ireturn, 1) := cg25_78.2.2.2.1
theorem c25_86 : mc_cd 25 86 = some (.aload_n 2, 1) := cg25_78.2.2.2.2.1
theorem c25_87 : mc_cd 25 87 = some (.aload_n 0, 1) := cg25_78.2.2.2.2.2.1
theorem c25_88 : mc_cd 25 88 = some (.getfield 158, 3) := cg25_78.2.2.2.2.2.2.1
theorem c25_91 : mc_cd 25 91 = some (.putfield 161, 3) := cg25_78.2.2.2.2.2.2.2
theorem cg25_94 : mc_cd 25 94 = some (.aload_n 2, 1) ∧ mc_cd 25 95 = some (.aload_n 0, 1) ∧ mc_cd 25 96 = some (.getfield 164, 3) ∧ mc_cd 25 99 = some (.putfield 167, 3) ∧ mc_cd 25 102 = some (.aload_n 0, 1) ∧ mc_cd 25 103 = some (.ldc 170, 2) ∧ mc_cd 25 105 = some (.invokevirtual 115, 3) ∧ mc_cd 25 108 = some (.ifCond .eq 16, 3) := by decide +kernel
theorem c25_94 : mc_cd 25 94 = some (.aload_n 2, 1) := cg25_94.1
theorem c25_95 : mc_cd 25 95 = some (.aload_n 0, 1) := cg25_94.2.1
theorem c25_96 : mc_cd 25 96 = some (.getfield 164, 3) := cg25_94.2.2.1
theorem c25_99 : mc_cd 25 99 = some (.putfield 167, 3) := cg25_94.2.2.2.1
theorem c25_102 : mc_cd 25 102 = some (.aload_n 0, 1) := cg25_94.2.2.2.2.1
theorem c25_103 : mc_cd 25 103 = some (.ldc 170, 2) := cg25_94.2.2.2.2.2.1
theorem c25_105 : mc_cd 25 105 = some (.invokevirtual 115, 3) := cg25_94.2.2.2.2.2.2.1
theorem c25_108 : mc_cd 25 108 = some (.ifCond .eq 16, 3) := cg25_94.2.2.2.2.2.2.2
theorem cg25_111 : mc_cd 25 111 = some (.aload_n 0, 1) ∧ mc_cd 25 112 = some (.bipush 12, 2) ∧ mc_cd 25 114 = some (.iconst 0, 1) ∧ mc_cd 25 115 = some (.iconst 4, 1) ∧ mc_cd 25 116 = some (.bipush 12, 2) ∧ mc_cd 25 118 = some (.invokevirtual 154, 3) ∧ mc_cd 25 121 = some (.ifCond .ne 5, 3) ∧ mc_cd 25 124 = some (.iconst 0, 1) := by decide +kernel
theorem c25_111 : mc_cd 25 111 = some (.aload_n 0, 1) := cg25_111.1
theorem c25_112 : mc_cd 25 112 = some (.bipush 12, 2) := cg25_111.2.1
theorem c25_114 : mc_cd 25 114 = some (.iconst 0, 1) := cg25_111.2.2.1
theorem c25_115 : mc_cd 25 115 = some (.iconst 4, 1) := cg25_111.2.2.2.1
theorem c25_116 : mc_cd 25 116 = some (.bipush 12, 2) := cg25_111.2.2.2.2.1
theorem c25_118 : mc_cd 25 118 = some (.invokevirtual 154, 3) := cg25_111.2.2.2.2.2.1
theorem c25_121 : mc_cd 25 121 = some (.ifCond .ne 5, 3) := cg25_111.2.2.2.2.2.2.1
theorem c25_124 : mc_cd 25 124 = some (.iconst 0, 1) := cg25_111.2.2.2.2.2.2.2
theorem cg25_125 : mc_cd 25 125 = some (.ireturn, 1) ∧ mc_cd 25 126 = some (.aload_n 2, 1) ∧ mc_cd 25 127 = some (.aload_n 0, 1) ∧ mc_cd 25 128 = some (.getfield 158, 3) ∧ mc_cd 25 131 = some (.putfield 172, 3) ∧ mc_cd 25 134 = some (.aload_n 2, 1) ∧ mc_cd 25 135 = some (.aload_n 0, 1) ∧ mc_cd 25 136 = some (.getfield 164, 3) := by decide +kernel
theorem c25_125 : mc_cd 25 125 = some (.ireturn, 1) := cg25_125.1
theorem c25_126 : mc_cd 25 126 = some (.aload_n 2, 1) := cg25_125.2.1
theorem c25_127 : mc_cd 25 127 = some (.aload_n 0, 1) := cg25_125.2.2.1
theorem c25_128 : mc_cd 25 128 = some (.getfield 158, 3) := cg25_125.2.2.2.1
theorem c25_131 : mc_cd 25 131 = some (.putfield 172, 3) := cg25_125.2.2.2.2.1
theorem c25_134 : mc_cd 25 134 = some (.aload_n 2, 1) := cg25_125.2.2.2.2.2.1
theorem c25_135 : mc_cd 25 135 = some (.aload_n 0, 1) := cg25_125.2.2.2.2.2.2.1
theorem c25_136 : mc_cd 25 136 = some (.getfield 164, 3) := cg25_125.2.2.2.2.2.2.2
theorem cg25_139 : mc_cd 25 139 = some (.putfield 175, 3) ∧ mc_cd 25 142 = some (.iconst 1, 1) ∧ mc_cd 25 143 = some (.ireturn, 1) := by decide +kernel
theorem c25_139 : mc_cd 25 139 = some (.putfield 175, 3) := cg25_139.1
theorem c25_142 : mc_cd 25 142 = some (.iconst 1, 1) := cg25_139.2.1
theorem c25_143 : mc_cd 25 143 = some (.ireturn, 1) := cg25_139.2.2
/-! StrikeAwake.hourBits(II)I -/
theorem e31 : wq_en 31 = some (0, 2, false, some FieldType.int) := rfl
theorem cg31_0 : mc_cd 31 0 = some (.lconst 1, 1) ∧ mc_cd 31 1 = some (.iload_n 1, 1) ∧ mc_cd 31 2 = some (.lshl, 1) ∧ mc_cd 31 3 = some (.lconst 1, 1) ∧ mc_cd 31 4 = some (.iload_n 0, 1) ∧ mc_cd 31 5 = some (.lshl, 1) ∧ mc_cd 31 6 = some (.lsub, 1) ∧ mc_cd 31 7 = some (.l2i, 1) := by decide +kernel
theorem c31_0 : mc_cd 31 0 = some (.lconst 1, 1) := cg31_0.1
theorem c31_1 : mc_cd 31 1 = some (.iload_n 1, 1) := cg31_0.2.1
theorem c31_2 : mc_cd 31 2 = some (.lshl, 1) := cg31_0.2.2.1
theorem c31_3 : mc_cd 31 3 = some (.lconst 1, 1) := cg31_0.2.2.2.1
theorem c31_4 : mc_cd 31 4 = some (.iload_n 0, 1) := cg31_0.2.2.2.2.1
theorem c31_5 : mc_cd 31 5 = some (.lshl, 1) := cg31_0.2.2.2.2.2.1
theorem c31_6 : mc_cd 31 6 = some (.lsub, 1) := cg31_0.2.2.2.2.2.2.1
theorem c31_7 : mc_cd 31 7 = some (.l2i, 1) := cg31_0.2.2.2.2.2.2.2
theorem cg31_8 : mc_cd 31 8 = some (.ldc_w 350, 3) ∧ mc_cd 31 11 = some (.iand, 1) ∧ mc_cd 31 12 = some (.ireturn, 1) := by decide +kernel
theorem c31_8 : mc_cd 31 8 = some (.ldc_w 350, 3) := cg31_8.1
theorem c31_11 : mc_cd 31 11 = some (.iand, 1) := cg31_8.2.1
theorem c31_12 : mc_cd 31 12 = some (.ireturn, 1) := cg31_8.2.2
abbrev q_31 (a0 : Int) (a1 : Int) (T : wq_T) (H : wq_H) : Option Value → wq_T → wq_H → Prop := fun r T' H' => T = T' ∧ H = H' ∧ ∃ z : Int, some (vI z) = r ∧ ((-2147483648) ≤ z ∧ z ≤ 2147483647)
set_option maxHeartbeats 4000000 in
theorem s_31 {kt : Nat → Option mc_E} {T : wq_T} {H : wq_H} {a0 : Int} {a1 : Int} (hW : WT T H) (i0 : (-2147483648) ≤ a0 ∧ a0 ≤ 2147483647) (i1 : (-2147483648) ≤ a1 ∧ a1 ≤ 2147483647) : wpc kt 1 31 [vI a0, vI a1] T H (q_31 a0 a1 T H) := by
  refine wp_enter e31 (Nat.le_of_ble_eq_true rfl) rfl ?_
  show wp _ _ 31 0 [(0, vI a0), (1, vI a1)] [] _ H _
  refine wp_of e31 c31_0 (rw_lconst (pc' := 1) (z := 1) rfl rfl ?_)
  refine wp_of e31 c31_1 (rw_iload_n (pc' := 2) (z := a1) rfl rfl ?_)
  refine wp_of e31 c31_2 (rw_lshl (pc' := 3) rfl ?_)
  obtain ⟨v9155, e9156⟩ : ∃ x : Int, x = wl_shl 1 a1 := ⟨_, rfl⟩
  rw [← e9156]
  have b9157 : -9223372036854775808 ≤ v9155 ∧ v9155 ≤ 9223372036854775807 := by
    rw [e9156]
    exact wL_shl _ _
  refine wp_of e31 c31_3 (rw_lconst (pc' := 4) (z := 1) rfl rfl ?_)
  refine wp_of e31 c31_4 (rw_iload_n (pc' := 5) (z := a0) rfl rfl ?_)
  refine wp_of e31 c31_5 (rw_lshl (pc' := 6) rfl ?_)
  obtain ⟨v9158, e9159⟩ : ∃ x : Int, x = wl_shl 1 a0 := ⟨_, rfl⟩
  rw [← e9159]
  have b9160 : -9223372036854775808 ≤ v9158 ∧ v9158 ≤ 9223372036854775807 := by
    rw [e9159]
    exact wL_shl _ _
  refine wp_of e31 c31_6 (rw_lsubw (pc' := 7) rfl ?_)
  obtain ⟨v9161, e9162⟩ : ∃ x : Int, x = wl_w (v9155 - v9158) := ⟨_, rfl⟩
  rw [← e9162]
  have b9163 : -9223372036854775808 ≤ v9161 ∧ v9161 ≤ 9223372036854775807 := by
    rw [e9162]
    exact wL_w _
  refine wp_of e31 c31_7 (rw_l2i (pc' := 8) rfl ?_)
  obtain ⟨v9164, e9165⟩ : ∃ x : Int, x = wq_w v9161 := ⟨_, rfl⟩
  rw [← e9165]
  have b9166 : -2147483648 ≤ v9164 ∧ v9164 ≤ 2147483647 := by
    rw [e9165]
    exact wI_w _
  have b9167 : (-2147483648 ≤ v9161 ∧ v9161 ≤ 2147483647) → v9164 = v9161 := by
    rw [e9165]
    exact fun h => wq_w_id h
  refine wp_of e31 c31_8 (rw_ldc_wI (pc' := 11) (z := 16777215) rfl rfl rfl ?_)
  refine wp_of e31 c31_11 (rw_iand (pc' := 12) rfl ?_)
  obtain ⟨v9168, e9169⟩ : ∃ x : Int, x = wq_and v9164 16777215 := ⟨_, rfl⟩
  rw [← e9169]
  have b9170 : 0 ≤ v9168 ∧ v9168 ≤ 16777215 := by
    rw [e9169]
    exact wq_and_b _ (by omega) (by omega)
  exact wp_ireturn e31 c31_12 rfl ⟨rfl, rfl, v9168, rfl, ⟨by omega, by omega⟩⟩
/-! StrikeAwake$Reader.readsCustoms(LStrikeAwake$Parish;)Z -/
theorem e30 : wq_en 30 = some (1, 3, false, some FieldType.boolean) := rfl
theorem cg30_0 : mc_cd 30 0 = some (.aload_n 1, 1) ∧ mc_cd 30 1 = some (.getfield 143, 3) ∧ mc_cd 30 4 = some (.aload_n 1, 1) ∧ mc_cd 30 5 = some (.getfield 44, 3) ∧ mc_cd 30 8 = some (.aaload, 1) ∧ mc_cd 30 9 = some (.astore_n 2, 1) ∧ mc_cd 30 10 = some (.aload_n 0, 1) ∧ mc_cd 30 11 = some (.getfield 12, 3) := by decide +kernel
theorem c30_0 : mc_cd 30 0 = some (.aload_n 1, 1) := cg30_0.1
theorem c30_1 : mc_cd 30 1 = some (.getfield 143, 3) := cg30_0.2.1
theorem c30_4 : mc_cd 30 4 = some (.aload_n 1, 1) := cg30_0.2.2.1
theorem c30_5 : mc_cd 30 5 = some (.getfield 44, 3) := cg30_0.2.2.2.1
theorem c30_8 : mc_cd 30 8 = some (.aaload, 1) := cg30_0.2.2.2.2.1
theorem c30_9 : mc_cd 30 9 = some (.astore_n 2, 1) := cg30_0.2.2.2.2.2.1
theorem c30_10 : mc_cd 30 10 = some (.aload_n 0, 1) := cg30_0.2.2.2.2.2.2.1
theorem c30_11 : mc_cd 30 11 = some (.getfield 12, 3) := cg30_0.2.2.2.2.2.2.2
theorem cg30_14 : mc_cd 30 14 = some (.getstatic 178, 3) ∧ mc_cd 30 17 = some (.getfield 181, 3) ∧ mc_cd 30 20 = some (.invokevirtual 185, 3) ∧ mc_cd 30 23 = some (.ifCond .eq 30, 3) ∧ mc_cd 30 26 = some (.aload_n 0, 1) ∧ mc_cd 30 27 = some (.getfield 12, 3) ∧ mc_cd 30 30 = some (.invokevirtual 74, 3) ∧ mc_cd 30 33 = some (.aload_n 2, 1) := by decide +kernel
theorem c30_14 : mc_cd 30 14 = some (.getstatic 178, 3) := cg30_14.1
theorem c30_17 : mc_cd 30 17 = some (.getfield 181, 3) := cg30_14.2.1
theorem c30_20 : mc_cd 30 20 = some (.invokevirtual 185, 3) := cg30_14.2.2.1
theorem c30_23 : mc_cd 30 23 = some (.ifCond .eq 30, 3) := cg30_14.2.2.2.1
theorem c30_26 : mc_cd 30 26 = some (.aload_n 0, 1) := cg30_14.2.2.2.2.1
theorem c30_27 : mc_cd 30 27 = some (.getfield 12, 3) := cg30_14.2.2.2.2.2.1
theorem c30_30 : mc_cd 30 30 = some (.invokevirtual 74, 3) := cg30_14.2.2.2.2.2.2.1
theorem c30_33 : mc_cd 30 33 = some (.aload_n 2, 1) := cg30_14.2.2.2.2.2.2.2
theorem cg30_34 : mc_cd 30 34 = some (.aload_n 0, 1) ∧ mc_cd 30 35 = some (.iconst 0, 1) ∧ mc_cd 30 36 = some (.bipush 23, 2) ∧ mc_cd 30 38 = some (.invokevirtual 119, 3) ∧ mc_cd 30 41 = some (.putfield 188, 3) ∧ mc_cd 30 44 = some (.aload_n 2, 1) ∧ mc_cd 30 45 = some (.getfield 188, 3) ∧ mc_cd 30 48 = some (.ifCond .ge 5, 3) := by decide +kernel
theorem c30_34 : mc_cd 30 34 = some (.aload_n 0, 1) := cg30_34.1
theorem c30_35 : mc_cd 30 35 = some (.iconst 0, 1) := cg30_34.2.1
theorem c30_36 : mc_cd 30 36 = some (.bipush 23, 2) := cg30_34.2.2.1
theorem c30_38 : mc_cd 30 38 = some (.invokevirtual 119, 3) := cg30_34.2.2.2.1
theorem c30_41 : mc_cd 30 41 = some (.putfield 188, 3) := cg30_34.2.2.2.2.1
theorem c30_44 : mc_cd 30 44 = some (.aload_n 2, 1) := cg30_34.2.2.2.2.2.1
theorem c30_45 : mc_cd 30 45 = some (.getfield 188, 3) := cg30_34.2.2.2.2.2.2.1
theorem c30_48 : mc_cd 30 48 = some (.ifCond .ge 5, 3) := cg30_34.2.2.2.2.2.2.2
theorem cg30_51 : mc_cd 30 51 = some (.iconst 0, 1) ∧ mc_cd 30 52 = some (.ireturn, 1) ∧ mc_cd 30 53 = some (.aload_n 0, 1) ∧ mc_cd 30 54 = some (.getfield 12, 3) ∧ mc_cd 30 57 = some (.getstatic 191, 3) ∧ mc_cd 30 60 = some (.getfield 181, 3) ∧ mc_cd 30 63 = some (.invokevirtual 185, 3) ∧ mc_cd 30 66 = some (.ifCond .eq 41, 3) := by decide +kernel
theorem c30_51 : mc_cd 30 51 = some (.iconst 0, 1) := cg30_51.1
theorem c30_52 : mc_cd 30 52 = some (.ireturn, 1) := cg30_51.2.1
theorem c30_53 : mc_cd 30 53 = some (.aload_n 0, 1) := cg30_51.2.2.1
theorem c30_54 : mc_cd 30 54 = some (.getfield 12, 3) := cg30_51.2.2.2.1
theorem c30_57 : mc_cd 30 57 = some (.getstatic 191, 3) := cg30_51.2.2.2.2.1
theorem c30_60 : mc_cd 30 60 = some (.getfield 181, 3) := cg30_51.2.2.2.2.2.1
theorem c30_63 : mc_cd 30 63 = some (.invokevirtual 185, 3) := cg30_51.2.2.2.2.2.2.1
theorem c30_66 : mc_cd 30 66 = some (.ifCond .eq 41, 3) := cg30_51.2.2.2.2.2.2.2
theorem cg30_69 : mc_cd 30 69 = some (.aload_n 0, 1) ∧ mc_cd 30 70 = some (.getfield 12, 3) ∧ mc_cd 30 73 = some (.invokevirtual 74, 3) ∧ mc_cd 30 76 = some (.aload_n 0, 1) ∧ mc_cd 30 77 = some (.bipush 23, 2) ∧ mc_cd 30 79 = some (.iconst 1, 1) ∧ mc_cd 30 80 = some (.bipush 24, 2) ∧ mc_cd 30 82 = some (.bipush 24, 2) := by decide +kernel
theorem c30_69 : mc_cd 30 69 = some (.aload_n 0, 1) := cg30_69.1
theorem c30_70 : mc_cd 30 70 = some (.getfield 12, 3) := cg30_69.2.1
theorem c30_73 : mc_cd 30 73 = some (.invokevirtual 74, 3) := cg30_69.2.2.1
theorem c30_76 : mc_cd 30 76 = some (.aload_n 0, 1) := cg30_69.2.2.2.1
theorem c30_77 : mc_cd 30 77 = some (.bipush 23, 2) := cg30_69.2.2.2.2.1
theorem c30_79 : mc_cd 30 79 = some (.iconst 1, 1) := cg30_69.2.2.2.2.2.1
theorem c30_80 : mc_cd 30 80 = some (.bipush 24, 2) := cg30_69.2.2.2.2.2.2.1
theorem c30_82 : mc_cd 30 82 = some (.bipush 24, 2) := cg30_69.2.2.2.2.2.2.2
theorem cg30_84 : mc_cd 30 84 = some (.invokevirtual 154, 3) ∧ mc_cd 30 87 = some (.ifCond .ne 5, 3) ∧ mc_cd 30 90 = some (.iconst 0, 1) ∧ mc_cd 30 91 = some (.ireturn, 1) ∧ mc_cd 30 92 = some (.aload_n 2, 1) ∧ mc_cd 30 93 = some (.aload_n 0, 1) ∧ mc_cd 30 94 = some (.getfield 158, 3) ∧ mc_cd 30 97 = some (.aload_n 0, 1) := by decide +kernel
theorem c30_84 : mc_cd 30 84 = some (.invokevirtual 154, 3) := cg30_84.1
theorem c30_87 : mc_cd 30 87 = some (.ifCond .ne 5, 3) := cg30_84.2.1
theorem c30_90 : mc_cd 30 90 = some (.iconst 0, 1) := cg30_84.2.2.1
theorem c30_91 : mc_cd 30 91 = some (.ireturn, 1) := cg30_84.2.2.2.1
theorem c30_92 : mc_cd 30 92 = some (.aload_n 2, 1) := cg30_84.2.2.2.2.1
theorem c30_93 : mc_cd 30 93 = some (.aload_n 0, 1) := cg30_84.2.2.2.2.2.1
theorem c30_94 : mc_cd 30 94 = some (.getfield 158, 3) := cg30_84.2.2.2.2.2.2.1
theorem c30_97 : mc_cd 30 97 = some (.aload_n 0, 1) := cg30_84.2.2.2.2.2.2.2
theorem cg30_98 : mc_cd 30 98 = some (.getfield 164, 3) ∧ mc_cd 30 101 = some (.invokestatic 194, 3) ∧ mc_cd 30 104 = some (.putfield 197, 3) ∧ mc_cd 30 107 = some (.aload_n 0, 1) ∧ mc_cd 30 108 = some (.getfield 12, 3) ∧ mc_cd 30 111 = some (.getstatic 200, 3) ∧ mc_cd 30 114 = some (.getfield 181, 3) ∧ mc_cd 30 117 = some (.invokevirtual 185, 3) := by decide +kernel
theorem c30_98 : mc_cd 30 98 = some (.getfield 164, 3) := cg30_98.1
theorem c30_101 : mc_cd 30 101 = some (.invokestatic 194, 3) := cg30_98.2.1
theorem c30_104 : mc_cd 30 104 = some (.putfield 197, 3) := cg30_98.2.2.1
theorem c30_107 : mc_cd 30 107 = some (.aload_n 0, 1) := cg30_98.2.2.2.1
theorem c30_108 : mc_cd 30 108 = some (.getfield 12, 3) := cg30_98.2.2.2.2.1
theorem c30_111 : mc_cd 30 111 = some (.getstatic 200, 3) := cg30_98.2.2.2.2.2.1
theorem c30_114 : mc_cd 30 114 = some (.getfield 181, 3) := cg30_98.2.2.2.2.2.2.1
theorem c30_117 : mc_cd 30 117 = some (.invokevirtual 185, 3) := cg30_98.2.2.2.2.2.2.2
theorem cg30_120 : mc_cd 30 120 = some (.ifCond .eq 15, 3) ∧ mc_cd 30 123 = some (.aload_n 0, 1) ∧ mc_cd 30 124 = some (.getfield 12, 3) ∧ mc_cd 30 127 = some (.invokevirtual 74, 3) ∧ mc_cd 30 130 = some (.aload_n 2, 1) ∧ mc_cd 30 131 = some (.iconst 1, 1) ∧ mc_cd 30 132 = some (.putfield 203, 3) ∧ mc_cd 30 135 = some (.aload_n 1, 1) := by decide +kernel
theorem c30_120 : mc_cd 30 120 = some (.ifCond .eq 15, 3) := cg30_120.1
theorem c30_123 : mc_cd 30 123 = some (.aload_n 0, 1) := cg30_120.2.1
theorem c30_124 : mc_cd 30 124 = some (.getfield 12, 3) := cg30_120.2.2.1
theorem c30_127 : mc_cd 30 127 = some (.invokevirtual 74, 3) := cg30_120.2.2.2.1
theorem c30_130 : mc_cd 30 130 = some (.aload_n 2, 1) := cg30_120.2.2.2.2.1
theorem c30_131 : mc_cd 30 131 = some (.iconst 1, 1) := cg30_120.2.2.2.2.2.1
theorem c30_132 : mc_cd 30 132 = some (.putfield 203, 3) := cg30_120.2.2.2.2.2.2.1
theorem c30_135 : mc_cd 30 135 = some (.aload_n 1, 1) := cg30_120.2.2.2.2.2.2.2
theorem cg30_136 : mc_cd 30 136 = some (.dup, 1) ∧ mc_cd 30 137 = some (.getfield 44, 3) ∧ mc_cd 30 140 = some (.iconst 1, 1) ∧ mc_cd 30 141 = some (.iadd, 1) ∧ mc_cd 30 142 = some (.putfield 44, 3) ∧ mc_cd 30 145 = some (.iconst 1, 1) ∧ mc_cd 30 146 = some (.ireturn, 1) := by decide +kernel
theorem c30_136 : mc_cd 30 136 = some (.dup, 1) := cg30_136.1
theorem c30_137 : mc_cd 30 137 = some (.getfield 44, 3) := cg30_136.2.1
theorem c30_140 : mc_cd 30 140 = some (.iconst 1, 1) := cg30_136.2.2.1
theorem c30_141 : mc_cd 30 141 = some (.iadd, 1) := cg30_136.2.2.2.1
theorem c30_142 : mc_cd 30 142 = some (.putfield 44, 3) := cg30_136.2.2.2.2.1
theorem c30_145 : mc_cd 30 145 = some (.iconst 1, 1) := cg30_136.2.2.2.2.2.1
theorem c30_146 : mc_cd 30 146 = some (.ireturn, 1) := cg30_136.2.2.2.2.2.2
end
section
/-! methods (own work, written by wip/gen2/sx.py) -/
/-! StrikeAwake$Reader.knownPerson(LStrikeAwake$Parish;)I -/
theorem e33 : wq_en 33 = some (1, 3, false, some FieldType.int) := rfl
theorem cg33_0 : mc_cd 33 0 = some (.aload_n 0, 1) ∧ mc_cd 33 1 = some (.invokevirtual 131, 3) ∧ mc_cd 33 4 = some (.ifCond .ne 11, 3) ∧ mc_cd 33 7 = some (.aload_n 0, 1) ∧ mc_cd 33 8 = some (.iconst 1, 1) ∧ mc_cd 33 9 = some (.invokevirtual 47, 3) ∧ mc_cd 33 12 = some (.pop, 1) ∧ mc_cd 33 13 = some (.iconst (-1), 1) := by decide +kernel
theorem c33_0 : mc_cd 33 0 = some (.aload_n 0, 1) := cg33_0.1
theorem c33_1 : mc_cd 33 1 = some (.invokevirtual 131, 3) := cg33_0.2.1
theorem c33_4 : mc_cd 33 4 = some (.ifCond .ne 11, 3) := cg33_0.2.2.1
theorem c33_7 : mc_cd 33 7 = some (.aload_n 0, 1) := cg33_0.2.2.2.1
theorem c33_8 : mc_cd 33 8 = some (.iconst 1, 1) := cg33_0.2.2.2.2.1
theorem c33_9 : mc_cd 33 9 = some (.invokevirtual 47, 3) := cg33_0.2.2.2.2.2.1
theorem c33_12 : mc_cd 33 12 = some (.pop, 1) := cg33_0.2.2.2.2.2.2.1
theorem c33_13 : mc_cd 33 13 = some (.iconst (-1), 1) := cg33_0.2.2.2.2.2.2.2
theorem cg33_14 : mc_cd 33 14 = some (.ireturn, 1) ∧ mc_cd 33 15 = some (.aload_n 1, 1) ∧ mc_cd 33 16 = some (.aload_n 0, 1) ∧ mc_cd 33 17 = some (.getfield 12, 3) ∧ mc_cd 33 20 = some (.getfield 135, 3) ∧ mc_cd 33 23 = some (.invokevirtual 139, 3) ∧ mc_cd 33 26 = some (.istore_n 2, 1) ∧ mc_cd 33 27 = some (.iload_n 2, 1) := by decide +kernel
theorem c33_14 : mc_cd 33 14 = some (.ireturn, 1) := cg33_14.1
theorem c33_15 : mc_cd 33 15 = some (.aload_n 1, 1) := cg33_14.2.1
theorem c33_16 : mc_cd 33 16 = some (.aload_n 0, 1) := cg33_14.2.2.1
theorem c33_17 : mc_cd 33 17 = some (.getfield 12, 3) := cg33_14.2.2.2.1
theorem c33_20 : mc_cd 33 20 = some (.getfield 135, 3) := cg33_14.2.2.2.2.1
theorem c33_23 : mc_cd 33 23 = some (.invokevirtual 139, 3) := cg33_14.2.2.2.2.2.1
theorem c33_26 : mc_cd 33 26 = some (.istore_n 2, 1) := cg33_14.2.2.2.2.2.2.1
theorem c33_27 : mc_cd 33 27 = some (.iload_n 2, 1) := cg33_14.2.2.2.2.2.2.2
theorem cg33_28 : mc_cd 33 28 = some (.ifCond .ge 9, 3) ∧ mc_cd 33 31 = some (.aload_n 0, 1) ∧ mc_cd 33 32 = some (.iconst 2, 1) ∧ mc_cd 33 33 = some (.invokevirtual 47, 3) ∧ mc_cd 33 36 = some (.pop, 1) ∧ mc_cd 33 37 = some (.iload_n 2, 1) ∧ mc_cd 33 38 = some (.ireturn, 1) := by decide +kernel
theorem c33_28 : mc_cd 33 28 = some (.ifCond .ge 9, 3) := cg33_28.1
theorem c33_31 : mc_cd 33 31 = some (.aload_n 0, 1) := cg33_28.2.1
theorem c33_32 : mc_cd 33 32 = some (.iconst 2, 1) := cg33_28.2.2.1
theorem c33_33 : mc_cd 33 33 = some (.invokevirtual 47, 3) := cg33_28.2.2.2.1
theorem c33_36 : mc_cd 33 36 = some (.pop, 1) := cg33_28.2.2.2.2.1
theorem c33_37 : mc_cd 33 37 = some (.iload_n 2, 1) := cg33_28.2.2.2.2.2.1
theorem c33_38 : mc_cd 33 38 = some (.ireturn, 1) := cg33_28.2.2.2.2.2.2
/-! StrikeAwake$Reader.readsSexton(LStrikeAwake$Parish;)Z -/
theorem e32 : wq_en 32 = some (1, 3, false, some FieldType.boolean) := rfl
theorem cg32_0 : mc_cd 32 0 = some (.aload_n 0, 1) ∧ mc_cd 32 1 = some (.aload_n 1, 1) ∧ mc_cd 32 2 = some (.invokevirtual 207, 3) ∧ mc_cd 32 5 = some (.istore_n 2, 1) ∧ mc_cd 32 6 = some (.iload_n 2, 1) ∧ mc_cd 32 7 = some (.ifCond .ge 5, 3) ∧ mc_cd 32 10 = some (.iconst 0, 1) ∧ mc_cd 32 11 = some (.ireturn, 1) := by decide +kernel
theorem c32_0 : mc_cd 32 0 = some (.aload_n 0, 1) := cg32_0.1
theorem c32_1 : mc_cd 32 1 = some (.aload_n 1, 1) := cg32_0.2.1
theorem c32_2 : mc_cd 32 2 = some (.invokevirtual 207, 3) := cg32_0.2.2.1
theorem c32_5 : mc_cd 32 5 = some (.istore_n 2, 1) := cg32_0.2.2.2.1
theorem c32_6 : mc_cd 32 6 = some (.iload_n 2, 1) := cg32_0.2.2.2.2.1
theorem c32_7 : mc_cd 32 7 = some (.ifCond .ge 5, 3) := cg32_0.2.2.2.2.2.1
theorem c32_10 : mc_cd 32 10 = some (.iconst 0, 1) := cg32_0.2.2.2.2.2.2.1
theorem c32_11 : mc_cd 32 11 = some (.ireturn, 1) := cg32_0.2.2.2.2.2.2.2
theorem cg32_12 : mc_cd 32 12 = some (.aload_n 0, 1) ∧ mc_cd 32 13 = some (.getfield 12, 3) ∧ mc_cd 32 16 = some (.invokevirtual 74, 3) ∧ mc_cd 32 19 = some (.aload_n 1, 1) ∧ mc_cd 32 20 = some (.iload_n 2, 1) ∧ mc_cd 32 21 = some (.putfield 211, 3) ∧ mc_cd 32 24 = some (.iconst 1, 1) ∧ mc_cd 32 25 = some (.ireturn, 1) := by decide +kernel
theorem c32_12 : mc_cd 32 12 = some (.aload_n 0, 1) := cg32_12.1
theorem c32_13 : mc_cd 32 13 = some (.getfield 12, 3) := cg32_12.2.1
theorem c32_16 : mc_cd 32 16 = some (.invokevirtual 74, 3) := cg32_12.2.2.1
theorem c32_19 : mc_cd 32 19 = some (.aload_n 1, 1) := cg32_12.2.2.2.1
theorem c32_20 : mc_cd 32 20 = some (.iload_n 2, 1) := cg32_12.2.2.2.2.1
theorem c32_21 : mc_cd 32 21 = some (.putfield 211, 3) := cg32_12.2.2.2.2.2.1
theorem c32_24 : mc_cd 32 24 = some (.iconst 1, 1) := cg32_12.2.2.2.2.2.2.1
theorem c32_25 : mc_cd 32 25 = some (.ireturn, 1) := cg32_12.2.2.2.2.2.2.2
/-! StrikeAwake$Reader.takes(I)Z -/
theorem e35 : wq_en 35 = some (1, 2, false, some FieldType.boolean) := rfl
theorem cg35_0 : mc_cd 35 0 = some (.aload_n 0, 1) ∧ mc_cd 35 1 = some (.getfield 12, 3) ∧ mc_cd 35 4 = some (.getfield 38, 3) ∧ mc_cd 35 7 = some (.iload_n 1, 1) ∧ mc_cd 35 8 = some (.if_icmp .eq 9, 3) ∧ mc_cd 35 11 = some (.aload_n 0, 1) ∧ mc_cd 35 12 = some (.iconst 1, 1) ∧ mc_cd 35 13 = some (.invokevirtual 47, 3) := by decide +kernel
theorem c35_0 : mc_cd 35 0 = some (.aload_n 0, 1) := cg35_0.1
theorem c35_1 : mc_cd 35 1 = some (.getfield 12, 3) := cg35_0.2.1
theorem c35_4 : mc_cd 35 4 = some (.getfield 38, 3) := cg35_0.2.2.1
theorem c35_7 : mc_cd 35 7 = some (.iload_n 1, 1) := cg35_0.2.2.2.1
theorem c35_8 : mc_cd 35 8 = some (.if_icmp .eq 9, 3) := cg35_0.2.2.2.2.1
theorem c35_11 : mc_cd 35 11 = some (.aload_n 0, 1) := cg35_0.2.2.2.2.2.1
theorem c35_12 : mc_cd 35 12 = some (.iconst 1, 1) := cg35_0.2.2.2.2.2.2.1
theorem c35_13 : mc_cd 35 13 = some (.invokevirtual 47, 3) := cg35_0.2.2.2.2.2.2.2
theorem cg35_16 : mc_cd 35 16 = some (.ireturn, 1) ∧ mc_cd 35 17 = some (.aload_n 0, 1) ∧ mc_cd 35 18 = some (.getfield 12, 3) ∧ mc_cd 35 21 = some (.invokevirtual 74, 3) ∧ mc_cd 35 24 = some (.iconst 1, 1) ∧ mc_cd 35 25 = some (.ireturn, 1) := by decide +kernel
theorem c35_16 : mc_cd 35 16 = some (.ireturn, 1) := cg35_16.1
theorem c35_17 : mc_cd 35 17 = some (.aload_n 0, 1) := cg35_16.2.1
theorem c35_18 : mc_cd 35 18 = some (.getfield 12, 3) := cg35_16.2.2.1
theorem c35_21 : mc_cd 35 21 = some (.invokevirtual 74, 3) := cg35_16.2.2.2.1
theorem c35_24 : mc_cd 35 24 = some (.iconst 1, 1) := cg35_16.2.2.2.2.1
theorem c35_25 : mc_cd 35 25 = some (.ireturn, 1) := cg35_16.2.2.2.2.2
/-! StrikeAwake.hasBit(II)Z -/
theorem e36 : wq_en 36 = some (0, 2, false, some FieldType.boolean) := rfl
theorem cg36_0 : mc_cd 36 0 = some (.iload_n 0, 1) ∧ mc_cd 36 1 = some (.iload_n 1, 1) ∧ mc_cd 36 2 = some (.ishr, 1) ∧ mc_cd 36 3 = some (.iconst 1, 1) ∧ mc_cd 36 4 = some (.iand, 1) ∧ mc_cd 36 5 = some (.ifCond .eq 7, 3) ∧ mc_cd 36 8 = some (.iconst 1, 1) ∧ mc_cd 36 9 = some (.goto 4, 3) := by decide +kernel
theorem c36_0 : mc_cd 36 0 = some (.iload_n 0, 1) := cg36_0.1
theorem c36_1 : mc_cd 36 1 = some (.iload_n 1, 1) := cg36_0.2.1
theorem c36_2 : mc_cd 36 2 = some (.ishr, 1) := cg36_0.2.2.1
theorem c36_3 : mc_cd 36 3 = some (.iconst 1, 1) := cg36_0.2.2.2.1
theorem c36_4 : mc_cd 36 4 = some (.iand, 1) := cg36_0.2.2.2.2.1
theorem c36_5 : mc_cd 36 5 = some (.ifCond .eq 7, 3) := cg36_0.2.2.2.2.2.1
theorem c36_8 : mc_cd 36 8 = some (.iconst 1, 1) := cg36_0.2.2.2.2.2.2.1
theorem c36_9 : mc_cd 36 9 = some (.goto 4, 3) := cg36_0.2.2.2.2.2.2.2
theorem cg36_12 : mc_cd 36 12 = some (.iconst 0, 1) ∧ mc_cd 36 13 = some (.ireturn, 1) := by decide +kernel
theorem c36_12 : mc_cd 36 12 = some (.iconst 0, 1) := cg36_12.1
theorem c36_13 : mc_cd 36 13 = some (.ireturn, 1) := cg36_12.2
abbrev q_36 (a0 : Int) (a1 : Int) (T : wq_T) (H : wq_H) : Option Value → wq_T → wq_H → Prop := fun r T' H' => T = T' ∧ H = H' ∧ ∃ z : Int, some (vI z) = r ∧ (0 ≤ z ∧ z ≤ 1)
set_option maxHeartbeats 4000000 in
theorem s_36 {kt : Nat → Option mc_E} {T : wq_T} {H : wq_H} {a0 : Int} {a1 : Int} (hW : WT T H) (i0 : (-2147483648) ≤ a0 ∧ a0 ≤ 2147483647) (i1 : (-2147483648) ≤ a1 ∧ a1 ≤ 2147483647) : wpc kt 1 36 [vI a0, vI a1] T H (q_36 a0 a1 T H) := by
  refine wp_enter e36 (Nat.le_of_ble_eq_true rfl) rfl ?_
  show wp _ _ 36 0 [(0, vI a0), (1, vI a1)] [] _ H _
  refine wp_of e36 c36_0 (rw_iload_n (pc' := 1) (z := a0) rfl rfl ?_)
  refine wp_of e36 c36_1 (rw_iload_n (pc' := 2) (z := a1) rfl rfl ?_)
  refine wp_of e36 c36_2 (rw_ishr (pc' := 3) rfl ?_)
  obtain ⟨v10044, e10045⟩ : ∃ x : Int, x = wq_shr a0 a1 := ⟨_, rfl⟩
  rw [← e10045]
  have b10046 : -2147483648 ≤ v10044 ∧ v10044 ≤ 2147483647 := by
    rw [e10045]
    exact wI_shr _ _
  refine wp_of e36 c36_3 (rw_iconst (pc' := 4) rfl ?_)
  refine wp_of e36 c36_4 (rw_iand (pc' := 5) rfl ?_)
  obtain ⟨v10047, e10048⟩ : ∃ x : Int, x = wq_and v10044 1 := ⟨_, rfl⟩
  rw [← e10048]
  have b10049 : 0 ≤ v10047 ∧ v10047 ≤ 1 := by
    rw [e10048]
    exact wq_and_b _ (by omega) (by omega)
  refine wp_of e36 c36_5 (rw_if_eq (p1 := 12) (p2 := 8) (by decide) rfl ⟨by omega, by omega⟩ (fun c10050 => ?_) (fun c10050 => ?_))
  · refine wp_of e36 c36_12 (rw_iconst (pc' := 13) rfl ?_)
    exact wp_zreturn e36 c36_13 rfl (by omega) ⟨rfl, rfl, 0, rfl, ⟨by omega, by omega⟩⟩
  · refine wp_of e36 c36_8 (rw_iconst (pc' := 9) rfl ?_)
    refine wp_of e36 c36_9 (rw_goto (p1 := 13) (by decide) ?_)
    exact wp_zreturn e36 c36_13 rfl (by omega) ⟨rfl, rfl, 1, rfl, ⟨by omega, by omega⟩⟩
/-! StrikeAwake$Reader.readsApart(LStrikeAwake$Parish;)Z -/
theorem e34 : wq_en 34 = some (1, 4, false, some FieldType.boolean) := rfl
theorem cg34_0 : mc_cd 34 0 = some (.aload_n 0, 1) ∧ mc_cd 34 1 = some (.aload_n 1, 1) ∧ mc_cd 34 2 = some (.invokevirtual 207, 3) ∧ mc_cd 34 5 = some (.istore_n 2, 1) ∧ mc_cd 34 6 = some (.iload_n 2, 1) ∧ mc_cd 34 7 = some (.ifCond .ge 5, 3) ∧ mc_cd 34 10 = some (.iconst 0, 1) ∧ mc_cd 34 11 = some (.ireturn, 1) := by decide +kernel
theorem c34_0 : mc_cd 34 0 = some (.aload_n 0, 1) := cg34_0.1
theorem c34_1 : mc_cd 34 1 = some (.aload_n 1, 1) := cg34_0.2.1
theorem c34_2 : mc_cd 34 2 = some (.invokevirtual 207, 3) := cg34_0.2.2.1
theorem c34_5 : mc_cd 34 5 = some (.istore_n 2, 1) := cg34_0.2.2.2.1
theorem c34_6 : mc_cd 34 6 = some (.iload_n 2, 1) := cg34_0.2.2.2.2.1
theorem c34_7 : mc_cd 34 7 = some (.ifCond .ge 5, 3) := cg34_0.2.2.2.2.2.1
theorem c34_10 : mc_cd 34 10 = some (.iconst 0, 1) := cg34_0.2.2.2.2.2.2.1
theorem c34_11 : mc_cd 34 11 = some (.ireturn, 1) := cg34_0.2.2.2.2.2.2.2
theorem cg34_12 : mc_cd 34 12 = some (.aload_n 0, 1) ∧ mc_cd 34 13 = some (.getfield 12, 3) ∧ mc_cd 34 16 = some (.invokevirtual 74, 3) ∧ mc_cd 34 19 = some (.aload_n 0, 1) ∧ mc_cd 34 20 = some (.iconst 4, 1) ∧ mc_cd 34 21 = some (.invokevirtual 51, 3) ∧ mc_cd 34 24 = some (.ifCond .ne 5, 3) ∧ mc_cd 34 27 = some (.iconst 0, 1) := by decide +kernel
theorem c34_12 : mc_cd 34 12 = some (.aload_n 0, 1) := cg34_12.1
theorem c34_13 : mc_cd 34 13 = some (.getfield 12, 3) := cg34_12.2.1
theorem c34_16 : mc_cd 34 16 = some (.invokevirtual 74, 3) := cg34_12.2.2.1
theorem c34_19 : mc_cd 34 19 = some (.aload_n 0, 1) := cg34_12.2.2.2.1
theorem c34_20 : mc_cd 34 20 = some (.iconst 4, 1) := cg34_12.2.2.2.2.1
theorem c34_21 : mc_cd 34 21 = some (.invokevirtual 51, 3) := cg34_12.2.2.2.2.2.1
theorem c34_24 : mc_cd 34 24 = some (.ifCond .ne 5, 3) := cg34_12.2.2.2.2.2.2.1
theorem c34_27 : mc_cd 34 27 = some (.iconst 0, 1) := cg34_12.2.2.2.2.2.2.2
theorem cg34_28 : mc_cd 34 28 = some (.ireturn, 1) ∧ mc_cd 34 29 = some (.aload_n 0, 1) ∧ mc_cd 34 30 = some (.aload_n 1, 1) ∧ mc_cd 34 31 = some (.invokevirtual 207, 3) ∧ mc_cd 34 34 = some (.istore_n 3, 1) ∧ mc_cd 34 35 = some (.iload_n 3, 1) ∧ mc_cd 34 36 = some (.ifCond .ge 5, 3) ∧ mc_cd 34 39 = some (.iconst 0, 1) := by decide +kernel
theorem c34_28 : mc_cd 34 28 = some (.ireturn, 1) := cg34_28.1
theorem c34_29 : mc_cd 34 29 = some (.aload_n 0, 1) := cg34_28.2.1
theorem c34_30 : mc_cd 34 30 = some (.aload_n 1, 1) := cg34_28.2.2.1
theorem c34_31 : mc_cd 34 31 = some (.invokevirtual 207, 3) := cg34_28.2.2.2.1
theorem c34_34 : mc_cd 34 34 = some (.istore_n 3, 1) := cg34_28.2.2.2.2.1
theorem c34_35 : mc_cd 34 35 = some (.iload_n 3, 1) := cg34_28.2.2.2.2.2.1
theorem c34_36 : mc_cd 34 36 = some (.ifCond .ge 5, 3) := cg34_28.2.2.2.2.2.2.1
theorem c34_39 : mc_cd 34 39 = some (.iconst 0, 1) := cg34_28.2.2.2.2.2.2.2
theorem cg34_40 : mc_cd 34 40 = some (.ireturn, 1) ∧ mc_cd 34 41 = some (.iload_n 3, 1) ∧ mc_cd 34 42 = some (.iload_n 2, 1) ∧ mc_cd 34 43 = some (.if_icmp .eq 19, 3) ∧ mc_cd 34 46 = some (.aload_n 1, 1) ∧ mc_cd 34 47 = some (.getfield 143, 3) ∧ mc_cd 34 50 = some (.iload_n 2, 1) ∧ mc_cd 34 51 = some (.aaload, 1) := by decide +kernel
theorem c34_40 : mc_cd 34 40 = some (.ireturn, 1) := cg34_40.1
theorem c34_41 : mc_cd 34 41 = some (.iload_n 3, 1) := cg34_40.2.1
theorem c34_42 : mc_cd 34 42 = some (.iload_n 2, 1) := cg34_40.2.2.1
theorem c34_43 : mc_cd 34 43 = some (.if_icmp .eq 19, 3) := cg34_40.2.2.2.1
theorem c34_46 : mc_cd 34 46 = some (.aload_n 1, 1) := cg34_40.2.2.2.2.1
theorem c34_47 : mc_cd 34 47 = some (.getfield 143, 3) := cg34_40.2.2.2.2.2.1
theorem c34_50 : mc_cd 34 50 = some (.iload_n 2, 1) := cg34_40.2.2.2.2.2.2.1
theorem c34_51 : mc_cd 34 51 = some (.aaload, 1) := cg34_40.2.2.2.2.2.2.2
theorem cg34_52 : mc_cd 34 52 = some (.getfield 214, 3) ∧ mc_cd 34 55 = some (.iload_n 3, 1) ∧ mc_cd 34 56 = some (.invokestatic 217, 3) ∧ mc_cd 34 59 = some (.ifCond .eq 9, 3) ∧ mc_cd 34 62 = some (.aload_n 0, 1) ∧ mc_cd 34 63 = some (.iconst 3, 1) ∧ mc_cd 34 64 = some (.invokevirtual 47, 3) ∧ mc_cd 34 67 = some (.ireturn, 1) := by decide +kernel
theorem c34_52 : mc_cd 34 52 = some (.getfield 214, 3) := cg34_52.1
theorem c34_55 : mc_cd 34 55 = some (.iload_n 3, 1) := cg34_52.2.1
theorem c34_56 : mc_cd 34 56 = some (.invokestatic 217, 3) := cg34_52.2.2.1
theorem c34_59 : mc_cd 34 59 = some (.ifCond .eq 9, 3) := cg34_52.2.2.2.1
theorem c34_62 : mc_cd 34 62 = some (.aload_n 0, 1) := cg34_52.2.2.2.2.1
theorem c34_63 : mc_cd 34 63 = some (.iconst 3, 1) := cg34_52.2.2.2.2.2.1
theorem c34_64 : mc_cd 34 64 = some (.invokevirtual 47, 3) := cg34_52.2.2.2.2.2.2.1
theorem c34_67 : mc_cd 34 67 = some (.ireturn, 1) := cg34_52.2.2.2.2.2.2.2
theorem cg34_68 : mc_cd 34 68 = some (.aload_n 0, 1) ∧ mc_cd 34 69 = some (.getfield 12, 3) ∧ mc_cd 34 72 = some (.invokevirtual 74, 3) ∧ mc_cd 34 75 = some (.aload_n 1, 1) ∧ mc_cd 34 76 = some (.getfield 143, 3) ∧ mc_cd 34 79 = some (.iload_n 2, 1) ∧ mc_cd 34 80 = some (.aaload, 1) ∧ mc_cd 34 81 = some (.dup, 1) := by decide +kernel
theorem c34_68 : mc_cd 34 68 = some (.aload_n 0, 1) := cg34_68.1
theorem c34_69 : mc_cd 34 69 = some (.getfield 12, 3) := cg34_68.2.1
theorem c34_72 : mc_cd 34 72 = some (.invokevirtual 74, 3) := cg34_68.2.2.1
theorem c34_75 : mc_cd 34 75 = some (.aload_n 1, 1) := cg34_68.2.2.2.1
theorem c34_76 : mc_cd 34 76 = some (.getfield 143, 3) := cg34_68.2.2.2.2.1
theorem c34_79 : mc_cd 34 79 = some (.iload_n 2, 1) := cg34_68.2.2.2.2.2.1
theorem c34_80 : mc_cd 34 80 = some (.aaload, 1) := cg34_68.2.2.2.2.2.2.1
theorem c34_81 : mc_cd 34 81 = some (.dup, 1) := cg34_68.2.2.2.2.2.2.2
theorem cg34_82 : mc_cd 34 82 = some (.getfield 214, 3) ∧ mc_cd 34 85 = some (.iconst 1, 1) ∧ mc_cd 34 86 = some (.iload_n 3, 1) ∧ mc_cd 34 87 = some (.ishl, 1) ∧ mc_cd 34 88 = some (.ior, 1) ∧ mc_cd 34 89 = some (.putfield 214, 3) ∧ mc_cd 34 92 = some (.aload_n 1, 1) ∧ mc_cd 34 93 = some (.getfield 143, 3) := by decide +kernel
theorem c34_82 : mc_cd 34 82 = some (.getfield 214, 3) := cg34_82.1
theorem c34_85 : mc_cd 34 85 = some (.iconst 1, 1) := cg34_82.2.1
theorem c34_86 : mc_cd 34 86 = some (.iload_n 3, 1) := cg34_82.2.2.1
theorem c34_87 : mc_cd 34 87 = some (.ishl, 1) := cg34_82.2.2.2.1
theorem c34_88 : mc_cd 34 88 = some (.ior, 1) := cg34_82.2.2.2.2.1
theorem c34_89 : mc_cd 34 89 = some (.putfield 214, 3) := cg34_82.2.2.2.2.2.1
theorem c34_92 : mc_cd 34 92 = some (.aload_n 1, 1) := cg34_82.2.2.2.2.2.2.1
theorem c34_93 : mc_cd 34 93 = some (.getfield 143, 3) := cg34_82.2.2.2.2.2.2.2
theorem cg34_96 : mc_cd 34 96 = some (.iload_n 3, 1) ∧ mc_cd 34 97 = some (.aaload, 1) ∧ mc_cd 34 98 = some (.dup, 1) ∧ mc_cd 34 99 = some (.getfield 214, 3) ∧ mc_cd 34 102 = some (.iconst 1, 1) ∧ mc_cd 34 103 = some (.iload_n 2, 1) ∧ mc_cd 34 104 = some (.ishl, 1) ∧ mc_cd 34 105 = some (.ior, 1) := by decide +kernel
theorem c34_96 : mc_cd 34 96 = some (.iload_n 3, 1) := cg34_96.1
theorem c34_97 : mc_cd 34 97 = some (.aaload, 1) := cg34_96.2.1
theorem c34_98 : mc_cd 34 98 = some (.dup, 1) := cg34_96.2.2.1
theorem c34_99 : mc_cd 34 99 = some (.getfield 214, 3) := cg34_96.2.2.2.1
theorem c34_102 : mc_cd 34 102 = some (.iconst 1, 1) := cg34_96.2.2.2.2.1
theorem c34_103 : mc_cd 34 103 = some (.iload_n 2, 1) := cg34_96.2.2.2.2.2.1
theorem c34_104 : mc_cd 34 104 = some (.ishl, 1) := cg34_96.2.2.2.2.2.2.1
theorem c34_105 : mc_cd 34 105 = some (.ior, 1) := cg34_96.2.2.2.2.2.2.2
theorem cg34_106 : mc_cd 34 106 = some (.putfield 214, 3) ∧ mc_cd 34 109 = some (.aload_n 1, 1) ∧ mc_cd 34 110 = some (.dup, 1) ∧ mc_cd 34 111 = some (.getfield 221, 3) ∧ mc_cd 34 114 = some (.iconst 1, 1) ∧ mc_cd 34 115 = some (.iadd, 1) ∧ mc_cd 34 116 = some (.putfield 221, 3) ∧ mc_cd 34 119 = some (.iconst 1, 1) := by decide +kernel
theorem c34_106 : mc_cd 34 106 = some (.putfield 214, 3) := cg34_106.1
theorem c34_109 : mc_cd 34 109 = some (.aload_n 1, 1) := cg34_106.2.1
theorem c34_110 : mc_cd 34 110 = some (.dup, 1) := cg34_106.2.2.1
theorem c34_111 : mc_cd 34 111 = some (.getfield 221, 3) := cg34_106.2.2.2.1
theorem c34_114 : mc_cd 34 114 = some (.iconst 1, 1) := cg34_106.2.2.2.2.1
theorem c34_115 : mc_cd 34 115 = some (.iadd, 1) := cg34_106.2.2.2.2.2.1
theorem c34_116 : mc_cd 34 116 = some (.putfield 221, 3) := cg34_106.2.2.2.2.2.2.1
theorem c34_119 : mc_cd 34 119 = some (.iconst 1, 1) := cg34_106.2.2.2.2.2.2.2
theorem c34_120 : mc_cd 34 120 = some (.ireturn, 1) := by decide +kernel
/-! StrikeAwake$Reader.readsBorn(LStrikeAwake$Parish;)Z -/
theorem e37 : wq_en 37 = some (1, 3, false, some FieldType.boolean) := rfl
theorem cg37_0 : mc_cd 37 0 = some (.aload_n 0, 1) ∧ mc_cd 37 1 = some (.iconst 0, 1) ∧ mc_cd 37 2 = some (.bipush 23, 2) ∧ mc_cd 37 4 = some (.invokevirtual 119, 3) ∧ mc_cd 37 7 = some (.istore_n 2, 1) ∧ mc_cd 37 8 = some (.iload_n 2, 1) ∧ mc_cd 37 9 = some (.ifCond .ge 5, 3) ∧ mc_cd 37 12 = some (.iconst 0, 1) := by decide +kernel
theorem c37_0 : mc_cd 37 0 = some (.aload_n 0, 1) := cg37_0.1
theorem c37_1 : mc_cd 37 1 = some (.iconst 0, 1) := cg37_0.2.1
theorem c37_2 : mc_cd 37 2 = some (.bipush 23, 2) := cg37_0.2.2.1
theorem c37_4 : mc_cd 37 4 = some (.invokevirtual 119, 3) := cg37_0.2.2.2.1
theorem c37_7 : mc_cd 37 7 = some (.istore_n 2, 1) := cg37_0.2.2.2.2.1
theorem c37_8 : mc_cd 37 8 = some (.iload_n 2, 1) := cg37_0.2.2.2.2.2.1
theorem c37_9 : mc_cd 37 9 = some (.ifCond .ge 5, 3) := cg37_0.2.2.2.2.2.2.1
theorem c37_12 : mc_cd 37 12 = some (.iconst 0, 1) := cg37_0.2.2.2.2.2.2.2
theorem cg37_13 : mc_cd 37 13 = some (.ireturn, 1) ∧ mc_cd 37 14 = some (.aload_n 1, 1) ∧ mc_cd 37 15 = some (.getfield 224, 3) ∧ mc_cd 37 18 = some (.aload_n 1, 1) ∧ mc_cd 37 19 = some (.getfield 227, 3) ∧ mc_cd 37 22 = some (.iload_n 2, 1) ∧ mc_cd 37 23 = some (.iastore, 1) ∧ mc_cd 37 24 = some (.aload_n 1, 1) := by decide +kernel
theorem c37_13 : mc_cd 37 13 = some (.ireturn, 1) := cg37_13.1
theorem c37_14 : mc_cd 37 14 = some (.aload_n 1, 1) := cg37_13.2.1
theorem c37_15 : mc_cd 37 15 = some (.getfield 224, 3) := cg37_13.2.2.1
theorem c37_18 : mc_cd 37 18 = some (.aload_n 1, 1) := cg37_13.2.2.2.1
theorem c37_19 : mc_cd 37 19 = some (.getfield 227, 3) := cg37_13.2.2.2.2.1
theorem c37_22 : mc_cd 37 22 = some (.iload_n 2, 1) := cg37_13.2.2.2.2.2.1
theorem c37_23 : mc_cd 37 23 = some (.iastore, 1) := cg37_13.2.2.2.2.2.2.1
theorem c37_24 : mc_cd 37 24 = some (.aload_n 1, 1) := cg37_13.2.2.2.2.2.2.2
theorem cg37_25 : mc_cd 37 25 = some (.dup, 1) ∧ mc_cd 37 26 = some (.getfield 227, 3) ∧ mc_cd 37 29 = some (.iconst 1, 1) ∧ mc_cd 37 30 = some (.iadd, 1) ∧ mc_cd 37 31 = some (.putfield 227, 3) ∧ mc_cd 37 34 = some (.iconst 1, 1) ∧ mc_cd 37 35 = some (.ireturn, 1) := by decide +kernel
theorem c37_25 : mc_cd 37 25 = some (.dup, 1) := cg37_25.1
theorem c37_26 : mc_cd 37 26 = some (.getfield 227, 3) := cg37_25.2.1
theorem c37_29 : mc_cd 37 29 = some (.iconst 1, 1) := cg37_25.2.2.1
theorem c37_30 : mc_cd 37 30 = some (.iadd, 1) := cg37_25.2.2.2.1
theorem c37_31 : mc_cd 37 31 = some (.putfield 227, 3) := cg37_25.2.2.2.2.1
theorem c37_34 : mc_cd 37 34 = some (.iconst 1, 1) := cg37_25.2.2.2.2.2.1
theorem c37_35 : mc_cd 37 35 = some (.ireturn, 1) := cg37_25.2.2.2.2.2.2
/-! StrikeAwake$Parish.isStruck(I)Z -/
theorem e39 : wq_en 39 = some (7, 2, false, some FieldType.boolean) := rfl
theorem cg39_0 : mc_cd 39 0 = some (.iload_n 1, 1) ∧ mc_cd 39 1 = some (.ifCond .lt 22, 3) ∧ mc_cd 39 4 = some (.iload_n 1, 1) ∧ mc_cd 39 5 = some (.bipush 24, 2) ∧ mc_cd 39 7 = some (.if_icmp .ge 16, 3) ∧ mc_cd 39 10 = some (.aload_n 0, 1) ∧ mc_cd 39 11 = some (.getfield 17, 3) ∧ mc_cd 39 14 = some (.iload_n 1, 1) := by decide +kernel
theorem c39_0 : mc_cd 39 0 = some (.iload_n 1, 1) := cg39_0.1
theorem c39_1 : mc_cd 39 1 = some (.ifCond .lt 22, 3) := cg39_0.2.1
theorem c39_4 : mc_cd 39 4 = some (.iload_n 1, 1) := cg39_0.2.2.1
theorem c39_5 : mc_cd 39 5 = some (.bipush 24, 2) := cg39_0.2.2.2.1
theorem c39_7 : mc_cd 39 7 = some (.if_icmp .ge 16, 3) := cg39_0.2.2.2.2.1
theorem c39_10 : mc_cd 39 10 = some (.aload_n 0, 1) := cg39_0.2.2.2.2.2.1
theorem c39_11 : mc_cd 39 11 = some (.getfield 17, 3) := cg39_0.2.2.2.2.2.2.1
theorem c39_14 : mc_cd 39 14 = some (.iload_n 1, 1) := cg39_0.2.2.2.2.2.2.2
theorem cg39_15 : mc_cd 39 15 = some (.iaload, 1) ∧ mc_cd 39 16 = some (.ifCond .lt 7, 3) ∧ mc_cd 39 19 = some (.iconst 1, 1) ∧ mc_cd 39 20 = some (.goto 4, 3) ∧ mc_cd 39 23 = some (.iconst 0, 1) ∧ mc_cd 39 24 = some (.ireturn, 1) := by decide +kernel
theorem c39_15 : mc_cd 39 15 = some (.iaload, 1) := cg39_15.1
theorem c39_16 : mc_cd 39 16 = some (.ifCond .lt 7, 3) := cg39_15.2.1
theorem c39_19 : mc_cd 39 19 = some (.iconst 1, 1) := cg39_15.2.2.1
theorem c39_20 : mc_cd 39 20 = some (.goto 4, 3) := cg39_15.2.2.2.1
theorem c39_23 : mc_cd 39 23 = some (.iconst 0, 1) := cg39_15.2.2.2.2.1
theorem c39_24 : mc_cd 39 24 = some (.ireturn, 1) := cg39_15.2.2.2.2.2
/-! StrikeAwake$Parish.listStruck()V -/
theorem e41 : wq_en 41 = some (7, 2, false, none) := rfl
theorem cg41_0 : mc_cd 41 0 = some (.aload_n 0, 1) ∧ mc_cd 41 1 = some (.iconst 0, 1) ∧ mc_cd 41 2 = some (.putfield 65, 3) ∧ mc_cd 41 5 = some (.iconst 0, 1) ∧ mc_cd 41 6 = some (.istore_n 1, 1) ∧ mc_cd 41 7 = some (.iload_n 1, 1) ∧ mc_cd 41 8 = some (.bipush 24, 2) ∧ mc_cd 41 10 = some (.if_icmp .ge 38, 3) := by decide +kernel
theorem c41_0 : mc_cd 41 0 = some (.aload_n 0, 1) := cg41_0.1
theorem c41_1 : mc_cd 41 1 = some (.iconst 0, 1) := cg41_0.2.1
theorem c41_2 : mc_cd 41 2 = some (.putfield 65, 3) := cg41_0.2.2.1
theorem c41_5 : mc_cd 41 5 = some (.iconst 0, 1) := cg41_0.2.2.2.1
theorem c41_6 : mc_cd 41 6 = some (.istore_n 1, 1) := cg41_0.2.2.2.2.1
theorem c41_7 : mc_cd 41 7 = some (.iload_n 1, 1) := cg41_0.2.2.2.2.2.1
theorem c41_8 : mc_cd 41 8 = some (.bipush 24, 2) := cg41_0.2.2.2.2.2.2.1
theorem c41_10 : mc_cd 41 10 = some (.if_icmp .ge 38, 3) := cg41_0.2.2.2.2.2.2.2
theorem cg41_13 : mc_cd 41 13 = some (.aload_n 0, 1) ∧ mc_cd 41 14 = some (.getfield 17, 3) ∧ mc_cd 41 17 = some (.iload_n 1, 1) ∧ mc_cd 41 18 = some (.iaload, 1) ∧ mc_cd 41 19 = some (.ifCond .lt 23, 3) ∧ mc_cd 41 22 = some (.aload_n 0, 1) ∧ mc_cd 41 23 = some (.getfield 21, 3) ∧ mc_cd 41 26 = some (.aload_n 0, 1) := by decide +kernel
theorem c41_13 : mc_cd 41 13 = some (.aload_n 0, 1) := cg41_13.1
theorem c41_14 : mc_cd 41 14 = some (.getfield 17, 3) := cg41_13.2.1
theorem c41_17 : mc_cd 41 17 = some (.iload_n 1, 1) := cg41_13.2.2.1
theorem c41_18 : mc_cd 41 18 = some (.iaload, 1) := cg41_13.2.2.2.1
theorem c41_19 : mc_cd 41 19 = some (.ifCond .lt 23, 3) := cg41_13.2.2.2.2.1
theorem c41_22 : mc_cd 41 22 = some (.aload_n 0, 1) := cg41_13.2.2.2.2.2.1
theorem c41_23 : mc_cd 41 23 = some (.getfield 21, 3) := cg41_13.2.2.2.2.2.2.1
theorem c41_26 : mc_cd 41 26 = some (.aload_n 0, 1) := cg41_13.2.2.2.2.2.2.2
theorem cg41_27 : mc_cd 41 27 = some (.getfield 65, 3) ∧ mc_cd 41 30 = some (.iload_n 1, 1) ∧ mc_cd 41 31 = some (.iastore, 1) ∧ mc_cd 41 32 = some (.aload_n 0, 1) ∧ mc_cd 41 33 = some (.dup, 1) ∧ mc_cd 41 34 = some (.getfield 65, 3) ∧ mc_cd 41 37 = some (.iconst 1, 1) ∧ mc_cd 41 38 = some (.iadd, 1) := by decide +kernel
theorem c41_27 : mc_cd 41 27 = some (.getfield 65, 3) := cg41_27.1
theorem c41_30 : mc_cd 41 30 = some (.iload_n 1, 1) := cg41_27.2.1
theorem c41_31 : mc_cd 41 31 = some (.iastore, 1) := cg41_27.2.2.1
theorem c41_32 : mc_cd 41 32 = some (.aload_n 0, 1) := cg41_27.2.2.2.1
theorem c41_33 : mc_cd 41 33 = some (.dup, 1) := cg41_27.2.2.2.2.1
theorem c41_34 : mc_cd 41 34 = some (.getfield 65, 3) := cg41_27.2.2.2.2.2.1
theorem c41_37 : mc_cd 41 37 = some (.iconst 1, 1) := cg41_27.2.2.2.2.2.2.1
theorem c41_38 : mc_cd 41 38 = some (.iadd, 1) := cg41_27.2.2.2.2.2.2.2
theorem cg41_39 : mc_cd 41 39 = some (.putfield 65, 3) ∧ mc_cd 41 42 = some (.iinc 1 1, 3) ∧ mc_cd 41 45 = some (.goto (-38), 3) ∧ mc_cd 41 48 = some (.return_, 1) := by decide +kernel
theorem c41_39 : mc_cd 41 39 = some (.putfield 65, 3) := cg41_39.1
theorem c41_42 : mc_cd 41 42 = some (.iinc 1 1, 3) := cg41_39.2.1
theorem c41_45 : mc_cd 41 45 = some (.goto (-38), 3) := cg41_39.2.2.1
theorem c41_48 : mc_cd 41 48 = some (.return_, 1) := cg41_39.2.2.2
/-! StrikeAwake$Parish.setStroke(II)V -/
theorem e40 : wq_en 40 = some (7, 3, false, none) := rfl
theorem cg40_0 : mc_cd 40 0 = some (.aload_n 0, 1) ∧ mc_cd 40 1 = some (.getfield 17, 3) ∧ mc_cd 40 4 = some (.iload_n 1, 1) ∧ mc_cd 40 5 = some (.iload_n 2, 1) ∧ mc_cd 40 6 = some (.iastore, 1) ∧ mc_cd 40 7 = some (.aload_n 0, 1) ∧ mc_cd 40 8 = some (.invokevirtual 89, 3) ∧ mc_cd 40 11 = some (.return_, 1) := by decide +kernel
theorem c40_0 : mc_cd 40 0 = some (.aload_n 0, 1) := cg40_0.1
theorem c40_1 : mc_cd 40 1 = some (.getfield 17, 3) := cg40_0.2.1
theorem c40_4 : mc_cd 40 4 = some (.iload_n 1, 1) := cg40_0.2.2.1
theorem c40_5 : mc_cd 40 5 = some (.iload_n 2, 1) := cg40_0.2.2.2.1
theorem c40_6 : mc_cd 40 6 = some (.iastore, 1) := cg40_0.2.2.2.2.1
theorem c40_7 : mc_cd 40 7 = some (.aload_n 0, 1) := cg40_0.2.2.2.2.2.1
theorem c40_8 : mc_cd 40 8 = some (.invokevirtual 89, 3) := cg40_0.2.2.2.2.2.2.1
theorem c40_11 : mc_cd 40 11 = some (.return_, 1) := cg40_0.2.2.2.2.2.2.2
/-! StrikeAwake$Reader.readsStruck(LStrikeAwake$Parish;)Z -/
theorem e38 : wq_en 38 = some (1, 4, false, some FieldType.boolean) := rfl
theorem cg38_0 : mc_cd 38 0 = some (.aload_n 0, 1) ∧ mc_cd 38 1 = some (.getfield 12, 3) ∧ mc_cd 38 4 = some (.getfield 38, 3) ∧ mc_cd 38 7 = some (.iconst 2, 1) ∧ mc_cd 38 8 = some (.if_icmp .ne 23, 3) ∧ mc_cd 38 11 = some (.aload_n 1, 1) ∧ mc_cd 38 12 = some (.aload_n 0, 1) ∧ mc_cd 38 13 = some (.getfield 12, 3) := by decide +kernel
theorem c38_0 : mc_cd 38 0 = some (.aload_n 0, 1) := cg38_0.1
theorem c38_1 : mc_cd 38 1 = some (.getfield 12, 3) := cg38_0.2.1
theorem c38_4 : mc_cd 38 4 = some (.getfield 38, 3) := cg38_0.2.2.1
theorem c38_7 : mc_cd 38 7 = some (.iconst 2, 1) := cg38_0.2.2.2.1
theorem c38_8 : mc_cd 38 8 = some (.if_icmp .ne 23, 3) := cg38_0.2.2.2.2.1
theorem c38_11 : mc_cd 38 11 = some (.aload_n 1, 1) := cg38_0.2.2.2.2.2.1
theorem c38_12 : mc_cd 38 12 = some (.aload_n 0, 1) := cg38_0.2.2.2.2.2.2.1
theorem c38_13 : mc_cd 38 13 = some (.getfield 12, 3) := cg38_0.2.2.2.2.2.2.2
theorem cg38_16 : mc_cd 38 16 = some (.getfield 230, 3) ∧ mc_cd 38 19 = some (.invokevirtual 233, 3) ∧ mc_cd 38 22 = some (.ifCond .eq 9, 3) ∧ mc_cd 38 25 = some (.aload_n 0, 1) ∧ mc_cd 38 26 = some (.iconst 3, 1) ∧ mc_cd 38 27 = some (.invokevirtual 47, 3) ∧ mc_cd 38 30 = some (.ireturn, 1) ∧ mc_cd 38 31 = some (.aload_n 0, 1) := by decide +kernel
theorem c38_16 : mc_cd 38 16 = some (.getfield 230, 3) := cg38_16.1
theorem c38_19 : mc_cd 38 19 = some (.invokevirtual 233, 3) := cg38_16.2.1
theorem c38_22 : mc_cd 38 22 = some (.ifCond .eq 9, 3) := cg38_16.2.2.1
theorem c38_25 : mc_cd 38 25 = some (.aload_n 0, 1) := cg38_16.2.2.2.1
theorem c38_26 : mc_cd 38 26 = some (.iconst 3, 1) := cg38_16.2.2.2.2.1
theorem c38_27 : mc_cd 38 27 = some (.invokevirtual 47, 3) := cg38_16.2.2.2.2.2.1
theorem c38_30 : mc_cd 38 30 = some (.ireturn, 1) := cg38_16.2.2.2.2.2.2.1
theorem c38_31 : mc_cd 38 31 = some (.aload_n 0, 1) := cg38_16.2.2.2.2.2.2.2
theorem cg38_32 : mc_cd 38 32 = some (.iconst 0, 1) ∧ mc_cd 38 33 = some (.bipush 23, 2) ∧ mc_cd 38 35 = some (.invokevirtual 119, 3) ∧ mc_cd 38 38 = some (.istore_n 2, 1) ∧ mc_cd 38 39 = some (.iload_n 2, 1) ∧ mc_cd 38 40 = some (.ifCond .lt 22, 3) ∧ mc_cd 38 43 = some (.aload_n 0, 1) ∧ mc_cd 38 44 = some (.ldc 236, 2) := by decide +kernel
theorem c38_32 : mc_cd 38 32 = some (.iconst 0, 1) := cg38_32.1
theorem c38_33 : mc_cd 38 33 = some (.bipush 23, 2) := cg38_32.2.1
theorem c38_35 : mc_cd 38 35 = some (.invokevirtual 119, 3) := cg38_32.2.2.1
theorem c38_38 : mc_cd 38 38 = some (.istore_n 2, 1) := cg38_32.2.2.2.1
theorem c38_39 : mc_cd 38 39 = some (.iload_n 2, 1) := cg38_32.2.2.2.2.1
theorem c38_40 : mc_cd 38 40 = some (.ifCond .lt 22, 3) := cg38_32.2.2.2.2.2.1
theorem c38_43 : mc_cd 38 43 = some (.aload_n 0, 1) := cg38_32.2.2.2.2.2.2.1
theorem c38_44 : mc_cd 38 44 = some (.ldc 236, 2) := cg38_32.2.2.2.2.2.2.2
theorem cg38_46 : mc_cd 38 46 = some (.invokevirtual 115, 3) ∧ mc_cd 38 49 = some (.ifCond .eq 13, 3) ∧ mc_cd 38 52 = some (.aload_n 0, 1) ∧ mc_cd 38 53 = some (.iconst 0, 1) ∧ mc_cd 38 54 = some (.bipush 99, 2) ∧ mc_cd 38 56 = some (.invokevirtual 119, 3) ∧ mc_cd 38 59 = some (.goto 4, 3) ∧ mc_cd 38 62 = some (.iconst (-1), 1) := by decide +kernel
theorem c38_46 : mc_cd 38 46 = some (.invokevirtual 115, 3) := cg38_46.1
theorem c38_49 : mc_cd 38 49 = some (.ifCond .eq 13, 3) := cg38_46.2.1
theorem c38_52 : mc_cd 38 52 = some (.aload_n 0, 1) := cg38_46.2.2.1
theorem c38_53 : mc_cd 38 53 = some (.iconst 0, 1) := cg38_46.2.2.2.1
theorem c38_54 : mc_cd 38 54 = some (.bipush 99, 2) := cg38_46.2.2.2.2.1
theorem c38_56 : mc_cd 38 56 = some (.invokevirtual 119, 3) := cg38_46.2.2.2.2.2.1
theorem c38_59 : mc_cd 38 59 = some (.goto 4, 3) := cg38_46.2.2.2.2.2.2.1
theorem c38_62 : mc_cd 38 62 = some (.iconst (-1), 1) := cg38_46.2.2.2.2.2.2.2
theorem cg38_63 : mc_cd 38 63 = some (.istore_n 3, 1) ∧ mc_cd 38 64 = some (.iload_n 3, 1) ∧ mc_cd 38 65 = some (.ifCond .ge 5, 3) ∧ mc_cd 38 68 = some (.iconst 0, 1) ∧ mc_cd 38 69 = some (.ireturn, 1) ∧ mc_cd 38 70 = some (.aload_n 1, 1) ∧ mc_cd 38 71 = some (.iload_n 2, 1) ∧ mc_cd 38 72 = some (.iload_n 3, 1) := by decide +kernel
theorem c38_63 : mc_cd 38 63 = some (.istore_n 3, 1) := cg38_63.1
theorem c38_64 : mc_cd 38 64 = some (.iload_n 3, 1) := cg38_63.2.1
theorem c38_65 : mc_cd 38 65 = some (.ifCond .ge 5, 3) := cg38_63.2.2.1
theorem c38_68 : mc_cd 38 68 = some (.iconst 0, 1) := cg38_63.2.2.2.1
theorem c38_69 : mc_cd 38 69 = some (.ireturn, 1) := cg38_63.2.2.2.2.1
theorem c38_70 : mc_cd 38 70 = some (.aload_n 1, 1) := cg38_63.2.2.2.2.2.1
theorem c38_71 : mc_cd 38 71 = some (.iload_n 2, 1) := cg38_63.2.2.2.2.2.2.1
theorem c38_72 : mc_cd 38 72 = some (.iload_n 3, 1) := cg38_63.2.2.2.2.2.2.2
theorem cg38_73 : mc_cd 38 73 = some (.invokevirtual 238, 3) ∧ mc_cd 38 76 = some (.iconst 1, 1) ∧ mc_cd 38 77 = some (.ireturn, 1) := by decide +kernel
theorem c38_73 : mc_cd 38 73 = some (.invokevirtual 238, 3) := cg38_73.1
theorem c38_76 : mc_cd 38 76 = some (.iconst 1, 1) := cg38_73.2.1
theorem c38_77 : mc_cd 38 77 = some (.ireturn, 1) := cg38_73.2.2
/-! StrikeAwake$Reader.readsTold(LStrikeAwake$Parish;)Z -/
theorem e42 : wq_en 42 = some (1, 3, false, some FieldType.boolean) := rfl
theorem cg42_0 : mc_cd 42 0 = some (.aload_n 0, 1) ∧ mc_cd 42 1 = some (.aload_n 1, 1) ∧ mc_cd 42 2 = some (.invokevirtual 207, 3) ∧ mc_cd 42 5 = some (.istore_n 2, 1) ∧ mc_cd 42 6 = some (.iload_n 2, 1) ∧ mc_cd 42 7 = some (.ifCond .ge 5, 3) ∧ mc_cd 42 10 = some (.iconst 0, 1) ∧ mc_cd 42 11 = some (.ireturn, 1) := by decide +kernel
theorem c42_0 : mc_cd 42 0 = some (.aload_n 0, 1) := cg42_0.1
theorem c42_1 : mc_cd 42 1 = some (.aload_n 1, 1) := cg42_0.2.1
theorem c42_2 : mc_cd 42 2 = some (.invokevirtual 207, 3) := cg42_0.2.2.1
theorem c42_5 : mc_cd 42 5 = some (.istore_n 2, 1) := cg42_0.2.2.2.1
theorem c42_6 : mc_cd 42 6 = some (.iload_n 2, 1) := cg42_0.2.2.2.2.1
theorem c42_7 : mc_cd 42 7 = some (.ifCond .ge 5, 3) := cg42_0.2.2.2.2.2.1
theorem c42_10 : mc_cd 42 10 = some (.iconst 0, 1) := cg42_0.2.2.2.2.2.2.1
theorem c42_11 : mc_cd 42 11 = some (.ireturn, 1) := cg42_0.2.2.2.2.2.2.2
theorem cg42_12 : mc_cd 42 12 = some (.aload_n 0, 1) ∧ mc_cd 42 13 = some (.getfield 12, 3) ∧ mc_cd 42 16 = some (.invokevirtual 74, 3) ∧ mc_cd 42 19 = some (.aload_n 0, 1) ∧ mc_cd 42 20 = some (.bipush 23, 2) ∧ mc_cd 42 22 = some (.iconst 1, 1) ∧ mc_cd 42 23 = some (.bipush 24, 2) ∧ mc_cd 42 25 = some (.bipush 24, 2) := by decide +kernel
theorem c42_12 : mc_cd 42 12 = some (.aload_n 0, 1) := cg42_12.1
theorem c42_13 : mc_cd 42 13 = some (.getfield 12, 3) := cg42_12.2.1
theorem c42_16 : mc_cd 42 16 = some (.invokevirtual 74, 3) := cg42_12.2.2.1
theorem c42_19 : mc_cd 42 19 = some (.aload_n 0, 1) := cg42_12.2.2.2.1
theorem c42_20 : mc_cd 42 20 = some (.bipush 23, 2) := cg42_12.2.2.2.2.1
theorem c42_22 : mc_cd 42 22 = some (.iconst 1, 1) := cg42_12.2.2.2.2.2.1
theorem c42_23 : mc_cd 42 23 = some (.bipush 24, 2) := cg42_12.2.2.2.2.2.2.1
theorem c42_25 : mc_cd 42 25 = some (.bipush 24, 2) := cg42_12.2.2.2.2.2.2.2
theorem cg42_27 : mc_cd 42 27 = some (.invokevirtual 154, 3) ∧ mc_cd 42 30 = some (.ifCond .ne 5, 3) ∧ mc_cd 42 33 = some (.iconst 0, 1) ∧ mc_cd 42 34 = some (.ireturn, 1) ∧ mc_cd 42 35 = some (.aload_n 1, 1) ∧ mc_cd 42 36 = some (.getfield 242, 3) ∧ mc_cd 42 39 = some (.aload_n 1, 1) ∧ mc_cd 42 40 = some (.getfield 245, 3) := by decide +kernel
theorem c42_27 : mc_cd 42 27 = some (.invokevirtual 154, 3) := cg42_27.1
theorem c42_30 : mc_cd 42 30 = some (.ifCond .ne 5, 3) := cg42_27.2.1
theorem c42_33 : mc_cd 42 33 = some (.iconst 0, 1) := cg42_27.2.2.1
theorem c42_34 : mc_cd 42 34 = some (.ireturn, 1) := cg42_27.2.2.2.1
theorem c42_35 : mc_cd 42 35 = some (.aload_n 1, 1) := cg42_27.2.2.2.2.1
theorem c42_36 : mc_cd 42 36 = some (.getfield 242, 3) := cg42_27.2.2.2.2.2.1
theorem c42_39 : mc_cd 42 39 = some (.aload_n 1, 1) := cg42_27.2.2.2.2.2.2.1
theorem c42_40 : mc_cd 42 40 = some (.getfield 245, 3) := cg42_27.2.2.2.2.2.2.2
theorem cg42_43 : mc_cd 42 43 = some (.iload_n 2, 1) ∧ mc_cd 42 44 = some (.iastore, 1) ∧ mc_cd 42 45 = some (.aload_n 1, 1) ∧ mc_cd 42 46 = some (.getfield 248, 3) ∧ mc_cd 42 49 = some (.aload_n 1, 1) ∧ mc_cd 42 50 = some (.getfield 245, 3) ∧ mc_cd 42 53 = some (.aload_n 0, 1) ∧ mc_cd 42 54 = some (.getfield 158, 3) := by decide +kernel
theorem c42_43 : mc_cd 42 43 = some (.iload_n 2, 1) := cg42_43.1
theorem c42_44 : mc_cd 42 44 = some (.iastore, 1) := cg42_43.2.1
theorem c42_45 : mc_cd 42 45 = some (.aload_n 1, 1) := cg42_43.2.2.1
theorem c42_46 : mc_cd 42 46 = some (.getfield 248, 3) := cg42_43.2.2.2.1
theorem c42_49 : mc_cd 42 49 = some (.aload_n 1, 1) := cg42_43.2.2.2.2.1
theorem c42_50 : mc_cd 42 50 = some (.getfield 245, 3) := cg42_43.2.2.2.2.2.1
theorem c42_53 : mc_cd 42 53 = some (.aload_n 0, 1) := cg42_43.2.2.2.2.2.2.1
theorem c42_54 : mc_cd 42 54 = some (.getfield 158, 3) := cg42_43.2.2.2.2.2.2.2
theorem cg42_57 : mc_cd 42 57 = some (.aload_n 0, 1) ∧ mc_cd 42 58 = some (.getfield 164, 3) ∧ mc_cd 42 61 = some (.invokestatic 194, 3) ∧ mc_cd 42 64 = some (.iastore, 1) ∧ mc_cd 42 65 = some (.aload_n 1, 1) ∧ mc_cd 42 66 = some (.dup, 1) ∧ mc_cd 42 67 = some (.getfield 245, 3) ∧ mc_cd 42 70 = some (.iconst 1, 1) := by decide +kernel
theorem c42_57 : mc_cd 42 57 = some (.aload_n 0, 1) := cg42_57.1
theorem c42_58 : mc_cd 42 58 = some (.getfield 164, 3) := cg42_57.2.1
theorem c42_61 : mc_cd 42 61 = some (.invokestatic 194, 3) := cg42_57.2.2.1
theorem c42_64 : mc_cd 42 64 = some (.iastore, 1) := cg42_57.2.2.2.1
theorem c42_65 : mc_cd 42 65 = some (.aload_n 1, 1) := cg42_57.2.2.2.2.1
theorem c42_66 : mc_cd 42 66 = some (.dup, 1) := cg42_57.2.2.2.2.2.1
theorem c42_67 : mc_cd 42 67 = some (.getfield 245, 3) := cg42_57.2.2.2.2.2.2.1
theorem c42_70 : mc_cd 42 70 = some (.iconst 1, 1) := cg42_57.2.2.2.2.2.2.2
theorem cg42_71 : mc_cd 42 71 = some (.iadd, 1) ∧ mc_cd 42 72 = some (.putfield 245, 3) ∧ mc_cd 42 75 = some (.iconst 1, 1) ∧ mc_cd 42 76 = some (.ireturn, 1) := by decide +kernel
theorem c42_71 : mc_cd 42 71 = some (.iadd, 1) := cg42_71.1
theorem c42_72 : mc_cd 42 72 = some (.putfield 245, 3) := cg42_71.2.1
theorem c42_75 : mc_cd 42 75 = some (.iconst 1, 1) := cg42_71.2.2.1
theorem c42_76 : mc_cd 42 76 = some (.ireturn, 1) := cg42_71.2.2.2
/-! StrikeAwake$Reader.readsOffer(LStrikeAwake$Parish;)Z -/
theorem e43 : wq_en 43 = some (1, 2, false, some FieldType.boolean) := rfl
theorem cg43_0 : mc_cd 43 0 = some (.aload_n 0, 1) ∧ mc_cd 43 1 = some (.aload_n 1, 1) ∧ mc_cd 43 2 = some (.invokevirtual 207, 3) ∧ mc_cd 43 5 = some (.ifCond .ge 5, 3) ∧ mc_cd 43 8 = some (.iconst 0, 1) ∧ mc_cd 43 9 = some (.ireturn, 1) ∧ mc_cd 43 10 = some (.aload_n 0, 1) ∧ mc_cd 43 11 = some (.getfield 12, 3) := by decide +kernel
theorem c43_0 : mc_cd 43 0 = some (.aload_n 0, 1) := cg43_0.1
theorem c43_1 : mc_cd 43 1 = some (.aload_n 1, 1) := cg43_0.2.1
theorem c43_2 : mc_cd 43 2 = some (.invokevirtual 207, 3) := cg43_0.2.2.1
theorem c43_5 : mc_cd 43 5 = some (.ifCond .ge 5, 3) := cg43_0.2.2.2.1
theorem c43_8 : mc_cd 43 8 = some (.iconst 0, 1) := cg43_0.2.2.2.2.1
theorem c43_9 : mc_cd 43 9 = some (.ireturn, 1) := cg43_0.2.2.2.2.2.1
theorem c43_10 : mc_cd 43 10 = some (.aload_n 0, 1) := cg43_0.2.2.2.2.2.2.1
theorem c43_11 : mc_cd 43 11 = some (.getfield 12, 3) := cg43_0.2.2.2.2.2.2.2
theorem cg43_14 : mc_cd 43 14 = some (.invokevirtual 74, 3) ∧ mc_cd 43 17 = some (.aload_n 0, 1) ∧ mc_cd 43 18 = some (.bipush 23, 2) ∧ mc_cd 43 20 = some (.iconst 1, 1) ∧ mc_cd 43 21 = some (.bipush 24, 2) ∧ mc_cd 43 23 = some (.bipush 24, 2) ∧ mc_cd 43 25 = some (.invokevirtual 154, 3) ∧ mc_cd 43 28 = some (.ifCond .ne 5, 3) := by decide +kernel
theorem c43_14 : mc_cd 43 14 = some (.invokevirtual 74, 3) := cg43_14.1
theorem c43_17 : mc_cd 43 17 = some (.aload_n 0, 1) := cg43_14.2.1
theorem c43_18 : mc_cd 43 18 = some (.bipush 23, 2) := cg43_14.2.2.1
theorem c43_20 : mc_cd 43 20 = some (.iconst 1, 1) := cg43_14.2.2.2.1
theorem c43_21 : mc_cd 43 21 = some (.bipush 24, 2) := cg43_14.2.2.2.2.1
theorem c43_23 : mc_cd 43 23 = some (.bipush 24, 2) := cg43_14.2.2.2.2.2.1
theorem c43_25 : mc_cd 43 25 = some (.invokevirtual 154, 3) := cg43_14.2.2.2.2.2.2.1
theorem c43_28 : mc_cd 43 28 = some (.ifCond .ne 5, 3) := cg43_14.2.2.2.2.2.2.2
theorem cg43_31 : mc_cd 43 31 = some (.iconst 0, 1) ∧ mc_cd 43 32 = some (.ireturn, 1) ∧ mc_cd 43 33 = some (.aload_n 1, 1) ∧ mc_cd 43 34 = some (.getfield 251, 3) ∧ mc_cd 43 37 = some (.aload_n 1, 1) ∧ mc_cd 43 38 = some (.getfield 254, 3) ∧ mc_cd 43 41 = some (.aload_n 0, 1) ∧ mc_cd 43 42 = some (.getfield 158, 3) := by decide +kernel
theorem c43_31 : mc_cd 43 31 = some (.iconst 0, 1) := cg43_31.1
theorem c43_32 : mc_cd 43 32 = some (.ireturn, 1) := cg43_31.2.1
theorem c43_33 : mc_cd 43 33 = some (.aload_n 1, 1) := cg43_31.2.2.1
theorem c43_34 : mc_cd 43 34 = some (.getfield 251, 3) := cg43_31.2.2.2.1
theorem c43_37 : mc_cd 43 37 = some (.aload_n 1, 1) := cg43_31.2.2.2.2.1
theorem c43_38 : mc_cd 43 38 = some (.getfield 254, 3) := cg43_31.2.2.2.2.2.1
theorem c43_41 : mc_cd 43 41 = some (.aload_n 0, 1) := cg43_31.2.2.2.2.2.2.1
theorem c43_42 : mc_cd 43 42 = some (.getfield 158, 3) := cg43_31.2.2.2.2.2.2.2
theorem cg43_45 : mc_cd 43 45 = some (.aload_n 0, 1) ∧ mc_cd 43 46 = some (.getfield 164, 3) ∧ mc_cd 43 49 = some (.invokestatic 194, 3) ∧ mc_cd 43 52 = some (.iastore, 1) ∧ mc_cd 43 53 = some (.aload_n 1, 1) ∧ mc_cd 43 54 = some (.dup, 1) ∧ mc_cd 43 55 = some (.getfield 254, 3) ∧ mc_cd 43 58 = some (.iconst 1, 1) := by decide +kernel
theorem c43_45 : mc_cd 43 45 = some (.aload_n 0, 1) := cg43_45.1
theorem c43_46 : mc_cd 43 46 = some (.getfield 164, 3) := cg43_45.2.1
theorem c43_49 : mc_cd 43 49 = some (.invokestatic 194, 3) := cg43_45.2.2.1
theorem c43_52 : mc_cd 43 52 = some (.iastore, 1) := cg43_45.2.2.2.1
theorem c43_53 : mc_cd 43 53 = some (.aload_n 1, 1) := cg43_45.2.2.2.2.1
theorem c43_54 : mc_cd 43 54 = some (.dup, 1) := cg43_45.2.2.2.2.2.1
theorem c43_55 : mc_cd 43 55 = some (.getfield 254, 3) := cg43_45.2.2.2.2.2.2.1
theorem c43_58 : mc_cd 43 58 = some (.iconst 1, 1) := cg43_45.2.2.2.2.2.2.2
theorem cg43_59 : mc_cd 43 59 = some (.iadd, 1) ∧ mc_cd 43 60 = some (.putfield 254, 3) ∧ mc_cd 43 63 = some (.iconst 1, 1) ∧ mc_cd 43 64 = some (.ireturn, 1) := by decide +kernel
theorem c43_59 : mc_cd 43 59 = some (.iadd, 1) := cg43_59.1
theorem c43_60 : mc_cd 43 60 = some (.putfield 254, 3) := cg43_59.2.1
theorem c43_63 : mc_cd 43 63 = some (.iconst 1, 1) := cg43_59.2.2.1
theorem c43_64 : mc_cd 43 64 = some (.ireturn, 1) := cg43_59.2.2.2
/-! StrikeAwake$Reader.readsLine(LStrikeAwake$Parish;)Z -/
theorem e17 : wq_en 17 = some (1, 4, false, some FieldType.boolean) := rfl
theorem cg17_0 : mc_cd 17 0 = some (.aload_n 0, 1) ∧ mc_cd 17 1 = some (.invokevirtual 54, 3) ∧ mc_cd 17 4 = some (.astore_n 2, 1) ∧ mc_cd 17 5 = some (.aload_n 2, 1) ∧ mc_cd 17 6 = some (.ifnull 10, 3) ∧ mc_cd 17 9 = some (.aload_n 2, 1) ∧ mc_cd 17 10 = some (.getfield 58, 3) ∧ mc_cd 17 13 = some (.ifCond .ne 9, 3) := by decide +kernel
theorem c17_0 : mc_cd 17 0 = some (.aload_n 0, 1) := cg17_0.1
theorem c17_1 : mc_cd 17 1 = some (.invokevirtual 54, 3) := cg17_0.2.1
theorem c17_4 : mc_cd 17 4 = some (.astore_n 2, 1) := cg17_0.2.2.1
theorem c17_5 : mc_cd 17 5 = some (.aload_n 2, 1) := cg17_0.2.2.2.1
theorem c17_6 : mc_cd 17 6 = some (.ifnull 10, 3) := cg17_0.2.2.2.2.1
theorem c17_9 : mc_cd 17 9 = some (.aload_n 2, 1) := cg17_0.2.2.2.2.2.1
theorem c17_10 : mc_cd 17 10 = some (.getfield 58, 3) := cg17_0.2.2.2.2.2.2.1
theorem c17_13 : mc_cd 17 13 = some (.ifCond .ne 9, 3) := cg17_0.2.2.2.2.2.2.2
theorem cg17_16 : mc_cd 17 16 = some (.aload_n 0, 1) ∧ mc_cd 17 17 = some (.iconst 1, 1) ∧ mc_cd 17 18 = some (.invokevirtual 47, 3) ∧ mc_cd 17 21 = some (.ireturn, 1) ∧ mc_cd 17 22 = some (.aload_n 1, 1) ∧ mc_cd 17 23 = some (.aload_n 2, 1) ∧ mc_cd 17 24 = some (.invokevirtual 63, 3) ∧ mc_cd 17 27 = some (.aload_n 2, 1) := by decide +kernel
theorem c17_16 : mc_cd 17 16 = some (.aload_n 0, 1) := cg17_16.1
theorem c17_17 : mc_cd 17 17 = some (.iconst 1, 1) := cg17_16.2.1
theorem c17_18 : mc_cd 17 18 = some (.invokevirtual 47, 3) := cg17_16.2.2.1
theorem c17_21 : mc_cd 17 21 = some (.ireturn, 1) := cg17_16.2.2.2.1
theorem c17_22 : mc_cd 17 22 = some (.aload_n 1, 1) := cg17_16.2.2.2.2.1
theorem c17_23 : mc_cd 17 23 = some (.aload_n 2, 1) := cg17_16.2.2.2.2.2.1
theorem c17_24 : mc_cd 17 24 = some (.invokevirtual 63, 3) := cg17_16.2.2.2.2.2.2.1
theorem c17_27 : mc_cd 17 27 = some (.aload_n 2, 1) := cg17_16.2.2.2.2.2.2.2
theorem cg17_28 : mc_cd 17 28 = some (.getfield 58, 3) ∧ mc_cd 17 31 = some (.if_icmp .lt 37, 3) ∧ mc_cd 17 34 = some (.aload_n 2, 1) ∧ mc_cd 17 35 = some (.getstatic 67, 3) ∧ mc_cd 17 38 = some (.if_acmp .eq 10, 3) ∧ mc_cd 17 41 = some (.aload_n 2, 1) ∧ mc_cd 17 42 = some (.getstatic 71, 3) ∧ mc_cd 17 45 = some (.if_acmp .ne 7, 3) := by decide +kernel
theorem c17_28 : mc_cd 17 28 = some (.getfield 58, 3) := cg17_28.1
theorem c17_31 : mc_cd 17 31 = some (.if_icmp .lt 37, 3) := cg17_28.2.1
theorem c17_34 : mc_cd 17 34 = some (.aload_n 2, 1) := cg17_28.2.2.1
theorem c17_35 : mc_cd 17 35 = some (.getstatic 67, 3) := cg17_28.2.2.2.1
theorem c17_38 : mc_cd 17 38 = some (.if_acmp .eq 10, 3) := cg17_28.2.2.2.2.1
theorem c17_41 : mc_cd 17 41 = some (.aload_n 2, 1) := cg17_28.2.2.2.2.2.1
theorem c17_42 : mc_cd 17 42 = some (.getstatic 71, 3) := cg17_28.2.2.2.2.2.2.1
theorem c17_45 : mc_cd 17 45 = some (.if_acmp .ne 7, 3) := cg17_28.2.2.2.2.2.2.2
theorem cg17_48 : mc_cd 17 48 = some (.iconst 1, 1) ∧ mc_cd 17 49 = some (.goto 4, 3) ∧ mc_cd 17 52 = some (.iconst 0, 1) ∧ mc_cd 17 53 = some (.istore_n 3, 1) ∧ mc_cd 17 54 = some (.aload_n 0, 1) ∧ mc_cd 17 55 = some (.iload_n 3, 1) ∧ mc_cd 17 56 = some (.ifCond .eq 7, 3) ∧ mc_cd 17 59 = some (.iconst 3, 1) := by decide +kernel
theorem c17_48 : mc_cd 17 48 = some (.iconst 1, 1) := cg17_48.1
theorem c17_49 : mc_cd 17 49 = some (.goto 4, 3) := cg17_48.2.1
theorem c17_52 : mc_cd 17 52 = some (.iconst 0, 1) := cg17_48.2.2.1
theorem c17_53 : mc_cd 17 53 = some (.istore_n 3, 1) := cg17_48.2.2.2.1
theorem c17_54 : mc_cd 17 54 = some (.aload_n 0, 1) := cg17_48.2.2.2.2.1
theorem c17_55 : mc_cd 17 55 = some (.iload_n 3, 1) := cg17_48.2.2.2.2.2.1
theorem c17_56 : mc_cd 17 56 = some (.ifCond .eq 7, 3) := cg17_48.2.2.2.2.2.2.1
theorem c17_59 : mc_cd 17 59 = some (.iconst 3, 1) := cg17_48.2.2.2.2.2.2.2
theorem cg17_60 : mc_cd 17 60 = some (.goto 4, 3) ∧ mc_cd 17 63 = some (.iconst 5, 1) ∧ mc_cd 17 64 = some (.invokevirtual 47, 3) ∧ mc_cd 17 67 = some (.ireturn, 1) ∧ mc_cd 17 68 = some (.aload_n 0, 1) ∧ mc_cd 17 69 = some (.getfield 12, 3) ∧ mc_cd 17 72 = some (.invokevirtual 74, 3) ∧ mc_cd 17 75 = some (.getstatic 77, 3) := by decide +kernel
theorem c17_60 : mc_cd 17 60 = some (.goto 4, 3) := cg17_60.1
theorem c17_63 : mc_cd 17 63 = some (.iconst 5, 1) := cg17_60.2.1
theorem c17_64 : mc_cd 17 64 = some (.invokevirtual 47, 3) := cg17_60.2.2.1
theorem c17_67 : mc_cd 17 67 = some (.ireturn, 1) := cg17_60.2.2.2.1
theorem c17_68 : mc_cd 17 68 = some (.aload_n 0, 1) := cg17_60.2.2.2.2.1
theorem c17_69 : mc_cd 17 69 = some (.getfield 12, 3) := cg17_60.2.2.2.2.2.1
theorem c17_72 : mc_cd 17 72 = some (.invokevirtual 74, 3) := cg17_60.2.2.2.2.2.2.1
theorem c17_75 : mc_cd 17 75 = some (.getstatic 77, 3) := cg17_60.2.2.2.2.2.2.2
theorem cg17_78 : mc_cd 17 78 = some (.aload_n 2, 1) ∧ mc_cd 17 79 = some (.invokevirtual 83, 3) ∧ mc_cd 17 82 = some (.iaload, 1) ∧ mc_cd 17 83 = some (.tableswitch 109 1 8 #[45, 51, 73, 79, 85, 91, 97, 103], 45) ∧ mc_cd 17 128 = some (.aload_n 0, 1) ∧ mc_cd 17 129 = some (.aload_n 1, 1) ∧ mc_cd 17 130 = some (.invokevirtual 87, 3) ∧ mc_cd 17 133 = some (.ireturn, 1) := by decide +kernel
theorem c17_78 : mc_cd 17 78 = some (.aload_n 2, 1) := cg17_78.1
theorem c17_79 : mc_cd 17 79 = some (.invokevirtual 83, 3) := cg17_78.2.1
theorem c17_82 : mc_cd 17 82 = some (.iaload, 1) := cg17_78.2.2.1
theorem c17_83 : mc_cd 17 83 = some (.tableswitch 109 1 8 #[45, 51, 73, 79, 85, 91, 97, 103], 45) := cg17_78.2.2.2.1
theorem c17_128 : mc_cd 17 128 = some (.aload_n 0, 1) := cg17_78.2.2.2.2.1
theorem c17_129 : mc_cd 17 129 = some (.aload_n 1, 1) := cg17_78.2.2.2.2.2.1
theorem c17_130 : mc_cd 17 130 = some (.invokevirtual 87, 3) := cg17_78.2.2.2.2.2.2.1
theorem c17_133 : mc_cd 17 133 = some (.ireturn, 1) := cg17_78.2.2.2.2.2.2.2
theorem cg17_134 : mc_cd 17 134 = some (.aload_n 0, 1) ∧ mc_cd 17 135 = some (.aload_n 1, 1) ∧ mc_cd 17 136 = some (.invokevirtual 90, 3) ∧ mc_cd 17 139 = some (.ifCond .eq 15, 3) ∧ mc_cd 17 142 = some (.aload_n 0, 1) ∧ mc_cd 17 143 = some (.aload_n 1, 1) ∧ mc_cd 17 144 = some (.invokevirtual 93, 3) ∧ mc_cd 17 147 = some (.ifCond .eq 7, 3) := by decide +kernel
theorem c17_134 : mc_cd 17 134 = some (.aload_n 0, 1) := cg17_134.1
theorem c17_135 : mc_cd 17 135 = some (.aload_n 1, 1) := cg17_134.2.1
theorem c17_136 : mc_cd 17 136 = some (.invokevirtual 90, 3) := cg17_134.2.2.1
theorem c17_139 : mc_cd 17 139 = some (.ifCond .eq 15, 3) := cg17_134.2.2.2.1
theorem c17_142 : mc_cd 17 142 = some (.aload_n 0, 1) := cg17_134.2.2.2.2.1
theorem c17_143 : mc_cd 17 143 = some (.aload_n 1, 1) := cg17_134.2.2.2.2.2.1
theorem c17_144 : mc_cd 17 144 = some (.invokevirtual 93, 3) := cg17_134.2.2.2.2.2.2.1
theorem c17_147 : mc_cd 17 147 = some (.ifCond .eq 7, 3) := cg17_134.2.2.2.2.2.2.2
theorem cg17_150 : mc_cd 17 150 = some (.iconst 1, 1) ∧ mc_cd 17 151 = some (.goto 4, 3) ∧ mc_cd 17 154 = some (.iconst 0, 1) ∧ mc_cd 17 155 = some (.ireturn, 1) ∧ mc_cd 17 156 = some (.aload_n 0, 1) ∧ mc_cd 17 157 = some (.aload_n 1, 1) ∧ mc_cd 17 158 = some (.invokevirtual 96, 3) ∧ mc_cd 17 161 = some (.ireturn, 1) := by decide +kernel
theorem c17_150 : mc_cd 17 150 = some (.iconst 1, 1) := cg17_150.1
theorem c17_151 : mc_cd 17 151 = some (.goto 4, 3) := cg17_150.2.1
theorem c17_154 : mc_cd 17 154 = some (.iconst 0, 1) := cg17_150.2.2.1
theorem c17_155 : mc_cd 17 155 = some (.ireturn, 1) := cg17_150.2.2.2.1
theorem c17_156 : mc_cd 17 156 = some (.aload_n 0, 1) := cg17_150.2.2.2.2.1
theorem c17_157 : mc_cd 17 157 = some (.aload_n 1, 1) := cg17_150.2.2.2.2.2.1
theorem c17_158 : mc_cd 17 158 = some (.invokevirtual 96, 3) := cg17_150.2.2.2.2.2.2.1
theorem c17_161 : mc_cd 17 161 = some (.ireturn, 1) := cg17_150.2.2.2.2.2.2.2
theorem cg17_162 : mc_cd 17 162 = some (.aload_n 0, 1) ∧ mc_cd 17 163 = some (.aload_n 1, 1) ∧ mc_cd 17 164 = some (.invokevirtual 99, 3) ∧ mc_cd 17 167 = some (.ireturn, 1) ∧ mc_cd 17 168 = some (.aload_n 0, 1) ∧ mc_cd 17 169 = some (.aload_n 1, 1) ∧ mc_cd 17 170 = some (.invokevirtual 102, 3) ∧ mc_cd 17 173 = some (.ireturn, 1) := by decide +kernel
theorem c17_162 : mc_cd 17 162 = some (.aload_n 0, 1) := cg17_162.1
theorem c17_163 : mc_cd 17 163 = some (.aload_n 1, 1) := cg17_162.2.1
theorem c17_164 : mc_cd 17 164 = some (.invokevirtual 99, 3) := cg17_162.2.2.1
theorem c17_167 : mc_cd 17 167 = some (.ireturn, 1) := cg17_162.2.2.2.1
theorem c17_168 : mc_cd 17 168 = some (.aload_n 0, 1) := cg17_162.2.2.2.2.1
theorem c17_169 : mc_cd 17 169 = some (.aload_n 1, 1) := cg17_162.2.2.2.2.2.1
theorem c17_170 : mc_cd 17 170 = some (.invokevirtual 102, 3) := cg17_162.2.2.2.2.2.2.1
theorem c17_173 : mc_cd 17 173 = some (.ireturn, 1) := cg17_162.2.2.2.2.2.2.2
theorem cg17_174 : mc_cd 17 174 = some (.aload_n 0, 1) ∧ mc_cd 17 175 = some (.aload_n 1, 1) ∧ mc_cd 17 176 = some (.invokevirtual 105, 3) ∧ mc_cd 17 179 = some (.ireturn, 1) ∧ mc_cd 17 180 = some (.aload_n 0, 1) ∧ mc_cd 17 181 = some (.aload_n 1, 1) ∧ mc_cd 17 182 = some (.invokevirtual 108, 3) ∧ mc_cd 17 185 = some (.ireturn, 1) := by decide +kernel
theorem c17_174 : mc_cd 17 174 = some (.aload_n 0, 1) := cg17_174.1
theorem c17_175 : mc_cd 17 175 = some (.aload_n 1, 1) := cg17_174.2.1
theorem c17_176 : mc_cd 17 176 = some (.invokevirtual 105, 3) := cg17_174.2.2.1
theorem c17_179 : mc_cd 17 179 = some (.ireturn, 1) := cg17_174.2.2.2.1
theorem c17_180 : mc_cd 17 180 = some (.aload_n 0, 1) := cg17_174.2.2.2.2.1
theorem c17_181 : mc_cd 17 181 = some (.aload_n 1, 1) := cg17_174.2.2.2.2.2.1
theorem c17_182 : mc_cd 17 182 = some (.invokevirtual 108, 3) := cg17_174.2.2.2.2.2.2.1
theorem c17_185 : mc_cd 17 185 = some (.ireturn, 1) := cg17_174.2.2.2.2.2.2.2
theorem cg17_186 : mc_cd 17 186 = some (.aload_n 0, 1) ∧ mc_cd 17 187 = some (.aload_n 1, 1) ∧ mc_cd 17 188 = some (.invokevirtual 111, 3) ∧ mc_cd 17 191 = some (.ireturn, 1) := by decide +kernel
theorem c17_186 : mc_cd 17 186 = some (.aload_n 0, 1) := cg17_186.1
theorem c17_187 : mc_cd 17 187 = some (.aload_n 1, 1) := cg17_186.2.1
theorem c17_188 : mc_cd 17 188 = some (.invokevirtual 111, 3) := cg17_186.2.2.1
theorem c17_191 : mc_cd 17 191 = some (.ireturn, 1) := cg17_186.2.2.2
end
