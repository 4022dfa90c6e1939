/-! methods of the reference (own work, written by wip/gen2/sx.py) -/
/-! StrikeAwakeModel.part(IZ)I -/
theorem e279 : wq_en 279 = some (9, 7, false, some FieldType.int) := rfl
theorem cg279_0 : mc_cd 279 0 = some (.aload_n 0, 1) ∧ mc_cd 279 1 = some (.iconst 0, 1) ∧ mc_cd 279 2 = some (.putfield 48, 3) ∧ mc_cd 279 5 = some (.aload_n 0, 1) ∧ mc_cd 279 6 = some (.aload_n 0, 1) ∧ mc_cd 279 7 = some (.iload_n 1, 1) ∧ mc_cd 279 8 = some (.invokevirtual 487, 3) ∧ mc_cd 279 11 = some (.invokevirtual 447, 3) := by decide +kernel
theorem c279_0 : mc_cd 279 0 = some (.aload_n 0, 1) := cg279_0.1
theorem c279_1 : mc_cd 279 1 = some (.iconst 0, 1) := cg279_0.2.1
theorem c279_2 : mc_cd 279 2 = some (.putfield 48, 3) := cg279_0.2.2.1
theorem c279_5 : mc_cd 279 5 = some (.aload_n 0, 1) := cg279_0.2.2.2.1
theorem c279_6 : mc_cd 279 6 = some (.aload_n 0, 1) := cg279_0.2.2.2.2.1
theorem c279_7 : mc_cd 279 7 = some (.iload_n 1, 1) := cg279_0.2.2.2.2.2.1
theorem c279_8 : mc_cd 279 8 = some (.invokevirtual 487, 3) := cg279_0.2.2.2.2.2.2.1
theorem c279_11 : mc_cd 279 11 = some (.invokevirtual 447, 3) := cg279_0.2.2.2.2.2.2.2
theorem cg279_14 : mc_cd 279 14 = some (.istore_n 3, 1) ∧ mc_cd 279 15 = some (.iload_n 3, 1) ∧ mc_cd 279 16 = some (.ifCond .le 9, 3) ∧ mc_cd 279 19 = some (.aload_n 0, 1) ∧ mc_cd 279 20 = some (.iload_n 3, 1) ∧ mc_cd 279 21 = some (.invokevirtual 490, 3) ∧ mc_cd 279 24 = some (.ireturn, 1) ∧ mc_cd 279 25 = some (.iconst 0, 1) := by decide +kernel
theorem c279_14 : mc_cd 279 14 = some (.istore_n 3, 1) := cg279_14.1
theorem c279_15 : mc_cd 279 15 = some (.iload_n 3, 1) := cg279_14.2.1
theorem c279_16 : mc_cd 279 16 = some (.ifCond .le 9, 3) := cg279_14.2.2.1
theorem c279_19 : mc_cd 279 19 = some (.aload_n 0, 1) := cg279_14.2.2.2.1
theorem c279_20 : mc_cd 279 20 = some (.iload_n 3, 1) := cg279_14.2.2.2.2.1
theorem c279_21 : mc_cd 279 21 = some (.invokevirtual 490, 3) := cg279_14.2.2.2.2.2.1
theorem c279_24 : mc_cd 279 24 = some (.ireturn, 1) := cg279_14.2.2.2.2.2.2.1
theorem c279_25 : mc_cd 279 25 = some (.iconst 0, 1) := cg279_14.2.2.2.2.2.2.2
theorem cg279_26 : mc_cd 279 26 = some (.istore 4, 2) ∧ mc_cd 279 28 = some (.iconst 0, 1) ∧ mc_cd 279 29 = some (.istore 5, 2) ∧ mc_cd 279 31 = some (.iload 5, 2) ∧ mc_cd 279 33 = some (.aload_n 0, 1) ∧ mc_cd 279 34 = some (.getfield 422, 3) ∧ mc_cd 279 37 = some (.if_icmp .ge 75, 3) ∧ mc_cd 279 40 = some (.aload_n 0, 1) := by decide +kernel
theorem c279_26 : mc_cd 279 26 = some (.istore 4, 2) := cg279_26.1
theorem c279_28 : mc_cd 279 28 = some (.iconst 0, 1) := cg279_26.2.1
theorem c279_29 : mc_cd 279 29 = some (.istore 5, 2) := cg279_26.2.2.1
theorem c279_31 : mc_cd 279 31 = some (.iload 5, 2) := cg279_26.2.2.2.1
theorem c279_33 : mc_cd 279 33 = some (.aload_n 0, 1) := cg279_26.2.2.2.2.1
theorem c279_34 : mc_cd 279 34 = some (.getfield 422, 3) := cg279_26.2.2.2.2.2.1
theorem c279_37 : mc_cd 279 37 = some (.if_icmp .ge 75, 3) := cg279_26.2.2.2.2.2.2.1
theorem c279_40 : mc_cd 279 40 = some (.aload_n 0, 1) := cg279_26.2.2.2.2.2.2.2
theorem cg279_41 : mc_cd 279 41 = some (.aload_n 0, 1) ∧ mc_cd 279 42 = some (.getfield 42, 3) ∧ mc_cd 279 45 = some (.iload 5, 2) ∧ mc_cd 279 47 = some (.iaload, 1) ∧ mc_cd 279 48 = some (.invokevirtual 425, 3) ∧ mc_cd 279 51 = some (.aload_n 0, 1) ∧ mc_cd 279 52 = some (.getfield 17, 3) ∧ mc_cd 279 55 = some (.iload_n 1, 1) := by decide +kernel
theorem c279_41 : mc_cd 279 41 = some (.aload_n 0, 1) := cg279_41.1
theorem c279_42 : mc_cd 279 42 = some (.getfield 42, 3) := cg279_41.2.1
theorem c279_45 : mc_cd 279 45 = some (.iload 5, 2) := cg279_41.2.2.1
theorem c279_47 : mc_cd 279 47 = some (.iaload, 1) := cg279_41.2.2.2.1
theorem c279_48 : mc_cd 279 48 = some (.invokevirtual 425, 3) := cg279_41.2.2.2.2.1
theorem c279_51 : mc_cd 279 51 = some (.aload_n 0, 1) := cg279_41.2.2.2.2.2.1
theorem c279_52 : mc_cd 279 52 = some (.getfield 17, 3) := cg279_41.2.2.2.2.2.2.1
theorem c279_55 : mc_cd 279 55 = some (.iload_n 1, 1) := cg279_41.2.2.2.2.2.2.2
theorem cg279_56 : mc_cd 279 56 = some (.iaload, 1) ∧ mc_cd 279 57 = some (.iconst 1, 1) ∧ mc_cd 279 58 = some (.isub, 1) ∧ mc_cd 279 59 = some (.aload_n 0, 1) ∧ mc_cd 279 60 = some (.aload_n 0, 1) ∧ mc_cd 279 61 = some (.getfield 39, 3) ∧ mc_cd 279 64 = some (.iload_n 1, 1) ∧ mc_cd 279 65 = some (.invokevirtual 386, 3) := by decide +kernel
theorem c279_56 : mc_cd 279 56 = some (.iaload, 1) := cg279_56.1
theorem c279_57 : mc_cd 279 57 = some (.iconst 1, 1) := cg279_56.2.1
theorem c279_58 : mc_cd 279 58 = some (.isub, 1) := cg279_56.2.2.1
theorem c279_59 : mc_cd 279 59 = some (.aload_n 0, 1) := cg279_56.2.2.2.1
theorem c279_60 : mc_cd 279 60 = some (.aload_n 0, 1) := cg279_56.2.2.2.2.1
theorem c279_61 : mc_cd 279 61 = some (.getfield 39, 3) := cg279_56.2.2.2.2.2.1
theorem c279_64 : mc_cd 279 64 = some (.iload_n 1, 1) := cg279_56.2.2.2.2.2.2.1
theorem c279_65 : mc_cd 279 65 = some (.invokevirtual 386, 3) := cg279_56.2.2.2.2.2.2.2
theorem cg279_68 : mc_cd 279 68 = some (.isub, 1) ∧ mc_cd 279 69 = some (.istore 6, 2) ∧ mc_cd 279 71 = some (.iload 5, 2) ∧ mc_cd 279 73 = some (.ifCond .eq 24, 3) ∧ mc_cd 279 76 = some (.iload_n 2, 1) ∧ mc_cd 279 77 = some (.ifCond .eq 13, 3) ∧ mc_cd 279 80 = some (.iload 6, 2) ∧ mc_cd 279 82 = some (.iload 4, 2) := by decide +kernel
theorem c279_68 : mc_cd 279 68 = some (.isub, 1) := cg279_68.1
theorem c279_69 : mc_cd 279 69 = some (.istore 6, 2) := cg279_68.2.1
theorem c279_71 : mc_cd 279 71 = some (.iload 5, 2) := cg279_68.2.2.1
theorem c279_73 : mc_cd 279 73 = some (.ifCond .eq 24, 3) := cg279_68.2.2.2.1
theorem c279_76 : mc_cd 279 76 = some (.iload_n 2, 1) := cg279_68.2.2.2.2.1
theorem c279_77 : mc_cd 279 77 = some (.ifCond .eq 13, 3) := cg279_68.2.2.2.2.2.1
theorem c279_80 : mc_cd 279 80 = some (.iload 6, 2) := cg279_68.2.2.2.2.2.2.1
theorem c279_82 : mc_cd 279 82 = some (.iload 4, 2) := cg279_68.2.2.2.2.2.2.2
theorem cg279_84 : mc_cd 279 84 = some (.if_icmp .le 18, 3) ∧ mc_cd 279 87 = some (.goto 10, 3) ∧ mc_cd 279 90 = some (.iload 6, 2) ∧ mc_cd 279 92 = some (.iload 4, 2) ∧ mc_cd 279 94 = some (.if_icmp .ge 8, 3) ∧ mc_cd 279 97 = some (.iload 6, 2) ∧ mc_cd 279 99 = some (.goto 5, 3) ∧ mc_cd 279 102 = some (.iload 4, 2) := by decide +kernel
theorem c279_84 : mc_cd 279 84 = some (.if_icmp .le 18, 3) := cg279_84.1
theorem c279_87 : mc_cd 279 87 = some (.goto 10, 3) := cg279_84.2.1
theorem c279_90 : mc_cd 279 90 = some (.iload 6, 2) := cg279_84.2.2.1
theorem c279_92 : mc_cd 279 92 = some (.iload 4, 2) := cg279_84.2.2.2.1
theorem c279_94 : mc_cd 279 94 = some (.if_icmp .ge 8, 3) := cg279_84.2.2.2.2.1
theorem c279_97 : mc_cd 279 97 = some (.iload 6, 2) := cg279_84.2.2.2.2.2.1
theorem c279_99 : mc_cd 279 99 = some (.goto 5, 3) := cg279_84.2.2.2.2.2.2.1
theorem c279_102 : mc_cd 279 102 = some (.iload 4, 2) := cg279_84.2.2.2.2.2.2.2
theorem cg279_104 : mc_cd 279 104 = some (.istore 4, 2) ∧ mc_cd 279 106 = some (.iinc 5 1, 3) ∧ mc_cd 279 109 = some (.goto (-78), 3) ∧ mc_cd 279 112 = some (.aload_n 0, 1) ∧ mc_cd 279 113 = some (.iload 4, 2) ∧ mc_cd 279 115 = some (.invokevirtual 58, 3) ∧ mc_cd 279 118 = some (.ireturn, 1) := by decide +kernel
theorem c279_104 : mc_cd 279 104 = some (.istore 4, 2) := cg279_104.1
theorem c279_106 : mc_cd 279 106 = some (.iinc 5 1, 3) := cg279_104.2.1
theorem c279_109 : mc_cd 279 109 = some (.goto (-78), 3) := cg279_104.2.2.1
theorem c279_112 : mc_cd 279 112 = some (.aload_n 0, 1) := cg279_104.2.2.2.1
theorem c279_113 : mc_cd 279 113 = some (.iload 4, 2) := cg279_104.2.2.2.2.1
theorem c279_115 : mc_cd 279 115 = some (.invokevirtual 58, 3) := cg279_104.2.2.2.2.2.1
theorem c279_118 : mc_cd 279 118 = some (.ireturn, 1) := cg279_104.2.2.2.2.2.2
/-! StrikeAwakeModel.nothing()I -/
theorem e282 : wq_en 282 = some (9, 5, false, some FieldType.int) := rfl
theorem cg282_0 : mc_cd 282 0 = some (.aload_n 0, 1) ∧ mc_cd 282 1 = some (.iconst 0, 1) ∧ mc_cd 282 2 = some (.putfield 48, 3) ∧ mc_cd 282 5 = some (.aload_n 0, 1) ∧ mc_cd 282 6 = some (.aload_n 0, 1) ∧ mc_cd 282 7 = some (.getfield 337, 3) ∧ mc_cd 282 10 = some (.ifnull 7, 3) ∧ mc_cd 282 13 = some (.iconst 1, 1) := by decide +kernel
theorem c282_0 : mc_cd 282 0 = some (.aload_n 0, 1) := cg282_0.1
theorem c282_1 : mc_cd 282 1 = some (.iconst 0, 1) := cg282_0.2.1
theorem c282_2 : mc_cd 282 2 = some (.putfield 48, 3) := cg282_0.2.2.1
theorem c282_5 : mc_cd 282 5 = some (.aload_n 0, 1) := cg282_0.2.2.2.1
theorem c282_6 : mc_cd 282 6 = some (.aload_n 0, 1) := cg282_0.2.2.2.2.1
theorem c282_7 : mc_cd 282 7 = some (.getfield 337, 3) := cg282_0.2.2.2.2.2.1
theorem c282_10 : mc_cd 282 10 = some (.ifnull 7, 3) := cg282_0.2.2.2.2.2.2.1
theorem c282_13 : mc_cd 282 13 = some (.iconst 1, 1) := cg282_0.2.2.2.2.2.2.2
theorem cg282_14 : mc_cd 282 14 = some (.goto 4, 3) ∧ mc_cd 282 17 = some (.iconst 0, 1) ∧ mc_cd 282 18 = some (.invokevirtual 433, 3) ∧ mc_cd 282 21 = some (.istore_n 1, 1) ∧ mc_cd 282 22 = some (.iload_n 1, 1) ∧ mc_cd 282 23 = some (.ifCond .le 9, 3) ∧ mc_cd 282 26 = some (.aload_n 0, 1) ∧ mc_cd 282 27 = some (.iload_n 1, 1) := by decide +kernel
theorem c282_14 : mc_cd 282 14 = some (.goto 4, 3) := cg282_14.1
theorem c282_17 : mc_cd 282 17 = some (.iconst 0, 1) := cg282_14.2.1
theorem c282_18 : mc_cd 282 18 = some (.invokevirtual 433, 3) := cg282_14.2.2.1
theorem c282_21 : mc_cd 282 21 = some (.istore_n 1, 1) := cg282_14.2.2.2.1
theorem c282_22 : mc_cd 282 22 = some (.iload_n 1, 1) := cg282_14.2.2.2.2.1
theorem c282_23 : mc_cd 282 23 = some (.ifCond .le 9, 3) := cg282_14.2.2.2.2.2.1
theorem c282_26 : mc_cd 282 26 = some (.aload_n 0, 1) := cg282_14.2.2.2.2.2.2.1
theorem c282_27 : mc_cd 282 27 = some (.iload_n 1, 1) := cg282_14.2.2.2.2.2.2.2
theorem cg282_28 : mc_cd 282 28 = some (.invokevirtual 54, 3) ∧ mc_cd 282 31 = some (.ireturn, 1) ∧ mc_cd 282 32 = some (.iconst 0, 1) ∧ mc_cd 282 33 = some (.istore_n 2, 1) ∧ mc_cd 282 34 = some (.iconst 0, 1) ∧ mc_cd 282 35 = some (.istore_n 3, 1) ∧ mc_cd 282 36 = some (.iload_n 3, 1) ∧ mc_cd 282 37 = some (.i2l, 1) := by decide +kernel
theorem c282_28 : mc_cd 282 28 = some (.invokevirtual 54, 3) := cg282_28.1
theorem c282_31 : mc_cd 282 31 = some (.ireturn, 1) := cg282_28.2.1
theorem c282_32 : mc_cd 282 32 = some (.iconst 0, 1) := cg282_28.2.2.1
theorem c282_33 : mc_cd 282 33 = some (.istore_n 2, 1) := cg282_28.2.2.2.1
theorem c282_34 : mc_cd 282 34 = some (.iconst 0, 1) := cg282_28.2.2.2.2.1
theorem c282_35 : mc_cd 282 35 = some (.istore_n 3, 1) := cg282_28.2.2.2.2.2.1
theorem c282_36 : mc_cd 282 36 = some (.iload_n 3, 1) := cg282_28.2.2.2.2.2.2.1
theorem c282_37 : mc_cd 282 37 = some (.i2l, 1) := cg282_28.2.2.2.2.2.2.2
theorem cg282_38 : mc_cd 282 38 = some (.aload_n 0, 1) ∧ mc_cd 282 39 = some (.invokevirtual 376, 3) ∧ mc_cd 282 42 = some (.lcmp, 1) ∧ mc_cd 282 43 = some (.ifCond .ge 73, 3) ∧ mc_cd 282 46 = some (.aload_n 0, 1) ∧ mc_cd 282 47 = some (.iload_n 3, 1) ∧ mc_cd 282 48 = some (.invokevirtual 425, 3) ∧ mc_cd 282 51 = some (.aload_n 0, 1) := by decide +kernel
theorem c282_38 : mc_cd 282 38 = some (.aload_n 0, 1) := cg282_38.1
theorem c282_39 : mc_cd 282 39 = some (.invokevirtual 376, 3) := cg282_38.2.1
theorem c282_42 : mc_cd 282 42 = some (.lcmp, 1) := cg282_38.2.2.1
theorem c282_43 : mc_cd 282 43 = some (.ifCond .ge 73, 3) := cg282_38.2.2.2.1
theorem c282_46 : mc_cd 282 46 = some (.aload_n 0, 1) := cg282_38.2.2.2.2.1
theorem c282_47 : mc_cd 282 47 = some (.iload_n 3, 1) := cg282_38.2.2.2.2.2.1
theorem c282_48 : mc_cd 282 48 = some (.invokevirtual 425, 3) := cg282_38.2.2.2.2.2.2.1
theorem c282_51 : mc_cd 282 51 = some (.aload_n 0, 1) := cg282_38.2.2.2.2.2.2.2
theorem cg282_52 : mc_cd 282 52 = some (.aload_n 0, 1) ∧ mc_cd 282 53 = some (.getfield 39, 3) ∧ mc_cd 282 56 = some (.invokevirtual 393, 3) ∧ mc_cd 282 59 = some (.ifCond .eq 6, 3) ∧ mc_cd 282 62 = some (.goto 48, 3) ∧ mc_cd 282 65 = some (.iconst 0, 1) ∧ mc_cd 282 66 = some (.istore 4, 2) ∧ mc_cd 282 68 = some (.iload 4, 2) := by decide +kernel
theorem c282_52 : mc_cd 282 52 = some (.aload_n 0, 1) := cg282_52.1
theorem c282_53 : mc_cd 282 53 = some (.getfield 39, 3) := cg282_52.2.1
theorem c282_56 : mc_cd 282 56 = some (.invokevirtual 393, 3) := cg282_52.2.2.1
theorem c282_59 : mc_cd 282 59 = some (.ifCond .eq 6, 3) := cg282_52.2.2.2.1
theorem c282_62 : mc_cd 282 62 = some (.goto 48, 3) := cg282_52.2.2.2.2.1
theorem c282_65 : mc_cd 282 65 = some (.iconst 0, 1) := cg282_52.2.2.2.2.2.1
theorem c282_66 : mc_cd 282 66 = some (.istore 4, 2) := cg282_52.2.2.2.2.2.2.1
theorem c282_68 : mc_cd 282 68 = some (.iload 4, 2) := cg282_52.2.2.2.2.2.2.2
theorem cg282_70 : mc_cd 282 70 = some (.aload_n 0, 1) ∧ mc_cd 282 71 = some (.getfield 337, 3) ∧ mc_cd 282 74 = some (.getfield 185, 3) ∧ mc_cd 282 77 = some (.if_icmp .ge 33, 3) ∧ mc_cd 282 80 = some (.iload_n 2, 1) ∧ mc_cd 282 81 = some (.aload_n 0, 1) ∧ mc_cd 282 82 = some (.aload_n 0, 1) ∧ mc_cd 282 83 = some (.getfield 39, 3) := by decide +kernel
theorem c282_70 : mc_cd 282 70 = some (.aload_n 0, 1) := cg282_70.1
theorem c282_71 : mc_cd 282 71 = some (.getfield 337, 3) := cg282_70.2.1
theorem c282_74 : mc_cd 282 74 = some (.getfield 185, 3) := cg282_70.2.2.1
theorem c282_77 : mc_cd 282 77 = some (.if_icmp .ge 33, 3) := cg282_70.2.2.2.1
theorem c282_80 : mc_cd 282 80 = some (.iload_n 2, 1) := cg282_70.2.2.2.2.1
theorem c282_81 : mc_cd 282 81 = some (.aload_n 0, 1) := cg282_70.2.2.2.2.2.1
theorem c282_82 : mc_cd 282 82 = some (.aload_n 0, 1) := cg282_70.2.2.2.2.2.2.1
theorem c282_83 : mc_cd 282 83 = some (.getfield 39, 3) := cg282_70.2.2.2.2.2.2.2
theorem cg282_86 : mc_cd 282 86 = some (.iload 4, 2) ∧ mc_cd 282 88 = some (.invokevirtual 386, 3) ∧ mc_cd 282 91 = some (.ifCond .ne 10, 3) ∧ mc_cd 282 94 = some (.iconst 1, 1) ∧ mc_cd 282 95 = some (.iload 4, 2) ∧ mc_cd 282 97 = some (.ishl, 1) ∧ mc_cd 282 98 = some (.goto 4, 3) ∧ mc_cd 282 101 = some (.iconst 0, 1) := by decide +kernel
theorem c282_86 : mc_cd 282 86 = some (.iload 4, 2) := cg282_86.1
theorem c282_88 : mc_cd 282 88 = some (.invokevirtual 386, 3) := cg282_86.2.1
theorem c282_91 : mc_cd 282 91 = some (.ifCond .ne 10, 3) := cg282_86.2.2.1
theorem c282_94 : mc_cd 282 94 = some (.iconst 1, 1) := cg282_86.2.2.2.1
theorem c282_95 : mc_cd 282 95 = some (.iload 4, 2) := cg282_86.2.2.2.2.1
theorem c282_97 : mc_cd 282 97 = some (.ishl, 1) := cg282_86.2.2.2.2.2.1
theorem c282_98 : mc_cd 282 98 = some (.goto 4, 3) := cg282_86.2.2.2.2.2.2.1
theorem c282_101 : mc_cd 282 101 = some (.iconst 0, 1) := cg282_86.2.2.2.2.2.2.2
theorem cg282_102 : mc_cd 282 102 = some (.ior, 1) ∧ mc_cd 282 103 = some (.istore_n 2, 1) ∧ mc_cd 282 104 = some (.iinc 4 1, 3) ∧ mc_cd 282 107 = some (.goto (-39), 3) ∧ mc_cd 282 110 = some (.iinc 3 1, 3) ∧ mc_cd 282 113 = some (.goto (-77), 3) ∧ mc_cd 282 116 = some (.aload_n 0, 1) ∧ mc_cd 282 117 = some (.iload_n 2, 1) := by decide +kernel
theorem c282_102 : mc_cd 282 102 = some (.ior, 1) := cg282_102.1
theorem c282_103 : mc_cd 282 103 = some (.istore_n 2, 1) := cg282_102.2.1
theorem c282_104 : mc_cd 282 104 = some (.iinc 4 1, 3) := cg282_102.2.2.1
theorem c282_107 : mc_cd 282 107 = some (.goto (-39), 3) := cg282_102.2.2.2.1
theorem c282_110 : mc_cd 282 110 = some (.iinc 3 1, 3) := cg282_102.2.2.2.2.1
theorem c282_113 : mc_cd 282 113 = some (.goto (-77), 3) := cg282_102.2.2.2.2.2.1
theorem c282_116 : mc_cd 282 116 = some (.aload_n 0, 1) := cg282_102.2.2.2.2.2.2.1
theorem c282_117 : mc_cd 282 117 = some (.iload_n 2, 1) := cg282_102.2.2.2.2.2.2.2
theorem cg282_118 : mc_cd 282 118 = some (.invokevirtual 58, 3) ∧ mc_cd 282 121 = some (.ireturn, 1) := by decide +kernel
theorem c282_118 : mc_cd 282 118 = some (.invokevirtual 58, 3) := cg282_118.1
theorem c282_121 : mc_cd 282 121 = some (.ireturn, 1) := cg282_118.2
/-! StrikeAwakeModel.keep()I -/
theorem e283 : wq_en 283 = some (9, 5, false, some FieldType.int) := rfl
theorem cg283_0 : mc_cd 283 0 = some (.aload_n 0, 1) ∧ mc_cd 283 1 = some (.iconst 0, 1) ∧ mc_cd 283 2 = some (.putfield 48, 3) ∧ mc_cd 283 5 = some (.aload_n 0, 1) ∧ mc_cd 283 6 = some (.getfield 337, 3) ∧ mc_cd 283 9 = some (.ifnonnull 9, 3) ∧ mc_cd 283 12 = some (.aload_n 0, 1) ∧ mc_cd 283 13 = some (.iconst 1, 1) := by decide +kernel
theorem c283_0 : mc_cd 283 0 = some (.aload_n 0, 1) := cg283_0.1
theorem c283_1 : mc_cd 283 1 = some (.iconst 0, 1) := cg283_0.2.1
theorem c283_2 : mc_cd 283 2 = some (.putfield 48, 3) := cg283_0.2.2.1
theorem c283_5 : mc_cd 283 5 = some (.aload_n 0, 1) := cg283_0.2.2.2.1
theorem c283_6 : mc_cd 283 6 = some (.getfield 337, 3) := cg283_0.2.2.2.2.1
theorem c283_9 : mc_cd 283 9 = some (.ifnonnull 9, 3) := cg283_0.2.2.2.2.2.1
theorem c283_12 : mc_cd 283 12 = some (.aload_n 0, 1) := cg283_0.2.2.2.2.2.2.1
theorem c283_13 : mc_cd 283 13 = some (.iconst 1, 1) := cg283_0.2.2.2.2.2.2.2
theorem cg283_14 : mc_cd 283 14 = some (.invokevirtual 54, 3) ∧ mc_cd 283 17 = some (.ireturn, 1) ∧ mc_cd 283 18 = some (.bipush (-2), 2) ∧ mc_cd 283 20 = some (.istore_n 1, 1) ∧ mc_cd 283 21 = some (.iconst 0, 1) ∧ mc_cd 283 22 = some (.istore_n 2, 1) ∧ mc_cd 283 23 = some (.iload_n 2, 1) ∧ mc_cd 283 24 = some (.iconst 1, 1) := by decide +kernel
theorem c283_14 : mc_cd 283 14 = some (.invokevirtual 54, 3) := cg283_14.1
theorem c283_17 : mc_cd 283 17 = some (.ireturn, 1) := cg283_14.2.1
theorem c283_18 : mc_cd 283 18 = some (.bipush (-2), 2) := cg283_14.2.2.1
theorem c283_20 : mc_cd 283 20 = some (.istore_n 1, 1) := cg283_14.2.2.2.1
theorem c283_21 : mc_cd 283 21 = some (.iconst 0, 1) := cg283_14.2.2.2.2.1
theorem c283_22 : mc_cd 283 22 = some (.istore_n 2, 1) := cg283_14.2.2.2.2.2.1
theorem c283_23 : mc_cd 283 23 = some (.iload_n 2, 1) := cg283_14.2.2.2.2.2.2.1
theorem c283_24 : mc_cd 283 24 = some (.iconst 1, 1) := cg283_14.2.2.2.2.2.2.2
theorem cg283_25 : mc_cd 283 25 = some (.aload_n 0, 1) ∧ mc_cd 283 26 = some (.getfield 337, 3) ∧ mc_cd 283 29 = some (.getfield 321, 3) ∧ mc_cd 283 32 = some (.ishl, 1) ∧ mc_cd 283 33 = some (.if_icmp .ge 88, 3) ∧ mc_cd 283 36 = some (.iconst 0, 1) ∧ mc_cd 283 37 = some (.istore_n 3, 1) ∧ mc_cd 283 38 = some (.iconst 0, 1) := by decide +kernel
theorem c283_25 : mc_cd 283 25 = some (.aload_n 0, 1) := cg283_25.1
theorem c283_26 : mc_cd 283 26 = some (.getfield 337, 3) := cg283_25.2.1
theorem c283_29 : mc_cd 283 29 = some (.getfield 321, 3) := cg283_25.2.2.1
theorem c283_32 : mc_cd 283 32 = some (.ishl, 1) := cg283_25.2.2.2.1
theorem c283_33 : mc_cd 283 33 = some (.if_icmp .ge 88, 3) := cg283_25.2.2.2.2.1
theorem c283_36 : mc_cd 283 36 = some (.iconst 0, 1) := cg283_25.2.2.2.2.2.1
theorem c283_37 : mc_cd 283 37 = some (.istore_n 3, 1) := cg283_25.2.2.2.2.2.2.1
theorem c283_38 : mc_cd 283 38 = some (.iconst 0, 1) := cg283_25.2.2.2.2.2.2.2
theorem cg283_39 : mc_cd 283 39 = some (.istore 4, 2) ∧ mc_cd 283 41 = some (.iload 4, 2) ∧ mc_cd 283 43 = some (.aload_n 0, 1) ∧ mc_cd 283 44 = some (.getfield 337, 3) ∧ mc_cd 283 47 = some (.getfield 321, 3) ∧ mc_cd 283 50 = some (.if_icmp .ge 35, 3) ∧ mc_cd 283 53 = some (.iload_n 3, 1) ∧ mc_cd 283 54 = some (.iload_n 2, 1) := by decide +kernel
theorem c283_39 : mc_cd 283 39 = some (.istore 4, 2) := cg283_39.1
theorem c283_41 : mc_cd 283 41 = some (.iload 4, 2) := cg283_39.2.1
theorem c283_43 : mc_cd 283 43 = some (.aload_n 0, 1) := cg283_39.2.2.1
theorem c283_44 : mc_cd 283 44 = some (.getfield 337, 3) := cg283_39.2.2.2.1
theorem c283_47 : mc_cd 283 47 = some (.getfield 321, 3) := cg283_39.2.2.2.2.1
theorem c283_50 : mc_cd 283 50 = some (.if_icmp .ge 35, 3) := cg283_39.2.2.2.2.2.1
theorem c283_53 : mc_cd 283 53 = some (.iload_n 3, 1) := cg283_39.2.2.2.2.2.2.1
theorem c283_54 : mc_cd 283 54 = some (.iload_n 2, 1) := cg283_39.2.2.2.2.2.2.2
theorem cg283_55 : mc_cd 283 55 = some (.iload 4, 2) ∧ mc_cd 283 57 = some (.invokestatic 346, 3) ∧ mc_cd 283 60 = some (.ifCond .eq 16, 3) ∧ mc_cd 283 63 = some (.aload_n 0, 1) ∧ mc_cd 283 64 = some (.getfield 337, 3) ∧ mc_cd 283 67 = some (.getfield 327, 3) ∧ mc_cd 283 70 = some (.iload 4, 2) ∧ mc_cd 283 72 = some (.iaload, 1) := by decide +kernel
theorem c283_55 : mc_cd 283 55 = some (.iload 4, 2) := cg283_55.1
theorem c283_57 : mc_cd 283 57 = some (.invokestatic 346, 3) := cg283_55.2.1
theorem c283_60 : mc_cd 283 60 = some (.ifCond .eq 16, 3) := cg283_55.2.2.1
theorem c283_63 : mc_cd 283 63 = some (.aload_n 0, 1) := cg283_55.2.2.2.1
theorem c283_64 : mc_cd 283 64 = some (.getfield 337, 3) := cg283_55.2.2.2.2.1
theorem c283_67 : mc_cd 283 67 = some (.getfield 327, 3) := cg283_55.2.2.2.2.2.1
theorem c283_70 : mc_cd 283 70 = some (.iload 4, 2) := cg283_55.2.2.2.2.2.2.1
theorem c283_72 : mc_cd 283 72 = some (.iaload, 1) := cg283_55.2.2.2.2.2.2.2
theorem cg283_73 : mc_cd 283 73 = some (.goto 4, 3) ∧ mc_cd 283 76 = some (.iconst 0, 1) ∧ mc_cd 283 77 = some (.ior, 1) ∧ mc_cd 283 78 = some (.istore_n 3, 1) ∧ mc_cd 283 79 = some (.iinc 4 1, 3) ∧ mc_cd 283 82 = some (.goto (-41), 3) ∧ mc_cd 283 85 = some (.aload_n 0, 1) ∧ mc_cd 283 86 = some (.getfield 343, 3) := by decide +kernel
theorem c283_73 : mc_cd 283 73 = some (.goto 4, 3) := cg283_73.1
theorem c283_76 : mc_cd 283 76 = some (.iconst 0, 1) := cg283_73.2.1
theorem c283_77 : mc_cd 283 77 = some (.ior, 1) := cg283_73.2.2.1
theorem c283_78 : mc_cd 283 78 = some (.istore_n 3, 1) := cg283_73.2.2.2.1
theorem c283_79 : mc_cd 283 79 = some (.iinc 4 1, 3) := cg283_73.2.2.2.2.1
theorem c283_82 : mc_cd 283 82 = some (.goto (-41), 3) := cg283_73.2.2.2.2.2.1
theorem c283_85 : mc_cd 283 85 = some (.aload_n 0, 1) := cg283_73.2.2.2.2.2.2.1
theorem c283_86 : mc_cd 283 86 = some (.getfield 343, 3) := cg283_73.2.2.2.2.2.2.2
theorem cg283_89 : mc_cd 283 89 = some (.iload_n 3, 1) ∧ mc_cd 283 90 = some (.iconst (-1), 1) ∧ mc_cd 283 91 = some (.ixor, 1) ∧ mc_cd 283 92 = some (.iand, 1) ∧ mc_cd 283 93 = some (.ifCond .ne 22, 3) ∧ mc_cd 283 96 = some (.iload_n 1, 1) ∧ mc_cd 283 97 = some (.bipush (-2), 2) ∧ mc_cd 283 99 = some (.if_icmp .eq 14, 3) := by decide +kernel
theorem c283_89 : mc_cd 283 89 = some (.iload_n 3, 1) := cg283_89.1
theorem c283_90 : mc_cd 283 90 = some (.iconst (-1), 1) := cg283_89.2.1
theorem c283_91 : mc_cd 283 91 = some (.ixor, 1) := cg283_89.2.2.1
theorem c283_92 : mc_cd 283 92 = some (.iand, 1) := cg283_89.2.2.2.1
theorem c283_93 : mc_cd 283 93 = some (.ifCond .ne 22, 3) := cg283_89.2.2.2.2.1
theorem c283_96 : mc_cd 283 96 = some (.iload_n 1, 1) := cg283_89.2.2.2.2.2.1
theorem c283_97 : mc_cd 283 97 = some (.bipush (-2), 2) := cg283_89.2.2.2.2.2.2.1
theorem c283_99 : mc_cd 283 99 = some (.if_icmp .eq 14, 3) := cg283_89.2.2.2.2.2.2.2
theorem cg283_102 : mc_cd 283 102 = some (.iload_n 2, 1) ∧ mc_cd 283 103 = some (.invokestatic 462, 3) ∧ mc_cd 283 106 = some (.iload_n 1, 1) ∧ mc_cd 283 107 = some (.invokestatic 462, 3) ∧ mc_cd 283 110 = some (.if_icmp .ge 5, 3) ∧ mc_cd 283 113 = some (.iload_n 2, 1) ∧ mc_cd 283 114 = some (.istore_n 1, 1) ∧ mc_cd 283 115 = some (.iinc 2 1, 3) := by decide +kernel
theorem c283_102 : mc_cd 283 102 = some (.iload_n 2, 1) := cg283_102.1
theorem c283_103 : mc_cd 283 103 = some (.invokestatic 462, 3) := cg283_102.2.1
theorem c283_106 : mc_cd 283 106 = some (.iload_n 1, 1) := cg283_102.2.2.1
theorem c283_107 : mc_cd 283 107 = some (.invokestatic 462, 3) := cg283_102.2.2.2.1
theorem c283_110 : mc_cd 283 110 = some (.if_icmp .ge 5, 3) := cg283_102.2.2.2.2.1
theorem c283_113 : mc_cd 283 113 = some (.iload_n 2, 1) := cg283_102.2.2.2.2.2.1
theorem c283_114 : mc_cd 283 114 = some (.istore_n 1, 1) := cg283_102.2.2.2.2.2.2.1
theorem c283_115 : mc_cd 283 115 = some (.iinc 2 1, 3) := cg283_102.2.2.2.2.2.2.2
theorem cg283_118 : mc_cd 283 118 = some (.goto (-95), 3) ∧ mc_cd 283 121 = some (.aload_n 0, 1) ∧ mc_cd 283 122 = some (.iload_n 1, 1) ∧ mc_cd 283 123 = some (.invokevirtual 58, 3) ∧ mc_cd 283 126 = some (.ireturn, 1) := by decide +kernel
theorem c283_118 : mc_cd 283 118 = some (.goto (-95), 3) := cg283_118.1
theorem c283_121 : mc_cd 283 121 = some (.aload_n 0, 1) := cg283_118.2.1
theorem c283_122 : mc_cd 283 122 = some (.iload_n 1, 1) := cg283_118.2.2.1
theorem c283_123 : mc_cd 283 123 = some (.invokevirtual 58, 3) := cg283_118.2.2.2.1
theorem c283_126 : mc_cd 283 126 = some (.ireturn, 1) := cg283_118.2.2.2.2
abbrev q_283 (r0 : Nat) (T : wq_T) (H : wq_H) : Option Value → wq_T → wq_H → Prop := fun r T' H' => T = T' ∧ WT T H' ∧ wfr [(42, 0), (42, 1), (42, 2)] T H H' ∧ ∃ z : Int, some (vI z) = r ∧ ((-2147483648) ≤ z ∧ z ≤ 2147483647) ∧ (wKI H' r0 = 1)
set_option maxHeartbeats 4000000 in
theorem s_283 {kt : Nat → Option mc_E} {T : wq_T} {H : wq_H} {r0 : Nat} (hW : WT T H) (g0 : T.2.2.2 r0 = some 42) (p0 : wKI H r0 = 1) : wpc kt 2 283 [.ref r0] T H (q_283 r0 T H) := by
  refine wp_enter e283 (Nat.le_of_ble_eq_true rfl) rfl ?_
  have f0 : wfr [(42, 0), (42, 1), (42, 2)] T H H := wfr.rf
  show wp _ _ 283 0 [(0, .ref r0)] [] _ H _
  refine wp_of e283 c283_0 (rw_aload_n (pc' := 1) (v := .ref r0) rfl rfl rfl ?_)
  refine wp_of e283 c283_1 (rw_iconst (pc' := 2) rfl ?_)
  refine wp_of e283 c283_2 (xp_I (pc' := 5) lf_9_48 hW g0 sh_42 (by decide) (by decide) ty_42_0 rfl rfl (by omega) (by omega) ⟨by omega, by omega⟩ rfl (fun H221632 e221633 w221634 => ?_))
  have f221635 := f0.put' e221633 g0 rfl
  have k221636 : H221632 r0 0 = 0 := wq_u_s e221633
  refine wp_of e283 c283_5 (rw_aload_n (pc' := 6) (v := .ref r0) rfl rfl rfl ?_)
  refine wp_of e283 c283_6 (xg_O (pc' := 9) lf_9_337 w221634 g0 sh_42 (by decide) (by decide) ty_42_3 rfl rfl (fun q221638 => ?_) (fun r221637 q221638 g221639 => ?_))
  · refine wp_of e283 c283_9 (rw_ifnonnull_n (p1 := 18) (p2 := 12) (by decide) rfl ?_)
    refine wp_of e283 c283_12 (rw_aload_n (pc' := 13) (v := .ref r0) rfl rfl rfl ?_)
    refine wp_of e283 c283_13 (rw_iconst (pc' := 14) rfl ?_)
    refine wp_of e283 c283_14 (xc_V (pc' := 17) (r := r0) (as := [vI 1]) (st := []) (lm_9_54) rfl rfl (Nat.le_of_ble_eq_true rfl) w221634 g0 sh_42 (by decide) rfl (by decide) (s_170 w221634 g0 ⟨by omega, by omega⟩) (fun R221640 T221641 H221642 p221643 => ?_))
    obtain ⟨e221644, w221646, f221647, z221648, e221645, b221649⟩ := p221643
    subst e221644
    subst e221645
    have f221650 := f221635.tr f221647 rfl
    show wp _ _ 283 17 [(0, .ref r0)] [vI z221648] _ H221642 _
    have k221651 : wKI H221642 r0 = wKI H r0 := ((wKI_fr w221634 g0 f221647 rfl).trans (wKI_fr hW g0 ((wfr.rf (l := [(42, 0)])).put' e221633 g0 rfl) rfl))
    exact wp_ireturn e283 c283_17 rfl ⟨rfl, w221646, f221650, z221648, rfl, ⟨by omega, by omega⟩, by omega⟩
  · refine wp_of e283 c283_9 (rw_ifnonnull_r (p1 := 18) (p2 := 12) (by decide) rfl ?_)
    refine wp_of e283 c283_18 (rw_bipush (pc' := 20) (z := -2) rfl (by decide) ?_)
    refine wp_of e283 c283_20 (rw_istore_n (pc' := 21) (z := -2) (L' := [(1, vI (-2)), (0, .ref r0)]) rfl rfl rfl ?_)
    refine wp_of e283 c283_21 (rw_iconst (pc' := 22) rfl ?_)
    refine wp_of e283 c283_22 (rw_istore_n (pc' := 23) (z := 0) (L' := [(2, vI 0), (1, vI (-2)), (0, .ref r0)]) rfl rfl rfl ?_)
    have lp223489 : ∀ (n223490 : Nat) (v223492 : Int) (v223493 : Int), (0 ≤ v223492 ∧ v223492 ≤ 64) → ((-2) ≤ v223493 ∧ v223493 ≤ 64) → (v223493 = -2 ∨ 0 ≤ v223493) → (64 - v223492).toNat = n223490 → wp kt 1 283 23 [(2, vI v223492), (1, vI v223493), (0, .ref r0)] [] T H221632 (q_283 r0 T H) := by
      intro n223490
      induction n223490 using Nat.strongRecOn with
      | _ n223490 ih223491 =>
        intro v223492 v223493 b223496 b223497 x223498 m223499
        refine wp_of e283 c283_23 (rw_iload_n (pc' := 24) (z := v223492) rfl rfl ?_)
        refine wp_of e283 c283_24 (rw_iconst (pc' := 25) rfl ?_)
        refine wp_of e283 c283_25 (rw_aload_n (pc' := 26) (v := .ref r0) rfl rfl rfl ?_)
        refine wp_of e283 c283_26 (xg_K (pc' := 29) lf_9_337 w221634 g0 sh_42 (by decide) (by decide) rfl q221638 rfl ?_)
        refine wp_of e283 c283_29 (xg_I (pc' := 32) lf_9_321 w221634 g221639 sh_54 (by decide) (by decide) ty_54_7 rfl rfl (fun b223500 b223501 => ?_))
        refine wp_of e283 c283_32 (rw_ishl (pc' := 33) rfl ?_)
        obtain ⟨v223502, e223503⟩ : ∃ x : Int, x = wq_shl 1 (H221632 r221637 7) := ⟨_, rfl⟩
        rw [← e223503]
        have b223504 : 1 ≤ v223502 ∧ v223502 ≤ 64 := by
          rw [e223503]
          exact wq_shl1_6 ⟨by omega, by omega⟩
        refine wp_of e283 c283_33 (rw_icmp_ge (p1 := 121) (p2 := 36) (by decide) rfl ⟨by omega, by omega⟩ ⟨by omega, by omega⟩ (fun c223505 => ?_) (fun c223505 => ?_))
        · refine wp_of e283 c283_121 (rw_aload_n (pc' := 122) (v := .ref r0) rfl rfl rfl ?_)
          refine wp_of e283 c283_122 (rw_iload_n (pc' := 123) (z := v223493) rfl rfl ?_)
          refine wp_of e283 c283_123 (xc_V (pc' := 126) (r := r0) (as := [vI v223493]) (st := []) (lm_9_58) rfl rfl (Nat.le_of_ble_eq_true rfl) w221634 g0 sh_42 (by decide) rfl (by decide) (s_209 w221634 g0 ⟨by omega, by omega⟩) (fun R223506 T223507 H223508 p223509 => ?_))
          obtain ⟨e223510, w223512, f223513, z223514, e223511, b223515⟩ := p223509
          subst e223510
          subst e223511
          have f223516 := f221635.tr f223513 rfl
          show wp _ _ 283 126 [(2, vI v223492), (1, vI v223493), (0, .ref r0)] [vI z223514] _ H223508 _
          have k223517 : wKI H223508 r0 = wKI H r0 := ((wKI_fr w221634 g0 f223513 rfl).trans (wKI_fr hW g0 ((wfr.rf (l := [(42, 0)])).put' e221633 g0 rfl) rfl))
          exact wp_ireturn e283 c283_126 rfl ⟨rfl, w223512, f223516, z223514, rfl, ⟨by omega, by omega⟩, by omega⟩
        · refine wp_of e283 c283_36 (rw_iconst (pc' := 37) rfl ?_)
          refine wp_of e283 c283_37 (rw_istore_n (pc' := 38) (z := 0) (L' := [(3, vI 0), (2, vI v223492), (1, vI v223493), (0, .ref r0)]) rfl rfl rfl ?_)
          refine wp_of e283 c283_38 (rw_iconst (pc' := 39) rfl ?_)
          refine wp_of e283 c283_39 (rw_istore (pc' := 41) (z := 0) (L' := [(4, vI 0), (3, vI 0), (2, vI v223492), (1, vI v223493), (0, .ref r0)]) rfl rfl rfl ?_)
          have lp223693 : ∀ (n223694 : Nat) (v223696 : Int) (v223697 : Int), (0 ≤ v223696 ∧ v223696 ≤ 6) → ((-2147483648) ≤ v223697 ∧ v223697 ≤ 2147483647) → (6 - v223696).toNat = n223694 → wp kt 1 283 41 [(4, vI v223696), (3, vI v223697), (2, vI v223492), (1, vI v223493), (0, .ref r0)] [] T H221632 (q_283 r0 T H) := by
            intro n223694
            induction n223694 using Nat.strongRecOn with
            | _ n223694 ih223695 =>
              intro v223696 v223697 b223700 b223701 m223702
              refine wp_of e283 c283_41 (rw_iload (pc' := 43) (z := v223696) rfl rfl ?_)
              refine wp_of e283 c283_43 (rw_aload_n (pc' := 44) (v := .ref r0) rfl rfl rfl ?_)
              refine wp_of e283 c283_44 (xg_K (pc' := 47) lf_9_337 w221634 g0 sh_42 (by decide) (by decide) rfl q221638 rfl ?_)
              refine wp_of e283 c283_47 (xg_I (pc' := 50) lf_9_321 w221634 g221639 sh_54 (by decide) (by decide) ty_54_7 rfl rfl (fun b223703 b223704 => ?_))
              refine wp_of e283 c283_50 (rw_icmp_ge (p1 := 85) (p2 := 53) (by decide) rfl ⟨by omega, by omega⟩ ⟨by omega, by omega⟩ (fun c223705 => ?_) (fun c223705 => ?_))
              · refine wp_of e283 c283_85 (rw_aload_n (pc' := 86) (v := .ref r0) rfl rfl rfl ?_)
                refine wp_of e283 c283_86 (xg_I (pc' := 89) lf_9_343 w221634 g0 sh_42 (by decide) (by decide) ty_42_19 rfl rfl (fun b223706 b223707 => ?_))
                refine wp_of e283 c283_89 (rw_iload_n (pc' := 90) (z := v223697) rfl rfl ?_)
                refine wp_of e283 c283_90 (rw_iconst (pc' := 91) rfl ?_)
                refine wp_of e283 c283_91 (rw_ixor (pc' := 92) rfl ?_)
                obtain ⟨v223708, e223709⟩ : ∃ x : Int, x = wq_xor v223697 (-1) := ⟨_, rfl⟩
                rw [← e223709]
                have b223710 : -2147483648 ≤ v223708 ∧ v223708 ≤ 2147483647 := by
                  rw [e223709]
                  exact wI_xor _ _
                refine wp_of e283 c283_92 (rw_iand (pc' := 93) rfl ?_)
                obtain ⟨v223711, e223712⟩ : ∃ x : Int, x = wq_and (H221632 r0 19) v223708 := ⟨_, rfl⟩
                rw [← e223712]
                have b223713 : -2147483648 ≤ v223711 ∧ v223711 ≤ 2147483647 := by
                  rw [e223712]
                  exact wI_and _ _
                refine wp_of e283 c283_93 (rw_if_ne (p1 := 115) (p2 := 96) (by decide) rfl ⟨by omega, by omega⟩ (fun c223714 => ?_) (fun c223714 => ?_))
                · refine wp_of e283 c283_115 (rw_iinc (pc' := 118) (z := v223492) (L' := [(2, vI (v223492 + 1)), (4, vI v223696), (3, vI v223697), (1, vI v223493), (0, .ref r0)]) rfl rfl rfl rfl ?_)
                  refine wp_of e283 c283_118 (rw_goto (p1 := 23) (by decide) ?_)
                  exact wp_lc (ks := [2, 4, 3, 1, 0]) (wl_c rfl (wl_c rfl (wl_c rfl wl_n))) rfl (by decide) (ih223491 _ (by omega) (v223492 + 1) v223493 ⟨by omega, by omega⟩ ⟨by omega, by omega⟩ (by omega) rfl)
                · refine wp_of e283 c283_96 (rw_iload_n (pc' := 97) (z := v223493) rfl rfl ?_)
                  refine wp_of e283 c283_97 (rw_bipush (pc' := 99) (z := -2) rfl (by decide) ?_)
                  refine wp_of e283 c283_99 (rw_icmp_eq (p1 := 113) (p2 := 102) (by decide) rfl ⟨by omega, by omega⟩ ⟨by omega, by omega⟩ (fun c223715 => ?_) (fun c223715 => ?_))
                  · refine wp_of e283 c283_113 (rw_iload_n (pc' := 114) (z := v223492) rfl rfl ?_)
                    refine wp_of e283 c283_114 (rw_istore_n (pc' := 115) (z := v223492) (L' := [(1, vI v223492), (4, vI v223696), (3, vI v223697), (2, vI v223492), (0, .ref r0)]) rfl rfl rfl ?_)
                    refine wp_of e283 c283_115 (rw_iinc (pc' := 118) (z := v223492) (L' := [(2, vI (v223492 + 1)), (1, vI v223492), (4, vI v223696), (3, vI v223697), (0, .ref r0)]) rfl rfl rfl rfl ?_)
                    refine wp_of e283 c283_118 (rw_goto (p1 := 23) (by decide) ?_)
                    exact wp_lc (ks := [2, 1, 4, 3, 0]) (wl_c rfl (wl_c rfl (wl_c rfl wl_n))) rfl (by decide) (ih223491 _ (by omega) (v223492 + 1) v223492 ⟨by omega, by omega⟩ ⟨by omega, by omega⟩ (by omega) rfl)
                  · refine wp_of e283 c283_102 (rw_iload_n (pc' := 103) (z := v223492) rfl rfl ?_)
                    refine wp_of e283 c283_103 (xc_S (pc' := 106) (as := [vI v223492]) (st := []) (lm_9_462) rfl rfl (Nat.le_of_ble_eq_true rfl) rfl (by decide) (s_269 w221634 ⟨by omega, by omega⟩) (fun R223716 T223717 H223718 p223719 => ?_))
                    obtain ⟨e223720, e223722, z223723, e223721, b223724⟩ := p223719
                    subst e223720
                    subst e223721
                    subst e223722
                    show wp _ _ 283 106 [(4, vI v223696), (3, vI v223697), (2, vI v223492), (1, vI v223493), (0, .ref r0)] [vI z223723] _ H221632 _
                    refine wp_of e283 c283_106 (rw_iload_n (pc' := 107) (z := v223493) rfl rfl ?_)
                    refine wp_of e283 c283_107 (xc_S (pc' := 110) (as := [vI v223493]) (st := [vI z223723]) (lm_9_462) rfl rfl (Nat.le_of_ble_eq_true rfl) rfl (by decide) (s_269 w221634 ⟨by omega, by omega⟩) (fun R223725 T223726 H223727 p223728 => ?_))
                    obtain ⟨e223729, e223731, z223732, e223730, b223733⟩ := p223728
                    subst e223729
                    subst e223730
                    subst e223731
                    show wp _ _ 283 110 [(4, vI v223696), (3, vI v223697), (2, vI v223492), (1, vI v223493), (0, .ref r0)] [vI z223732, vI z223723] _ H221632 _
                    refine wp_of e283 c283_110 (rw_icmp_ge (p1 := 115) (p2 := 113) (by decide) rfl ⟨by omega, by omega⟩ ⟨by omega, by omega⟩ (fun c223734 => ?_) (fun c223734 => ?_))
                    · refine wp_of e283 c283_115 (rw_iinc (pc' := 118) (z := v223492) (L' := [(2, vI (v223492 + 1)), (4, vI v223696), (3, vI v223697), (1, vI v223493), (0, .ref r0)]) rfl rfl rfl rfl ?_)
                      refine wp_of e283 c283_118 (rw_goto (p1 := 23) (by decide) ?_)
                      exact wp_lc (ks := [2, 4, 3, 1, 0]) (wl_c rfl (wl_c rfl (wl_c rfl wl_n))) rfl (by decide) (ih223491 _ (by omega) (v223492 + 1) v223493 ⟨by omega, by omega⟩ ⟨by omega, by omega⟩ (by omega) rfl)
                    · refine wp_of e283 c283_113 (rw_iload_n (pc' := 114) (z := v223492) rfl rfl ?_)
                      refine wp_of e283 c283_114 (rw_istore_n (pc' := 115) (z := v223492) (L' := [(1, vI v223492), (4, vI v223696), (3, vI v223697), (2, vI v223492), (0, .ref r0)]) rfl rfl rfl ?_)
                      refine wp_of e283 c283_115 (rw_iinc (pc' := 118) (z := v223492) (L' := [(2, vI (v223492 + 1)), (1, vI v223492), (4, vI v223696), (3, vI v223697), (0, .ref r0)]) rfl rfl rfl rfl ?_)
                      refine wp_of e283 c283_118 (rw_goto (p1 := 23) (by decide) ?_)
                      exact wp_lc (ks := [2, 1, 4, 3, 0]) (wl_c rfl (wl_c rfl (wl_c rfl wl_n))) rfl (by decide) (ih223491 _ (by omega) (v223492 + 1) v223492 ⟨by omega, by omega⟩ ⟨by omega, by omega⟩ (by omega) rfl)
              · refine wp_of e283 c283_53 (rw_iload_n (pc' := 54) (z := v223697) rfl rfl ?_)
                refine wp_of e283 c283_54 (rw_iload_n (pc' := 55) (z := v223492) rfl rfl ?_)
                refine wp_of e283 c283_55 (rw_iload (pc' := 57) (z := v223696) rfl rfl ?_)
                refine wp_of e283 c283_57 (xc_S (pc' := 60) (as := [vI v223492, vI v223696]) (st := [vI v223697]) (lm_9_346) rfl rfl (Nat.le_of_ble_eq_true rfl) rfl (by decide) (s_205 w221634 ⟨by omega, by omega⟩ ⟨by omega, by omega⟩) (fun R223735 T223736 H223737 p223738 => ?_))
                obtain ⟨e223739, e223741, z223742, e223740, b223743⟩ := p223738
                subst e223739
                subst e223740
                subst e223741
                show wp _ _ 283 60 [(4, vI v223696), (3, vI v223697), (2, vI v223492), (1, vI v223493), (0, .ref r0)] [vI z223742, vI v223697] _ H221632 _
                refine wp_of e283 c283_60 (rw_if_eq (p1 := 76) (p2 := 63) (by decide) rfl ⟨by omega, by omega⟩ (fun c223744 => ?_) (fun c223744 => ?_))
                · refine wp_of e283 c283_76 (rw_iconst (pc' := 77) rfl ?_)
                  refine wp_of e283 c283_77 (rw_ior (pc' := 78) rfl ?_)
                  obtain ⟨v223745, e223746⟩ : ∃ x : Int, x = wq_or v223697 0 := ⟨_, rfl⟩
                  rw [← e223746]
                  have b223747 : -2147483648 ≤ v223745 ∧ v223745 ≤ 2147483647 := by
                    rw [e223746]
                    exact wI_or _ _
                  refine wp_of e283 c283_78 (rw_istore_n (pc' := 79) (z := v223745) (L' := [(3, vI v223745), (4, vI v223696), (2, vI v223492), (1, vI v223493), (0, .ref r0)]) rfl rfl rfl ?_)
                  refine wp_of e283 c283_79 (rw_iinc (pc' := 82) (z := v223696) (L' := [(4, vI (v223696 + 1)), (3, vI v223745), (2, vI v223492), (1, vI v223493), (0, .ref r0)]) rfl rfl rfl rfl ?_)
                  refine wp_of e283 c283_82 (rw_goto (p1 := 41) (by decide) ?_)
                  exact wp_lc (ks := [4, 3, 2, 1, 0]) (wl_c rfl (wl_c rfl (wl_c rfl (wl_c rfl (wl_c rfl wl_n))))) rfl (by decide) (ih223695 _ (by omega) (v223696 + 1) v223745 ⟨by omega, by omega⟩ ⟨by omega, by omega⟩ rfl)
                · refine wp_of e283 c283_63 (rw_aload_n (pc' := 64) (v := .ref r0) rfl rfl rfl ?_)
                  refine wp_of e283 c283_64 (xg_K (pc' := 67) lf_9_337 w221634 g0 sh_42 (by decide) (by decide) rfl q221638 rfl ?_)
                  refine wp_of e283 c283_67 (xg_R (pc' := 70) lf_9_327 w221634 g221639 sh_54 (by decide) (by decide) ty_54_26 rfl rfl (fun r223748 q223749 g223750 => ?_))
                  refine wp_of e283 c283_70 (rw_iload (pc' := 72) (z := v223696) rfl rfl ?_)
                  refine wp_of e283 c283_72 (xa_I (so := 0) (pc' := 73) w221634 g223750 sh_72 (by decide) (ty_72 _) (by omega) (by omega) rfl (fun b223751 b223752 => ?_))
                  refine wp_of e283 c283_73 (rw_goto (p1 := 77) (by decide) ?_)
                  refine wp_of e283 c283_77 (rw_ior (pc' := 78) rfl ?_)
                  obtain ⟨v223753, e223754⟩ : ∃ x : Int, x = wq_or v223697 (H221632 r223748 (v223696.toNat)) := ⟨_, rfl⟩
                  rw [← e223754]
                  have b223755 : -2147483648 ≤ v223753 ∧ v223753 ≤ 2147483647 := by
                    rw [e223754]
                    exact wI_or _ _
                  refine wp_of e283 c283_78 (rw_istore_n (pc' := 79) (z := v223753) (L' := [(3, vI v223753), (4, vI v223696), (2, vI v223492), (1, vI v223493), (0, .ref r0)]) rfl rfl rfl ?_)
                  refine wp_of e283 c283_79 (rw_iinc (pc' := 82) (z := v223696) (L' := [(4, vI (v223696 + 1)), (3, vI v223753), (2, vI v223492), (1, vI v223493), (0, .ref r0)]) rfl rfl rfl rfl ?_)
                  refine wp_of e283 c283_82 (rw_goto (p1 := 41) (by decide) ?_)
                  exact wp_lc (ks := [4, 3, 2, 1, 0]) (wl_c rfl (wl_c rfl (wl_c rfl (wl_c rfl (wl_c rfl wl_n))))) rfl (by decide) (ih223695 _ (by omega) (v223696 + 1) v223753 ⟨by omega, by omega⟩ ⟨by omega, by omega⟩ rfl)
          exact wp_lc (ks := [4, 3, 2, 1, 0]) (wl_c rfl (wl_c rfl (wl_c rfl (wl_c rfl (wl_c rfl wl_n))))) rfl (by decide) (lp223693 _ 0 0 ⟨by omega, by omega⟩ ⟨by omega, by omega⟩ rfl)
    exact wp_lc (ks := [2, 1, 0]) (wl_c rfl (wl_c rfl (wl_c rfl wl_n))) rfl (by decide) (lp223489 _ 0 (-2) ⟨by omega, by omega⟩ ⟨by omega, by omega⟩ (by omega) rfl)
/-! StrikeAwakeModel.quiet(I)I -/
theorem e284 : wq_en 284 = some (9, 4, false, some FieldType.int) := rfl
theorem cg284_0 : mc_cd 284 0 = some (.aload_n 0, 1) ∧ mc_cd 284 1 = some (.iconst 0, 1) ∧ mc_cd 284 2 = some (.putfield 48, 3) ∧ mc_cd 284 5 = some (.aload_n 0, 1) ∧ mc_cd 284 6 = some (.getfield 337, 3) ∧ mc_cd 284 9 = some (.ifnonnull 9, 3) ∧ mc_cd 284 12 = some (.aload_n 0, 1) ∧ mc_cd 284 13 = some (.iconst 1, 1) := by decide +kernel
theorem c284_0 : mc_cd 284 0 = some (.aload_n 0, 1) := cg284_0.1
theorem c284_1 : mc_cd 284 1 = some (.iconst 0, 1) := cg284_0.2.1
theorem c284_2 : mc_cd 284 2 = some (.putfield 48, 3) := cg284_0.2.2.1
theorem c284_5 : mc_cd 284 5 = some (.aload_n 0, 1) := cg284_0.2.2.2.1
theorem c284_6 : mc_cd 284 6 = some (.getfield 337, 3) := cg284_0.2.2.2.2.1
theorem c284_9 : mc_cd 284 9 = some (.ifnonnull 9, 3) := cg284_0.2.2.2.2.2.1
theorem c284_12 : mc_cd 284 12 = some (.aload_n 0, 1) := cg284_0.2.2.2.2.2.2.1
theorem c284_13 : mc_cd 284 13 = some (.iconst 1, 1) := cg284_0.2.2.2.2.2.2.2
theorem cg284_14 : mc_cd 284 14 = some (.invokevirtual 54, 3) ∧ mc_cd 284 17 = some (.ireturn, 1) ∧ mc_cd 284 18 = some (.iload_n 1, 1) ∧ mc_cd 284 19 = some (.iconst 0, 1) ∧ mc_cd 284 20 = some (.bipush 99, 2) ∧ mc_cd 284 22 = some (.invokestatic 125, 3) ∧ mc_cd 284 25 = some (.ifCond .ne 9, 3) ∧ mc_cd 284 28 = some (.aload_n 0, 1) := by decide +kernel
theorem c284_14 : mc_cd 284 14 = some (.invokevirtual 54, 3) := cg284_14.1
theorem c284_17 : mc_cd 284 17 = some (.ireturn, 1) := cg284_14.2.1
theorem c284_18 : mc_cd 284 18 = some (.iload_n 1, 1) := cg284_14.2.2.1
theorem c284_19 : mc_cd 284 19 = some (.iconst 0, 1) := cg284_14.2.2.2.1
theorem c284_20 : mc_cd 284 20 = some (.bipush 99, 2) := cg284_14.2.2.2.2.1
theorem c284_22 : mc_cd 284 22 = some (.invokestatic 125, 3) := cg284_14.2.2.2.2.2.1
theorem c284_25 : mc_cd 284 25 = some (.ifCond .ne 9, 3) := cg284_14.2.2.2.2.2.2.1
theorem c284_28 : mc_cd 284 28 = some (.aload_n 0, 1) := cg284_14.2.2.2.2.2.2.2
theorem cg284_29 : mc_cd 284 29 = some (.iconst 2, 1) ∧ mc_cd 284 30 = some (.invokevirtual 54, 3) ∧ mc_cd 284 33 = some (.ireturn, 1) ∧ mc_cd 284 34 = some (.iconst 0, 1) ∧ mc_cd 284 35 = some (.istore_n 2, 1) ∧ mc_cd 284 36 = some (.iconst 0, 1) ∧ mc_cd 284 37 = some (.istore_n 3, 1) ∧ mc_cd 284 38 = some (.iload_n 3, 1) := by decide +kernel
theorem c284_29 : mc_cd 284 29 = some (.iconst 2, 1) := cg284_29.1
theorem c284_30 : mc_cd 284 30 = some (.invokevirtual 54, 3) := cg284_29.2.1
theorem c284_33 : mc_cd 284 33 = some (.ireturn, 1) := cg284_29.2.2.1
theorem c284_34 : mc_cd 284 34 = some (.iconst 0, 1) := cg284_29.2.2.2.1
theorem c284_35 : mc_cd 284 35 = some (.istore_n 2, 1) := cg284_29.2.2.2.2.1
theorem c284_36 : mc_cd 284 36 = some (.iconst 0, 1) := cg284_29.2.2.2.2.2.1
theorem c284_37 : mc_cd 284 37 = some (.istore_n 3, 1) := cg284_29.2.2.2.2.2.2.1
theorem c284_38 : mc_cd 284 38 = some (.iload_n 3, 1) := cg284_29.2.2.2.2.2.2.2
theorem cg284_39 : mc_cd 284 39 = some (.aload_n 0, 1) ∧ mc_cd 284 40 = some (.getfield 337, 3) ∧ mc_cd 284 43 = some (.getfield 185, 3) ∧ mc_cd 284 46 = some (.if_icmp .ge 40, 3) ∧ mc_cd 284 49 = some (.iload_n 2, 1) ∧ mc_cd 284 50 = some (.aload_n 0, 1) ∧ mc_cd 284 51 = some (.getfield 17, 3) ∧ mc_cd 284 54 = some (.iload_n 3, 1) := by decide +kernel
theorem c284_39 : mc_cd 284 39 = some (.aload_n 0, 1) := cg284_39.1
theorem c284_40 : mc_cd 284 40 = some (.getfield 337, 3) := cg284_39.2.1
theorem c284_43 : mc_cd 284 43 = some (.getfield 185, 3) := cg284_39.2.2.1
theorem c284_46 : mc_cd 284 46 = some (.if_icmp .ge 40, 3) := cg284_39.2.2.2.1
theorem c284_49 : mc_cd 284 49 = some (.iload_n 2, 1) := cg284_39.2.2.2.2.1
theorem c284_50 : mc_cd 284 50 = some (.aload_n 0, 1) := cg284_39.2.2.2.2.2.1
theorem c284_51 : mc_cd 284 51 = some (.getfield 17, 3) := cg284_39.2.2.2.2.2.2.1
theorem c284_54 : mc_cd 284 54 = some (.iload_n 3, 1) := cg284_39.2.2.2.2.2.2.2
theorem cg284_55 : mc_cd 284 55 = some (.iaload, 1) ∧ mc_cd 284 56 = some (.ifCond .le 21, 3) ∧ mc_cd 284 59 = some (.aload_n 0, 1) ∧ mc_cd 284 60 = some (.getfield 17, 3) ∧ mc_cd 284 63 = some (.iload_n 3, 1) ∧ mc_cd 284 64 = some (.iaload, 1) ∧ mc_cd 284 65 = some (.iconst 1, 1) ∧ mc_cd 284 66 = some (.isub, 1) := by decide +kernel
theorem c284_55 : mc_cd 284 55 = some (.iaload, 1) := cg284_55.1
theorem c284_56 : mc_cd 284 56 = some (.ifCond .le 21, 3) := cg284_55.2.1
theorem c284_59 : mc_cd 284 59 = some (.aload_n 0, 1) := cg284_55.2.2.1
theorem c284_60 : mc_cd 284 60 = some (.getfield 17, 3) := cg284_55.2.2.2.1
theorem c284_63 : mc_cd 284 63 = some (.iload_n 3, 1) := cg284_55.2.2.2.2.1
theorem c284_64 : mc_cd 284 64 = some (.iaload, 1) := cg284_55.2.2.2.2.2.1
theorem c284_65 : mc_cd 284 65 = some (.iconst 1, 1) := cg284_55.2.2.2.2.2.2.1
theorem c284_66 : mc_cd 284 66 = some (.isub, 1) := cg284_55.2.2.2.2.2.2.2
theorem cg284_67 : mc_cd 284 67 = some (.iload_n 1, 1) ∧ mc_cd 284 68 = some (.if_icmp .gt 9, 3) ∧ mc_cd 284 71 = some (.iconst 1, 1) ∧ mc_cd 284 72 = some (.iload_n 3, 1) ∧ mc_cd 284 73 = some (.ishl, 1) ∧ mc_cd 284 74 = some (.goto 4, 3) ∧ mc_cd 284 77 = some (.iconst 0, 1) ∧ mc_cd 284 78 = some (.ior, 1) := by decide +kernel
theorem c284_67 : mc_cd 284 67 = some (.iload_n 1, 1) := cg284_67.1
theorem c284_68 : mc_cd 284 68 = some (.if_icmp .gt 9, 3) := cg284_67.2.1
theorem c284_71 : mc_cd 284 71 = some (.iconst 1, 1) := cg284_67.2.2.1
theorem c284_72 : mc_cd 284 72 = some (.iload_n 3, 1) := cg284_67.2.2.2.1
theorem c284_73 : mc_cd 284 73 = some (.ishl, 1) := cg284_67.2.2.2.2.1
theorem c284_74 : mc_cd 284 74 = some (.goto 4, 3) := cg284_67.2.2.2.2.2.1
theorem c284_77 : mc_cd 284 77 = some (.iconst 0, 1) := cg284_67.2.2.2.2.2.2.1
theorem c284_78 : mc_cd 284 78 = some (.ior, 1) := cg284_67.2.2.2.2.2.2.2
theorem cg284_79 : mc_cd 284 79 = some (.istore_n 2, 1) ∧ mc_cd 284 80 = some (.iinc 3 1, 3) ∧ mc_cd 284 83 = some (.goto (-45), 3) ∧ mc_cd 284 86 = some (.aload_n 0, 1) ∧ mc_cd 284 87 = some (.iload_n 2, 1) ∧ mc_cd 284 88 = some (.invokevirtual 58, 3) ∧ mc_cd 284 91 = some (.ireturn, 1) := by decide +kernel
theorem c284_79 : mc_cd 284 79 = some (.istore_n 2, 1) := cg284_79.1
theorem c284_80 : mc_cd 284 80 = some (.iinc 3 1, 3) := cg284_79.2.1
theorem c284_83 : mc_cd 284 83 = some (.goto (-45), 3) := cg284_79.2.2.1
theorem c284_86 : mc_cd 284 86 = some (.aload_n 0, 1) := cg284_79.2.2.2.1
theorem c284_87 : mc_cd 284 87 = some (.iload_n 2, 1) := cg284_79.2.2.2.2.1
theorem c284_88 : mc_cd 284 88 = some (.invokevirtual 58, 3) := cg284_79.2.2.2.2.2.1
theorem c284_91 : mc_cd 284 91 = some (.ireturn, 1) := cg284_79.2.2.2.2.2.2
abbrev q_284 (r0 : Nat) (a1 : Int) (T : wq_T) (H : wq_H) : Option Value → wq_T → wq_H → Prop := fun r T' H' => T = T' ∧ WT T H' ∧ wfr [(42, 0), (42, 1), (42, 2)] T H H' ∧ ∃ z : Int, some (vI z) = r ∧ ((-2147483648) ≤ z ∧ z ≤ 2147483647) ∧ (wKI H' r0 = 1)
set_option maxHeartbeats 4000000 in
theorem s_284 {kt : Nat → Option mc_E} {T : wq_T} {H : wq_H} {r0 : Nat} {a1 : Int} (hW : WT T H) (g0 : T.2.2.2 r0 = some 42) (i1 : (-2147483648) ≤ a1 ∧ a1 ≤ 2147483647) (p0 : wKI H r0 = 1) : wpc kt 2 284 [.ref r0, vI a1] T H (q_284 r0 a1 T H) := by
  refine wp_enter e284 (Nat.le_of_ble_eq_true rfl) rfl ?_
  have f0 : wfr [(42, 0), (42, 1), (42, 2)] T H H := wfr.rf
  show wp _ _ 284 0 [(0, .ref r0), (1, vI a1)] [] _ H _
  refine wp_of e284 c284_0 (rw_aload_n (pc' := 1) (v := .ref r0) rfl rfl rfl ?_)
  refine wp_of e284 c284_1 (rw_iconst (pc' := 2) rfl ?_)
  refine wp_of e284 c284_2 (xp_I (pc' := 5) lf_9_48 hW g0 sh_42 (by decide) (by decide) ty_42_0 rfl rfl (by omega) (by omega) ⟨by omega, by omega⟩ rfl (fun H224008 e224009 w224010 => ?_))
  have f224011 := f0.put' e224009 g0 rfl
  have k224012 : H224008 r0 0 = 0 := wq_u_s e224009
  refine wp_of e284 c284_5 (rw_aload_n (pc' := 6) (v := .ref r0) rfl rfl rfl ?_)
  refine wp_of e284 c284_6 (xg_O (pc' := 9) lf_9_337 w224010 g0 sh_42 (by decide) (by decide) ty_42_3 rfl rfl (fun q224014 => ?_) (fun r224013 q224014 g224015 => ?_))
  · refine wp_of e284 c284_9 (rw_ifnonnull_n (p1 := 18) (p2 := 12) (by decide) rfl ?_)
    refine wp_of e284 c284_12 (rw_aload_n (pc' := 13) (v := .ref r0) rfl rfl rfl ?_)
    refine wp_of e284 c284_13 (rw_iconst (pc' := 14) rfl ?_)
    refine wp_of e284 c284_14 (xc_V (pc' := 17) (r := r0) (as := [vI 1]) (st := []) (lm_9_54) rfl rfl (Nat.le_of_ble_eq_true rfl) w224010 g0 sh_42 (by decide) rfl (by decide) (s_170 w224010 g0 ⟨by omega, by omega⟩) (fun R224016 T224017 H224018 p224019 => ?_))
    obtain ⟨e224020, w224022, f224023, z224024, e224021, b224025⟩ := p224019
    subst e224020
    subst e224021
    have f224026 := f224011.tr f224023 rfl
    show wp _ _ 284 17 [(0, .ref r0), (1, vI a1)] [vI z224024] _ H224018 _
    have k224027 : wKI H224018 r0 = wKI H r0 := ((wKI_fr w224010 g0 f224023 rfl).trans (wKI_fr hW g0 ((wfr.rf (l := [(42, 0)])).put' e224009 g0 rfl) rfl))
    exact wp_ireturn e284 c284_17 rfl ⟨rfl, w224022, f224026, z224024, rfl, ⟨by omega, by omega⟩, by omega⟩
  · refine wp_of e284 c284_9 (rw_ifnonnull_r (p1 := 18) (p2 := 12) (by decide) rfl ?_)
    refine wp_of e284 c284_18 (rw_iload_n (pc' := 19) (z := a1) rfl rfl ?_)
    refine wp_of e284 c284_19 (rw_iconst (pc' := 20) rfl ?_)
    refine wp_of e284 c284_20 (rw_bipush (pc' := 22) (z := 99) rfl (by decide) ?_)
    refine wp_of e284 c284_22 (xc_S (pc' := 25) (as := [vI a1, vI 0, vI 99]) (st := []) (lm_9_125) rfl rfl (Nat.le_of_ble_eq_true rfl) rfl (by decide) (s_186 w224010 ⟨by omega, by omega⟩ ⟨by omega, by omega⟩ ⟨by omega, by omega⟩) (fun R224028 T224029 H224030 p224031 => ?_))
    obtain ⟨e224032, e224034, z224036, e224033, b224037, p224035⟩ := p224031
    subst e224032
    subst e224033
    subst e224034
    show wp _ _ 284 25 [(0, .ref r0), (1, vI a1)] [vI z224036] _ H224008 _
    refine wp_of e284 c284_25 (rw_if_ne (p1 := 34) (p2 := 28) (by decide) rfl ⟨by omega, by omega⟩ (fun c224038 => ?_) (fun c224038 => ?_))
    · refine wp_of e284 c284_34 (rw_iconst (pc' := 35) rfl ?_)
      refine wp_of e284 c284_35 (rw_istore_n (pc' := 36) (z := 0) (L' := [(2, vI 0), (0, .ref r0), (1, vI a1)]) rfl rfl rfl ?_)
      refine wp_of e284 c284_36 (rw_iconst (pc' := 37) rfl ?_)
      refine wp_of e284 c284_37 (rw_istore_n (pc' := 38) (z := 0) (L' := [(3, vI 0), (2, vI 0), (0, .ref r0), (1, vI a1)]) rfl rfl rfl ?_)
      have lp224215 : ∀ (n224216 : Nat) (v224218 : Int) (v224219 : Int), (0 ≤ v224218 ∧ v224218 ≤ 24) → (0 ≤ v224219 ∧ v224219 ≤ 16777215) → (24 - v224218).toNat = n224216 → wp kt 1 284 38 [(3, vI v224218), (2, vI v224219), (0, .ref r0), (1, vI a1)] [] T H224008 (q_284 r0 a1 T H) := by
        intro n224216
        induction n224216 using Nat.strongRecOn with
        | _ n224216 ih224217 =>
          intro v224218 v224219 b224222 b224223 m224224
          refine wp_of e284 c284_38 (rw_iload_n (pc' := 39) (z := v224218) rfl rfl ?_)
          refine wp_of e284 c284_39 (rw_aload_n (pc' := 40) (v := .ref r0) rfl rfl rfl ?_)
          refine wp_of e284 c284_40 (xg_K (pc' := 43) lf_9_337 w224010 g0 sh_42 (by decide) (by decide) rfl q224014 rfl ?_)
          refine wp_of e284 c284_43 (xg_I (pc' := 46) lf_9_185 w224010 g224015 sh_54 (by decide) (by decide) ty_54_0 rfl rfl (fun b224225 b224226 => ?_))
          refine wp_of e284 c284_46 (rw_icmp_ge (p1 := 86) (p2 := 49) (by decide) rfl ⟨by omega, by omega⟩ ⟨by omega, by omega⟩ (fun c224227 => ?_) (fun c224227 => ?_))
          · refine wp_of e284 c284_86 (rw_aload_n (pc' := 87) (v := .ref r0) rfl rfl rfl ?_)
            refine wp_of e284 c284_87 (rw_iload_n (pc' := 88) (z := v224219) rfl rfl ?_)
            refine wp_of e284 c284_88 (xc_V (pc' := 91) (r := r0) (as := [vI v224219]) (st := []) (lm_9_58) rfl rfl (Nat.le_of_ble_eq_true rfl) w224010 g0 sh_42 (by decide) rfl (by decide) (s_209 w224010 g0 ⟨by omega, by omega⟩) (fun R224228 T224229 H224230 p224231 => ?_))
            obtain ⟨e224232, w224234, f224235, z224236, e224233, b224237⟩ := p224231
            subst e224232
            subst e224233
            have f224238 := f224011.tr f224235 rfl
            show wp _ _ 284 91 [(3, vI v224218), (2, vI v224219), (0, .ref r0), (1, vI a1)] [vI z224236] _ H224230 _
            have k224239 : wKI H224230 r0 = wKI H r0 := ((wKI_fr w224010 g0 f224235 rfl).trans (wKI_fr hW g0 ((wfr.rf (l := [(42, 0)])).put' e224009 g0 rfl) rfl))
            exact wp_ireturn e284 c284_91 rfl ⟨rfl, w224234, f224238, z224236, rfl, ⟨by omega, by omega⟩, by omega⟩
          · refine wp_of e284 c284_49 (rw_iload_n (pc' := 50) (z := v224219) rfl rfl ?_)
            refine wp_of e284 c284_50 (rw_aload_n (pc' := 51) (v := .ref r0) rfl rfl rfl ?_)
            refine wp_of e284 c284_51 (xg_R (pc' := 54) lf_9_17 w224010 g0 sh_42 (by decide) (by decide) ty_42_20 rfl rfl (fun r224240 q224241 g224242 => ?_))
            refine wp_of e284 c284_54 (rw_iload_n (pc' := 55) (z := v224218) rfl rfl ?_)
            refine wp_of e284 c284_55 (xa_I (so := 0) (pc' := 56) w224010 g224242 sh_44 (by decide) (ty_44 _) (by omega) (by omega) rfl (fun b224243 b224244 => ?_))
            refine wp_of e284 c284_56 (rw_if_le (p1 := 77) (p2 := 59) (by decide) rfl ⟨by omega, by omega⟩ (fun c224245 => ?_) (fun c224245 => ?_))
            · refine wp_of e284 c284_77 (rw_iconst (pc' := 78) rfl ?_)
              refine wp_of e284 c284_78 (rw_ior (pc' := 79) rfl ?_)
              obtain ⟨v224246, e224247⟩ : ∃ x : Int, x = wq_or v224219 0 := ⟨_, rfl⟩
              rw [← e224247]
              have b224248 : 0 ≤ v224246 ∧ v224246 ≤ 16777215 := by
                rw [e224247]
                exact wq_or_24 ⟨by omega, by omega⟩ ⟨by omega, by omega⟩
              refine wp_of e284 c284_79 (rw_istore_n (pc' := 80) (z := v224246) (L' := [(2, vI v224246), (3, vI v224218), (0, .ref r0), (1, vI a1)]) rfl rfl rfl ?_)
              refine wp_of e284 c284_80 (rw_iinc (pc' := 83) (z := v224218) (L' := [(3, vI (v224218 + 1)), (2, vI v224246), (0, .ref r0), (1, vI a1)]) rfl rfl rfl rfl ?_)
              refine wp_of e284 c284_83 (rw_goto (p1 := 38) (by decide) ?_)
              exact wp_lc (ks := [3, 2, 0, 1]) (wl_c rfl (wl_c rfl (wl_c rfl (wl_c rfl wl_n)))) rfl (by decide) (ih224217 _ (by omega) (v224218 + 1) v224246 ⟨by omega, by omega⟩ ⟨by omega, by omega⟩ rfl)
            · refine wp_of e284 c284_59 (rw_aload_n (pc' := 60) (v := .ref r0) rfl rfl rfl ?_)
              refine wp_of e284 c284_60 (xg_K (pc' := 63) lf_9_17 w224010 g0 sh_42 (by decide) (by decide) rfl q224241 rfl ?_)
              refine wp_of e284 c284_63 (rw_iload_n (pc' := 64) (z := v224218) rfl rfl ?_)
              refine wp_of e284 c284_64 (xa_I (so := 0) (pc' := 65) w224010 g224242 sh_44 (by decide) (ty_44 _) (by omega) (by omega) rfl (fun b224249 b224250 => ?_))
              refine wp_of e284 c284_65 (rw_iconst (pc' := 66) rfl ?_)
              refine wp_of e284 c284_66 (rw_isub (pc' := 67) rfl ?_)
              refine wp_of e284 c284_67 (rw_iload_n (pc' := 68) (z := a1) rfl rfl ?_)
              refine wp_of e284 c284_68 (rw_icmp_gt (p1 := 77) (p2 := 71) (by decide) rfl ⟨by omega, by omega⟩ ⟨by omega, by omega⟩ (fun c224251 => ?_) (fun c224251 => ?_))
              · refine wp_of e284 c284_77 (rw_iconst (pc' := 78) rfl ?_)
                refine wp_of e284 c284_78 (rw_ior (pc' := 79) rfl ?_)
                obtain ⟨v224252, e224253⟩ : ∃ x : Int, x = wq_or v224219 0 := ⟨_, rfl⟩
                rw [← e224253]
                have b224254 : 0 ≤ v224252 ∧ v224252 ≤ 16777215 := by
                  rw [e224253]
                  exact wq_or_24 ⟨by omega, by omega⟩ ⟨by omega, by omega⟩
                refine wp_of e284 c284_79 (rw_istore_n (pc' := 80) (z := v224252) (L' := [(2, vI v224252), (3, vI v224218), (0, .ref r0), (1, vI a1)]) rfl rfl rfl ?_)
                refine wp_of e284 c284_80 (rw_iinc (pc' := 83) (z := v224218) (L' := [(3, vI (v224218 + 1)), (2, vI v224252), (0, .ref r0), (1, vI a1)]) rfl rfl rfl rfl ?_)
                refine wp_of e284 c284_83 (rw_goto (p1 := 38) (by decide) ?_)
                exact wp_lc (ks := [3, 2, 0, 1]) (wl_c rfl (wl_c rfl (wl_c rfl (wl_c rfl wl_n)))) rfl (by decide) (ih224217 _ (by omega) (v224218 + 1) v224252 ⟨by omega, by omega⟩ ⟨by omega, by omega⟩ rfl)
              · refine wp_of e284 c284_71 (rw_iconst (pc' := 72) rfl ?_)
                refine wp_of e284 c284_72 (rw_iload_n (pc' := 73) (z := v224218) rfl rfl ?_)
                refine wp_of e284 c284_73 (rw_ishl (pc' := 74) rfl ?_)
                obtain ⟨v224255, e224256⟩ : ∃ x : Int, x = wq_shl 1 v224218 := ⟨_, rfl⟩
                rw [← e224256]
                have b224257 : 1 ≤ v224255 ∧ v224255 ≤ 8388608 := by
                  rw [e224256]
                  exact wq_shl1_24 ⟨by omega, by omega⟩
                refine wp_of e284 c284_74 (rw_goto (p1 := 78) (by decide) ?_)
                refine wp_of e284 c284_78 (rw_ior (pc' := 79) rfl ?_)
                obtain ⟨v224258, e224259⟩ : ∃ x : Int, x = wq_or v224219 v224255 := ⟨_, rfl⟩
                rw [← e224259]
                have b224260 : 0 ≤ v224258 ∧ v224258 ≤ 16777215 := by
                  rw [e224259]
                  exact wq_or_24 ⟨by omega, by omega⟩ ⟨by omega, by omega⟩
                refine wp_of e284 c284_79 (rw_istore_n (pc' := 80) (z := v224258) (L' := [(2, vI v224258), (3, vI v224218), (0, .ref r0), (1, vI a1)]) rfl rfl rfl ?_)
                refine wp_of e284 c284_80 (rw_iinc (pc' := 83) (z := v224218) (L' := [(3, vI (v224218 + 1)), (2, vI v224258), (0, .ref r0), (1, vI a1)]) rfl rfl rfl rfl ?_)
                refine wp_of e284 c284_83 (rw_goto (p1 := 38) (by decide) ?_)
                exact wp_lc (ks := [3, 2, 0, 1]) (wl_c rfl (wl_c rfl (wl_c rfl (wl_c rfl wl_n)))) rfl (by decide) (ih224217 _ (by omega) (v224218 + 1) v224258 ⟨by omega, by omega⟩ ⟨by omega, by omega⟩ rfl)
      exact wp_lc (ks := [3, 2, 0, 1]) (wl_c rfl (wl_c rfl (wl_c rfl (wl_c rfl wl_n)))) rfl (by decide) (lp224215 _ 0 0 ⟨by omega, by omega⟩ ⟨by omega, by omega⟩ rfl)
    · refine wp_of e284 c284_28 (rw_aload_n (pc' := 29) (v := .ref r0) rfl rfl rfl ?_)
      refine wp_of e284 c284_29 (rw_iconst (pc' := 30) rfl ?_)
      refine wp_of e284 c284_30 (xc_V (pc' := 33) (r := r0) (as := [vI 2]) (st := []) (lm_9_54) rfl rfl (Nat.le_of_ble_eq_true rfl) w224010 g0 sh_42 (by decide) rfl (by decide) (s_170 w224010 g0 ⟨by omega, by omega⟩) (fun R224261 T224262 H224263 p224264 => ?_))
      obtain ⟨e224265, w224267, f224268, z224269, e224266, b224270⟩ := p224264
      subst e224265
      subst e224266
      have f224271 := f224011.tr f224268 rfl
      show wp _ _ 284 33 [(0, .ref r0), (1, vI a1)] [vI z224269] _ H224263 _
      have k224272 : wKI H224263 r0 = wKI H r0 := ((wKI_fr w224010 g0 f224268 rfl).trans (wKI_fr hW g0 ((wfr.rf (l := [(42, 0)])).put' e224009 g0 rfl) rfl))
      exact wp_ireturn e284 c284_33 rfl ⟨rfl, w224267, f224271, z224269, rfl, ⟨by omega, by omega⟩, by omega⟩
/-! StrikeAwakeModel.strike(II)I -/
theorem e285 : wq_en 285 = some (9, 3, false, some FieldType.int) := rfl
theorem cg285_0 : mc_cd 285 0 = some (.aload_n 0, 1) ∧ mc_cd 285 1 = some (.iconst 0, 1) ∧ mc_cd 285 2 = some (.putfield 48, 3) ∧ mc_cd 285 5 = some (.aload_n 0, 1) ∧ mc_cd 285 6 = some (.iload_n 1, 1) ∧ mc_cd 285 7 = some (.invokevirtual 373, 3) ∧ mc_cd 285 10 = some (.ifCond .ne 9, 3) ∧ mc_cd 285 13 = some (.aload_n 0, 1) := by decide +kernel
theorem c285_0 : mc_cd 285 0 = some (.aload_n 0, 1) := cg285_0.1
theorem c285_1 : mc_cd 285 1 = some (.iconst 0, 1) := cg285_0.2.1
theorem c285_2 : mc_cd 285 2 = some (.putfield 48, 3) := cg285_0.2.2.1
theorem c285_5 : mc_cd 285 5 = some (.aload_n 0, 1) := cg285_0.2.2.2.1
theorem c285_6 : mc_cd 285 6 = some (.iload_n 1, 1) := cg285_0.2.2.2.2.1
theorem c285_7 : mc_cd 285 7 = some (.invokevirtual 373, 3) := cg285_0.2.2.2.2.2.1
theorem c285_10 : mc_cd 285 10 = some (.ifCond .ne 9, 3) := cg285_0.2.2.2.2.2.2.1
theorem c285_13 : mc_cd 285 13 = some (.aload_n 0, 1) := cg285_0.2.2.2.2.2.2.2
theorem cg285_14 : mc_cd 285 14 = some (.iconst 1, 1) ∧ mc_cd 285 15 = some (.invokevirtual 54, 3) ∧ mc_cd 285 18 = some (.ireturn, 1) ∧ mc_cd 285 19 = some (.iload_n 2, 1) ∧ mc_cd 285 20 = some (.iconst 0, 1) ∧ mc_cd 285 21 = some (.bipush 99, 2) ∧ mc_cd 285 23 = some (.invokestatic 125, 3) ∧ mc_cd 285 26 = some (.ifCond .ne 9, 3) := by decide +kernel
theorem c285_14 : mc_cd 285 14 = some (.iconst 1, 1) := cg285_14.1
theorem c285_15 : mc_cd 285 15 = some (.invokevirtual 54, 3) := cg285_14.2.1
theorem c285_18 : mc_cd 285 18 = some (.ireturn, 1) := cg285_14.2.2.1
theorem c285_19 : mc_cd 285 19 = some (.iload_n 2, 1) := cg285_14.2.2.2.1
theorem c285_20 : mc_cd 285 20 = some (.iconst 0, 1) := cg285_14.2.2.2.2.1
theorem c285_21 : mc_cd 285 21 = some (.bipush 99, 2) := cg285_14.2.2.2.2.2.1
theorem c285_23 : mc_cd 285 23 = some (.invokestatic 125, 3) := cg285_14.2.2.2.2.2.2.1
theorem c285_26 : mc_cd 285 26 = some (.ifCond .ne 9, 3) := cg285_14.2.2.2.2.2.2.2
theorem cg285_29 : mc_cd 285 29 = some (.aload_n 0, 1) ∧ mc_cd 285 30 = some (.iconst 2, 1) ∧ mc_cd 285 31 = some (.invokevirtual 54, 3) ∧ mc_cd 285 34 = some (.ireturn, 1) ∧ mc_cd 285 35 = some (.aload_n 0, 1) ∧ mc_cd 285 36 = some (.getfield 17, 3) ∧ mc_cd 285 39 = some (.iload_n 1, 1) ∧ mc_cd 285 40 = some (.iload_n 2, 1) := by decide +kernel
theorem c285_29 : mc_cd 285 29 = some (.aload_n 0, 1) := cg285_29.1
theorem c285_30 : mc_cd 285 30 = some (.iconst 2, 1) := cg285_29.2.1
theorem c285_31 : mc_cd 285 31 = some (.invokevirtual 54, 3) := cg285_29.2.2.1
theorem c285_34 : mc_cd 285 34 = some (.ireturn, 1) := cg285_29.2.2.2.1
theorem c285_35 : mc_cd 285 35 = some (.aload_n 0, 1) := cg285_29.2.2.2.2.1
theorem c285_36 : mc_cd 285 36 = some (.getfield 17, 3) := cg285_29.2.2.2.2.2.1
theorem c285_39 : mc_cd 285 39 = some (.iload_n 1, 1) := cg285_29.2.2.2.2.2.2.1
theorem c285_40 : mc_cd 285 40 = some (.iload_n 2, 1) := cg285_29.2.2.2.2.2.2.2
theorem cg285_41 : mc_cd 285 41 = some (.iconst 1, 1) ∧ mc_cd 285 42 = some (.iadd, 1) ∧ mc_cd 285 43 = some (.iastore, 1) ∧ mc_cd 285 44 = some (.aload_n 0, 1) ∧ mc_cd 285 45 = some (.iconst 0, 1) ∧ mc_cd 285 46 = some (.putfield 353, 3) ∧ mc_cd 285 49 = some (.aload_n 0, 1) ∧ mc_cd 285 50 = some (.aload_n 0, 1) := by decide +kernel
theorem c285_41 : mc_cd 285 41 = some (.iconst 1, 1) := cg285_41.1
theorem c285_42 : mc_cd 285 42 = some (.iadd, 1) := cg285_41.2.1
theorem c285_43 : mc_cd 285 43 = some (.iastore, 1) := cg285_41.2.2.1
theorem c285_44 : mc_cd 285 44 = some (.aload_n 0, 1) := cg285_41.2.2.2.1
theorem c285_45 : mc_cd 285 45 = some (.iconst 0, 1) := cg285_41.2.2.2.2.1
theorem c285_46 : mc_cd 285 46 = some (.putfield 353, 3) := cg285_41.2.2.2.2.2.1
theorem c285_49 : mc_cd 285 49 = some (.aload_n 0, 1) := cg285_41.2.2.2.2.2.2.1
theorem c285_50 : mc_cd 285 50 = some (.aload_n 0, 1) := cg285_41.2.2.2.2.2.2.2
theorem cg285_51 : mc_cd 285 51 = some (.invokevirtual 357, 3) ∧ mc_cd 285 54 = some (.invokestatic 462, 3) ∧ mc_cd 285 57 = some (.invokevirtual 58, 3) ∧ mc_cd 285 60 = some (.ireturn, 1) := by decide +kernel
theorem c285_51 : mc_cd 285 51 = some (.invokevirtual 357, 3) := cg285_51.1
theorem c285_54 : mc_cd 285 54 = some (.invokestatic 462, 3) := cg285_51.2.1
theorem c285_57 : mc_cd 285 57 = some (.invokevirtual 58, 3) := cg285_51.2.2.1
theorem c285_60 : mc_cd 285 60 = some (.ireturn, 1) := cg285_51.2.2.2
/-! StrikeAwakeModel.still(I)Z -/
theorem e286 : wq_en 286 = some (9, 2, false, some FieldType.boolean) := rfl
theorem cg286_0 : mc_cd 286 0 = some (.aload_n 0, 1) ∧ mc_cd 286 1 = some (.iconst 0, 1) ∧ mc_cd 286 2 = some (.putfield 48, 3) ∧ mc_cd 286 5 = some (.aload_n 0, 1) ∧ mc_cd 286 6 = some (.iload_n 1, 1) ∧ mc_cd 286 7 = some (.invokevirtual 487, 3) ∧ mc_cd 286 10 = some (.ifCond .ne 9, 3) ∧ mc_cd 286 13 = some (.aload_n 0, 1) := by decide +kernel
theorem c286_0 : mc_cd 286 0 = some (.aload_n 0, 1) := cg286_0.1
theorem c286_1 : mc_cd 286 1 = some (.iconst 0, 1) := cg286_0.2.1
theorem c286_2 : mc_cd 286 2 = some (.putfield 48, 3) := cg286_0.2.2.1
theorem c286_5 : mc_cd 286 5 = some (.aload_n 0, 1) := cg286_0.2.2.2.1
theorem c286_6 : mc_cd 286 6 = some (.iload_n 1, 1) := cg286_0.2.2.2.2.1
theorem c286_7 : mc_cd 286 7 = some (.invokevirtual 487, 3) := cg286_0.2.2.2.2.2.1
theorem c286_10 : mc_cd 286 10 = some (.ifCond .ne 9, 3) := cg286_0.2.2.2.2.2.2.1
theorem c286_13 : mc_cd 286 13 = some (.aload_n 0, 1) := cg286_0.2.2.2.2.2.2.2
theorem cg286_14 : mc_cd 286 14 = some (.iconst 1, 1) ∧ mc_cd 286 15 = some (.invokevirtual 400, 3) ∧ mc_cd 286 18 = some (.ireturn, 1) ∧ mc_cd 286 19 = some (.aload_n 0, 1) ∧ mc_cd 286 20 = some (.getfield 17, 3) ∧ mc_cd 286 23 = some (.iload_n 1, 1) ∧ mc_cd 286 24 = some (.iconst 0, 1) ∧ mc_cd 286 25 = some (.iastore, 1) := by decide +kernel
theorem c286_14 : mc_cd 286 14 = some (.iconst 1, 1) := cg286_14.1
theorem c286_15 : mc_cd 286 15 = some (.invokevirtual 400, 3) := cg286_14.2.1
theorem c286_18 : mc_cd 286 18 = some (.ireturn, 1) := cg286_14.2.2.1
theorem c286_19 : mc_cd 286 19 = some (.aload_n 0, 1) := cg286_14.2.2.2.1
theorem c286_20 : mc_cd 286 20 = some (.getfield 17, 3) := cg286_14.2.2.2.2.1
theorem c286_23 : mc_cd 286 23 = some (.iload_n 1, 1) := cg286_14.2.2.2.2.2.1
theorem c286_24 : mc_cd 286 24 = some (.iconst 0, 1) := cg286_14.2.2.2.2.2.2.1
theorem c286_25 : mc_cd 286 25 = some (.iastore, 1) := cg286_14.2.2.2.2.2.2.2
theorem cg286_26 : mc_cd 286 26 = some (.aload_n 0, 1) ∧ mc_cd 286 27 = some (.iconst 0, 1) ∧ mc_cd 286 28 = some (.putfield 353, 3) ∧ mc_cd 286 31 = some (.aload_n 0, 1) ∧ mc_cd 286 32 = some (.invokevirtual 403, 3) ∧ mc_cd 286 35 = some (.ireturn, 1) := by decide +kernel
theorem c286_26 : mc_cd 286 26 = some (.aload_n 0, 1) := cg286_26.1
theorem c286_27 : mc_cd 286 27 = some (.iconst 0, 1) := cg286_26.2.1
theorem c286_28 : mc_cd 286 28 = some (.putfield 353, 3) := cg286_26.2.2.1
theorem c286_31 : mc_cd 286 31 = some (.aload_n 0, 1) := cg286_26.2.2.2.1
theorem c286_32 : mc_cd 286 32 = some (.invokevirtual 403, 3) := cg286_26.2.2.2.2.1
theorem c286_35 : mc_cd 286 35 = some (.ireturn, 1) := cg286_26.2.2.2.2.2
