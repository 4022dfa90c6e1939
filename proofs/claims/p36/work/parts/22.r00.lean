section
/-! methods of the reference (own work, written by wip/gen2/sx.py) -/
/-! StrikeAwakeModel.feed(IIIII)I -/
theorem e168 : wq_en 168 = some (9, 8, false, some FieldType.int) := rfl
theorem cg168_0 : mc_cd 168 0 = some (.aload_n 0, 1) ∧ mc_cd 168 1 = some (.iconst 0, 1) ∧ mc_cd 168 2 = some (.putfield 48, 3) ∧ mc_cd 168 5 = some (.aload_n 0, 1) ∧ mc_cd 168 6 = some (.getfield 330, 3) ∧ mc_cd 168 9 = some (.bipush 20, 2) ∧ mc_cd 168 11 = some (.iadd, 1) ∧ mc_cd 168 12 = some (.sipush 900, 3) := by decide +kernel
theorem c168_0 : mc_cd 168 0 = some (.aload_n 0, 1) := cg168_0.1
theorem c168_1 : mc_cd 168 1 = some (.iconst 0, 1) := cg168_0.2.1
theorem c168_2 : mc_cd 168 2 = some (.putfield 48, 3) := cg168_0.2.2.1
theorem c168_5 : mc_cd 168 5 = some (.aload_n 0, 1) := cg168_0.2.2.2.1
theorem c168_6 : mc_cd 168 6 = some (.getfield 330, 3) := cg168_0.2.2.2.2.1
theorem c168_9 : mc_cd 168 9 = some (.bipush 20, 2) := cg168_0.2.2.2.2.2.1
theorem c168_11 : mc_cd 168 11 = some (.iadd, 1) := cg168_0.2.2.2.2.2.2.1
theorem c168_12 : mc_cd 168 12 = some (.sipush 900, 3) := cg168_0.2.2.2.2.2.2.2
theorem cg168_15 : mc_cd 168 15 = some (.if_icmp .le 5, 3) ∧ mc_cd 168 18 = some (.iconst (-1), 1) ∧ mc_cd 168 19 = some (.ireturn, 1) ∧ mc_cd 168 20 = some (.iconst 0, 1) ∧ mc_cd 168 21 = some (.istore 6, 2) ∧ mc_cd 168 23 = some (.iload 6, 2) ∧ mc_cd 168 25 = some (.bipush 20, 2) ∧ mc_cd 168 27 = some (.if_icmp .ge 90, 3) := by decide +kernel
theorem c168_15 : mc_cd 168 15 = some (.if_icmp .le 5, 3) := cg168_15.1
theorem c168_18 : mc_cd 168 18 = some (.iconst (-1), 1) := cg168_15.2.1
theorem c168_19 : mc_cd 168 19 = some (.ireturn, 1) := cg168_15.2.2.1
theorem c168_20 : mc_cd 168 20 = some (.iconst 0, 1) := cg168_15.2.2.2.1
theorem c168_21 : mc_cd 168 21 = some (.istore 6, 2) := cg168_15.2.2.2.2.1
theorem c168_23 : mc_cd 168 23 = some (.iload 6, 2) := cg168_15.2.2.2.2.2.1
theorem c168_25 : mc_cd 168 25 = some (.bipush 20, 2) := cg168_15.2.2.2.2.2.2.1
theorem c168_27 : mc_cd 168 27 = some (.if_icmp .ge 90, 3) := cg168_15.2.2.2.2.2.2.2
theorem cg168_30 : mc_cd 168 30 = some (.iload 6, 2) ∧ mc_cd 168 32 = some (.iconst 4, 1) ∧ mc_cd 168 33 = some (.if_icmp .ge 7, 3) ∧ mc_cd 168 36 = some (.iload_n 1, 1) ∧ mc_cd 168 37 = some (.goto 39, 3) ∧ mc_cd 168 40 = some (.iload 6, 2) ∧ mc_cd 168 42 = some (.bipush 8, 2) ∧ mc_cd 168 44 = some (.if_icmp .ge 7, 3) := by decide +kernel
theorem c168_30 : mc_cd 168 30 = some (.iload 6, 2) := cg168_30.1
theorem c168_32 : mc_cd 168 32 = some (.iconst 4, 1) := cg168_30.2.1
theorem c168_33 : mc_cd 168 33 = some (.if_icmp .ge 7, 3) := cg168_30.2.2.1
theorem c168_36 : mc_cd 168 36 = some (.iload_n 1, 1) := cg168_30.2.2.2.1
theorem c168_37 : mc_cd 168 37 = some (.goto 39, 3) := cg168_30.2.2.2.2.1
theorem c168_40 : mc_cd 168 40 = some (.iload 6, 2) := cg168_30.2.2.2.2.2.1
theorem c168_42 : mc_cd 168 42 = some (.bipush 8, 2) := cg168_30.2.2.2.2.2.2.1
theorem c168_44 : mc_cd 168 44 = some (.if_icmp .ge 7, 3) := cg168_30.2.2.2.2.2.2.2
theorem cg168_47 : mc_cd 168 47 = some (.iload_n 2, 1) ∧ mc_cd 168 48 = some (.goto 28, 3) ∧ mc_cd 168 51 = some (.iload 6, 2) ∧ mc_cd 168 53 = some (.bipush 12, 2) ∧ mc_cd 168 55 = some (.if_icmp .ge 7, 3) ∧ mc_cd 168 58 = some (.iload_n 3, 1) ∧ mc_cd 168 59 = some (.goto 17, 3) ∧ mc_cd 168 62 = some (.iload 6, 2) := by decide +kernel
theorem c168_47 : mc_cd 168 47 = some (.iload_n 2, 1) := cg168_47.1
theorem c168_48 : mc_cd 168 48 = some (.goto 28, 3) := cg168_47.2.1
theorem c168_51 : mc_cd 168 51 = some (.iload 6, 2) := cg168_47.2.2.1
theorem c168_53 : mc_cd 168 53 = some (.bipush 12, 2) := cg168_47.2.2.2.1
theorem c168_55 : mc_cd 168 55 = some (.if_icmp .ge 7, 3) := cg168_47.2.2.2.2.1
theorem c168_58 : mc_cd 168 58 = some (.iload_n 3, 1) := cg168_47.2.2.2.2.2.1
theorem c168_59 : mc_cd 168 59 = some (.goto 17, 3) := cg168_47.2.2.2.2.2.2.1
theorem c168_62 : mc_cd 168 62 = some (.iload 6, 2) := cg168_47.2.2.2.2.2.2.2
theorem cg168_64 : mc_cd 168 64 = some (.bipush 16, 2) ∧ mc_cd 168 66 = some (.if_icmp .ge 8, 3) ∧ mc_cd 168 69 = some (.iload 4, 2) ∧ mc_cd 168 71 = some (.goto 5, 3) ∧ mc_cd 168 74 = some (.iload 5, 2) ∧ mc_cd 168 76 = some (.istore 7, 2) ∧ mc_cd 168 78 = some (.aload_n 0, 1) ∧ mc_cd 168 79 = some (.getfield 13, 3) := by decide +kernel
theorem c168_64 : mc_cd 168 64 = some (.bipush 16, 2) := cg168_64.1
theorem c168_66 : mc_cd 168 66 = some (.if_icmp .ge 8, 3) := cg168_64.2.1
theorem c168_69 : mc_cd 168 69 = some (.iload 4, 2) := cg168_64.2.2.1
theorem c168_71 : mc_cd 168 71 = some (.goto 5, 3) := cg168_64.2.2.2.1
theorem c168_74 : mc_cd 168 74 = some (.iload 5, 2) := cg168_64.2.2.2.2.1
theorem c168_76 : mc_cd 168 76 = some (.istore 7, 2) := cg168_64.2.2.2.2.2.1
theorem c168_78 : mc_cd 168 78 = some (.aload_n 0, 1) := cg168_64.2.2.2.2.2.2.1
theorem c168_79 : mc_cd 168 79 = some (.getfield 13, 3) := cg168_64.2.2.2.2.2.2.2
theorem cg168_82 : mc_cd 168 82 = some (.aload_n 0, 1) ∧ mc_cd 168 83 = some (.getfield 330, 3) ∧ mc_cd 168 86 = some (.iload 7, 2) ∧ mc_cd 168 88 = some (.bipush 24, 2) ∧ mc_cd 168 90 = some (.bipush 8, 2) ∧ mc_cd 168 92 = some (.iload 6, 2) ∧ mc_cd 168 94 = some (.iconst 4, 1) ∧ mc_cd 168 95 = some (.irem, 1) := by decide +kernel
theorem c168_82 : mc_cd 168 82 = some (.aload_n 0, 1) := cg168_82.1
theorem c168_83 : mc_cd 168 83 = some (.getfield 330, 3) := cg168_82.2.1
theorem c168_86 : mc_cd 168 86 = some (.iload 7, 2) := cg168_82.2.2.1
theorem c168_88 : mc_cd 168 88 = some (.bipush 24, 2) := cg168_82.2.2.2.1
theorem c168_90 : mc_cd 168 90 = some (.bipush 8, 2) := cg168_82.2.2.2.2.1
theorem c168_92 : mc_cd 168 92 = some (.iload 6, 2) := cg168_82.2.2.2.2.2.1
theorem c168_94 : mc_cd 168 94 = some (.iconst 4, 1) := cg168_82.2.2.2.2.2.2.1
theorem c168_95 : mc_cd 168 95 = some (.irem, 1) := cg168_82.2.2.2.2.2.2.2
theorem cg168_96 : mc_cd 168 96 = some (.imul, 1) ∧ mc_cd 168 97 = some (.isub, 1) ∧ mc_cd 168 98 = some (.ishr, 1) ∧ mc_cd 168 99 = some (.i2b, 1) ∧ mc_cd 168 100 = some (.bastore, 1) ∧ mc_cd 168 101 = some (.aload_n 0, 1) ∧ mc_cd 168 102 = some (.dup, 1) ∧ mc_cd 168 103 = some (.getfield 330, 3) := by decide +kernel
theorem c168_96 : mc_cd 168 96 = some (.imul, 1) := cg168_96.1
theorem c168_97 : mc_cd 168 97 = some (.isub, 1) := cg168_96.2.1
theorem c168_98 : mc_cd 168 98 = some (.ishr, 1) := cg168_96.2.2.1
theorem c168_99 : mc_cd 168 99 = some (.i2b, 1) := cg168_96.2.2.2.1
theorem c168_100 : mc_cd 168 100 = some (.bastore, 1) := cg168_96.2.2.2.2.1
theorem c168_101 : mc_cd 168 101 = some (.aload_n 0, 1) := cg168_96.2.2.2.2.2.1
theorem c168_102 : mc_cd 168 102 = some (.dup, 1) := cg168_96.2.2.2.2.2.2.1
theorem c168_103 : mc_cd 168 103 = some (.getfield 330, 3) := cg168_96.2.2.2.2.2.2.2
theorem cg168_106 : mc_cd 168 106 = some (.iconst 1, 1) ∧ mc_cd 168 107 = some (.iadd, 1) ∧ mc_cd 168 108 = some (.putfield 330, 3) ∧ mc_cd 168 111 = some (.iinc 6 1, 3) ∧ mc_cd 168 114 = some (.goto (-91), 3) ∧ mc_cd 168 117 = some (.aload_n 0, 1) ∧ mc_cd 168 118 = some (.getfield 330, 3) ∧ mc_cd 168 121 = some (.ireturn, 1) := by decide +kernel
theorem c168_106 : mc_cd 168 106 = some (.iconst 1, 1) := cg168_106.1
theorem c168_107 : mc_cd 168 107 = some (.iadd, 1) := cg168_106.2.1
theorem c168_108 : mc_cd 168 108 = some (.putfield 330, 3) := cg168_106.2.2.1
theorem c168_111 : mc_cd 168 111 = some (.iinc 6 1, 3) := cg168_106.2.2.2.1
theorem c168_114 : mc_cd 168 114 = some (.goto (-91), 3) := cg168_106.2.2.2.2.1
theorem c168_117 : mc_cd 168 117 = some (.aload_n 0, 1) := cg168_106.2.2.2.2.2.1
theorem c168_118 : mc_cd 168 118 = some (.getfield 330, 3) := cg168_106.2.2.2.2.2.2.1
theorem c168_121 : mc_cd 168 121 = some (.ireturn, 1) := cg168_106.2.2.2.2.2.2.2
/-! StrikeAwakeModel.refused(I)I -/
theorem e170 : wq_en 170 = some (9, 2, false, some FieldType.int) := rfl
theorem cg170_0 : mc_cd 170 0 = some (.aload_n 0, 1) ∧ mc_cd 170 1 = some (.iload_n 1, 1) ∧ mc_cd 170 2 = some (.putfield 51, 3) ∧ mc_cd 170 5 = some (.aload_n 0, 1) ∧ mc_cd 170 6 = some (.iconst (-1), 1) ∧ mc_cd 170 7 = some (.putfield 9, 3) ∧ mc_cd 170 10 = some (.iconst (-1), 1) ∧ mc_cd 170 11 = some (.ireturn, 1) := by decide +kernel
theorem c170_0 : mc_cd 170 0 = some (.aload_n 0, 1) := cg170_0.1
theorem c170_1 : mc_cd 170 1 = some (.iload_n 1, 1) := cg170_0.2.1
theorem c170_2 : mc_cd 170 2 = some (.putfield 51, 3) := cg170_0.2.2.1
theorem c170_5 : mc_cd 170 5 = some (.aload_n 0, 1) := cg170_0.2.2.2.1
theorem c170_6 : mc_cd 170 6 = some (.iconst (-1), 1) := cg170_0.2.2.2.2.1
theorem c170_7 : mc_cd 170 7 = some (.putfield 9, 3) := cg170_0.2.2.2.2.2.1
theorem c170_10 : mc_cd 170 10 = some (.iconst (-1), 1) := cg170_0.2.2.2.2.2.2.1
theorem c170_11 : mc_cd 170 11 = some (.ireturn, 1) := cg170_0.2.2.2.2.2.2.2
abbrev q_170 (r0 : Nat) (a1 : Int) (T : wq_T) (H : wq_H) : Option Value → wq_T → wq_H → Prop := fun r T' H' => T = T' ∧ WT T H' ∧ wfr [(42, 1), (42, 2)] T H H' ∧ ∃ z : Int, some (vI z) = r ∧ ((-2147483648) ≤ z ∧ z ≤ 2147483647)
set_option maxHeartbeats 4000000 in
theorem s_170 {kt : Nat → Option mc_E} {T : wq_T} {H : wq_H} {r0 : Nat} {a1 : Int} (hW : WT T H) (g0 : T.2.2.2 r0 = some 42) (i1 : (-2147483648) ≤ a1 ∧ a1 ≤ 2147483647) : wpc kt 1 170 [.ref r0, vI a1] T H (q_170 r0 a1 T H) := by
  refine wp_enter e170 (Nat.le_of_ble_eq_true rfl) rfl ?_
  have f0 : wfr [(42, 1), (42, 2)] T H H := wfr.rf
  show wp _ _ 170 0 [(0, .ref r0), (1, vI a1)] [] _ H _
  refine wp_of e170 c170_0 (rw_aload_n (pc' := 1) (v := .ref r0) rfl rfl rfl ?_)
  refine wp_of e170 c170_1 (rw_iload_n (pc' := 2) (z := a1) rfl rfl ?_)
  refine wp_of e170 c170_2 (xp_I (pc' := 5) lf_9_51 hW g0 sh_42 (by decide) (by decide) ty_42_1 rfl rfl (by omega) (by omega) ⟨by omega, by omega⟩ rfl (fun H82246 e82247 w82248 => ?_))
  have f82249 := f0.put' e82247 g0 rfl
  have k82250 : H82246 r0 1 = a1 := wq_u_s e82247
  refine wp_of e170 c170_5 (rw_aload_n (pc' := 6) (v := .ref r0) rfl rfl rfl ?_)
  refine wp_of e170 c170_6 (rw_iconst (pc' := 7) rfl ?_)
  refine wp_of e170 c170_7 (xp_I (pc' := 10) lf_9_9 w82248 g0 sh_42 (by decide) (by decide) ty_42_2 rfl rfl (by omega) (by omega) ⟨by omega, by omega⟩ rfl (fun H82251 e82252 w82253 => ?_))
  have f82254 := f82249.put' e82252 g0 rfl
  have k82255 : H82251 r0 2 = -1 := wq_u_s e82252
  refine wp_of e170 c170_10 (rw_iconst (pc' := 11) rfl ?_)
  exact wp_ireturn e170 c170_11 rfl ⟨rfl, w82253, f82254, -1, rfl, ⟨by omega, by omega⟩⟩
/-! StrikeAwakeModel.byteAt(I)I -/
theorem e173 : wq_en 173 = some (9, 2, false, some FieldType.int) := rfl
theorem cg173_0 : mc_cd 173 0 = some (.iload_n 1, 1) ∧ mc_cd 173 1 = some (.aload_n 0, 1) ∧ mc_cd 173 2 = some (.getfield 61, 3) ∧ mc_cd 173 5 = some (.if_icmp .ge 16, 3) ∧ mc_cd 173 8 = some (.aload_n 0, 1) ∧ mc_cd 173 9 = some (.getfield 13, 3) ∧ mc_cd 173 12 = some (.iload_n 1, 1) ∧ mc_cd 173 13 = some (.baload, 1) := by decide +kernel
theorem c173_0 : mc_cd 173 0 = some (.iload_n 1, 1) := cg173_0.1
theorem c173_1 : mc_cd 173 1 = some (.aload_n 0, 1) := cg173_0.2.1
theorem c173_2 : mc_cd 173 2 = some (.getfield 61, 3) := cg173_0.2.2.1
theorem c173_5 : mc_cd 173 5 = some (.if_icmp .ge 16, 3) := cg173_0.2.2.2.1
theorem c173_8 : mc_cd 173 8 = some (.aload_n 0, 1) := cg173_0.2.2.2.2.1
theorem c173_9 : mc_cd 173 9 = some (.getfield 13, 3) := cg173_0.2.2.2.2.2.1
theorem c173_12 : mc_cd 173 12 = some (.iload_n 1, 1) := cg173_0.2.2.2.2.2.2.1
theorem c173_13 : mc_cd 173 13 = some (.baload, 1) := cg173_0.2.2.2.2.2.2.2
theorem cg173_14 : mc_cd 173 14 = some (.sipush 255, 3) ∧ mc_cd 173 17 = some (.iand, 1) ∧ mc_cd 173 18 = some (.goto 4, 3) ∧ mc_cd 173 21 = some (.iconst (-1), 1) ∧ mc_cd 173 22 = some (.ireturn, 1) := by decide +kernel
theorem c173_14 : mc_cd 173 14 = some (.sipush 255, 3) := cg173_14.1
theorem c173_17 : mc_cd 173 17 = some (.iand, 1) := cg173_14.2.1
theorem c173_18 : mc_cd 173 18 = some (.goto 4, 3) := cg173_14.2.2.1
theorem c173_21 : mc_cd 173 21 = some (.iconst (-1), 1) := cg173_14.2.2.2.1
theorem c173_22 : mc_cd 173 22 = some (.ireturn, 1) := cg173_14.2.2.2.2
/-! StrikeAwakeModel.isLetter(I)Z -/
theorem e174 : wq_en 174 = some (9, 1, false, some FieldType.boolean) := rfl
theorem cg174_0 : mc_cd 174 0 = some (.iload_n 0, 1) ∧ mc_cd 174 1 = some (.bipush 97, 2) ∧ mc_cd 174 3 = some (.if_icmp .lt 13, 3) ∧ mc_cd 174 6 = some (.iload_n 0, 1) ∧ mc_cd 174 7 = some (.bipush 122, 2) ∧ mc_cd 174 9 = some (.if_icmp .gt 7, 3) ∧ mc_cd 174 12 = some (.iconst 1, 1) ∧ mc_cd 174 13 = some (.goto 4, 3) := by decide +kernel
theorem c174_0 : mc_cd 174 0 = some (.iload_n 0, 1) := cg174_0.1
theorem c174_1 : mc_cd 174 1 = some (.bipush 97, 2) := cg174_0.2.1
theorem c174_3 : mc_cd 174 3 = some (.if_icmp .lt 13, 3) := cg174_0.2.2.1
theorem c174_6 : mc_cd 174 6 = some (.iload_n 0, 1) := cg174_0.2.2.2.1
theorem c174_7 : mc_cd 174 7 = some (.bipush 122, 2) := cg174_0.2.2.2.2.1
theorem c174_9 : mc_cd 174 9 = some (.if_icmp .gt 7, 3) := cg174_0.2.2.2.2.2.1
theorem c174_12 : mc_cd 174 12 = some (.iconst 1, 1) := cg174_0.2.2.2.2.2.2.1
theorem c174_13 : mc_cd 174 13 = some (.goto 4, 3) := cg174_0.2.2.2.2.2.2.2
theorem cg174_16 : mc_cd 174 16 = some (.iconst 0, 1) ∧ mc_cd 174 17 = some (.ireturn, 1) := by decide +kernel
theorem c174_16 : mc_cd 174 16 = some (.iconst 0, 1) := cg174_16.1
theorem c174_17 : mc_cd 174 17 = some (.ireturn, 1) := cg174_16.2
/-! StrikeAwakeModel.isDigit(I)Z -/
theorem e175 : wq_en 175 = some (9, 1, false, some FieldType.boolean) := rfl
theorem cg175_0 : mc_cd 175 0 = some (.iload_n 0, 1) ∧ mc_cd 175 1 = some (.bipush 48, 2) ∧ mc_cd 175 3 = some (.if_icmp .lt 13, 3) ∧ mc_cd 175 6 = some (.iload_n 0, 1) ∧ mc_cd 175 7 = some (.bipush 57, 2) ∧ mc_cd 175 9 = some (.if_icmp .gt 7, 3) ∧ mc_cd 175 12 = some (.iconst 1, 1) ∧ mc_cd 175 13 = some (.goto 4, 3) := by decide +kernel
theorem c175_0 : mc_cd 175 0 = some (.iload_n 0, 1) := cg175_0.1
theorem c175_1 : mc_cd 175 1 = some (.bipush 48, 2) := cg175_0.2.1
theorem c175_3 : mc_cd 175 3 = some (.if_icmp .lt 13, 3) := cg175_0.2.2.1
theorem c175_6 : mc_cd 175 6 = some (.iload_n 0, 1) := cg175_0.2.2.2.1
theorem c175_7 : mc_cd 175 7 = some (.bipush 57, 2) := cg175_0.2.2.2.2.1
theorem c175_9 : mc_cd 175 9 = some (.if_icmp .gt 7, 3) := cg175_0.2.2.2.2.2.1
theorem c175_12 : mc_cd 175 12 = some (.iconst 1, 1) := cg175_0.2.2.2.2.2.2.1
theorem c175_13 : mc_cd 175 13 = some (.goto 4, 3) := cg175_0.2.2.2.2.2.2.2
theorem cg175_16 : mc_cd 175 16 = some (.iconst 0, 1) ∧ mc_cd 175 17 = some (.ireturn, 1) := by decide +kernel
theorem c175_16 : mc_cd 175 16 = some (.iconst 0, 1) := cg175_16.1
theorem c175_17 : mc_cd 175 17 = some (.ireturn, 1) := cg175_16.2
/-! StrikeAwakeModel.goesOn()V -/
theorem e172 : wq_en 172 = some (9, 3, false, none) := rfl
theorem cg172_0 : mc_cd 172 0 = some (.aload_n 0, 1) ∧ mc_cd 172 1 = some (.getfield 75, 3) ∧ mc_cd 172 4 = some (.iconst 5, 1) ∧ mc_cd 172 5 = some (.if_icmp .ne 4, 3) ∧ mc_cd 172 8 = some (.return_, 1) ∧ mc_cd 172 9 = some (.aload_n 0, 1) ∧ mc_cd 172 10 = some (.aload_n 0, 1) ∧ mc_cd 172 11 = some (.getfield 78, 3) := by decide +kernel
theorem c172_0 : mc_cd 172 0 = some (.aload_n 0, 1) := cg172_0.1
theorem c172_1 : mc_cd 172 1 = some (.getfield 75, 3) := cg172_0.2.1
theorem c172_4 : mc_cd 172 4 = some (.iconst 5, 1) := cg172_0.2.2.1
theorem c172_5 : mc_cd 172 5 = some (.if_icmp .ne 4, 3) := cg172_0.2.2.2.1
theorem c172_8 : mc_cd 172 8 = some (.return_, 1) := cg172_0.2.2.2.2.1
theorem c172_9 : mc_cd 172 9 = some (.aload_n 0, 1) := cg172_0.2.2.2.2.2.1
theorem c172_10 : mc_cd 172 10 = some (.aload_n 0, 1) := cg172_0.2.2.2.2.2.2.1
theorem c172_11 : mc_cd 172 11 = some (.getfield 78, 3) := cg172_0.2.2.2.2.2.2.2
theorem cg172_14 : mc_cd 172 14 = some (.invokevirtual 81, 3) ∧ mc_cd 172 17 = some (.bipush 32, 2) ∧ mc_cd 172 19 = some (.if_icmp .ne 16, 3) ∧ mc_cd 172 22 = some (.aload_n 0, 1) ∧ mc_cd 172 23 = some (.dup, 1) ∧ mc_cd 172 24 = some (.getfield 78, 3) ∧ mc_cd 172 27 = some (.iconst 1, 1) ∧ mc_cd 172 28 = some (.iadd, 1) := by decide +kernel
theorem c172_14 : mc_cd 172 14 = some (.invokevirtual 81, 3) := cg172_14.1
theorem c172_17 : mc_cd 172 17 = some (.bipush 32, 2) := cg172_14.2.1
theorem c172_19 : mc_cd 172 19 = some (.if_icmp .ne 16, 3) := cg172_14.2.2.1
theorem c172_22 : mc_cd 172 22 = some (.aload_n 0, 1) := cg172_14.2.2.2.1
theorem c172_23 : mc_cd 172 23 = some (.dup, 1) := cg172_14.2.2.2.2.1
theorem c172_24 : mc_cd 172 24 = some (.getfield 78, 3) := cg172_14.2.2.2.2.2.1
theorem c172_27 : mc_cd 172 27 = some (.iconst 1, 1) := cg172_14.2.2.2.2.2.2.1
theorem c172_28 : mc_cd 172 28 = some (.iadd, 1) := cg172_14.2.2.2.2.2.2.2
theorem cg172_29 : mc_cd 172 29 = some (.putfield 78, 3) ∧ mc_cd 172 32 = some (.goto (-23), 3) ∧ mc_cd 172 35 = some (.aload_n 0, 1) ∧ mc_cd 172 36 = some (.aload_n 0, 1) ∧ mc_cd 172 37 = some (.getfield 78, 3) ∧ mc_cd 172 40 = some (.putfield 84, 3) ∧ mc_cd 172 43 = some (.aload_n 0, 1) ∧ mc_cd 172 44 = some (.iconst 0, 1) := by decide +kernel
theorem c172_29 : mc_cd 172 29 = some (.putfield 78, 3) := cg172_29.1
theorem c172_32 : mc_cd 172 32 = some (.goto (-23), 3) := cg172_29.2.1
theorem c172_35 : mc_cd 172 35 = some (.aload_n 0, 1) := cg172_29.2.2.1
theorem c172_36 : mc_cd 172 36 = some (.aload_n 0, 1) := cg172_29.2.2.2.1
theorem c172_37 : mc_cd 172 37 = some (.getfield 78, 3) := cg172_29.2.2.2.2.1
theorem c172_40 : mc_cd 172 40 = some (.putfield 84, 3) := cg172_29.2.2.2.2.2.1
theorem c172_43 : mc_cd 172 43 = some (.aload_n 0, 1) := cg172_29.2.2.2.2.2.2.1
theorem c172_44 : mc_cd 172 44 = some (.iconst 0, 1) := cg172_29.2.2.2.2.2.2.2
theorem cg172_45 : mc_cd 172 45 = some (.putfield 75, 3) ∧ mc_cd 172 48 = some (.aload_n 0, 1) ∧ mc_cd 172 49 = some (.iconst 0, 1) ∧ mc_cd 172 50 = some (.putfield 87, 3) ∧ mc_cd 172 53 = some (.aload_n 0, 1) ∧ mc_cd 172 54 = some (.aload_n 0, 1) ∧ mc_cd 172 55 = some (.getfield 78, 3) ∧ mc_cd 172 58 = some (.invokevirtual 81, 3) := by decide +kernel
theorem c172_45 : mc_cd 172 45 = some (.putfield 75, 3) := cg172_45.1
theorem c172_48 : mc_cd 172 48 = some (.aload_n 0, 1) := cg172_45.2.1
theorem c172_49 : mc_cd 172 49 = some (.iconst 0, 1) := cg172_45.2.2.1
theorem c172_50 : mc_cd 172 50 = some (.putfield 87, 3) := cg172_45.2.2.2.1
theorem c172_53 : mc_cd 172 53 = some (.aload_n 0, 1) := cg172_45.2.2.2.2.1
theorem c172_54 : mc_cd 172 54 = some (.aload_n 0, 1) := cg172_45.2.2.2.2.2.1
theorem c172_55 : mc_cd 172 55 = some (.getfield 78, 3) := cg172_45.2.2.2.2.2.2.1
theorem c172_58 : mc_cd 172 58 = some (.invokevirtual 81, 3) := cg172_45.2.2.2.2.2.2.2
theorem cg172_61 : mc_cd 172 61 = some (.istore_n 1, 1) ∧ mc_cd 172 62 = some (.iconst 0, 1) ∧ mc_cd 172 63 = some (.istore_n 2, 1) ∧ mc_cd 172 64 = some (.iload_n 1, 1) ∧ mc_cd 172 65 = some (.iconst (-1), 1) ∧ mc_cd 172 66 = some (.if_icmp .ne 11, 3) ∧ mc_cd 172 69 = some (.aload_n 0, 1) ∧ mc_cd 172 70 = some (.iconst 1, 1) := by decide +kernel
theorem c172_61 : mc_cd 172 61 = some (.istore_n 1, 1) := cg172_61.1
theorem c172_62 : mc_cd 172 62 = some (.iconst 0, 1) := cg172_61.2.1
theorem c172_63 : mc_cd 172 63 = some (.istore_n 2, 1) := cg172_61.2.2.1
theorem c172_64 : mc_cd 172 64 = some (.iload_n 1, 1) := cg172_61.2.2.2.1
theorem c172_65 : mc_cd 172 65 = some (.iconst (-1), 1) := cg172_61.2.2.2.2.1
theorem c172_66 : mc_cd 172 66 = some (.if_icmp .ne 11, 3) := cg172_61.2.2.2.2.2.1
theorem c172_69 : mc_cd 172 69 = some (.aload_n 0, 1) := cg172_61.2.2.2.2.2.2.1
theorem c172_70 : mc_cd 172 70 = some (.iconst 1, 1) := cg172_61.2.2.2.2.2.2.2
theorem cg172_71 : mc_cd 172 71 = some (.putfield 75, 3) ∧ mc_cd 172 74 = some (.goto 207, 3) ∧ mc_cd 172 77 = some (.iload_n 1, 1) ∧ mc_cd 172 78 = some (.invokestatic 90, 3) ∧ mc_cd 172 81 = some (.ifCond .eq 85, 3) ∧ mc_cd 172 84 = some (.aload_n 0, 1) ∧ mc_cd 172 85 = some (.lconst 0, 1) ∧ mc_cd 172 86 = some (.putfield 94, 3) := by decide +kernel
theorem c172_71 : mc_cd 172 71 = some (.putfield 75, 3) := cg172_71.1
theorem c172_74 : mc_cd 172 74 = some (.goto 207, 3) := cg172_71.2.1
theorem c172_77 : mc_cd 172 77 = some (.iload_n 1, 1) := cg172_71.2.2.1
theorem c172_78 : mc_cd 172 78 = some (.invokestatic 90, 3) := cg172_71.2.2.2.1
theorem c172_81 : mc_cd 172 81 = some (.ifCond .eq 85, 3) := cg172_71.2.2.2.2.1
theorem c172_84 : mc_cd 172 84 = some (.aload_n 0, 1) := cg172_71.2.2.2.2.2.1
theorem c172_85 : mc_cd 172 85 = some (.lconst 0, 1) := cg172_71.2.2.2.2.2.2.1
theorem c172_86 : mc_cd 172 86 = some (.putfield 94, 3) := cg172_71.2.2.2.2.2.2.2
theorem cg172_89 : mc_cd 172 89 = some (.aload_n 0, 1) ∧ mc_cd 172 90 = some (.aload_n 0, 1) ∧ mc_cd 172 91 = some (.getfield 78, 3) ∧ mc_cd 172 94 = some (.invokevirtual 81, 3) ∧ mc_cd 172 97 = some (.invokestatic 90, 3) ∧ mc_cd 172 100 = some (.ifCond .eq 52, 3) ∧ mc_cd 172 103 = some (.iload_n 2, 1) ∧ mc_cd 172 104 = some (.bipush 8, 2) := by decide +kernel
theorem c172_89 : mc_cd 172 89 = some (.aload_n 0, 1) := cg172_89.1
theorem c172_90 : mc_cd 172 90 = some (.aload_n 0, 1) := cg172_89.2.1
theorem c172_91 : mc_cd 172 91 = some (.getfield 78, 3) := cg172_89.2.2.1
theorem c172_94 : mc_cd 172 94 = some (.invokevirtual 81, 3) := cg172_89.2.2.2.1
theorem c172_97 : mc_cd 172 97 = some (.invokestatic 90, 3) := cg172_89.2.2.2.2.1
theorem c172_100 : mc_cd 172 100 = some (.ifCond .eq 52, 3) := cg172_89.2.2.2.2.2.1
theorem c172_103 : mc_cd 172 103 = some (.iload_n 2, 1) := cg172_89.2.2.2.2.2.2.1
theorem c172_104 : mc_cd 172 104 = some (.bipush 8, 2) := cg172_89.2.2.2.2.2.2.2
theorem cg172_106 : mc_cd 172 106 = some (.if_icmp .ge 30, 3) ∧ mc_cd 172 109 = some (.aload_n 0, 1) ∧ mc_cd 172 110 = some (.ldc2_w 69, 3) ∧ mc_cd 172 113 = some (.aload_n 0, 1) ∧ mc_cd 172 114 = some (.getfield 94, 3) ∧ mc_cd 172 117 = some (.lmul, 1) ∧ mc_cd 172 118 = some (.aload_n 0, 1) ∧ mc_cd 172 119 = some (.aload_n 0, 1) := by decide +kernel
theorem c172_106 : mc_cd 172 106 = some (.if_icmp .ge 30, 3) := cg172_106.1
theorem c172_109 : mc_cd 172 109 = some (.aload_n 0, 1) := cg172_106.2.1
theorem c172_110 : mc_cd 172 110 = some (.ldc2_w 69, 3) := cg172_106.2.2.1
theorem c172_113 : mc_cd 172 113 = some (.aload_n 0, 1) := cg172_106.2.2.2.1
theorem c172_114 : mc_cd 172 114 = some (.getfield 94, 3) := cg172_106.2.2.2.2.1
theorem c172_117 : mc_cd 172 117 = some (.lmul, 1) := cg172_106.2.2.2.2.2.1
theorem c172_118 : mc_cd 172 118 = some (.aload_n 0, 1) := cg172_106.2.2.2.2.2.2.1
theorem c172_119 : mc_cd 172 119 = some (.aload_n 0, 1) := cg172_106.2.2.2.2.2.2.2
theorem cg172_120 : mc_cd 172 120 = some (.getfield 78, 3) ∧ mc_cd 172 123 = some (.invokevirtual 81, 3) ∧ mc_cd 172 126 = some (.bipush 97, 2) ∧ mc_cd 172 128 = some (.isub, 1) ∧ mc_cd 172 129 = some (.iconst 1, 1) ∧ mc_cd 172 130 = some (.iadd, 1) ∧ mc_cd 172 131 = some (.i2l, 1) ∧ mc_cd 172 132 = some (.ladd, 1) := by decide +kernel
theorem c172_120 : mc_cd 172 120 = some (.getfield 78, 3) := cg172_120.1
theorem c172_123 : mc_cd 172 123 = some (.invokevirtual 81, 3) := cg172_120.2.1
theorem c172_126 : mc_cd 172 126 = some (.bipush 97, 2) := cg172_120.2.2.1
theorem c172_128 : mc_cd 172 128 = some (.isub, 1) := cg172_120.2.2.2.1
theorem c172_129 : mc_cd 172 129 = some (.iconst 1, 1) := cg172_120.2.2.2.2.1
theorem c172_130 : mc_cd 172 130 = some (.iadd, 1) := cg172_120.2.2.2.2.2.1
theorem c172_131 : mc_cd 172 131 = some (.i2l, 1) := cg172_120.2.2.2.2.2.2.1
theorem c172_132 : mc_cd 172 132 = some (.ladd, 1) := cg172_120.2.2.2.2.2.2.2
theorem cg172_133 : mc_cd 172 133 = some (.putfield 94, 3) ∧ mc_cd 172 136 = some (.iinc 2 1, 3) ∧ mc_cd 172 139 = some (.aload_n 0, 1) ∧ mc_cd 172 140 = some (.dup, 1) ∧ mc_cd 172 141 = some (.getfield 78, 3) ∧ mc_cd 172 144 = some (.iconst 1, 1) ∧ mc_cd 172 145 = some (.iadd, 1) ∧ mc_cd 172 146 = some (.putfield 78, 3) := by decide +kernel
theorem c172_133 : mc_cd 172 133 = some (.putfield 94, 3) := cg172_133.1
theorem c172_136 : mc_cd 172 136 = some (.iinc 2 1, 3) := cg172_133.2.1
theorem c172_139 : mc_cd 172 139 = some (.aload_n 0, 1) := cg172_133.2.2.1
theorem c172_140 : mc_cd 172 140 = some (.dup, 1) := cg172_133.2.2.2.1
theorem c172_141 : mc_cd 172 141 = some (.getfield 78, 3) := cg172_133.2.2.2.2.1
theorem c172_144 : mc_cd 172 144 = some (.iconst 1, 1) := cg172_133.2.2.2.2.2.1
theorem c172_145 : mc_cd 172 145 = some (.iadd, 1) := cg172_133.2.2.2.2.2.2.1
theorem c172_146 : mc_cd 172 146 = some (.putfield 78, 3) := cg172_133.2.2.2.2.2.2.2
theorem cg172_149 : mc_cd 172 149 = some (.goto (-60), 3) ∧ mc_cd 172 152 = some (.iload_n 2, 1) ∧ mc_cd 172 153 = some (.bipush 8, 2) ∧ mc_cd 172 155 = some (.if_icmp .gt 126, 3) ∧ mc_cd 172 158 = some (.aload_n 0, 1) ∧ mc_cd 172 159 = some (.iconst 2, 1) ∧ mc_cd 172 160 = some (.putfield 75, 3) ∧ mc_cd 172 163 = some (.goto 118, 3) := by decide +kernel
theorem c172_149 : mc_cd 172 149 = some (.goto (-60), 3) := cg172_149.1
theorem c172_152 : mc_cd 172 152 = some (.iload_n 2, 1) := cg172_149.2.1
theorem c172_153 : mc_cd 172 153 = some (.bipush 8, 2) := cg172_149.2.2.1
theorem c172_155 : mc_cd 172 155 = some (.if_icmp .gt 126, 3) := cg172_149.2.2.2.1
theorem c172_158 : mc_cd 172 158 = some (.aload_n 0, 1) := cg172_149.2.2.2.2.1
theorem c172_159 : mc_cd 172 159 = some (.iconst 2, 1) := cg172_149.2.2.2.2.2.1
theorem c172_160 : mc_cd 172 160 = some (.putfield 75, 3) := cg172_149.2.2.2.2.2.2.1
theorem c172_163 : mc_cd 172 163 = some (.goto 118, 3) := cg172_149.2.2.2.2.2.2.2
theorem cg172_166 : mc_cd 172 166 = some (.iload_n 1, 1) ∧ mc_cd 172 167 = some (.invokestatic 98, 3) ∧ mc_cd 172 170 = some (.ifCond .eq 79, 3) ∧ mc_cd 172 173 = some (.aload_n 0, 1) ∧ mc_cd 172 174 = some (.iconst 0, 1) ∧ mc_cd 172 175 = some (.putfield 101, 3) ∧ mc_cd 172 178 = some (.aload_n 0, 1) ∧ mc_cd 172 179 = some (.aload_n 0, 1) := by decide +kernel
theorem c172_166 : mc_cd 172 166 = some (.iload_n 1, 1) := cg172_166.1
theorem c172_167 : mc_cd 172 167 = some (.invokestatic 98, 3) := cg172_166.2.1
theorem c172_170 : mc_cd 172 170 = some (.ifCond .eq 79, 3) := cg172_166.2.2.1
theorem c172_173 : mc_cd 172 173 = some (.aload_n 0, 1) := cg172_166.2.2.2.1
theorem c172_174 : mc_cd 172 174 = some (.iconst 0, 1) := cg172_166.2.2.2.2.1
theorem c172_175 : mc_cd 172 175 = some (.putfield 101, 3) := cg172_166.2.2.2.2.2.1
theorem c172_178 : mc_cd 172 178 = some (.aload_n 0, 1) := cg172_166.2.2.2.2.2.2.1
theorem c172_179 : mc_cd 172 179 = some (.aload_n 0, 1) := cg172_166.2.2.2.2.2.2.2
theorem cg172_180 : mc_cd 172 180 = some (.getfield 78, 3) ∧ mc_cd 172 183 = some (.invokevirtual 81, 3) ∧ mc_cd 172 186 = some (.invokestatic 98, 3) ∧ mc_cd 172 189 = some (.ifCond .eq 47, 3) ∧ mc_cd 172 192 = some (.iload_n 2, 1) ∧ mc_cd 172 193 = some (.iconst 3, 1) ∧ mc_cd 172 194 = some (.if_icmp .ge 26, 3) ∧ mc_cd 172 197 = some (.aload_n 0, 1) := by decide +kernel
theorem c172_180 : mc_cd 172 180 = some (.getfield 78, 3) := cg172_180.1
theorem c172_183 : mc_cd 172 183 = some (.invokevirtual 81, 3) := cg172_180.2.1
theorem c172_186 : mc_cd 172 186 = some (.invokestatic 98, 3) := cg172_180.2.2.1
theorem c172_189 : mc_cd 172 189 = some (.ifCond .eq 47, 3) := cg172_180.2.2.2.1
theorem c172_192 : mc_cd 172 192 = some (.iload_n 2, 1) := cg172_180.2.2.2.2.1
theorem c172_193 : mc_cd 172 193 = some (.iconst 3, 1) := cg172_180.2.2.2.2.2.1
theorem c172_194 : mc_cd 172 194 = some (.if_icmp .ge 26, 3) := cg172_180.2.2.2.2.2.2.1
theorem c172_197 : mc_cd 172 197 = some (.aload_n 0, 1) := cg172_180.2.2.2.2.2.2.2
theorem cg172_198 : mc_cd 172 198 = some (.bipush 10, 2) ∧ mc_cd 172 200 = some (.aload_n 0, 1) ∧ mc_cd 172 201 = some (.getfield 101, 3) ∧ mc_cd 172 204 = some (.imul, 1) ∧ mc_cd 172 205 = some (.aload_n 0, 1) ∧ mc_cd 172 206 = some (.aload_n 0, 1) ∧ mc_cd 172 207 = some (.getfield 78, 3) ∧ mc_cd 172 210 = some (.invokevirtual 81, 3) := by decide +kernel
theorem c172_198 : mc_cd 172 198 = some (.bipush 10, 2) := cg172_198.1
theorem c172_200 : mc_cd 172 200 = some (.aload_n 0, 1) := cg172_198.2.1
theorem c172_201 : mc_cd 172 201 = some (.getfield 101, 3) := cg172_198.2.2.1
theorem c172_204 : mc_cd 172 204 = some (.imul, 1) := cg172_198.2.2.2.1
theorem c172_205 : mc_cd 172 205 = some (.aload_n 0, 1) := cg172_198.2.2.2.2.1
theorem c172_206 : mc_cd 172 206 = some (.aload_n 0, 1) := cg172_198.2.2.2.2.2.1
theorem c172_207 : mc_cd 172 207 = some (.getfield 78, 3) := cg172_198.2.2.2.2.2.2.1
theorem c172_210 : mc_cd 172 210 = some (.invokevirtual 81, 3) := cg172_198.2.2.2.2.2.2.2
theorem cg172_213 : mc_cd 172 213 = some (.iadd, 1) ∧ mc_cd 172 214 = some (.bipush 48, 2) ∧ mc_cd 172 216 = some (.isub, 1) ∧ mc_cd 172 217 = some (.putfield 101, 3) ∧ mc_cd 172 220 = some (.iinc 2 1, 3) ∧ mc_cd 172 223 = some (.aload_n 0, 1) ∧ mc_cd 172 224 = some (.dup, 1) ∧ mc_cd 172 225 = some (.getfield 78, 3) := by decide +kernel
theorem c172_213 : mc_cd 172 213 = some (.iadd, 1) := cg172_213.1
theorem c172_214 : mc_cd 172 214 = some (.bipush 48, 2) := cg172_213.2.1
theorem c172_216 : mc_cd 172 216 = some (.isub, 1) := cg172_213.2.2.1
theorem c172_217 : mc_cd 172 217 = some (.putfield 101, 3) := cg172_213.2.2.2.1
theorem c172_220 : mc_cd 172 220 = some (.iinc 2 1, 3) := cg172_213.2.2.2.2.1
theorem c172_223 : mc_cd 172 223 = some (.aload_n 0, 1) := cg172_213.2.2.2.2.2.1
theorem c172_224 : mc_cd 172 224 = some (.dup, 1) := cg172_213.2.2.2.2.2.2.1
theorem c172_225 : mc_cd 172 225 = some (.getfield 78, 3) := cg172_213.2.2.2.2.2.2.2
theorem cg172_228 : mc_cd 172 228 = some (.iconst 1, 1) ∧ mc_cd 172 229 = some (.iadd, 1) ∧ mc_cd 172 230 = some (.putfield 78, 3) ∧ mc_cd 172 233 = some (.goto (-55), 3) ∧ mc_cd 172 236 = some (.iload_n 2, 1) ∧ mc_cd 172 237 = some (.iconst 3, 1) ∧ mc_cd 172 238 = some (.if_icmp .gt 43, 3) ∧ mc_cd 172 241 = some (.aload_n 0, 1) := by decide +kernel
theorem c172_228 : mc_cd 172 228 = some (.iconst 1, 1) := cg172_228.1
theorem c172_229 : mc_cd 172 229 = some (.iadd, 1) := cg172_228.2.1
theorem c172_230 : mc_cd 172 230 = some (.putfield 78, 3) := cg172_228.2.2.1
theorem c172_233 : mc_cd 172 233 = some (.goto (-55), 3) := cg172_228.2.2.2.1
theorem c172_236 : mc_cd 172 236 = some (.iload_n 2, 1) := cg172_228.2.2.2.2.1
theorem c172_237 : mc_cd 172 237 = some (.iconst 3, 1) := cg172_228.2.2.2.2.2.1
theorem c172_238 : mc_cd 172 238 = some (.if_icmp .gt 43, 3) := cg172_228.2.2.2.2.2.2.1
theorem c172_241 : mc_cd 172 241 = some (.aload_n 0, 1) := cg172_228.2.2.2.2.2.2.2
theorem cg172_242 : mc_cd 172 242 = some (.iconst 3, 1) ∧ mc_cd 172 243 = some (.putfield 75, 3) ∧ mc_cd 172 246 = some (.goto 35, 3) ∧ mc_cd 172 249 = some (.iload_n 1, 1) ∧ mc_cd 172 250 = some (.bipush 59, 2) ∧ mc_cd 172 252 = some (.if_icmp .eq 9, 3) ∧ mc_cd 172 255 = some (.iload_n 1, 1) ∧ mc_cd 172 256 = some (.bipush 44, 2) := by decide +kernel
theorem c172_242 : mc_cd 172 242 = some (.iconst 3, 1) := cg172_242.1
theorem c172_243 : mc_cd 172 243 = some (.putfield 75, 3) := cg172_242.2.1
theorem c172_246 : mc_cd 172 246 = some (.goto 35, 3) := cg172_242.2.2.1
theorem c172_249 : mc_cd 172 249 = some (.iload_n 1, 1) := cg172_242.2.2.2.1
theorem c172_250 : mc_cd 172 250 = some (.bipush 59, 2) := cg172_242.2.2.2.2.1
theorem c172_252 : mc_cd 172 252 = some (.if_icmp .eq 9, 3) := cg172_242.2.2.2.2.2.1
theorem c172_255 : mc_cd 172 255 = some (.iload_n 1, 1) := cg172_242.2.2.2.2.2.2.1
theorem c172_256 : mc_cd 172 256 = some (.bipush 44, 2) := cg172_242.2.2.2.2.2.2.2
theorem cg172_258 : mc_cd 172 258 = some (.if_icmp .ne 23, 3) ∧ mc_cd 172 261 = some (.aload_n 0, 1) ∧ mc_cd 172 262 = some (.iconst 4, 1) ∧ mc_cd 172 263 = some (.putfield 75, 3) ∧ mc_cd 172 266 = some (.aload_n 0, 1) ∧ mc_cd 172 267 = some (.iload_n 1, 1) ∧ mc_cd 172 268 = some (.putfield 87, 3) ∧ mc_cd 172 271 = some (.aload_n 0, 1) := by decide +kernel
theorem c172_258 : mc_cd 172 258 = some (.if_icmp .ne 23, 3) := cg172_258.1
theorem c172_261 : mc_cd 172 261 = some (.aload_n 0, 1) := cg172_258.2.1
theorem c172_262 : mc_cd 172 262 = some (.iconst 4, 1) := cg172_258.2.2.1
theorem c172_263 : mc_cd 172 263 = some (.putfield 75, 3) := cg172_258.2.2.2.1
theorem c172_266 : mc_cd 172 266 = some (.aload_n 0, 1) := cg172_258.2.2.2.2.1
theorem c172_267 : mc_cd 172 267 = some (.iload_n 1, 1) := cg172_258.2.2.2.2.2.1
theorem c172_268 : mc_cd 172 268 = some (.putfield 87, 3) := cg172_258.2.2.2.2.2.2.1
theorem c172_271 : mc_cd 172 271 = some (.aload_n 0, 1) := cg172_258.2.2.2.2.2.2.2
theorem cg172_272 : mc_cd 172 272 = some (.dup, 1) ∧ mc_cd 172 273 = some (.getfield 78, 3) ∧ mc_cd 172 276 = some (.iconst 1, 1) ∧ mc_cd 172 277 = some (.iadd, 1) ∧ mc_cd 172 278 = some (.putfield 78, 3) ∧ mc_cd 172 281 = some (.return_, 1) := by decide +kernel
theorem c172_272 : mc_cd 172 272 = some (.dup, 1) := cg172_272.1
theorem c172_273 : mc_cd 172 273 = some (.getfield 78, 3) := cg172_272.2.1
theorem c172_276 : mc_cd 172 276 = some (.iconst 1, 1) := cg172_272.2.2.1
theorem c172_277 : mc_cd 172 277 = some (.iadd, 1) := cg172_272.2.2.2.1
theorem c172_278 : mc_cd 172 278 = some (.putfield 78, 3) := cg172_272.2.2.2.2.1
theorem c172_281 : mc_cd 172 281 = some (.return_, 1) := cg172_272.2.2.2.2.2
end
section
/-! methods of the reference (own work, written by wip/gen2/sx.py) -/
/-! StrikeAwakeModel.wordOf(Ljava/lang/String;)J -/
theorem e179 : wq_en 179 = some (9, 4, false, some FieldType.long) := rfl
theorem cg179_0 : mc_cd 179 0 = some (.lconst 0, 1) ∧ mc_cd 179 1 = some (.lstore_n 1, 1) ∧ mc_cd 179 2 = some (.iconst 0, 1) ∧ mc_cd 179 3 = some (.istore_n 3, 1) ∧ mc_cd 179 4 = some (.iload_n 3, 1) ∧ mc_cd 179 5 = some (.aload_n 0, 1) ∧ mc_cd 179 6 = some (.invokevirtual 64, 3) ∧ mc_cd 179 9 = some (.if_icmp .ge 27, 3) := by decide +kernel
theorem c179_0 : mc_cd 179 0 = some (.lconst 0, 1) := cg179_0.1
theorem c179_1 : mc_cd 179 1 = some (.lstore_n 1, 1) := cg179_0.2.1
theorem c179_2 : mc_cd 179 2 = some (.iconst 0, 1) := cg179_0.2.2.1
theorem c179_3 : mc_cd 179 3 = some (.istore_n 3, 1) := cg179_0.2.2.2.1
theorem c179_4 : mc_cd 179 4 = some (.iload_n 3, 1) := cg179_0.2.2.2.2.1
theorem c179_5 : mc_cd 179 5 = some (.aload_n 0, 1) := cg179_0.2.2.2.2.2.1
theorem c179_6 : mc_cd 179 6 = some (.invokevirtual 64, 3) := cg179_0.2.2.2.2.2.2.1
theorem c179_9 : mc_cd 179 9 = some (.if_icmp .ge 27, 3) := cg179_0.2.2.2.2.2.2.2
theorem cg179_12 : mc_cd 179 12 = some (.ldc2_w 69, 3) ∧ mc_cd 179 15 = some (.lload_n 1, 1) ∧ mc_cd 179 16 = some (.lmul, 1) ∧ mc_cd 179 17 = some (.aload_n 0, 1) ∧ mc_cd 179 18 = some (.iload_n 3, 1) ∧ mc_cd 179 19 = some (.invokevirtual 71, 3) ∧ mc_cd 179 22 = some (.bipush 97, 2) ∧ mc_cd 179 24 = some (.isub, 1) := by decide +kernel
theorem c179_12 : mc_cd 179 12 = some (.ldc2_w 69, 3) := cg179_12.1
theorem c179_15 : mc_cd 179 15 = some (.lload_n 1, 1) := cg179_12.2.1
theorem c179_16 : mc_cd 179 16 = some (.lmul, 1) := cg179_12.2.2.1
theorem c179_17 : mc_cd 179 17 = some (.aload_n 0, 1) := cg179_12.2.2.2.1
theorem c179_18 : mc_cd 179 18 = some (.iload_n 3, 1) := cg179_12.2.2.2.2.1
theorem c179_19 : mc_cd 179 19 = some (.invokevirtual 71, 3) := cg179_12.2.2.2.2.2.1
theorem c179_22 : mc_cd 179 22 = some (.bipush 97, 2) := cg179_12.2.2.2.2.2.2.1
theorem c179_24 : mc_cd 179 24 = some (.isub, 1) := cg179_12.2.2.2.2.2.2.2
theorem cg179_25 : mc_cd 179 25 = some (.iconst 1, 1) ∧ mc_cd 179 26 = some (.iadd, 1) ∧ mc_cd 179 27 = some (.i2l, 1) ∧ mc_cd 179 28 = some (.ladd, 1) ∧ mc_cd 179 29 = some (.lstore_n 1, 1) ∧ mc_cd 179 30 = some (.iinc 3 1, 3) ∧ mc_cd 179 33 = some (.goto (-29), 3) ∧ mc_cd 179 36 = some (.lload_n 1, 1) := by decide +kernel
theorem c179_25 : mc_cd 179 25 = some (.iconst 1, 1) := cg179_25.1
theorem c179_26 : mc_cd 179 26 = some (.iadd, 1) := cg179_25.2.1
theorem c179_27 : mc_cd 179 27 = some (.i2l, 1) := cg179_25.2.2.1
theorem c179_28 : mc_cd 179 28 = some (.ladd, 1) := cg179_25.2.2.2.1
theorem c179_29 : mc_cd 179 29 = some (.lstore_n 1, 1) := cg179_25.2.2.2.2.1
theorem c179_30 : mc_cd 179 30 = some (.iinc 3 1, 3) := cg179_25.2.2.2.2.2.1
theorem c179_33 : mc_cd 179 33 = some (.goto (-29), 3) := cg179_25.2.2.2.2.2.2.1
theorem c179_36 : mc_cd 179 36 = some (.lload_n 1, 1) := cg179_25.2.2.2.2.2.2.2
theorem c179_37 : mc_cd 179 37 = some (.lreturn, 1) := by decide +kernel
/-! StrikeAwakeModel.isWord(Ljava/lang/String;)Z -/
theorem e178 : wq_en 178 = some (9, 2, false, some FieldType.boolean) := rfl
theorem cg178_0 : mc_cd 178 0 = some (.aload_n 0, 1) ∧ mc_cd 178 1 = some (.getfield 75, 3) ∧ mc_cd 178 4 = some (.iconst 2, 1) ∧ mc_cd 178 5 = some (.if_icmp .ne 19, 3) ∧ mc_cd 178 8 = some (.aload_n 0, 1) ∧ mc_cd 178 9 = some (.getfield 94, 3) ∧ mc_cd 178 12 = some (.aload_n 1, 1) ∧ mc_cd 178 13 = some (.invokestatic 110, 3) := by decide +kernel
theorem c178_0 : mc_cd 178 0 = some (.aload_n 0, 1) := cg178_0.1
theorem c178_1 : mc_cd 178 1 = some (.getfield 75, 3) := cg178_0.2.1
theorem c178_4 : mc_cd 178 4 = some (.iconst 2, 1) := cg178_0.2.2.1
theorem c178_5 : mc_cd 178 5 = some (.if_icmp .ne 19, 3) := cg178_0.2.2.2.1
theorem c178_8 : mc_cd 178 8 = some (.aload_n 0, 1) := cg178_0.2.2.2.2.1
theorem c178_9 : mc_cd 178 9 = some (.getfield 94, 3) := cg178_0.2.2.2.2.2.1
theorem c178_12 : mc_cd 178 12 = some (.aload_n 1, 1) := cg178_0.2.2.2.2.2.2.1
theorem c178_13 : mc_cd 178 13 = some (.invokestatic 110, 3) := cg178_0.2.2.2.2.2.2.2
theorem cg178_16 : mc_cd 178 16 = some (.lcmp, 1) ∧ mc_cd 178 17 = some (.ifCond .ne 7, 3) ∧ mc_cd 178 20 = some (.iconst 1, 1) ∧ mc_cd 178 21 = some (.goto 4, 3) ∧ mc_cd 178 24 = some (.iconst 0, 1) ∧ mc_cd 178 25 = some (.ireturn, 1) := by decide +kernel
theorem c178_16 : mc_cd 178 16 = some (.lcmp, 1) := cg178_16.1
theorem c178_17 : mc_cd 178 17 = some (.ifCond .ne 7, 3) := cg178_16.2.1
theorem c178_20 : mc_cd 178 20 = some (.iconst 1, 1) := cg178_16.2.2.1
theorem c178_21 : mc_cd 178 21 = some (.goto 4, 3) := cg178_16.2.2.2.1
theorem c178_24 : mc_cd 178 24 = some (.iconst 0, 1) := cg178_16.2.2.2.2.1
theorem c178_25 : mc_cd 178 25 = some (.ireturn, 1) := cg178_16.2.2.2.2.2
/-! StrikeAwakeModel.wrong(I)V -/
theorem e181 : wq_en 181 = some (9, 2, false, none) := rfl
theorem cg181_0 : mc_cd 181 0 = some (.aload_n 0, 1) ∧ mc_cd 181 1 = some (.getfield 75, 3) ∧ mc_cd 181 4 = some (.iconst 5, 1) ∧ mc_cd 181 5 = some (.if_icmp .ne 4, 3) ∧ mc_cd 181 8 = some (.return_, 1) ∧ mc_cd 181 9 = some (.aload_n 0, 1) ∧ mc_cd 181 10 = some (.iload_n 1, 1) ∧ mc_cd 181 11 = some (.putfield 104, 3) := by decide +kernel
theorem c181_0 : mc_cd 181 0 = some (.aload_n 0, 1) := cg181_0.1
theorem c181_1 : mc_cd 181 1 = some (.getfield 75, 3) := cg181_0.2.1
theorem c181_4 : mc_cd 181 4 = some (.iconst 5, 1) := cg181_0.2.2.1
theorem c181_5 : mc_cd 181 5 = some (.if_icmp .ne 4, 3) := cg181_0.2.2.2.1
theorem c181_8 : mc_cd 181 8 = some (.return_, 1) := cg181_0.2.2.2.2.1
theorem c181_9 : mc_cd 181 9 = some (.aload_n 0, 1) := cg181_0.2.2.2.2.2.1
theorem c181_10 : mc_cd 181 10 = some (.iload_n 1, 1) := cg181_0.2.2.2.2.2.2.1
theorem c181_11 : mc_cd 181 11 = some (.putfield 104, 3) := cg181_0.2.2.2.2.2.2.2
theorem cg181_14 : mc_cd 181 14 = some (.aload_n 0, 1) ∧ mc_cd 181 15 = some (.aload_n 0, 1) ∧ mc_cd 181 16 = some (.getfield 84, 3) ∧ mc_cd 181 19 = some (.putfield 107, 3) ∧ mc_cd 181 22 = some (.aload_n 0, 1) ∧ mc_cd 181 23 = some (.iconst 5, 1) ∧ mc_cd 181 24 = some (.putfield 75, 3) ∧ mc_cd 181 27 = some (.return_, 1) := by decide +kernel
theorem c181_14 : mc_cd 181 14 = some (.aload_n 0, 1) := cg181_14.1
theorem c181_15 : mc_cd 181 15 = some (.aload_n 0, 1) := cg181_14.2.1
theorem c181_16 : mc_cd 181 16 = some (.getfield 84, 3) := cg181_14.2.2.1
theorem c181_19 : mc_cd 181 19 = some (.putfield 107, 3) := cg181_14.2.2.2.1
theorem c181_22 : mc_cd 181 22 = some (.aload_n 0, 1) := cg181_14.2.2.2.2.1
theorem c181_23 : mc_cd 181 23 = some (.iconst 5, 1) := cg181_14.2.2.2.2.2.1
theorem c181_24 : mc_cd 181 24 = some (.putfield 75, 3) := cg181_14.2.2.2.2.2.2.1
theorem c181_27 : mc_cd 181 27 = some (.return_, 1) := cg181_14.2.2.2.2.2.2.2
/-! StrikeAwakeModel.needs(Ljava/lang/String;)V -/
theorem e183 : wq_en 183 = some (9, 2, false, none) := rfl
theorem cg183_0 : mc_cd 183 0 = some (.aload_n 0, 1) ∧ mc_cd 183 1 = some (.aload_n 1, 1) ∧ mc_cd 183 2 = some (.invokevirtual 114, 3) ∧ mc_cd 183 5 = some (.ifCond .ne 8, 3) ∧ mc_cd 183 8 = some (.aload_n 0, 1) ∧ mc_cd 183 9 = some (.iconst 1, 1) ∧ mc_cd 183 10 = some (.invokevirtual 121, 3) ∧ mc_cd 183 13 = some (.aload_n 0, 1) := by decide +kernel
theorem c183_0 : mc_cd 183 0 = some (.aload_n 0, 1) := cg183_0.1
theorem c183_1 : mc_cd 183 1 = some (.aload_n 1, 1) := cg183_0.2.1
theorem c183_2 : mc_cd 183 2 = some (.invokevirtual 114, 3) := cg183_0.2.2.1
theorem c183_5 : mc_cd 183 5 = some (.ifCond .ne 8, 3) := cg183_0.2.2.2.1
theorem c183_8 : mc_cd 183 8 = some (.aload_n 0, 1) := cg183_0.2.2.2.2.1
theorem c183_9 : mc_cd 183 9 = some (.iconst 1, 1) := cg183_0.2.2.2.2.2.1
theorem c183_10 : mc_cd 183 10 = some (.invokevirtual 121, 3) := cg183_0.2.2.2.2.2.2.1
theorem c183_13 : mc_cd 183 13 = some (.aload_n 0, 1) := cg183_0.2.2.2.2.2.2.2
theorem cg183_14 : mc_cd 183 14 = some (.invokevirtual 118, 3) ∧ mc_cd 183 17 = some (.return_, 1) := by decide +kernel
theorem c183_14 : mc_cd 183 14 = some (.invokevirtual 118, 3) := cg183_14.1
theorem c183_17 : mc_cd 183 17 = some (.return_, 1) := cg183_14.2
/-! StrikeAwakeModel.in(III)Z -/
theorem e186 : wq_en 186 = some (9, 3, false, some FieldType.boolean) := rfl
theorem cg186_0 : mc_cd 186 0 = some (.iload_n 0, 1) ∧ mc_cd 186 1 = some (.iload_n 1, 1) ∧ mc_cd 186 2 = some (.if_icmp .lt 12, 3) ∧ mc_cd 186 5 = some (.iload_n 0, 1) ∧ mc_cd 186 6 = some (.iload_n 2, 1) ∧ mc_cd 186 7 = some (.if_icmp .gt 7, 3) ∧ mc_cd 186 10 = some (.iconst 1, 1) ∧ mc_cd 186 11 = some (.goto 4, 3) := by decide +kernel
theorem c186_0 : mc_cd 186 0 = some (.iload_n 0, 1) := cg186_0.1
theorem c186_1 : mc_cd 186 1 = some (.iload_n 1, 1) := cg186_0.2.1
theorem c186_2 : mc_cd 186 2 = some (.if_icmp .lt 12, 3) := cg186_0.2.2.1
theorem c186_5 : mc_cd 186 5 = some (.iload_n 0, 1) := cg186_0.2.2.2.1
theorem c186_6 : mc_cd 186 6 = some (.iload_n 2, 1) := cg186_0.2.2.2.2.1
theorem c186_7 : mc_cd 186 7 = some (.if_icmp .gt 7, 3) := cg186_0.2.2.2.2.2.1
theorem c186_10 : mc_cd 186 10 = some (.iconst 1, 1) := cg186_0.2.2.2.2.2.2.1
theorem c186_11 : mc_cd 186 11 = some (.goto 4, 3) := cg186_0.2.2.2.2.2.2.2
theorem cg186_14 : mc_cd 186 14 = some (.iconst 0, 1) ∧ mc_cd 186 15 = some (.ireturn, 1) := by decide +kernel
theorem c186_14 : mc_cd 186 14 = some (.iconst 0, 1) := cg186_14.1
theorem c186_15 : mc_cd 186 15 = some (.ireturn, 1) := cg186_14.2
abbrev q_186 (a0 : Int) (a1 : Int) (a2 : Int) (T : wq_T) (H : wq_H) : Option Value → wq_T → wq_H → Prop := fun r T' H' => T = T' ∧ H = H' ∧ ∃ z : Int, some (vI z) = r ∧ (0 ≤ z ∧ z ≤ 1) ∧ (z = 0 ∨ (a1 ≤ a0 ∧ a0 ≤ a2))
set_option maxHeartbeats 4000000 in
theorem s_186 {kt : Nat → Option mc_E} {T : wq_T} {H : wq_H} {a0 : Int} {a1 : Int} {a2 : Int} (hW : WT T H) (i0 : (-2147483648) ≤ a0 ∧ a0 ≤ 2147483647) (i1 : (-2147483648) ≤ a1 ∧ a1 ≤ 2147483647) (i2 : (-2147483648) ≤ a2 ∧ a2 ≤ 2147483647) : wpc kt 1 186 [vI a0, vI a1, vI a2] T H (q_186 a0 a1 a2 T H) := by
  refine wp_enter e186 (Nat.le_of_ble_eq_true rfl) rfl ?_
  show wp _ _ 186 0 [(0, vI a0), (1, vI a1), (2, vI a2)] [] _ H _
  refine wp_of e186 c186_0 (rw_iload_n (pc' := 1) (z := a0) rfl rfl ?_)
  refine wp_of e186 c186_1 (rw_iload_n (pc' := 2) (z := a1) rfl rfl ?_)
  refine wp_of e186 c186_2 (rw_icmp_lt (p1 := 14) (p2 := 5) (by decide) rfl ⟨by omega, by omega⟩ ⟨by omega, by omega⟩ (fun c87893 => ?_) (fun c87893 => ?_))
  · refine wp_of e186 c186_14 (rw_iconst (pc' := 15) rfl ?_)
    exact wp_zreturn e186 c186_15 rfl (by omega) ⟨rfl, rfl, 0, rfl, ⟨by omega, by omega⟩, by omega⟩
  · refine wp_of e186 c186_5 (rw_iload_n (pc' := 6) (z := a0) rfl rfl ?_)
    refine wp_of e186 c186_6 (rw_iload_n (pc' := 7) (z := a2) rfl rfl ?_)
    refine wp_of e186 c186_7 (rw_icmp_gt (p1 := 14) (p2 := 10) (by decide) rfl ⟨by omega, by omega⟩ ⟨by omega, by omega⟩ (fun c87894 => ?_) (fun c87894 => ?_))
    · refine wp_of e186 c186_14 (rw_iconst (pc' := 15) rfl ?_)
      exact wp_zreturn e186 c186_15 rfl (by omega) ⟨rfl, rfl, 0, rfl, ⟨by omega, by omega⟩, by omega⟩
    · refine wp_of e186 c186_10 (rw_iconst (pc' := 11) rfl ?_)
      refine wp_of e186 c186_11 (rw_goto (p1 := 15) (by decide) ?_)
      exact wp_zreturn e186 c186_15 rfl (by omega) ⟨rfl, rfl, 1, rfl, ⟨by omega, by omega⟩, by omega⟩
/-! StrikeAwakeModel.whole(II)I -/
theorem e185 : wq_en 185 = some (9, 3, false, some FieldType.int) := rfl
theorem cg185_0 : mc_cd 185 0 = some (.aload_n 0, 1) ∧ mc_cd 185 1 = some (.getfield 75, 3) ∧ mc_cd 185 4 = some (.iconst 3, 1) ∧ mc_cd 185 5 = some (.if_icmp .eq 11, 3) ∧ mc_cd 185 8 = some (.aload_n 0, 1) ∧ mc_cd 185 9 = some (.iconst 1, 1) ∧ mc_cd 185 10 = some (.invokevirtual 121, 3) ∧ mc_cd 185 13 = some (.goto 20, 3) := by decide +kernel
theorem c185_0 : mc_cd 185 0 = some (.aload_n 0, 1) := cg185_0.1
theorem c185_1 : mc_cd 185 1 = some (.getfield 75, 3) := cg185_0.2.1
theorem c185_4 : mc_cd 185 4 = some (.iconst 3, 1) := cg185_0.2.2.1
theorem c185_5 : mc_cd 185 5 = some (.if_icmp .eq 11, 3) := cg185_0.2.2.2.1
theorem c185_8 : mc_cd 185 8 = some (.aload_n 0, 1) := cg185_0.2.2.2.2.1
theorem c185_9 : mc_cd 185 9 = some (.iconst 1, 1) := cg185_0.2.2.2.2.2.1
theorem c185_10 : mc_cd 185 10 = some (.invokevirtual 121, 3) := cg185_0.2.2.2.2.2.2.1
theorem c185_13 : mc_cd 185 13 = some (.goto 20, 3) := cg185_0.2.2.2.2.2.2.2
theorem cg185_16 : mc_cd 185 16 = some (.aload_n 0, 1) ∧ mc_cd 185 17 = some (.getfield 101, 3) ∧ mc_cd 185 20 = some (.iload_n 1, 1) ∧ mc_cd 185 21 = some (.iload_n 2, 1) ∧ mc_cd 185 22 = some (.invokestatic 125, 3) ∧ mc_cd 185 25 = some (.ifCond .ne 8, 3) ∧ mc_cd 185 28 = some (.aload_n 0, 1) ∧ mc_cd 185 29 = some (.iconst 4, 1) := by decide +kernel
theorem c185_16 : mc_cd 185 16 = some (.aload_n 0, 1) := cg185_16.1
theorem c185_17 : mc_cd 185 17 = some (.getfield 101, 3) := cg185_16.2.1
theorem c185_20 : mc_cd 185 20 = some (.iload_n 1, 1) := cg185_16.2.2.1
theorem c185_21 : mc_cd 185 21 = some (.iload_n 2, 1) := cg185_16.2.2.2.1
theorem c185_22 : mc_cd 185 22 = some (.invokestatic 125, 3) := cg185_16.2.2.2.2.1
theorem c185_25 : mc_cd 185 25 = some (.ifCond .ne 8, 3) := cg185_16.2.2.2.2.2.1
theorem c185_28 : mc_cd 185 28 = some (.aload_n 0, 1) := cg185_16.2.2.2.2.2.2.1
theorem c185_29 : mc_cd 185 29 = some (.iconst 4, 1) := cg185_16.2.2.2.2.2.2.2
theorem cg185_30 : mc_cd 185 30 = some (.invokevirtual 121, 3) ∧ mc_cd 185 33 = some (.aload_n 0, 1) ∧ mc_cd 185 34 = some (.getfield 75, 3) ∧ mc_cd 185 37 = some (.iconst 5, 1) ∧ mc_cd 185 38 = some (.if_icmp .ne 7, 3) ∧ mc_cd 185 41 = some (.iconst 0, 1) ∧ mc_cd 185 42 = some (.goto 7, 3) ∧ mc_cd 185 45 = some (.aload_n 0, 1) := by decide +kernel
theorem c185_30 : mc_cd 185 30 = some (.invokevirtual 121, 3) := cg185_30.1
theorem c185_33 : mc_cd 185 33 = some (.aload_n 0, 1) := cg185_30.2.1
theorem c185_34 : mc_cd 185 34 = some (.getfield 75, 3) := cg185_30.2.2.1
theorem c185_37 : mc_cd 185 37 = some (.iconst 5, 1) := cg185_30.2.2.2.1
theorem c185_38 : mc_cd 185 38 = some (.if_icmp .ne 7, 3) := cg185_30.2.2.2.2.1
theorem c185_41 : mc_cd 185 41 = some (.iconst 0, 1) := cg185_30.2.2.2.2.2.1
theorem c185_42 : mc_cd 185 42 = some (.goto 7, 3) := cg185_30.2.2.2.2.2.2.1
theorem c185_45 : mc_cd 185 45 = some (.aload_n 0, 1) := cg185_30.2.2.2.2.2.2.2
theorem cg185_46 : mc_cd 185 46 = some (.getfield 101, 3) ∧ mc_cd 185 49 = some (.ireturn, 1) := by decide +kernel
theorem c185_46 : mc_cd 185 46 = some (.getfield 101, 3) := cg185_46.1
theorem c185_49 : mc_cd 185 49 = some (.ireturn, 1) := cg185_46.2
/-! StrikeAwakeModel.readWhole(II)I -/
theorem e184 : wq_en 184 = some (9, 4, false, some FieldType.int) := rfl
theorem cg184_0 : mc_cd 184 0 = some (.aload_n 0, 1) ∧ mc_cd 184 1 = some (.iload_n 1, 1) ∧ mc_cd 184 2 = some (.iload_n 2, 1) ∧ mc_cd 184 3 = some (.invokevirtual 129, 3) ∧ mc_cd 184 6 = some (.istore_n 3, 1) ∧ mc_cd 184 7 = some (.aload_n 0, 1) ∧ mc_cd 184 8 = some (.invokevirtual 118, 3) ∧ mc_cd 184 11 = some (.iload_n 3, 1) := by decide +kernel
theorem c184_0 : mc_cd 184 0 = some (.aload_n 0, 1) := cg184_0.1
theorem c184_1 : mc_cd 184 1 = some (.iload_n 1, 1) := cg184_0.2.1
theorem c184_2 : mc_cd 184 2 = some (.iload_n 2, 1) := cg184_0.2.2.1
theorem c184_3 : mc_cd 184 3 = some (.invokevirtual 129, 3) := cg184_0.2.2.2.1
theorem c184_6 : mc_cd 184 6 = some (.istore_n 3, 1) := cg184_0.2.2.2.2.1
theorem c184_7 : mc_cd 184 7 = some (.aload_n 0, 1) := cg184_0.2.2.2.2.2.1
theorem c184_8 : mc_cd 184 8 = some (.invokevirtual 118, 3) := cg184_0.2.2.2.2.2.2.1
theorem c184_11 : mc_cd 184 11 = some (.iload_n 3, 1) := cg184_0.2.2.2.2.2.2.2
theorem c184_12 : mc_cd 184 12 = some (.ireturn, 1) := by decide +kernel
/-! StrikeAwakeModel.readPart(Ljava/lang/String;II)I -/
theorem e182 : wq_en 182 = some (9, 4, false, some FieldType.int) := rfl
theorem cg182_0 : mc_cd 182 0 = some (.aload_n 0, 1) ∧ mc_cd 182 1 = some (.aload_n 1, 1) ∧ mc_cd 182 2 = some (.invokevirtual 133, 3) ∧ mc_cd 182 5 = some (.aload_n 0, 1) ∧ mc_cd 182 6 = some (.iload_n 2, 1) ∧ mc_cd 182 7 = some (.iload_n 3, 1) ∧ mc_cd 182 8 = some (.invokevirtual 137, 3) ∧ mc_cd 182 11 = some (.ireturn, 1) := by decide +kernel
theorem c182_0 : mc_cd 182 0 = some (.aload_n 0, 1) := cg182_0.1
theorem c182_1 : mc_cd 182 1 = some (.aload_n 1, 1) := cg182_0.2.1
theorem c182_2 : mc_cd 182 2 = some (.invokevirtual 133, 3) := cg182_0.2.2.1
theorem c182_5 : mc_cd 182 5 = some (.aload_n 0, 1) := cg182_0.2.2.2.1
theorem c182_6 : mc_cd 182 6 = some (.iload_n 2, 1) := cg182_0.2.2.2.2.1
theorem c182_7 : mc_cd 182 7 = some (.iload_n 3, 1) := cg182_0.2.2.2.2.2.1
theorem c182_8 : mc_cd 182 8 = some (.invokevirtual 137, 3) := cg182_0.2.2.2.2.2.2.1
theorem c182_11 : mc_cd 182 11 = some (.ireturn, 1) := cg182_0.2.2.2.2.2.2.2
/-! StrikeAwakeModel.readLaw()V -/
theorem e180 : wq_en 180 = some (9, 2, false, none) := rfl
theorem cg180_0 : mc_cd 180 0 = some (.aload_n 0, 1) ∧ mc_cd 180 1 = some (.getfield 166, 3) ∧ mc_cd 180 4 = some (.getfield 185, 3) ∧ mc_cd 180 7 = some (.ifCond .le 8, 3) ∧ mc_cd 180 10 = some (.aload_n 0, 1) ∧ mc_cd 180 11 = some (.iconst 3, 1) ∧ mc_cd 180 12 = some (.invokevirtual 121, 3) ∧ mc_cd 180 15 = some (.aload_n 0, 1) := by decide +kernel
theorem c180_0 : mc_cd 180 0 = some (.aload_n 0, 1) := cg180_0.1
theorem c180_1 : mc_cd 180 1 = some (.getfield 166, 3) := cg180_0.2.1
theorem c180_4 : mc_cd 180 4 = some (.getfield 185, 3) := cg180_0.2.2.1
theorem c180_7 : mc_cd 180 7 = some (.ifCond .le 8, 3) := cg180_0.2.2.2.1
theorem c180_10 : mc_cd 180 10 = some (.aload_n 0, 1) := cg180_0.2.2.2.2.1
theorem c180_11 : mc_cd 180 11 = some (.iconst 3, 1) := cg180_0.2.2.2.2.2.1
theorem c180_12 : mc_cd 180 12 = some (.invokevirtual 121, 3) := cg180_0.2.2.2.2.2.2.1
theorem c180_15 : mc_cd 180 15 = some (.aload_n 0, 1) := cg180_0.2.2.2.2.2.2.2
theorem cg180_16 : mc_cd 180 16 = some (.invokevirtual 118, 3) ∧ mc_cd 180 19 = some (.aload_n 0, 1) ∧ mc_cd 180 20 = some (.ldc 215, 2) ∧ mc_cd 180 22 = some (.iconst 1, 1) ∧ mc_cd 180 23 = some (.bipush 24, 2) ∧ mc_cd 180 25 = some (.invokevirtual 216, 3) ∧ mc_cd 180 28 = some (.istore_n 1, 1) ∧ mc_cd 180 29 = some (.aload_n 0, 1) := by decide +kernel
theorem c180_16 : mc_cd 180 16 = some (.invokevirtual 118, 3) := cg180_16.1
theorem c180_19 : mc_cd 180 19 = some (.aload_n 0, 1) := cg180_16.2.1
theorem c180_20 : mc_cd 180 20 = some (.ldc 215, 2) := cg180_16.2.2.1
theorem c180_22 : mc_cd 180 22 = some (.iconst 1, 1) := cg180_16.2.2.2.1
theorem c180_23 : mc_cd 180 23 = some (.bipush 24, 2) := cg180_16.2.2.2.2.1
theorem c180_25 : mc_cd 180 25 = some (.invokevirtual 216, 3) := cg180_16.2.2.2.2.2.1
theorem c180_28 : mc_cd 180 28 = some (.istore_n 1, 1) := cg180_16.2.2.2.2.2.2.1
theorem c180_29 : mc_cd 180 29 = some (.aload_n 0, 1) := cg180_16.2.2.2.2.2.2.2
theorem cg180_30 : mc_cd 180 30 = some (.getfield 166, 3) ∧ mc_cd 180 33 = some (.aload_n 0, 1) ∧ mc_cd 180 34 = some (.ldc 220, 2) ∧ mc_cd 180 36 = some (.iconst 0, 1) ∧ mc_cd 180 37 = some (.bipush 9, 2) ∧ mc_cd 180 39 = some (.invokevirtual 216, 3) ∧ mc_cd 180 42 = some (.putfield 222, 3) ∧ mc_cd 180 45 = some (.aload_n 0, 1) := by decide +kernel
theorem c180_30 : mc_cd 180 30 = some (.getfield 166, 3) := cg180_30.1
theorem c180_33 : mc_cd 180 33 = some (.aload_n 0, 1) := cg180_30.2.1
theorem c180_34 : mc_cd 180 34 = some (.ldc 220, 2) := cg180_30.2.2.1
theorem c180_36 : mc_cd 180 36 = some (.iconst 0, 1) := cg180_30.2.2.2.1
theorem c180_37 : mc_cd 180 37 = some (.bipush 9, 2) := cg180_30.2.2.2.2.1
theorem c180_39 : mc_cd 180 39 = some (.invokevirtual 216, 3) := cg180_30.2.2.2.2.2.1
theorem c180_42 : mc_cd 180 42 = some (.putfield 222, 3) := cg180_30.2.2.2.2.2.2.1
theorem c180_45 : mc_cd 180 45 = some (.aload_n 0, 1) := cg180_30.2.2.2.2.2.2.2
theorem cg180_46 : mc_cd 180 46 = some (.getfield 166, 3) ∧ mc_cd 180 49 = some (.aload_n 0, 1) ∧ mc_cd 180 50 = some (.ldc 224, 2) ∧ mc_cd 180 52 = some (.iconst 0, 1) ∧ mc_cd 180 53 = some (.iconst 3, 1) ∧ mc_cd 180 54 = some (.invokevirtual 216, 3) ∧ mc_cd 180 57 = some (.putfield 226, 3) ∧ mc_cd 180 60 = some (.aload_n 0, 1) := by decide +kernel
theorem c180_46 : mc_cd 180 46 = some (.getfield 166, 3) := cg180_46.1
theorem c180_49 : mc_cd 180 49 = some (.aload_n 0, 1) := cg180_46.2.1
theorem c180_50 : mc_cd 180 50 = some (.ldc 224, 2) := cg180_46.2.2.1
theorem c180_52 : mc_cd 180 52 = some (.iconst 0, 1) := cg180_46.2.2.2.1
theorem c180_53 : mc_cd 180 53 = some (.iconst 3, 1) := cg180_46.2.2.2.2.1
theorem c180_54 : mc_cd 180 54 = some (.invokevirtual 216, 3) := cg180_46.2.2.2.2.2.1
theorem c180_57 : mc_cd 180 57 = some (.putfield 226, 3) := cg180_46.2.2.2.2.2.2.1
theorem c180_60 : mc_cd 180 60 = some (.aload_n 0, 1) := cg180_46.2.2.2.2.2.2.2
theorem cg180_61 : mc_cd 180 61 = some (.getfield 75, 3) ∧ mc_cd 180 64 = some (.iconst 5, 1) ∧ mc_cd 180 65 = some (.if_icmp .eq 11, 3) ∧ mc_cd 180 68 = some (.aload_n 0, 1) ∧ mc_cd 180 69 = some (.getfield 166, 3) ∧ mc_cd 180 72 = some (.iload_n 1, 1) ∧ mc_cd 180 73 = some (.putfield 185, 3) ∧ mc_cd 180 76 = some (.return_, 1) := by decide +kernel
theorem c180_61 : mc_cd 180 61 = some (.getfield 75, 3) := cg180_61.1
theorem c180_64 : mc_cd 180 64 = some (.iconst 5, 1) := cg180_61.2.1
theorem c180_65 : mc_cd 180 65 = some (.if_icmp .eq 11, 3) := cg180_61.2.2.1
theorem c180_68 : mc_cd 180 68 = some (.aload_n 0, 1) := cg180_61.2.2.2.1
theorem c180_69 : mc_cd 180 69 = some (.getfield 166, 3) := cg180_61.2.2.2.2.1
theorem c180_72 : mc_cd 180 72 = some (.iload_n 1, 1) := cg180_61.2.2.2.2.2.1
theorem c180_73 : mc_cd 180 73 = some (.putfield 185, 3) := cg180_61.2.2.2.2.2.2.1
theorem c180_76 : mc_cd 180 76 = some (.return_, 1) := cg180_61.2.2.2.2.2.2.2
/-! StrikeAwakeModel.begins(II)V -/
theorem e188 : wq_en 188 = some (9, 3, false, none) := rfl
theorem cg188_0 : mc_cd 188 0 = some (.iload_n 1, 1) ∧ mc_cd 188 1 = some (.iload_n 2, 1) ∧ mc_cd 188 2 = some (.if_icmp .ne 8, 3) ∧ mc_cd 188 5 = some (.aload_n 0, 1) ∧ mc_cd 188 6 = some (.iconst 5, 1) ∧ mc_cd 188 7 = some (.invokevirtual 121, 3) ∧ mc_cd 188 10 = some (.aload_n 0, 1) ∧ mc_cd 188 11 = some (.invokevirtual 118, 3) := by decide +kernel
theorem c188_0 : mc_cd 188 0 = some (.iload_n 1, 1) := cg188_0.1
theorem c188_1 : mc_cd 188 1 = some (.iload_n 2, 1) := cg188_0.2.1
theorem c188_2 : mc_cd 188 2 = some (.if_icmp .ne 8, 3) := cg188_0.2.2.1
theorem c188_5 : mc_cd 188 5 = some (.aload_n 0, 1) := cg188_0.2.2.2.1
theorem c188_6 : mc_cd 188 6 = some (.iconst 5, 1) := cg188_0.2.2.2.2.1
theorem c188_7 : mc_cd 188 7 = some (.invokevirtual 121, 3) := cg188_0.2.2.2.2.2.1
theorem c188_10 : mc_cd 188 10 = some (.aload_n 0, 1) := cg188_0.2.2.2.2.2.2.1
theorem c188_11 : mc_cd 188 11 = some (.invokevirtual 118, 3) := cg188_0.2.2.2.2.2.2.2
theorem c188_14 : mc_cd 188 14 = some (.return_, 1) := by decide +kernel
/-! StrikeAwakeModel.isName()Z -/
theorem e189 : wq_en 189 = some (9, 1, false, some FieldType.boolean) := rfl
theorem cg189_0 : mc_cd 189 0 = some (.aload_n 0, 1) ∧ mc_cd 189 1 = some (.getfield 75, 3) ∧ mc_cd 189 4 = some (.iconst 2, 1) ∧ mc_cd 189 5 = some (.if_icmp .ne 57, 3) ∧ mc_cd 189 8 = some (.aload_n 0, 1) ∧ mc_cd 189 9 = some (.ldc 140, 2) ∧ mc_cd 189 11 = some (.invokevirtual 114, 3) ∧ mc_cd 189 14 = some (.ifCond .ne 48, 3) := by decide +kernel
theorem c189_0 : mc_cd 189 0 = some (.aload_n 0, 1) := cg189_0.1
theorem c189_1 : mc_cd 189 1 = some (.getfield 75, 3) := cg189_0.2.1
theorem c189_4 : mc_cd 189 4 = some (.iconst 2, 1) := cg189_0.2.2.1
theorem c189_5 : mc_cd 189 5 = some (.if_icmp .ne 57, 3) := cg189_0.2.2.2.1
theorem c189_8 : mc_cd 189 8 = some (.aload_n 0, 1) := cg189_0.2.2.2.2.1
theorem c189_9 : mc_cd 189 9 = some (.ldc 140, 2) := cg189_0.2.2.2.2.2.1
theorem c189_11 : mc_cd 189 11 = some (.invokevirtual 114, 3) := cg189_0.2.2.2.2.2.2.1
theorem c189_14 : mc_cd 189 14 = some (.ifCond .ne 48, 3) := cg189_0.2.2.2.2.2.2.2
theorem cg189_17 : mc_cd 189 17 = some (.aload_n 0, 1) ∧ mc_cd 189 18 = some (.ldc 142, 2) ∧ mc_cd 189 20 = some (.invokevirtual 114, 3) ∧ mc_cd 189 23 = some (.ifCond .ne 39, 3) ∧ mc_cd 189 26 = some (.aload_n 0, 1) ∧ mc_cd 189 27 = some (.ldc 144, 2) ∧ mc_cd 189 29 = some (.invokevirtual 114, 3) ∧ mc_cd 189 32 = some (.ifCond .ne 30, 3) := by decide +kernel
theorem c189_17 : mc_cd 189 17 = some (.aload_n 0, 1) := cg189_17.1
theorem c189_18 : mc_cd 189 18 = some (.ldc 142, 2) := cg189_17.2.1
theorem c189_20 : mc_cd 189 20 = some (.invokevirtual 114, 3) := cg189_17.2.2.1
theorem c189_23 : mc_cd 189 23 = some (.ifCond .ne 39, 3) := cg189_17.2.2.2.1
theorem c189_26 : mc_cd 189 26 = some (.aload_n 0, 1) := cg189_17.2.2.2.2.1
theorem c189_27 : mc_cd 189 27 = some (.ldc 144, 2) := cg189_17.2.2.2.2.2.1
theorem c189_29 : mc_cd 189 29 = some (.invokevirtual 114, 3) := cg189_17.2.2.2.2.2.2.1
theorem c189_32 : mc_cd 189 32 = some (.ifCond .ne 30, 3) := cg189_17.2.2.2.2.2.2.2
theorem cg189_35 : mc_cd 189 35 = some (.aload_n 0, 1) ∧ mc_cd 189 36 = some (.ldc 146, 2) ∧ mc_cd 189 38 = some (.invokevirtual 114, 3) ∧ mc_cd 189 41 = some (.ifCond .ne 21, 3) ∧ mc_cd 189 44 = some (.aload_n 0, 1) ∧ mc_cd 189 45 = some (.ldc 148, 2) ∧ mc_cd 189 47 = some (.invokevirtual 114, 3) ∧ mc_cd 189 50 = some (.ifCond .ne 12, 3) := by decide +kernel
theorem c189_35 : mc_cd 189 35 = some (.aload_n 0, 1) := cg189_35.1
theorem c189_36 : mc_cd 189 36 = some (.ldc 146, 2) := cg189_35.2.1
theorem c189_38 : mc_cd 189 38 = some (.invokevirtual 114, 3) := cg189_35.2.2.1
theorem c189_41 : mc_cd 189 41 = some (.ifCond .ne 21, 3) := cg189_35.2.2.2.1
theorem c189_44 : mc_cd 189 44 = some (.aload_n 0, 1) := cg189_35.2.2.2.2.1
theorem c189_45 : mc_cd 189 45 = some (.ldc 148, 2) := cg189_35.2.2.2.2.2.1
theorem c189_47 : mc_cd 189 47 = some (.invokevirtual 114, 3) := cg189_35.2.2.2.2.2.2.1
theorem c189_50 : mc_cd 189 50 = some (.ifCond .ne 12, 3) := cg189_35.2.2.2.2.2.2.2
theorem cg189_53 : mc_cd 189 53 = some (.aload_n 0, 1) ∧ mc_cd 189 54 = some (.ldc 150, 2) ∧ mc_cd 189 56 = some (.invokevirtual 114, 3) ∧ mc_cd 189 59 = some (.ifCond .eq 5, 3) ∧ mc_cd 189 62 = some (.iconst 0, 1) ∧ mc_cd 189 63 = some (.ireturn, 1) ∧ mc_cd 189 64 = some (.aload_n 0, 1) ∧ mc_cd 189 65 = some (.ldc 152, 2) := by decide +kernel
theorem c189_53 : mc_cd 189 53 = some (.aload_n 0, 1) := cg189_53.1
theorem c189_54 : mc_cd 189 54 = some (.ldc 150, 2) := cg189_53.2.1
theorem c189_56 : mc_cd 189 56 = some (.invokevirtual 114, 3) := cg189_53.2.2.1
theorem c189_59 : mc_cd 189 59 = some (.ifCond .eq 5, 3) := cg189_53.2.2.2.1
theorem c189_62 : mc_cd 189 62 = some (.iconst 0, 1) := cg189_53.2.2.2.2.1
theorem c189_63 : mc_cd 189 63 = some (.ireturn, 1) := cg189_53.2.2.2.2.2.1
theorem c189_64 : mc_cd 189 64 = some (.aload_n 0, 1) := cg189_53.2.2.2.2.2.2.1
theorem c189_65 : mc_cd 189 65 = some (.ldc 152, 2) := cg189_53.2.2.2.2.2.2.2
theorem cg189_67 : mc_cd 189 67 = some (.invokevirtual 114, 3) ∧ mc_cd 189 70 = some (.ifCond .ne 43, 3) ∧ mc_cd 189 73 = some (.aload_n 0, 1) ∧ mc_cd 189 74 = some (.ldc 154, 2) ∧ mc_cd 189 76 = some (.invokevirtual 114, 3) ∧ mc_cd 189 79 = some (.ifCond .ne 34, 3) ∧ mc_cd 189 82 = some (.aload_n 0, 1) ∧ mc_cd 189 83 = some (.ldc 156, 2) := by decide +kernel
theorem c189_67 : mc_cd 189 67 = some (.invokevirtual 114, 3) := cg189_67.1
theorem c189_70 : mc_cd 189 70 = some (.ifCond .ne 43, 3) := cg189_67.2.1
theorem c189_73 : mc_cd 189 73 = some (.aload_n 0, 1) := cg189_67.2.2.1
theorem c189_74 : mc_cd 189 74 = some (.ldc 154, 2) := cg189_67.2.2.2.1
theorem c189_76 : mc_cd 189 76 = some (.invokevirtual 114, 3) := cg189_67.2.2.2.2.1
theorem c189_79 : mc_cd 189 79 = some (.ifCond .ne 34, 3) := cg189_67.2.2.2.2.2.1
theorem c189_82 : mc_cd 189 82 = some (.aload_n 0, 1) := cg189_67.2.2.2.2.2.2.1
theorem c189_83 : mc_cd 189 83 = some (.ldc 156, 2) := cg189_67.2.2.2.2.2.2.2
theorem cg189_85 : mc_cd 189 85 = some (.invokevirtual 114, 3) ∧ mc_cd 189 88 = some (.ifCond .ne 25, 3) ∧ mc_cd 189 91 = some (.aload_n 0, 1) ∧ mc_cd 189 92 = some (.ldc 158, 2) ∧ mc_cd 189 94 = some (.invokevirtual 114, 3) ∧ mc_cd 189 97 = some (.ifCond .ne 16, 3) ∧ mc_cd 189 100 = some (.aload_n 0, 1) ∧ mc_cd 189 101 = some (.ldc 160, 2) := by decide +kernel
theorem c189_85 : mc_cd 189 85 = some (.invokevirtual 114, 3) := cg189_85.1
theorem c189_88 : mc_cd 189 88 = some (.ifCond .ne 25, 3) := cg189_85.2.1
theorem c189_91 : mc_cd 189 91 = some (.aload_n 0, 1) := cg189_85.2.2.1
theorem c189_92 : mc_cd 189 92 = some (.ldc 158, 2) := cg189_85.2.2.2.1
theorem c189_94 : mc_cd 189 94 = some (.invokevirtual 114, 3) := cg189_85.2.2.2.2.1
theorem c189_97 : mc_cd 189 97 = some (.ifCond .ne 16, 3) := cg189_85.2.2.2.2.2.1
theorem c189_100 : mc_cd 189 100 = some (.aload_n 0, 1) := cg189_85.2.2.2.2.2.2.1
theorem c189_101 : mc_cd 189 101 = some (.ldc 160, 2) := cg189_85.2.2.2.2.2.2.2
theorem cg189_103 : mc_cd 189 103 = some (.invokevirtual 114, 3) ∧ mc_cd 189 106 = some (.ifCond .ne 7, 3) ∧ mc_cd 189 109 = some (.iconst 1, 1) ∧ mc_cd 189 110 = some (.goto 4, 3) ∧ mc_cd 189 113 = some (.iconst 0, 1) ∧ mc_cd 189 114 = some (.ireturn, 1) := by decide +kernel
theorem c189_103 : mc_cd 189 103 = some (.invokevirtual 114, 3) := cg189_103.1
theorem c189_106 : mc_cd 189 106 = some (.ifCond .ne 7, 3) := cg189_103.2.1
theorem c189_109 : mc_cd 189 109 = some (.iconst 1, 1) := cg189_103.2.2.1
theorem c189_110 : mc_cd 189 110 = some (.goto 4, 3) := cg189_103.2.2.2.1
theorem c189_113 : mc_cd 189 113 = some (.iconst 0, 1) := cg189_103.2.2.2.2.1
theorem c189_114 : mc_cd 189 114 = some (.ireturn, 1) := cg189_103.2.2.2.2.2
/-! StrikeAwakeModel$Parish.find(J)I -/
theorem e190 : wq_en 190 = some (10, 4, false, some FieldType.int) := rfl
theorem cg190_0 : mc_cd 190 0 = some (.iconst 0, 1) ∧ mc_cd 190 1 = some (.istore_n 3, 1) ∧ mc_cd 190 2 = some (.iload_n 3, 1) ∧ mc_cd 190 3 = some (.aload_n 0, 1) ∧ mc_cd 190 4 = some (.getfield 72, 3) ∧ mc_cd 190 7 = some (.if_icmp .ge 22, 3) ∧ mc_cd 190 10 = some (.aload_n 0, 1) ∧ mc_cd 190 11 = some (.getfield 15, 3) := by decide +kernel
theorem c190_0 : mc_cd 190 0 = some (.iconst 0, 1) := cg190_0.1
theorem c190_1 : mc_cd 190 1 = some (.istore_n 3, 1) := cg190_0.2.1
theorem c190_2 : mc_cd 190 2 = some (.iload_n 3, 1) := cg190_0.2.2.1
theorem c190_3 : mc_cd 190 3 = some (.aload_n 0, 1) := cg190_0.2.2.2.1
theorem c190_4 : mc_cd 190 4 = some (.getfield 72, 3) := cg190_0.2.2.2.2.1
theorem c190_7 : mc_cd 190 7 = some (.if_icmp .ge 22, 3) := cg190_0.2.2.2.2.2.1
theorem c190_10 : mc_cd 190 10 = some (.aload_n 0, 1) := cg190_0.2.2.2.2.2.2.1
theorem c190_11 : mc_cd 190 11 = some (.getfield 15, 3) := cg190_0.2.2.2.2.2.2.2
theorem cg190_14 : mc_cd 190 14 = some (.iload_n 3, 1) ∧ mc_cd 190 15 = some (.laload, 1) ∧ mc_cd 190 16 = some (.lload_n 1, 1) ∧ mc_cd 190 17 = some (.lcmp, 1) ∧ mc_cd 190 18 = some (.ifCond .ne 5, 3) ∧ mc_cd 190 21 = some (.iload_n 3, 1) ∧ mc_cd 190 22 = some (.ireturn, 1) ∧ mc_cd 190 23 = some (.iinc 3 1, 3) := by decide +kernel
theorem c190_14 : mc_cd 190 14 = some (.iload_n 3, 1) := cg190_14.1
theorem c190_15 : mc_cd 190 15 = some (.laload, 1) := cg190_14.2.1
theorem c190_16 : mc_cd 190 16 = some (.lload_n 1, 1) := cg190_14.2.2.1
theorem c190_17 : mc_cd 190 17 = some (.lcmp, 1) := cg190_14.2.2.2.1
theorem c190_18 : mc_cd 190 18 = some (.ifCond .ne 5, 3) := cg190_14.2.2.2.2.1
theorem c190_21 : mc_cd 190 21 = some (.iload_n 3, 1) := cg190_14.2.2.2.2.2.1
theorem c190_22 : mc_cd 190 22 = some (.ireturn, 1) := cg190_14.2.2.2.2.2.2.1
theorem c190_23 : mc_cd 190 23 = some (.iinc 3 1, 3) := cg190_14.2.2.2.2.2.2.2
theorem cg190_26 : mc_cd 190 26 = some (.goto (-24), 3) ∧ mc_cd 190 29 = some (.iconst (-1), 1) ∧ mc_cd 190 30 = some (.ireturn, 1) := by decide +kernel
theorem c190_26 : mc_cd 190 26 = some (.goto (-24), 3) := cg190_26.1
theorem c190_29 : mc_cd 190 29 = some (.iconst (-1), 1) := cg190_26.2.1
theorem c190_30 : mc_cd 190 30 = some (.ireturn, 1) := cg190_26.2.2
/-! StrikeAwakeModel.least(II)I -/
theorem e191 : wq_en 191 = some (9, 2, false, some FieldType.int) := rfl
theorem cg191_0 : mc_cd 191 0 = some (.iload_n 0, 1) ∧ mc_cd 191 1 = some (.iload_n 1, 1) ∧ mc_cd 191 2 = some (.if_icmp .ge 7, 3) ∧ mc_cd 191 5 = some (.iload_n 0, 1) ∧ mc_cd 191 6 = some (.goto 4, 3) ∧ mc_cd 191 9 = some (.iload_n 1, 1) ∧ mc_cd 191 10 = some (.ireturn, 1) := by decide +kernel
theorem c191_0 : mc_cd 191 0 = some (.iload_n 0, 1) := cg191_0.1
theorem c191_1 : mc_cd 191 1 = some (.iload_n 1, 1) := cg191_0.2.1
theorem c191_2 : mc_cd 191 2 = some (.if_icmp .ge 7, 3) := cg191_0.2.2.1
theorem c191_5 : mc_cd 191 5 = some (.iload_n 0, 1) := cg191_0.2.2.2.1
theorem c191_6 : mc_cd 191 6 = some (.goto 4, 3) := cg191_0.2.2.2.2.1
theorem c191_9 : mc_cd 191 9 = some (.iload_n 1, 1) := cg191_0.2.2.2.2.2.1
theorem c191_10 : mc_cd 191 10 = some (.ireturn, 1) := cg191_0.2.2.2.2.2.2
/-! StrikeAwakeModel.eatsWord(Ljava/lang/String;)Z -/
theorem e192 : wq_en 192 = some (9, 3, false, some FieldType.boolean) := rfl
theorem cg192_0 : mc_cd 192 0 = some (.aload_n 0, 1) ∧ mc_cd 192 1 = some (.aload_n 1, 1) ∧ mc_cd 192 2 = some (.invokevirtual 114, 3) ∧ mc_cd 192 5 = some (.istore_n 2, 1) ∧ mc_cd 192 6 = some (.iload_n 2, 1) ∧ mc_cd 192 7 = some (.ifCond .eq 7, 3) ∧ mc_cd 192 10 = some (.aload_n 0, 1) ∧ mc_cd 192 11 = some (.invokevirtual 118, 3) := by decide +kernel
theorem c192_0 : mc_cd 192 0 = some (.aload_n 0, 1) := cg192_0.1
theorem c192_1 : mc_cd 192 1 = some (.aload_n 1, 1) := cg192_0.2.1
theorem c192_2 : mc_cd 192 2 = some (.invokevirtual 114, 3) := cg192_0.2.2.1
theorem c192_5 : mc_cd 192 5 = some (.istore_n 2, 1) := cg192_0.2.2.2.1
theorem c192_6 : mc_cd 192 6 = some (.iload_n 2, 1) := cg192_0.2.2.2.2.1
theorem c192_7 : mc_cd 192 7 = some (.ifCond .eq 7, 3) := cg192_0.2.2.2.2.2.1
theorem c192_10 : mc_cd 192 10 = some (.aload_n 0, 1) := cg192_0.2.2.2.2.2.2.1
theorem c192_11 : mc_cd 192 11 = some (.invokevirtual 118, 3) := cg192_0.2.2.2.2.2.2.2
theorem cg192_14 : mc_cd 192 14 = some (.iload_n 2, 1) ∧ mc_cd 192 15 = some (.ireturn, 1) := by decide +kernel
theorem c192_14 : mc_cd 192 14 = some (.iload_n 2, 1) := cg192_14.1
theorem c192_15 : mc_cd 192 15 = some (.ireturn, 1) := cg192_14.2
/-! StrikeAwakeModel.readPerson()V -/
theorem e187 : wq_en 187 = some (9, 13, false, none) := rfl
theorem cg187_0 : mc_cd 187 0 = some (.aload_n 0, 1) ∧ mc_cd 187 1 = some (.aload_n 0, 1) ∧ mc_cd 187 2 = some (.getfield 166, 3) ∧ mc_cd 187 5 = some (.getfield 188, 3) ∧ mc_cd 187 8 = some (.bipush 6, 2) ∧ mc_cd 187 10 = some (.invokevirtual 228, 3) ∧ mc_cd 187 13 = some (.aload_n 0, 1) ∧ mc_cd 187 14 = some (.invokevirtual 162, 3) := by decide +kernel
theorem c187_0 : mc_cd 187 0 = some (.aload_n 0, 1) := cg187_0.1
theorem c187_1 : mc_cd 187 1 = some (.aload_n 0, 1) := cg187_0.2.1
theorem c187_2 : mc_cd 187 2 = some (.getfield 166, 3) := cg187_0.2.2.1
theorem c187_5 : mc_cd 187 5 = some (.getfield 188, 3) := cg187_0.2.2.2.1
theorem c187_8 : mc_cd 187 8 = some (.bipush 6, 2) := cg187_0.2.2.2.2.1
theorem c187_10 : mc_cd 187 10 = some (.invokevirtual 228, 3) := cg187_0.2.2.2.2.2.1
theorem c187_13 : mc_cd 187 13 = some (.aload_n 0, 1) := cg187_0.2.2.2.2.2.2.1
theorem c187_14 : mc_cd 187 14 = some (.invokevirtual 162, 3) := cg187_0.2.2.2.2.2.2.2
theorem cg187_17 : mc_cd 187 17 = some (.ifCond .ne 8, 3) ∧ mc_cd 187 20 = some (.aload_n 0, 1) ∧ mc_cd 187 21 = some (.iconst 1, 1) ∧ mc_cd 187 22 = some (.invokevirtual 121, 3) ∧ mc_cd 187 25 = some (.aload_n 0, 1) ∧ mc_cd 187 26 = some (.getfield 166, 3) ∧ mc_cd 187 29 = some (.aload_n 0, 1) ∧ mc_cd 187 30 = some (.getfield 94, 3) := by decide +kernel
theorem c187_17 : mc_cd 187 17 = some (.ifCond .ne 8, 3) := cg187_17.1
theorem c187_20 : mc_cd 187 20 = some (.aload_n 0, 1) := cg187_17.2.1
theorem c187_21 : mc_cd 187 21 = some (.iconst 1, 1) := cg187_17.2.2.1
theorem c187_22 : mc_cd 187 22 = some (.invokevirtual 121, 3) := cg187_17.2.2.2.1
theorem c187_25 : mc_cd 187 25 = some (.aload_n 0, 1) := cg187_17.2.2.2.2.1
theorem c187_26 : mc_cd 187 26 = some (.getfield 166, 3) := cg187_17.2.2.2.2.2.1
theorem c187_29 : mc_cd 187 29 = some (.aload_n 0, 1) := cg187_17.2.2.2.2.2.2.1
theorem c187_30 : mc_cd 187 30 = some (.getfield 94, 3) := cg187_17.2.2.2.2.2.2.2
theorem cg187_33 : mc_cd 187 33 = some (.invokevirtual 170, 3) ∧ mc_cd 187 36 = some (.iconst (-1), 1) ∧ mc_cd 187 37 = some (.if_icmp .eq 8, 3) ∧ mc_cd 187 40 = some (.aload_n 0, 1) ∧ mc_cd 187 41 = some (.iconst 3, 1) ∧ mc_cd 187 42 = some (.invokevirtual 121, 3) ∧ mc_cd 187 45 = some (.aload_n 0, 1) ∧ mc_cd 187 46 = some (.getfield 94, 3) := by decide +kernel
theorem c187_33 : mc_cd 187 33 = some (.invokevirtual 170, 3) := cg187_33.1
theorem c187_36 : mc_cd 187 36 = some (.iconst (-1), 1) := cg187_33.2.1
theorem c187_37 : mc_cd 187 37 = some (.if_icmp .eq 8, 3) := cg187_33.2.2.1
theorem c187_40 : mc_cd 187 40 = some (.aload_n 0, 1) := cg187_33.2.2.2.1
theorem c187_41 : mc_cd 187 41 = some (.iconst 3, 1) := cg187_33.2.2.2.2.1
theorem c187_42 : mc_cd 187 42 = some (.invokevirtual 121, 3) := cg187_33.2.2.2.2.2.1
theorem c187_45 : mc_cd 187 45 = some (.aload_n 0, 1) := cg187_33.2.2.2.2.2.2.1
theorem c187_46 : mc_cd 187 46 = some (.getfield 94, 3) := cg187_33.2.2.2.2.2.2.2
theorem cg187_49 : mc_cd 187 49 = some (.lstore_n 1, 1) ∧ mc_cd 187 50 = some (.aload_n 0, 1) ∧ mc_cd 187 51 = some (.invokevirtual 118, 3) ∧ mc_cd 187 54 = some (.aload_n 0, 1) ∧ mc_cd 187 55 = some (.ldc 232, 2) ∧ mc_cd 187 57 = some (.iconst 0, 1) ∧ mc_cd 187 58 = some (.bipush 23, 2) ∧ mc_cd 187 60 = some (.invokevirtual 216, 3) := by decide +kernel
theorem c187_49 : mc_cd 187 49 = some (.lstore_n 1, 1) := cg187_49.1
theorem c187_50 : mc_cd 187 50 = some (.aload_n 0, 1) := cg187_49.2.1
theorem c187_51 : mc_cd 187 51 = some (.invokevirtual 118, 3) := cg187_49.2.2.1
theorem c187_54 : mc_cd 187 54 = some (.aload_n 0, 1) := cg187_49.2.2.2.1
theorem c187_55 : mc_cd 187 55 = some (.ldc 232, 2) := cg187_49.2.2.2.2.1
theorem c187_57 : mc_cd 187 57 = some (.iconst 0, 1) := cg187_49.2.2.2.2.2.1
theorem c187_58 : mc_cd 187 58 = some (.bipush 23, 2) := cg187_49.2.2.2.2.2.2.1
theorem c187_60 : mc_cd 187 60 = some (.invokevirtual 216, 3) := cg187_49.2.2.2.2.2.2.2
theorem cg187_63 : mc_cd 187 63 = some (.istore_n 3, 1) ∧ mc_cd 187 64 = some (.aload_n 0, 1) ∧ mc_cd 187 65 = some (.ldc 233, 2) ∧ mc_cd 187 67 = some (.iload_n 3, 1) ∧ mc_cd 187 68 = some (.bipush 23, 2) ∧ mc_cd 187 70 = some (.iload_n 3, 1) ∧ mc_cd 187 71 = some (.bipush 7, 2) ∧ mc_cd 187 73 = some (.iadd, 1) := by decide +kernel
theorem c187_63 : mc_cd 187 63 = some (.istore_n 3, 1) := cg187_63.1
theorem c187_64 : mc_cd 187 64 = some (.aload_n 0, 1) := cg187_63.2.1
theorem c187_65 : mc_cd 187 65 = some (.ldc 233, 2) := cg187_63.2.2.1
theorem c187_67 : mc_cd 187 67 = some (.iload_n 3, 1) := cg187_63.2.2.2.1
theorem c187_68 : mc_cd 187 68 = some (.bipush 23, 2) := cg187_63.2.2.2.2.1
theorem c187_70 : mc_cd 187 70 = some (.iload_n 3, 1) := cg187_63.2.2.2.2.2.1
theorem c187_71 : mc_cd 187 71 = some (.bipush 7, 2) := cg187_63.2.2.2.2.2.2.1
theorem c187_73 : mc_cd 187 73 = some (.iadd, 1) := cg187_63.2.2.2.2.2.2.2
theorem cg187_74 : mc_cd 187 74 = some (.invokestatic 235, 3) ∧ mc_cd 187 77 = some (.invokevirtual 216, 3) ∧ mc_cd 187 80 = some (.istore 4, 2) ∧ mc_cd 187 82 = some (.aload_n 0, 1) ∧ mc_cd 187 83 = some (.ldc 238, 2) ∧ mc_cd 187 85 = some (.iconst 0, 1) ∧ mc_cd 187 86 = some (.bipush 12, 2) ∧ mc_cd 187 88 = some (.invokevirtual 216, 3) := by decide +kernel
theorem c187_74 : mc_cd 187 74 = some (.invokestatic 235, 3) := cg187_74.1
theorem c187_77 : mc_cd 187 77 = some (.invokevirtual 216, 3) := cg187_74.2.1
theorem c187_80 : mc_cd 187 80 = some (.istore 4, 2) := cg187_74.2.2.1
theorem c187_82 : mc_cd 187 82 = some (.aload_n 0, 1) := cg187_74.2.2.2.1
theorem c187_83 : mc_cd 187 83 = some (.ldc 238, 2) := cg187_74.2.2.2.2.1
theorem c187_85 : mc_cd 187 85 = some (.iconst 0, 1) := cg187_74.2.2.2.2.2.1
theorem c187_86 : mc_cd 187 86 = some (.bipush 12, 2) := cg187_74.2.2.2.2.2.2.1
theorem c187_88 : mc_cd 187 88 = some (.invokevirtual 216, 3) := cg187_74.2.2.2.2.2.2.2
theorem cg187_91 : mc_cd 187 91 = some (.istore 5, 2) ∧ mc_cd 187 93 = some (.aload_n 0, 1) ∧ mc_cd 187 94 = some (.ldc 233, 2) ∧ mc_cd 187 96 = some (.iload 5, 2) ∧ mc_cd 187 98 = some (.bipush 12, 2) ∧ mc_cd 187 100 = some (.iload 5, 2) ∧ mc_cd 187 102 = some (.iconst 4, 1) ∧ mc_cd 187 103 = some (.iadd, 1) := by decide +kernel
theorem c187_91 : mc_cd 187 91 = some (.istore 5, 2) := cg187_91.1
theorem c187_93 : mc_cd 187 93 = some (.aload_n 0, 1) := cg187_91.2.1
theorem c187_94 : mc_cd 187 94 = some (.ldc 233, 2) := cg187_91.2.2.1
theorem c187_96 : mc_cd 187 96 = some (.iload 5, 2) := cg187_91.2.2.2.1
theorem c187_98 : mc_cd 187 98 = some (.bipush 12, 2) := cg187_91.2.2.2.2.1
theorem c187_100 : mc_cd 187 100 = some (.iload 5, 2) := cg187_91.2.2.2.2.2.1
theorem c187_102 : mc_cd 187 102 = some (.iconst 4, 1) := cg187_91.2.2.2.2.2.2.1
theorem c187_103 : mc_cd 187 103 = some (.iadd, 1) := cg187_91.2.2.2.2.2.2.2
theorem cg187_104 : mc_cd 187 104 = some (.invokestatic 235, 3) ∧ mc_cd 187 107 = some (.invokevirtual 216, 3) ∧ mc_cd 187 110 = some (.istore 6, 2) ∧ mc_cd 187 112 = some (.aload_n 0, 1) ∧ mc_cd 187 113 = some (.ldc 156, 2) ∧ mc_cd 187 115 = some (.invokevirtual 240, 3) ∧ mc_cd 187 118 = some (.ifCond .eq 13, 3) ∧ mc_cd 187 121 = some (.aload_n 0, 1) := by decide +kernel
theorem c187_104 : mc_cd 187 104 = some (.invokestatic 235, 3) := cg187_104.1
theorem c187_107 : mc_cd 187 107 = some (.invokevirtual 216, 3) := cg187_104.2.1
theorem c187_110 : mc_cd 187 110 = some (.istore 6, 2) := cg187_104.2.2.1
theorem c187_112 : mc_cd 187 112 = some (.aload_n 0, 1) := cg187_104.2.2.2.1
theorem c187_113 : mc_cd 187 113 = some (.ldc 156, 2) := cg187_104.2.2.2.2.1
theorem c187_115 : mc_cd 187 115 = some (.invokevirtual 240, 3) := cg187_104.2.2.2.2.2.1
theorem c187_118 : mc_cd 187 118 = some (.ifCond .eq 13, 3) := cg187_104.2.2.2.2.2.2.1
theorem c187_121 : mc_cd 187 121 = some (.aload_n 0, 1) := cg187_104.2.2.2.2.2.2.2
theorem cg187_122 : mc_cd 187 122 = some (.iconst 0, 1) ∧ mc_cd 187 123 = some (.bipush 23, 2) ∧ mc_cd 187 125 = some (.invokevirtual 137, 3) ∧ mc_cd 187 128 = some (.goto 4, 3) ∧ mc_cd 187 131 = some (.iconst (-1), 1) ∧ mc_cd 187 132 = some (.istore 7, 2) ∧ mc_cd 187 134 = some (.aload_n 0, 1) ∧ mc_cd 187 135 = some (.ldc 158, 2) := by decide +kernel
theorem c187_122 : mc_cd 187 122 = some (.iconst 0, 1) := cg187_122.1
theorem c187_123 : mc_cd 187 123 = some (.bipush 23, 2) := cg187_122.2.1
theorem c187_125 : mc_cd 187 125 = some (.invokevirtual 137, 3) := cg187_122.2.2.1
theorem c187_128 : mc_cd 187 128 = some (.goto 4, 3) := cg187_122.2.2.2.1
theorem c187_131 : mc_cd 187 131 = some (.iconst (-1), 1) := cg187_122.2.2.2.2.1
theorem c187_132 : mc_cd 187 132 = some (.istore 7, 2) := cg187_122.2.2.2.2.2.1
theorem c187_134 : mc_cd 187 134 = some (.aload_n 0, 1) := cg187_122.2.2.2.2.2.2.1
theorem c187_135 : mc_cd 187 135 = some (.ldc 158, 2) := cg187_122.2.2.2.2.2.2.2
theorem cg187_137 : mc_cd 187 137 = some (.invokevirtual 240, 3) ∧ mc_cd 187 140 = some (.istore 8, 2) ∧ mc_cd 187 142 = some (.iload 8, 2) ∧ mc_cd 187 144 = some (.ifCond .eq 13, 3) ∧ mc_cd 187 147 = some (.aload_n 0, 1) ∧ mc_cd 187 148 = some (.iconst 0, 1) ∧ mc_cd 187 149 = some (.bipush 23, 2) ∧ mc_cd 187 151 = some (.invokevirtual 137, 3) := by decide +kernel
theorem c187_137 : mc_cd 187 137 = some (.invokevirtual 240, 3) := cg187_137.1
theorem c187_140 : mc_cd 187 140 = some (.istore 8, 2) := cg187_137.2.1
theorem c187_142 : mc_cd 187 142 = some (.iload 8, 2) := cg187_137.2.2.1
theorem c187_144 : mc_cd 187 144 = some (.ifCond .eq 13, 3) := cg187_137.2.2.2.1
theorem c187_147 : mc_cd 187 147 = some (.aload_n 0, 1) := cg187_137.2.2.2.2.1
theorem c187_148 : mc_cd 187 148 = some (.iconst 0, 1) := cg187_137.2.2.2.2.2.1
theorem c187_149 : mc_cd 187 149 = some (.bipush 23, 2) := cg187_137.2.2.2.2.2.2.1
theorem c187_151 : mc_cd 187 151 = some (.invokevirtual 137, 3) := cg187_137.2.2.2.2.2.2.2
theorem cg187_154 : mc_cd 187 154 = some (.goto 4, 3) ∧ mc_cd 187 157 = some (.iconst 0, 1) ∧ mc_cd 187 158 = some (.istore 9, 2) ∧ mc_cd 187 160 = some (.iload 8, 2) ∧ mc_cd 187 162 = some (.ifCond .eq 18, 3) ∧ mc_cd 187 165 = some (.aload_n 0, 1) ∧ mc_cd 187 166 = some (.ldc 233, 2) ∧ mc_cd 187 168 = some (.iload 9, 2) := by decide +kernel
theorem c187_154 : mc_cd 187 154 = some (.goto 4, 3) := cg187_154.1
theorem c187_157 : mc_cd 187 157 = some (.iconst 0, 1) := cg187_154.2.1
theorem c187_158 : mc_cd 187 158 = some (.istore 9, 2) := cg187_154.2.2.1
theorem c187_160 : mc_cd 187 160 = some (.iload 8, 2) := cg187_154.2.2.2.1
theorem c187_162 : mc_cd 187 162 = some (.ifCond .eq 18, 3) := cg187_154.2.2.2.2.1
theorem c187_165 : mc_cd 187 165 = some (.aload_n 0, 1) := cg187_154.2.2.2.2.2.1
theorem c187_166 : mc_cd 187 166 = some (.ldc 233, 2) := cg187_154.2.2.2.2.2.2.1
theorem c187_168 : mc_cd 187 168 = some (.iload 9, 2) := cg187_154.2.2.2.2.2.2.2
theorem cg187_170 : mc_cd 187 170 = some (.iconst 1, 1) ∧ mc_cd 187 171 = some (.iadd, 1) ∧ mc_cd 187 172 = some (.bipush 24, 2) ∧ mc_cd 187 174 = some (.invokevirtual 216, 3) ∧ mc_cd 187 177 = some (.goto 4, 3) ∧ mc_cd 187 180 = some (.iconst 0, 1) ∧ mc_cd 187 181 = some (.istore 10, 2) ∧ mc_cd 187 183 = some (.aload_n 0, 1) := by decide +kernel
theorem c187_170 : mc_cd 187 170 = some (.iconst 1, 1) := cg187_170.1
theorem c187_171 : mc_cd 187 171 = some (.iadd, 1) := cg187_170.2.1
theorem c187_172 : mc_cd 187 172 = some (.bipush 24, 2) := cg187_170.2.2.1
theorem c187_174 : mc_cd 187 174 = some (.invokevirtual 216, 3) := cg187_170.2.2.2.1
theorem c187_177 : mc_cd 187 177 = some (.goto 4, 3) := cg187_170.2.2.2.2.1
theorem c187_180 : mc_cd 187 180 = some (.iconst 0, 1) := cg187_170.2.2.2.2.2.1
theorem c187_181 : mc_cd 187 181 = some (.istore 10, 2) := cg187_170.2.2.2.2.2.2.1
theorem c187_183 : mc_cd 187 183 = some (.aload_n 0, 1) := cg187_170.2.2.2.2.2.2.2
theorem cg187_184 : mc_cd 187 184 = some (.ldc 160, 2) ∧ mc_cd 187 186 = some (.invokevirtual 240, 3) ∧ mc_cd 187 189 = some (.istore 11, 2) ∧ mc_cd 187 191 = some (.aload_n 0, 1) ∧ mc_cd 187 192 = some (.getfield 75, 3) ∧ mc_cd 187 195 = some (.iconst 5, 1) ∧ mc_cd 187 196 = some (.if_icmp .ne 4, 3) ∧ mc_cd 187 199 = some (.return_, 1) := by decide +kernel
theorem c187_184 : mc_cd 187 184 = some (.ldc 160, 2) := cg187_184.1
theorem c187_186 : mc_cd 187 186 = some (.invokevirtual 240, 3) := cg187_184.2.1
theorem c187_189 : mc_cd 187 189 = some (.istore 11, 2) := cg187_184.2.2.1
theorem c187_191 : mc_cd 187 191 = some (.aload_n 0, 1) := cg187_184.2.2.2.1
theorem c187_192 : mc_cd 187 192 = some (.getfield 75, 3) := cg187_184.2.2.2.2.1
theorem c187_195 : mc_cd 187 195 = some (.iconst 5, 1) := cg187_184.2.2.2.2.2.1
theorem c187_196 : mc_cd 187 196 = some (.if_icmp .ne 4, 3) := cg187_184.2.2.2.2.2.2.1
theorem c187_199 : mc_cd 187 199 = some (.return_, 1) := cg187_184.2.2.2.2.2.2.2
theorem cg187_200 : mc_cd 187 200 = some (.aload_n 0, 1) ∧ mc_cd 187 201 = some (.getfield 166, 3) ∧ mc_cd 187 204 = some (.getfield 188, 3) ∧ mc_cd 187 207 = some (.istore 12, 2) ∧ mc_cd 187 209 = some (.aload_n 0, 1) ∧ mc_cd 187 210 = some (.getfield 166, 3) ∧ mc_cd 187 213 = some (.getfield 243, 3) ∧ mc_cd 187 216 = some (.iload 12, 2) := by decide +kernel
theorem c187_200 : mc_cd 187 200 = some (.aload_n 0, 1) := cg187_200.1
theorem c187_201 : mc_cd 187 201 = some (.getfield 166, 3) := cg187_200.2.1
theorem c187_204 : mc_cd 187 204 = some (.getfield 188, 3) := cg187_200.2.2.1
theorem c187_207 : mc_cd 187 207 = some (.istore 12, 2) := cg187_200.2.2.2.1
theorem c187_209 : mc_cd 187 209 = some (.aload_n 0, 1) := cg187_200.2.2.2.2.1
theorem c187_210 : mc_cd 187 210 = some (.getfield 166, 3) := cg187_200.2.2.2.2.2.1
theorem c187_213 : mc_cd 187 213 = some (.getfield 243, 3) := cg187_200.2.2.2.2.2.2.1
theorem c187_216 : mc_cd 187 216 = some (.iload 12, 2) := cg187_200.2.2.2.2.2.2.2
theorem cg187_218 : mc_cd 187 218 = some (.lload_n 1, 1) ∧ mc_cd 187 219 = some (.lastore, 1) ∧ mc_cd 187 220 = some (.aload_n 0, 1) ∧ mc_cd 187 221 = some (.getfield 166, 3) ∧ mc_cd 187 224 = some (.getfield 247, 3) ∧ mc_cd 187 227 = some (.iload 12, 2) ∧ mc_cd 187 229 = some (.iload_n 3, 1) ∧ mc_cd 187 230 = some (.iastore, 1) := by decide +kernel
theorem c187_218 : mc_cd 187 218 = some (.lload_n 1, 1) := cg187_218.1
theorem c187_219 : mc_cd 187 219 = some (.lastore, 1) := cg187_218.2.1
theorem c187_220 : mc_cd 187 220 = some (.aload_n 0, 1) := cg187_218.2.2.1
theorem c187_221 : mc_cd 187 221 = some (.getfield 166, 3) := cg187_218.2.2.2.1
theorem c187_224 : mc_cd 187 224 = some (.getfield 247, 3) := cg187_218.2.2.2.2.1
theorem c187_227 : mc_cd 187 227 = some (.iload 12, 2) := cg187_218.2.2.2.2.2.1
theorem c187_229 : mc_cd 187 229 = some (.iload_n 3, 1) := cg187_218.2.2.2.2.2.2.1
theorem c187_230 : mc_cd 187 230 = some (.iastore, 1) := cg187_218.2.2.2.2.2.2.2
theorem cg187_231 : mc_cd 187 231 = some (.aload_n 0, 1) ∧ mc_cd 187 232 = some (.getfield 166, 3) ∧ mc_cd 187 235 = some (.getfield 250, 3) ∧ mc_cd 187 238 = some (.iload 12, 2) ∧ mc_cd 187 240 = some (.iload 4, 2) ∧ mc_cd 187 242 = some (.iastore, 1) ∧ mc_cd 187 243 = some (.aload_n 0, 1) ∧ mc_cd 187 244 = some (.getfield 166, 3) := by decide +kernel
theorem c187_231 : mc_cd 187 231 = some (.aload_n 0, 1) := cg187_231.1
theorem c187_232 : mc_cd 187 232 = some (.getfield 166, 3) := cg187_231.2.1
theorem c187_235 : mc_cd 187 235 = some (.getfield 250, 3) := cg187_231.2.2.1
theorem c187_238 : mc_cd 187 238 = some (.iload 12, 2) := cg187_231.2.2.2.1
theorem c187_240 : mc_cd 187 240 = some (.iload 4, 2) := cg187_231.2.2.2.2.1
theorem c187_242 : mc_cd 187 242 = some (.iastore, 1) := cg187_231.2.2.2.2.2.1
theorem c187_243 : mc_cd 187 243 = some (.aload_n 0, 1) := cg187_231.2.2.2.2.2.2.1
theorem c187_244 : mc_cd 187 244 = some (.getfield 166, 3) := cg187_231.2.2.2.2.2.2.2
theorem cg187_247 : mc_cd 187 247 = some (.getfield 253, 3) ∧ mc_cd 187 250 = some (.iload 12, 2) ∧ mc_cd 187 252 = some (.iload 5, 2) ∧ mc_cd 187 254 = some (.iastore, 1) ∧ mc_cd 187 255 = some (.aload_n 0, 1) ∧ mc_cd 187 256 = some (.getfield 166, 3) ∧ mc_cd 187 259 = some (.getfield 256, 3) ∧ mc_cd 187 262 = some (.iload 12, 2) := by decide +kernel
theorem c187_247 : mc_cd 187 247 = some (.getfield 253, 3) := cg187_247.1
theorem c187_250 : mc_cd 187 250 = some (.iload 12, 2) := cg187_247.2.1
theorem c187_252 : mc_cd 187 252 = some (.iload 5, 2) := cg187_247.2.2.1
theorem c187_254 : mc_cd 187 254 = some (.iastore, 1) := cg187_247.2.2.2.1
theorem c187_255 : mc_cd 187 255 = some (.aload_n 0, 1) := cg187_247.2.2.2.2.1
theorem c187_256 : mc_cd 187 256 = some (.getfield 166, 3) := cg187_247.2.2.2.2.2.1
theorem c187_259 : mc_cd 187 259 = some (.getfield 256, 3) := cg187_247.2.2.2.2.2.2.1
theorem c187_262 : mc_cd 187 262 = some (.iload 12, 2) := cg187_247.2.2.2.2.2.2.2
theorem cg187_264 : mc_cd 187 264 = some (.iload 6, 2) ∧ mc_cd 187 266 = some (.iastore, 1) ∧ mc_cd 187 267 = some (.aload_n 0, 1) ∧ mc_cd 187 268 = some (.getfield 166, 3) ∧ mc_cd 187 271 = some (.getfield 259, 3) ∧ mc_cd 187 274 = some (.iload 12, 2) ∧ mc_cd 187 276 = some (.iload 7, 2) ∧ mc_cd 187 278 = some (.iastore, 1) := by decide +kernel
theorem c187_264 : mc_cd 187 264 = some (.iload 6, 2) := cg187_264.1
theorem c187_266 : mc_cd 187 266 = some (.iastore, 1) := cg187_264.2.1
theorem c187_267 : mc_cd 187 267 = some (.aload_n 0, 1) := cg187_264.2.2.1
theorem c187_268 : mc_cd 187 268 = some (.getfield 166, 3) := cg187_264.2.2.2.1
theorem c187_271 : mc_cd 187 271 = some (.getfield 259, 3) := cg187_264.2.2.2.2.1
theorem c187_274 : mc_cd 187 274 = some (.iload 12, 2) := cg187_264.2.2.2.2.2.1
theorem c187_276 : mc_cd 187 276 = some (.iload 7, 2) := cg187_264.2.2.2.2.2.2.1
theorem c187_278 : mc_cd 187 278 = some (.iastore, 1) := cg187_264.2.2.2.2.2.2.2
theorem cg187_279 : mc_cd 187 279 = some (.aload_n 0, 1) ∧ mc_cd 187 280 = some (.getfield 166, 3) ∧ mc_cd 187 283 = some (.getfield 261, 3) ∧ mc_cd 187 286 = some (.iload 12, 2) ∧ mc_cd 187 288 = some (.iload 9, 2) ∧ mc_cd 187 290 = some (.iastore, 1) ∧ mc_cd 187 291 = some (.aload_n 0, 1) ∧ mc_cd 187 292 = some (.getfield 166, 3) := by decide +kernel
theorem c187_279 : mc_cd 187 279 = some (.aload_n 0, 1) := cg187_279.1
theorem c187_280 : mc_cd 187 280 = some (.getfield 166, 3) := cg187_279.2.1
theorem c187_283 : mc_cd 187 283 = some (.getfield 261, 3) := cg187_279.2.2.1
theorem c187_286 : mc_cd 187 286 = some (.iload 12, 2) := cg187_279.2.2.2.1
theorem c187_288 : mc_cd 187 288 = some (.iload 9, 2) := cg187_279.2.2.2.2.1
theorem c187_290 : mc_cd 187 290 = some (.iastore, 1) := cg187_279.2.2.2.2.2.1
theorem c187_291 : mc_cd 187 291 = some (.aload_n 0, 1) := cg187_279.2.2.2.2.2.2.1
theorem c187_292 : mc_cd 187 292 = some (.getfield 166, 3) := cg187_279.2.2.2.2.2.2.2
theorem cg187_295 : mc_cd 187 295 = some (.getfield 264, 3) ∧ mc_cd 187 298 = some (.iload 12, 2) ∧ mc_cd 187 300 = some (.iload 10, 2) ∧ mc_cd 187 302 = some (.iastore, 1) ∧ mc_cd 187 303 = some (.aload_n 0, 1) ∧ mc_cd 187 304 = some (.getfield 166, 3) ∧ mc_cd 187 307 = some (.getfield 267, 3) ∧ mc_cd 187 310 = some (.iload 12, 2) := by decide +kernel
theorem c187_295 : mc_cd 187 295 = some (.getfield 264, 3) := cg187_295.1
theorem c187_298 : mc_cd 187 298 = some (.iload 12, 2) := cg187_295.2.1
theorem c187_300 : mc_cd 187 300 = some (.iload 10, 2) := cg187_295.2.2.1
theorem c187_302 : mc_cd 187 302 = some (.iastore, 1) := cg187_295.2.2.2.1
theorem c187_303 : mc_cd 187 303 = some (.aload_n 0, 1) := cg187_295.2.2.2.2.1
theorem c187_304 : mc_cd 187 304 = some (.getfield 166, 3) := cg187_295.2.2.2.2.2.1
theorem c187_307 : mc_cd 187 307 = some (.getfield 267, 3) := cg187_295.2.2.2.2.2.2.1
theorem c187_310 : mc_cd 187 310 = some (.iload 12, 2) := cg187_295.2.2.2.2.2.2.2
theorem cg187_312 : mc_cd 187 312 = some (.iload 11, 2) ∧ mc_cd 187 314 = some (.bastore, 1) ∧ mc_cd 187 315 = some (.aload_n 0, 1) ∧ mc_cd 187 316 = some (.getfield 166, 3) ∧ mc_cd 187 319 = some (.dup, 1) ∧ mc_cd 187 320 = some (.getfield 188, 3) ∧ mc_cd 187 323 = some (.iconst 1, 1) ∧ mc_cd 187 324 = some (.iadd, 1) := by decide +kernel
theorem c187_312 : mc_cd 187 312 = some (.iload 11, 2) := cg187_312.1
theorem c187_314 : mc_cd 187 314 = some (.bastore, 1) := cg187_312.2.1
theorem c187_315 : mc_cd 187 315 = some (.aload_n 0, 1) := cg187_312.2.2.1
theorem c187_316 : mc_cd 187 316 = some (.getfield 166, 3) := cg187_312.2.2.2.1
theorem c187_319 : mc_cd 187 319 = some (.dup, 1) := cg187_312.2.2.2.2.1
theorem c187_320 : mc_cd 187 320 = some (.getfield 188, 3) := cg187_312.2.2.2.2.2.1
theorem c187_323 : mc_cd 187 323 = some (.iconst 1, 1) := cg187_312.2.2.2.2.2.2.1
theorem c187_324 : mc_cd 187 324 = some (.iadd, 1) := cg187_312.2.2.2.2.2.2.2
theorem cg187_325 : mc_cd 187 325 = some (.putfield 188, 3) ∧ mc_cd 187 328 = some (.return_, 1) := by decide +kernel
theorem c187_325 : mc_cd 187 325 = some (.putfield 188, 3) := cg187_325.1
theorem c187_328 : mc_cd 187 328 = some (.return_, 1) := cg187_325.2
end
section
/-! methods of the reference (own work, written by wip/gen2/sx.py) -/
/-! StrikeAwakeModel.known()I -/
theorem e195 : wq_en 195 = some (9, 2, false, some FieldType.int) := rfl
theorem cg195_0 : mc_cd 195 0 = some (.aload_n 0, 1) ∧ mc_cd 195 1 = some (.invokevirtual 162, 3) ∧ mc_cd 195 4 = some (.ifCond .ne 8, 3) ∧ mc_cd 195 7 = some (.aload_n 0, 1) ∧ mc_cd 195 8 = some (.iconst 1, 1) ∧ mc_cd 195 9 = some (.invokevirtual 121, 3) ∧ mc_cd 195 12 = some (.aload_n 0, 1) ∧ mc_cd 195 13 = some (.getfield 166, 3) := by decide +kernel
theorem c195_0 : mc_cd 195 0 = some (.aload_n 0, 1) := cg195_0.1
theorem c195_1 : mc_cd 195 1 = some (.invokevirtual 162, 3) := cg195_0.2.1
theorem c195_4 : mc_cd 195 4 = some (.ifCond .ne 8, 3) := cg195_0.2.2.1
theorem c195_7 : mc_cd 195 7 = some (.aload_n 0, 1) := cg195_0.2.2.2.1
theorem c195_8 : mc_cd 195 8 = some (.iconst 1, 1) := cg195_0.2.2.2.2.1
theorem c195_9 : mc_cd 195 9 = some (.invokevirtual 121, 3) := cg195_0.2.2.2.2.2.1
theorem c195_12 : mc_cd 195 12 = some (.aload_n 0, 1) := cg195_0.2.2.2.2.2.2.1
theorem c195_13 : mc_cd 195 13 = some (.getfield 166, 3) := cg195_0.2.2.2.2.2.2.2
theorem cg195_16 : mc_cd 195 16 = some (.aload_n 0, 1) ∧ mc_cd 195 17 = some (.getfield 94, 3) ∧ mc_cd 195 20 = some (.invokevirtual 170, 3) ∧ mc_cd 195 23 = some (.istore_n 1, 1) ∧ mc_cd 195 24 = some (.iload_n 1, 1) ∧ mc_cd 195 25 = some (.iconst (-1), 1) ∧ mc_cd 195 26 = some (.if_icmp .ne 8, 3) ∧ mc_cd 195 29 = some (.aload_n 0, 1) := by decide +kernel
theorem c195_16 : mc_cd 195 16 = some (.aload_n 0, 1) := cg195_16.1
theorem c195_17 : mc_cd 195 17 = some (.getfield 94, 3) := cg195_16.2.1
theorem c195_20 : mc_cd 195 20 = some (.invokevirtual 170, 3) := cg195_16.2.2.1
theorem c195_23 : mc_cd 195 23 = some (.istore_n 1, 1) := cg195_16.2.2.2.1
theorem c195_24 : mc_cd 195 24 = some (.iload_n 1, 1) := cg195_16.2.2.2.2.1
theorem c195_25 : mc_cd 195 25 = some (.iconst (-1), 1) := cg195_16.2.2.2.2.2.1
theorem c195_26 : mc_cd 195 26 = some (.if_icmp .ne 8, 3) := cg195_16.2.2.2.2.2.2.1
theorem c195_29 : mc_cd 195 29 = some (.aload_n 0, 1) := cg195_16.2.2.2.2.2.2.2
theorem cg195_30 : mc_cd 195 30 = some (.iconst 2, 1) ∧ mc_cd 195 31 = some (.invokevirtual 121, 3) ∧ mc_cd 195 34 = some (.aload_n 0, 1) ∧ mc_cd 195 35 = some (.getfield 75, 3) ∧ mc_cd 195 38 = some (.iconst 5, 1) ∧ mc_cd 195 39 = some (.if_icmp .ne 7, 3) ∧ mc_cd 195 42 = some (.iconst 0, 1) ∧ mc_cd 195 43 = some (.goto 4, 3) := by decide +kernel
theorem c195_30 : mc_cd 195 30 = some (.iconst 2, 1) := cg195_30.1
theorem c195_31 : mc_cd 195 31 = some (.invokevirtual 121, 3) := cg195_30.2.1
theorem c195_34 : mc_cd 195 34 = some (.aload_n 0, 1) := cg195_30.2.2.1
theorem c195_35 : mc_cd 195 35 = some (.getfield 75, 3) := cg195_30.2.2.2.1
theorem c195_38 : mc_cd 195 38 = some (.iconst 5, 1) := cg195_30.2.2.2.2.1
theorem c195_39 : mc_cd 195 39 = some (.if_icmp .ne 7, 3) := cg195_30.2.2.2.2.2.1
theorem c195_42 : mc_cd 195 42 = some (.iconst 0, 1) := cg195_30.2.2.2.2.2.2.1
theorem c195_43 : mc_cd 195 43 = some (.goto 4, 3) := cg195_30.2.2.2.2.2.2.2
theorem cg195_46 : mc_cd 195 46 = some (.iload_n 1, 1) ∧ mc_cd 195 47 = some (.ireturn, 1) := by decide +kernel
theorem c195_46 : mc_cd 195 46 = some (.iload_n 1, 1) := cg195_46.1
theorem c195_47 : mc_cd 195 47 = some (.ireturn, 1) := cg195_46.2
/-! StrikeAwakeModel.readKnown()I -/
theorem e194 : wq_en 194 = some (9, 2, false, some FieldType.int) := rfl
theorem cg194_0 : mc_cd 194 0 = some (.aload_n 0, 1) ∧ mc_cd 194 1 = some (.invokevirtual 176, 3) ∧ mc_cd 194 4 = some (.istore_n 1, 1) ∧ mc_cd 194 5 = some (.aload_n 0, 1) ∧ mc_cd 194 6 = some (.invokevirtual 118, 3) ∧ mc_cd 194 9 = some (.iload_n 1, 1) ∧ mc_cd 194 10 = some (.ireturn, 1) := by decide +kernel
theorem c194_0 : mc_cd 194 0 = some (.aload_n 0, 1) := cg194_0.1
theorem c194_1 : mc_cd 194 1 = some (.invokevirtual 176, 3) := cg194_0.2.1
theorem c194_4 : mc_cd 194 4 = some (.istore_n 1, 1) := cg194_0.2.2.1
theorem c194_5 : mc_cd 194 5 = some (.aload_n 0, 1) := cg194_0.2.2.2.1
theorem c194_6 : mc_cd 194 6 = some (.invokevirtual 118, 3) := cg194_0.2.2.2.2.1
theorem c194_9 : mc_cd 194 9 = some (.iload_n 1, 1) := cg194_0.2.2.2.2.2.1
theorem c194_10 : mc_cd 194 10 = some (.ireturn, 1) := cg194_0.2.2.2.2.2.2
/-! StrikeAwakeModel.readSexton()V -/
theorem e193 : wq_en 193 = some (9, 2, false, none) := rfl
theorem cg193_0 : mc_cd 193 0 = some (.aload_n 0, 1) ∧ mc_cd 193 1 = some (.getfield 166, 3) ∧ mc_cd 193 4 = some (.getfield 271, 3) ∧ mc_cd 193 7 = some (.iconst (-1), 1) ∧ mc_cd 193 8 = some (.if_icmp .eq 8, 3) ∧ mc_cd 193 11 = some (.aload_n 0, 1) ∧ mc_cd 193 12 = some (.iconst 3, 1) ∧ mc_cd 193 13 = some (.invokevirtual 121, 3) := by decide +kernel
theorem c193_0 : mc_cd 193 0 = some (.aload_n 0, 1) := cg193_0.1
theorem c193_1 : mc_cd 193 1 = some (.getfield 166, 3) := cg193_0.2.1
theorem c193_4 : mc_cd 193 4 = some (.getfield 271, 3) := cg193_0.2.2.1
theorem c193_7 : mc_cd 193 7 = some (.iconst (-1), 1) := cg193_0.2.2.2.1
theorem c193_8 : mc_cd 193 8 = some (.if_icmp .eq 8, 3) := cg193_0.2.2.2.2.1
theorem c193_11 : mc_cd 193 11 = some (.aload_n 0, 1) := cg193_0.2.2.2.2.2.1
theorem c193_12 : mc_cd 193 12 = some (.iconst 3, 1) := cg193_0.2.2.2.2.2.2.1
theorem c193_13 : mc_cd 193 13 = some (.invokevirtual 121, 3) := cg193_0.2.2.2.2.2.2.2
theorem cg193_16 : mc_cd 193 16 = some (.aload_n 0, 1) ∧ mc_cd 193 17 = some (.invokevirtual 118, 3) ∧ mc_cd 193 20 = some (.aload_n 0, 1) ∧ mc_cd 193 21 = some (.invokevirtual 273, 3) ∧ mc_cd 193 24 = some (.istore_n 1, 1) ∧ mc_cd 193 25 = some (.aload_n 0, 1) ∧ mc_cd 193 26 = some (.getfield 75, 3) ∧ mc_cd 193 29 = some (.iconst 5, 1) := by decide +kernel
theorem c193_16 : mc_cd 193 16 = some (.aload_n 0, 1) := cg193_16.1
theorem c193_17 : mc_cd 193 17 = some (.invokevirtual 118, 3) := cg193_16.2.1
theorem c193_20 : mc_cd 193 20 = some (.aload_n 0, 1) := cg193_16.2.2.1
theorem c193_21 : mc_cd 193 21 = some (.invokevirtual 273, 3) := cg193_16.2.2.2.1
theorem c193_24 : mc_cd 193 24 = some (.istore_n 1, 1) := cg193_16.2.2.2.2.1
theorem c193_25 : mc_cd 193 25 = some (.aload_n 0, 1) := cg193_16.2.2.2.2.2.1
theorem c193_26 : mc_cd 193 26 = some (.getfield 75, 3) := cg193_16.2.2.2.2.2.2.1
theorem c193_29 : mc_cd 193 29 = some (.iconst 5, 1) := cg193_16.2.2.2.2.2.2.2
theorem cg193_30 : mc_cd 193 30 = some (.if_icmp .eq 11, 3) ∧ mc_cd 193 33 = some (.aload_n 0, 1) ∧ mc_cd 193 34 = some (.getfield 166, 3) ∧ mc_cd 193 37 = some (.iload_n 1, 1) ∧ mc_cd 193 38 = some (.putfield 271, 3) ∧ mc_cd 193 41 = some (.return_, 1) := by decide +kernel
theorem c193_30 : mc_cd 193 30 = some (.if_icmp .eq 11, 3) := cg193_30.1
theorem c193_33 : mc_cd 193 33 = some (.aload_n 0, 1) := cg193_30.2.1
theorem c193_34 : mc_cd 193 34 = some (.getfield 166, 3) := cg193_30.2.2.1
theorem c193_37 : mc_cd 193 37 = some (.iload_n 1, 1) := cg193_30.2.2.2.1
theorem c193_38 : mc_cd 193 38 = some (.putfield 271, 3) := cg193_30.2.2.2.2.1
theorem c193_41 : mc_cd 193 41 = some (.return_, 1) := cg193_30.2.2.2.2.2
/-! StrikeAwakeModel.needsSign(I)V -/
theorem e197 : wq_en 197 = some (9, 2, false, none) := rfl
theorem cg197_0 : mc_cd 197 0 = some (.aload_n 0, 1) ∧ mc_cd 197 1 = some (.getfield 75, 3) ∧ mc_cd 197 4 = some (.iconst 4, 1) ∧ mc_cd 197 5 = some (.if_icmp .ne 11, 3) ∧ mc_cd 197 8 = some (.aload_n 0, 1) ∧ mc_cd 197 9 = some (.getfield 87, 3) ∧ mc_cd 197 12 = some (.iload_n 1, 1) ∧ mc_cd 197 13 = some (.if_icmp .eq 8, 3) := by decide +kernel
theorem c197_0 : mc_cd 197 0 = some (.aload_n 0, 1) := cg197_0.1
theorem c197_1 : mc_cd 197 1 = some (.getfield 75, 3) := cg197_0.2.1
theorem c197_4 : mc_cd 197 4 = some (.iconst 4, 1) := cg197_0.2.2.1
theorem c197_5 : mc_cd 197 5 = some (.if_icmp .ne 11, 3) := cg197_0.2.2.2.1
theorem c197_8 : mc_cd 197 8 = some (.aload_n 0, 1) := cg197_0.2.2.2.2.1
theorem c197_9 : mc_cd 197 9 = some (.getfield 87, 3) := cg197_0.2.2.2.2.2.1
theorem c197_12 : mc_cd 197 12 = some (.iload_n 1, 1) := cg197_0.2.2.2.2.2.2.1
theorem c197_13 : mc_cd 197 13 = some (.if_icmp .eq 8, 3) := cg197_0.2.2.2.2.2.2.2
theorem cg197_16 : mc_cd 197 16 = some (.aload_n 0, 1) ∧ mc_cd 197 17 = some (.iconst 1, 1) ∧ mc_cd 197 18 = some (.invokevirtual 121, 3) ∧ mc_cd 197 21 = some (.aload_n 0, 1) ∧ mc_cd 197 22 = some (.invokevirtual 118, 3) ∧ mc_cd 197 25 = some (.return_, 1) := by decide +kernel
theorem c197_16 : mc_cd 197 16 = some (.aload_n 0, 1) := cg197_16.1
theorem c197_17 : mc_cd 197 17 = some (.iconst 1, 1) := cg197_16.2.1
theorem c197_18 : mc_cd 197 18 = some (.invokevirtual 121, 3) := cg197_16.2.2.1
theorem c197_21 : mc_cd 197 21 = some (.aload_n 0, 1) := cg197_16.2.2.2.1
theorem c197_22 : mc_cd 197 22 = some (.invokevirtual 118, 3) := cg197_16.2.2.2.2.1
theorem c197_25 : mc_cd 197 25 = some (.return_, 1) := cg197_16.2.2.2.2.2
/-! StrikeAwakeModel.readApart()V -/
theorem e196 : wq_en 196 = some (9, 5, false, none) := rfl
theorem cg196_0 : mc_cd 196 0 = some (.aload_n 0, 1) ∧ mc_cd 196 1 = some (.aload_n 0, 1) ∧ mc_cd 196 2 = some (.getfield 166, 3) ∧ mc_cd 196 5 = some (.getfield 276, 3) ∧ mc_cd 196 8 = some (.iconst 3, 1) ∧ mc_cd 196 9 = some (.invokevirtual 228, 3) ∧ mc_cd 196 12 = some (.aload_n 0, 1) ∧ mc_cd 196 13 = some (.invokevirtual 273, 3) := by decide +kernel
theorem c196_0 : mc_cd 196 0 = some (.aload_n 0, 1) := cg196_0.1
theorem c196_1 : mc_cd 196 1 = some (.aload_n 0, 1) := cg196_0.2.1
theorem c196_2 : mc_cd 196 2 = some (.getfield 166, 3) := cg196_0.2.2.1
theorem c196_5 : mc_cd 196 5 = some (.getfield 276, 3) := cg196_0.2.2.2.1
theorem c196_8 : mc_cd 196 8 = some (.iconst 3, 1) := cg196_0.2.2.2.2.1
theorem c196_9 : mc_cd 196 9 = some (.invokevirtual 228, 3) := cg196_0.2.2.2.2.2.1
theorem c196_12 : mc_cd 196 12 = some (.aload_n 0, 1) := cg196_0.2.2.2.2.2.2.1
theorem c196_13 : mc_cd 196 13 = some (.invokevirtual 273, 3) := cg196_0.2.2.2.2.2.2.2
theorem cg196_16 : mc_cd 196 16 = some (.istore_n 1, 1) ∧ mc_cd 196 17 = some (.aload_n 0, 1) ∧ mc_cd 196 18 = some (.bipush 44, 2) ∧ mc_cd 196 20 = some (.invokevirtual 279, 3) ∧ mc_cd 196 23 = some (.aload_n 0, 1) ∧ mc_cd 196 24 = some (.invokevirtual 176, 3) ∧ mc_cd 196 27 = some (.istore_n 2, 1) ∧ mc_cd 196 28 = some (.iload_n 1, 1) := by decide +kernel
theorem c196_16 : mc_cd 196 16 = some (.istore_n 1, 1) := cg196_16.1
theorem c196_17 : mc_cd 196 17 = some (.aload_n 0, 1) := cg196_16.2.1
theorem c196_18 : mc_cd 196 18 = some (.bipush 44, 2) := cg196_16.2.2.1
theorem c196_20 : mc_cd 196 20 = some (.invokevirtual 279, 3) := cg196_16.2.2.2.1
theorem c196_23 : mc_cd 196 23 = some (.aload_n 0, 1) := cg196_16.2.2.2.2.1
theorem c196_24 : mc_cd 196 24 = some (.invokevirtual 176, 3) := cg196_16.2.2.2.2.2.1
theorem c196_27 : mc_cd 196 27 = some (.istore_n 2, 1) := cg196_16.2.2.2.2.2.2.1
theorem c196_28 : mc_cd 196 28 = some (.iload_n 1, 1) := cg196_16.2.2.2.2.2.2.2
theorem cg196_29 : mc_cd 196 29 = some (.iload_n 2, 1) ∧ mc_cd 196 30 = some (.if_icmp .ne 7, 3) ∧ mc_cd 196 33 = some (.iconst 1, 1) ∧ mc_cd 196 34 = some (.goto 4, 3) ∧ mc_cd 196 37 = some (.iconst 0, 1) ∧ mc_cd 196 38 = some (.istore_n 3, 1) ∧ mc_cd 196 39 = some (.iconst 0, 1) ∧ mc_cd 196 40 = some (.istore 4, 2) := by decide +kernel
theorem c196_29 : mc_cd 196 29 = some (.iload_n 2, 1) := cg196_29.1
theorem c196_30 : mc_cd 196 30 = some (.if_icmp .ne 7, 3) := cg196_29.2.1
theorem c196_33 : mc_cd 196 33 = some (.iconst 1, 1) := cg196_29.2.2.1
theorem c196_34 : mc_cd 196 34 = some (.goto 4, 3) := cg196_29.2.2.2.1
theorem c196_37 : mc_cd 196 37 = some (.iconst 0, 1) := cg196_29.2.2.2.2.1
theorem c196_38 : mc_cd 196 38 = some (.istore_n 3, 1) := cg196_29.2.2.2.2.2.1
theorem c196_39 : mc_cd 196 39 = some (.iconst 0, 1) := cg196_29.2.2.2.2.2.2.1
theorem c196_40 : mc_cd 196 40 = some (.istore 4, 2) := cg196_29.2.2.2.2.2.2.2
theorem cg196_42 : mc_cd 196 42 = some (.iload 4, 2) ∧ mc_cd 196 44 = some (.aload_n 0, 1) ∧ mc_cd 196 45 = some (.getfield 166, 3) ∧ mc_cd 196 48 = some (.getfield 276, 3) ∧ mc_cd 196 51 = some (.if_icmp .ge 75, 3) ∧ mc_cd 196 54 = some (.iload_n 3, 1) ∧ mc_cd 196 55 = some (.ifCond .ne 59, 3) ∧ mc_cd 196 58 = some (.aload_n 0, 1) := by decide +kernel
theorem c196_42 : mc_cd 196 42 = some (.iload 4, 2) := cg196_42.1
theorem c196_44 : mc_cd 196 44 = some (.aload_n 0, 1) := cg196_42.2.1
theorem c196_45 : mc_cd 196 45 = some (.getfield 166, 3) := cg196_42.2.2.1
theorem c196_48 : mc_cd 196 48 = some (.getfield 276, 3) := cg196_42.2.2.2.1
theorem c196_51 : mc_cd 196 51 = some (.if_icmp .ge 75, 3) := cg196_42.2.2.2.2.1
theorem c196_54 : mc_cd 196 54 = some (.iload_n 3, 1) := cg196_42.2.2.2.2.2.1
theorem c196_55 : mc_cd 196 55 = some (.ifCond .ne 59, 3) := cg196_42.2.2.2.2.2.2.1
theorem c196_58 : mc_cd 196 58 = some (.aload_n 0, 1) := cg196_42.2.2.2.2.2.2.2
theorem cg196_59 : mc_cd 196 59 = some (.getfield 166, 3) ∧ mc_cd 196 62 = some (.getfield 282, 3) ∧ mc_cd 196 65 = some (.iload 4, 2) ∧ mc_cd 196 67 = some (.iaload, 1) ∧ mc_cd 196 68 = some (.iload_n 1, 1) ∧ mc_cd 196 69 = some (.if_icmp .ne 17, 3) ∧ mc_cd 196 72 = some (.aload_n 0, 1) ∧ mc_cd 196 73 = some (.getfield 166, 3) := by decide +kernel
theorem c196_59 : mc_cd 196 59 = some (.getfield 166, 3) := cg196_59.1
theorem c196_62 : mc_cd 196 62 = some (.getfield 282, 3) := cg196_59.2.1
theorem c196_65 : mc_cd 196 65 = some (.iload 4, 2) := cg196_59.2.2.1
theorem c196_67 : mc_cd 196 67 = some (.iaload, 1) := cg196_59.2.2.2.1
theorem c196_68 : mc_cd 196 68 = some (.iload_n 1, 1) := cg196_59.2.2.2.2.1
theorem c196_69 : mc_cd 196 69 = some (.if_icmp .ne 17, 3) := cg196_59.2.2.2.2.2.1
theorem c196_72 : mc_cd 196 72 = some (.aload_n 0, 1) := cg196_59.2.2.2.2.2.2.1
theorem c196_73 : mc_cd 196 73 = some (.getfield 166, 3) := cg196_59.2.2.2.2.2.2.2
theorem cg196_76 : mc_cd 196 76 = some (.getfield 285, 3) ∧ mc_cd 196 79 = some (.iload 4, 2) ∧ mc_cd 196 81 = some (.iaload, 1) ∧ mc_cd 196 82 = some (.iload_n 2, 1) ∧ mc_cd 196 83 = some (.if_icmp .eq 31, 3) ∧ mc_cd 196 86 = some (.aload_n 0, 1) ∧ mc_cd 196 87 = some (.getfield 166, 3) ∧ mc_cd 196 90 = some (.getfield 282, 3) := by decide +kernel
theorem c196_76 : mc_cd 196 76 = some (.getfield 285, 3) := cg196_76.1
theorem c196_79 : mc_cd 196 79 = some (.iload 4, 2) := cg196_76.2.1
theorem c196_81 : mc_cd 196 81 = some (.iaload, 1) := cg196_76.2.2.1
theorem c196_82 : mc_cd 196 82 = some (.iload_n 2, 1) := cg196_76.2.2.2.1
theorem c196_83 : mc_cd 196 83 = some (.if_icmp .eq 31, 3) := cg196_76.2.2.2.2.1
theorem c196_86 : mc_cd 196 86 = some (.aload_n 0, 1) := cg196_76.2.2.2.2.2.1
theorem c196_87 : mc_cd 196 87 = some (.getfield 166, 3) := cg196_76.2.2.2.2.2.2.1
theorem c196_90 : mc_cd 196 90 = some (.getfield 282, 3) := cg196_76.2.2.2.2.2.2.2
theorem cg196_93 : mc_cd 196 93 = some (.iload 4, 2) ∧ mc_cd 196 95 = some (.iaload, 1) ∧ mc_cd 196 96 = some (.iload_n 2, 1) ∧ mc_cd 196 97 = some (.if_icmp .ne 21, 3) ∧ mc_cd 196 100 = some (.aload_n 0, 1) ∧ mc_cd 196 101 = some (.getfield 166, 3) ∧ mc_cd 196 104 = some (.getfield 285, 3) ∧ mc_cd 196 107 = some (.iload 4, 2) := by decide +kernel
theorem c196_93 : mc_cd 196 93 = some (.iload 4, 2) := cg196_93.1
theorem c196_95 : mc_cd 196 95 = some (.iaload, 1) := cg196_93.2.1
theorem c196_96 : mc_cd 196 96 = some (.iload_n 2, 1) := cg196_93.2.2.1
theorem c196_97 : mc_cd 196 97 = some (.if_icmp .ne 21, 3) := cg196_93.2.2.2.1
theorem c196_100 : mc_cd 196 100 = some (.aload_n 0, 1) := cg196_93.2.2.2.2.1
theorem c196_101 : mc_cd 196 101 = some (.getfield 166, 3) := cg196_93.2.2.2.2.2.1
theorem c196_104 : mc_cd 196 104 = some (.getfield 285, 3) := cg196_93.2.2.2.2.2.2.1
theorem c196_107 : mc_cd 196 107 = some (.iload 4, 2) := cg196_93.2.2.2.2.2.2.2
theorem cg196_109 : mc_cd 196 109 = some (.iaload, 1) ∧ mc_cd 196 110 = some (.iload_n 1, 1) ∧ mc_cd 196 111 = some (.if_icmp .ne 7, 3) ∧ mc_cd 196 114 = some (.iconst 1, 1) ∧ mc_cd 196 115 = some (.goto 4, 3) ∧ mc_cd 196 118 = some (.iconst 0, 1) ∧ mc_cd 196 119 = some (.istore_n 3, 1) ∧ mc_cd 196 120 = some (.iinc 4 1, 3) := by decide +kernel
theorem c196_109 : mc_cd 196 109 = some (.iaload, 1) := cg196_109.1
theorem c196_110 : mc_cd 196 110 = some (.iload_n 1, 1) := cg196_109.2.1
theorem c196_111 : mc_cd 196 111 = some (.if_icmp .ne 7, 3) := cg196_109.2.2.1
theorem c196_114 : mc_cd 196 114 = some (.iconst 1, 1) := cg196_109.2.2.2.1
theorem c196_115 : mc_cd 196 115 = some (.goto 4, 3) := cg196_109.2.2.2.2.1
theorem c196_118 : mc_cd 196 118 = some (.iconst 0, 1) := cg196_109.2.2.2.2.2.1
theorem c196_119 : mc_cd 196 119 = some (.istore_n 3, 1) := cg196_109.2.2.2.2.2.2.1
theorem c196_120 : mc_cd 196 120 = some (.iinc 4 1, 3) := cg196_109.2.2.2.2.2.2.2
theorem cg196_123 : mc_cd 196 123 = some (.goto (-81), 3) ∧ mc_cd 196 126 = some (.iload_n 3, 1) ∧ mc_cd 196 127 = some (.ifCond .eq 8, 3) ∧ mc_cd 196 130 = some (.aload_n 0, 1) ∧ mc_cd 196 131 = some (.iconst 3, 1) ∧ mc_cd 196 132 = some (.invokevirtual 121, 3) ∧ mc_cd 196 135 = some (.aload_n 0, 1) ∧ mc_cd 196 136 = some (.invokevirtual 118, 3) := by decide +kernel
theorem c196_123 : mc_cd 196 123 = some (.goto (-81), 3) := cg196_123.1
theorem c196_126 : mc_cd 196 126 = some (.iload_n 3, 1) := cg196_123.2.1
theorem c196_127 : mc_cd 196 127 = some (.ifCond .eq 8, 3) := cg196_123.2.2.1
theorem c196_130 : mc_cd 196 130 = some (.aload_n 0, 1) := cg196_123.2.2.2.1
theorem c196_131 : mc_cd 196 131 = some (.iconst 3, 1) := cg196_123.2.2.2.2.1
theorem c196_132 : mc_cd 196 132 = some (.invokevirtual 121, 3) := cg196_123.2.2.2.2.2.1
theorem c196_135 : mc_cd 196 135 = some (.aload_n 0, 1) := cg196_123.2.2.2.2.2.2.1
theorem c196_136 : mc_cd 196 136 = some (.invokevirtual 118, 3) := cg196_123.2.2.2.2.2.2.2
theorem cg196_139 : mc_cd 196 139 = some (.aload_n 0, 1) ∧ mc_cd 196 140 = some (.getfield 75, 3) ∧ mc_cd 196 143 = some (.iconst 5, 1) ∧ mc_cd 196 144 = some (.if_icmp .ne 4, 3) ∧ mc_cd 196 147 = some (.return_, 1) ∧ mc_cd 196 148 = some (.aload_n 0, 1) ∧ mc_cd 196 149 = some (.getfield 166, 3) ∧ mc_cd 196 152 = some (.getfield 282, 3) := by decide +kernel
theorem c196_139 : mc_cd 196 139 = some (.aload_n 0, 1) := cg196_139.1
theorem c196_140 : mc_cd 196 140 = some (.getfield 75, 3) := cg196_139.2.1
theorem c196_143 : mc_cd 196 143 = some (.iconst 5, 1) := cg196_139.2.2.1
theorem c196_144 : mc_cd 196 144 = some (.if_icmp .ne 4, 3) := cg196_139.2.2.2.1
theorem c196_147 : mc_cd 196 147 = some (.return_, 1) := cg196_139.2.2.2.2.1
theorem c196_148 : mc_cd 196 148 = some (.aload_n 0, 1) := cg196_139.2.2.2.2.2.1
theorem c196_149 : mc_cd 196 149 = some (.getfield 166, 3) := cg196_139.2.2.2.2.2.2.1
theorem c196_152 : mc_cd 196 152 = some (.getfield 282, 3) := cg196_139.2.2.2.2.2.2.2
theorem cg196_155 : mc_cd 196 155 = some (.aload_n 0, 1) ∧ mc_cd 196 156 = some (.getfield 166, 3) ∧ mc_cd 196 159 = some (.getfield 276, 3) ∧ mc_cd 196 162 = some (.iload_n 1, 1) ∧ mc_cd 196 163 = some (.iastore, 1) ∧ mc_cd 196 164 = some (.aload_n 0, 1) ∧ mc_cd 196 165 = some (.getfield 166, 3) ∧ mc_cd 196 168 = some (.getfield 285, 3) := by decide +kernel
theorem c196_155 : mc_cd 196 155 = some (.aload_n 0, 1) := cg196_155.1
theorem c196_156 : mc_cd 196 156 = some (.getfield 166, 3) := cg196_155.2.1
theorem c196_159 : mc_cd 196 159 = some (.getfield 276, 3) := cg196_155.2.2.1
theorem c196_162 : mc_cd 196 162 = some (.iload_n 1, 1) := cg196_155.2.2.2.1
theorem c196_163 : mc_cd 196 163 = some (.iastore, 1) := cg196_155.2.2.2.2.1
theorem c196_164 : mc_cd 196 164 = some (.aload_n 0, 1) := cg196_155.2.2.2.2.2.1
theorem c196_165 : mc_cd 196 165 = some (.getfield 166, 3) := cg196_155.2.2.2.2.2.2.1
theorem c196_168 : mc_cd 196 168 = some (.getfield 285, 3) := cg196_155.2.2.2.2.2.2.2
theorem cg196_171 : mc_cd 196 171 = some (.aload_n 0, 1) ∧ mc_cd 196 172 = some (.getfield 166, 3) ∧ mc_cd 196 175 = some (.getfield 276, 3) ∧ mc_cd 196 178 = some (.iload_n 2, 1) ∧ mc_cd 196 179 = some (.iastore, 1) ∧ mc_cd 196 180 = some (.aload_n 0, 1) ∧ mc_cd 196 181 = some (.getfield 166, 3) ∧ mc_cd 196 184 = some (.dup, 1) := by decide +kernel
theorem c196_171 : mc_cd 196 171 = some (.aload_n 0, 1) := cg196_171.1
theorem c196_172 : mc_cd 196 172 = some (.getfield 166, 3) := cg196_171.2.1
theorem c196_175 : mc_cd 196 175 = some (.getfield 276, 3) := cg196_171.2.2.1
theorem c196_178 : mc_cd 196 178 = some (.iload_n 2, 1) := cg196_171.2.2.2.1
theorem c196_179 : mc_cd 196 179 = some (.iastore, 1) := cg196_171.2.2.2.2.1
theorem c196_180 : mc_cd 196 180 = some (.aload_n 0, 1) := cg196_171.2.2.2.2.2.1
theorem c196_181 : mc_cd 196 181 = some (.getfield 166, 3) := cg196_171.2.2.2.2.2.2.1
theorem c196_184 : mc_cd 196 184 = some (.dup, 1) := cg196_171.2.2.2.2.2.2.2
theorem cg196_185 : mc_cd 196 185 = some (.getfield 276, 3) ∧ mc_cd 196 188 = some (.iconst 1, 1) ∧ mc_cd 196 189 = some (.iadd, 1) ∧ mc_cd 196 190 = some (.putfield 276, 3) ∧ mc_cd 196 193 = some (.return_, 1) := by decide +kernel
theorem c196_185 : mc_cd 196 185 = some (.getfield 276, 3) := cg196_185.1
theorem c196_188 : mc_cd 196 188 = some (.iconst 1, 1) := cg196_185.2.1
theorem c196_189 : mc_cd 196 189 = some (.iadd, 1) := cg196_185.2.2.1
theorem c196_190 : mc_cd 196 190 = some (.putfield 276, 3) := cg196_185.2.2.2.1
theorem c196_193 : mc_cd 196 193 = some (.return_, 1) := cg196_185.2.2.2.2
/-! StrikeAwakeModel.readBorn()V -/
theorem e198 : wq_en 198 = some (9, 2, false, none) := rfl
theorem cg198_0 : mc_cd 198 0 = some (.aload_n 0, 1) ∧ mc_cd 198 1 = some (.aload_n 0, 1) ∧ mc_cd 198 2 = some (.getfield 166, 3) ∧ mc_cd 198 5 = some (.getfield 288, 3) ∧ mc_cd 198 8 = some (.iconst 3, 1) ∧ mc_cd 198 9 = some (.invokevirtual 228, 3) ∧ mc_cd 198 12 = some (.aload_n 0, 1) ∧ mc_cd 198 13 = some (.iconst 0, 1) := by decide +kernel
theorem c198_0 : mc_cd 198 0 = some (.aload_n 0, 1) := cg198_0.1
theorem c198_1 : mc_cd 198 1 = some (.aload_n 0, 1) := cg198_0.2.1
theorem c198_2 : mc_cd 198 2 = some (.getfield 166, 3) := cg198_0.2.2.1
theorem c198_5 : mc_cd 198 5 = some (.getfield 288, 3) := cg198_0.2.2.2.1
theorem c198_8 : mc_cd 198 8 = some (.iconst 3, 1) := cg198_0.2.2.2.2.1
theorem c198_9 : mc_cd 198 9 = some (.invokevirtual 228, 3) := cg198_0.2.2.2.2.2.1
theorem c198_12 : mc_cd 198 12 = some (.aload_n 0, 1) := cg198_0.2.2.2.2.2.2.1
theorem c198_13 : mc_cd 198 13 = some (.iconst 0, 1) := cg198_0.2.2.2.2.2.2.2
theorem cg198_14 : mc_cd 198 14 = some (.bipush 23, 2) ∧ mc_cd 198 16 = some (.invokevirtual 137, 3) ∧ mc_cd 198 19 = some (.istore_n 1, 1) ∧ mc_cd 198 20 = some (.aload_n 0, 1) ∧ mc_cd 198 21 = some (.getfield 75, 3) ∧ mc_cd 198 24 = some (.iconst 5, 1) ∧ mc_cd 198 25 = some (.if_icmp .ne 4, 3) ∧ mc_cd 198 28 = some (.return_, 1) := by decide +kernel
theorem c198_14 : mc_cd 198 14 = some (.bipush 23, 2) := cg198_14.1
theorem c198_16 : mc_cd 198 16 = some (.invokevirtual 137, 3) := cg198_14.2.1
theorem c198_19 : mc_cd 198 19 = some (.istore_n 1, 1) := cg198_14.2.2.1
theorem c198_20 : mc_cd 198 20 = some (.aload_n 0, 1) := cg198_14.2.2.2.1
theorem c198_21 : mc_cd 198 21 = some (.getfield 75, 3) := cg198_14.2.2.2.2.1
theorem c198_24 : mc_cd 198 24 = some (.iconst 5, 1) := cg198_14.2.2.2.2.2.1
theorem c198_25 : mc_cd 198 25 = some (.if_icmp .ne 4, 3) := cg198_14.2.2.2.2.2.2.1
theorem c198_28 : mc_cd 198 28 = some (.return_, 1) := cg198_14.2.2.2.2.2.2.2
theorem cg198_29 : mc_cd 198 29 = some (.aload_n 0, 1) ∧ mc_cd 198 30 = some (.getfield 166, 3) ∧ mc_cd 198 33 = some (.getfield 291, 3) ∧ mc_cd 198 36 = some (.aload_n 0, 1) ∧ mc_cd 198 37 = some (.getfield 166, 3) ∧ mc_cd 198 40 = some (.getfield 288, 3) ∧ mc_cd 198 43 = some (.iload_n 1, 1) ∧ mc_cd 198 44 = some (.iastore, 1) := by decide +kernel
theorem c198_29 : mc_cd 198 29 = some (.aload_n 0, 1) := cg198_29.1
theorem c198_30 : mc_cd 198 30 = some (.getfield 166, 3) := cg198_29.2.1
theorem c198_33 : mc_cd 198 33 = some (.getfield 291, 3) := cg198_29.2.2.1
theorem c198_36 : mc_cd 198 36 = some (.aload_n 0, 1) := cg198_29.2.2.2.1
theorem c198_37 : mc_cd 198 37 = some (.getfield 166, 3) := cg198_29.2.2.2.2.1
theorem c198_40 : mc_cd 198 40 = some (.getfield 288, 3) := cg198_29.2.2.2.2.2.1
theorem c198_43 : mc_cd 198 43 = some (.iload_n 1, 1) := cg198_29.2.2.2.2.2.2.1
theorem c198_44 : mc_cd 198 44 = some (.iastore, 1) := cg198_29.2.2.2.2.2.2.2
theorem cg198_45 : mc_cd 198 45 = some (.aload_n 0, 1) ∧ mc_cd 198 46 = some (.getfield 166, 3) ∧ mc_cd 198 49 = some (.dup, 1) ∧ mc_cd 198 50 = some (.getfield 288, 3) ∧ mc_cd 198 53 = some (.iconst 1, 1) ∧ mc_cd 198 54 = some (.iadd, 1) ∧ mc_cd 198 55 = some (.putfield 288, 3) ∧ mc_cd 198 58 = some (.return_, 1) := by decide +kernel
theorem c198_45 : mc_cd 198 45 = some (.aload_n 0, 1) := cg198_45.1
theorem c198_46 : mc_cd 198 46 = some (.getfield 166, 3) := cg198_45.2.1
theorem c198_49 : mc_cd 198 49 = some (.dup, 1) := cg198_45.2.2.1
theorem c198_50 : mc_cd 198 50 = some (.getfield 288, 3) := cg198_45.2.2.2.1
theorem c198_53 : mc_cd 198 53 = some (.iconst 1, 1) := cg198_45.2.2.2.2.1
theorem c198_54 : mc_cd 198 54 = some (.iadd, 1) := cg198_45.2.2.2.2.2.1
theorem c198_55 : mc_cd 198 55 = some (.putfield 288, 3) := cg198_45.2.2.2.2.2.2.1
theorem c198_58 : mc_cd 198 58 = some (.return_, 1) := cg198_45.2.2.2.2.2.2.2
/-! StrikeAwakeModel.readStruck()V -/
theorem e199 : wq_en 199 = some (9, 3, false, none) := rfl
theorem cg199_0 : mc_cd 199 0 = some (.aload_n 0, 1) ∧ mc_cd 199 1 = some (.aload_n 0, 1) ∧ mc_cd 199 2 = some (.getfield 293, 3) ∧ mc_cd 199 5 = some (.bipush 24, 2) ∧ mc_cd 199 7 = some (.invokevirtual 228, 3) ∧ mc_cd 199 10 = some (.aload_n 0, 1) ∧ mc_cd 199 11 = some (.iconst 0, 1) ∧ mc_cd 199 12 = some (.bipush 23, 2) := by decide +kernel
theorem c199_0 : mc_cd 199 0 = some (.aload_n 0, 1) := cg199_0.1
theorem c199_1 : mc_cd 199 1 = some (.aload_n 0, 1) := cg199_0.2.1
theorem c199_2 : mc_cd 199 2 = some (.getfield 293, 3) := cg199_0.2.2.1
theorem c199_5 : mc_cd 199 5 = some (.bipush 24, 2) := cg199_0.2.2.2.1
theorem c199_7 : mc_cd 199 7 = some (.invokevirtual 228, 3) := cg199_0.2.2.2.2.1
theorem c199_10 : mc_cd 199 10 = some (.aload_n 0, 1) := cg199_0.2.2.2.2.2.1
theorem c199_11 : mc_cd 199 11 = some (.iconst 0, 1) := cg199_0.2.2.2.2.2.2.1
theorem c199_12 : mc_cd 199 12 = some (.bipush 23, 2) := cg199_0.2.2.2.2.2.2.2
theorem cg199_14 : mc_cd 199 14 = some (.invokevirtual 129, 3) ∧ mc_cd 199 17 = some (.istore_n 1, 1) ∧ mc_cd 199 18 = some (.aload_n 0, 1) ∧ mc_cd 199 19 = some (.getfield 75, 3) ∧ mc_cd 199 22 = some (.iconst 5, 1) ∧ mc_cd 199 23 = some (.if_icmp .eq 20, 3) ∧ mc_cd 199 26 = some (.aload_n 0, 1) ∧ mc_cd 199 27 = some (.getfield 166, 3) := by decide +kernel
theorem c199_14 : mc_cd 199 14 = some (.invokevirtual 129, 3) := cg199_14.1
theorem c199_17 : mc_cd 199 17 = some (.istore_n 1, 1) := cg199_14.2.1
theorem c199_18 : mc_cd 199 18 = some (.aload_n 0, 1) := cg199_14.2.2.1
theorem c199_19 : mc_cd 199 19 = some (.getfield 75, 3) := cg199_14.2.2.2.1
theorem c199_22 : mc_cd 199 22 = some (.iconst 5, 1) := cg199_14.2.2.2.2.1
theorem c199_23 : mc_cd 199 23 = some (.if_icmp .eq 20, 3) := cg199_14.2.2.2.2.2.1
theorem c199_26 : mc_cd 199 26 = some (.aload_n 0, 1) := cg199_14.2.2.2.2.2.2.1
theorem c199_27 : mc_cd 199 27 = some (.getfield 166, 3) := cg199_14.2.2.2.2.2.2.2
theorem cg199_30 : mc_cd 199 30 = some (.getfield 296, 3) ∧ mc_cd 199 33 = some (.iload_n 1, 1) ∧ mc_cd 199 34 = some (.iaload, 1) ∧ mc_cd 199 35 = some (.ifCond .le 8, 3) ∧ mc_cd 199 38 = some (.aload_n 0, 1) ∧ mc_cd 199 39 = some (.iconst 3, 1) ∧ mc_cd 199 40 = some (.invokevirtual 121, 3) ∧ mc_cd 199 43 = some (.aload_n 0, 1) := by decide +kernel
theorem c199_30 : mc_cd 199 30 = some (.getfield 296, 3) := cg199_30.1
theorem c199_33 : mc_cd 199 33 = some (.iload_n 1, 1) := cg199_30.2.1
theorem c199_34 : mc_cd 199 34 = some (.iaload, 1) := cg199_30.2.2.1
theorem c199_35 : mc_cd 199 35 = some (.ifCond .le 8, 3) := cg199_30.2.2.2.1
theorem c199_38 : mc_cd 199 38 = some (.aload_n 0, 1) := cg199_30.2.2.2.2.1
theorem c199_39 : mc_cd 199 39 = some (.iconst 3, 1) := cg199_30.2.2.2.2.2.1
theorem c199_40 : mc_cd 199 40 = some (.invokevirtual 121, 3) := cg199_30.2.2.2.2.2.2.1
theorem c199_43 : mc_cd 199 43 = some (.aload_n 0, 1) := cg199_30.2.2.2.2.2.2.2
theorem cg199_44 : mc_cd 199 44 = some (.invokevirtual 118, 3) ∧ mc_cd 199 47 = some (.aload_n 0, 1) ∧ mc_cd 199 48 = some (.ldc_w 298, 3) ∧ mc_cd 199 51 = some (.iconst 0, 1) ∧ mc_cd 199 52 = some (.bipush 99, 2) ∧ mc_cd 199 54 = some (.invokevirtual 216, 3) ∧ mc_cd 199 57 = some (.istore_n 2, 1) ∧ mc_cd 199 58 = some (.aload_n 0, 1) := by decide +kernel
theorem c199_44 : mc_cd 199 44 = some (.invokevirtual 118, 3) := cg199_44.1
theorem c199_47 : mc_cd 199 47 = some (.aload_n 0, 1) := cg199_44.2.1
theorem c199_48 : mc_cd 199 48 = some (.ldc_w 298, 3) := cg199_44.2.2.1
theorem c199_51 : mc_cd 199 51 = some (.iconst 0, 1) := cg199_44.2.2.2.1
theorem c199_52 : mc_cd 199 52 = some (.bipush 99, 2) := cg199_44.2.2.2.2.1
theorem c199_54 : mc_cd 199 54 = some (.invokevirtual 216, 3) := cg199_44.2.2.2.2.2.1
theorem c199_57 : mc_cd 199 57 = some (.istore_n 2, 1) := cg199_44.2.2.2.2.2.2.1
theorem c199_58 : mc_cd 199 58 = some (.aload_n 0, 1) := cg199_44.2.2.2.2.2.2.2
theorem cg199_59 : mc_cd 199 59 = some (.getfield 75, 3) ∧ mc_cd 199 62 = some (.iconst 5, 1) ∧ mc_cd 199 63 = some (.if_icmp .ne 4, 3) ∧ mc_cd 199 66 = some (.return_, 1) ∧ mc_cd 199 67 = some (.aload_n 0, 1) ∧ mc_cd 199 68 = some (.getfield 166, 3) ∧ mc_cd 199 71 = some (.getfield 296, 3) ∧ mc_cd 199 74 = some (.iload_n 1, 1) := by decide +kernel
theorem c199_59 : mc_cd 199 59 = some (.getfield 75, 3) := cg199_59.1
theorem c199_62 : mc_cd 199 62 = some (.iconst 5, 1) := cg199_59.2.1
theorem c199_63 : mc_cd 199 63 = some (.if_icmp .ne 4, 3) := cg199_59.2.2.1
theorem c199_66 : mc_cd 199 66 = some (.return_, 1) := cg199_59.2.2.2.1
theorem c199_67 : mc_cd 199 67 = some (.aload_n 0, 1) := cg199_59.2.2.2.2.1
theorem c199_68 : mc_cd 199 68 = some (.getfield 166, 3) := cg199_59.2.2.2.2.2.1
theorem c199_71 : mc_cd 199 71 = some (.getfield 296, 3) := cg199_59.2.2.2.2.2.2.1
theorem c199_74 : mc_cd 199 74 = some (.iload_n 1, 1) := cg199_59.2.2.2.2.2.2.2
theorem cg199_75 : mc_cd 199 75 = some (.iload_n 2, 1) ∧ mc_cd 199 76 = some (.iconst 1, 1) ∧ mc_cd 199 77 = some (.iadd, 1) ∧ mc_cd 199 78 = some (.iastore, 1) ∧ mc_cd 199 79 = some (.aload_n 0, 1) ∧ mc_cd 199 80 = some (.dup, 1) ∧ mc_cd 199 81 = some (.getfield 293, 3) ∧ mc_cd 199 84 = some (.iconst 1, 1) := by decide +kernel
theorem c199_75 : mc_cd 199 75 = some (.iload_n 2, 1) := cg199_75.1
theorem c199_76 : mc_cd 199 76 = some (.iconst 1, 1) := cg199_75.2.1
theorem c199_77 : mc_cd 199 77 = some (.iadd, 1) := cg199_75.2.2.1
theorem c199_78 : mc_cd 199 78 = some (.iastore, 1) := cg199_75.2.2.2.1
theorem c199_79 : mc_cd 199 79 = some (.aload_n 0, 1) := cg199_75.2.2.2.2.1
theorem c199_80 : mc_cd 199 80 = some (.dup, 1) := cg199_75.2.2.2.2.2.1
theorem c199_81 : mc_cd 199 81 = some (.getfield 293, 3) := cg199_75.2.2.2.2.2.2.1
theorem c199_84 : mc_cd 199 84 = some (.iconst 1, 1) := cg199_75.2.2.2.2.2.2.2
theorem cg199_85 : mc_cd 199 85 = some (.iadd, 1) ∧ mc_cd 199 86 = some (.putfield 293, 3) ∧ mc_cd 199 89 = some (.return_, 1) := by decide +kernel
theorem c199_85 : mc_cd 199 85 = some (.iadd, 1) := cg199_85.1
theorem c199_86 : mc_cd 199 86 = some (.putfield 293, 3) := cg199_85.2.1
theorem c199_89 : mc_cd 199 89 = some (.return_, 1) := cg199_85.2.2
end
