/-! methods of the reference (own work, written by wip/gen2/sx.py) -/
/-! StrikeAwakeModel.wordOf(Ljava/lang/String;)J -/
theorem e179 : wq_en 179 = some (9, 4, false, some FieldType.long) := rfl
theorem c179_0 : mc_cd 179 0 = some (.lconst 0, 1) := by decide +kernel
theorem c179_1 : mc_cd 179 1 = some (.lstore_n 1, 1) := by decide +kernel
theorem c179_2 : mc_cd 179 2 = some (.iconst 0, 1) := by decide +kernel
theorem c179_3 : mc_cd 179 3 = some (.istore_n 3, 1) := by decide +kernel
theorem c179_4 : mc_cd 179 4 = some (.iload_n 3, 1) := by decide +kernel
theorem c179_5 : mc_cd 179 5 = some (.aload_n 0, 1) := by decide +kernel
theorem c179_6 : mc_cd 179 6 = some (.invokevirtual 64, 3) := by decide +kernel
theorem c179_9 : mc_cd 179 9 = some (.if_icmp .ge 27, 3) := by decide +kernel
theorem c179_12 : mc_cd 179 12 = some (.ldc2_w 69, 3) := by decide +kernel
theorem c179_15 : mc_cd 179 15 = some (.lload_n 1, 1) := by decide +kernel
theorem c179_16 : mc_cd 179 16 = some (.lmul, 1) := by decide +kernel
theorem c179_17 : mc_cd 179 17 = some (.aload_n 0, 1) := by decide +kernel
theorem c179_18 : mc_cd 179 18 = some (.iload_n 3, 1) := by decide +kernel
theorem c179_19 : mc_cd 179 19 = some (.invokevirtual 71, 3) := by decide +kernel
theorem c179_22 : mc_cd 179 22 = some (.bipush 97, 2) := by decide +kernel
theorem c179_24 : mc_cd 179 24 = some (.isub, 1) := by decide +kernel
theorem c179_25 : mc_cd 179 25 = some (.iconst 1, 1) := by decide +kernel
theorem c179_26 : mc_cd 179 26 = some (.iadd, 1) := by decide +kernel
theorem c179_27 : mc_cd 179 27 = some (.i2l, 1) := by decide +kernel
theorem c179_28 : mc_cd 179 28 = some (.ladd, 1) := by decide +kernel
theorem c179_29 : mc_cd 179 29 = some (.lstore_n 1, 1) := by decide +kernel
theorem c179_30 : mc_cd 179 30 = some (.iinc 3 1, 3) := by decide +kernel
theorem c179_33 : mc_cd 179 33 = some (.goto (-29), 3) := by decide +kernel
theorem c179_36 : mc_cd 179 36 = some (.lload_n 1, 1) := by decide +kernel
theorem c179_37 : mc_cd 179 37 = some (.lreturn, 1) := by decide +kernel
/-! StrikeAwakeModel.isWord(Ljava/lang/String;)Z -/
theorem e178 : wq_en 178 = some (9, 2, false, some FieldType.boolean) := rfl
theorem c178_0 : mc_cd 178 0 = some (.aload_n 0, 1) := by decide +kernel
theorem c178_1 : mc_cd 178 1 = some (.getfield 75, 3) := by decide +kernel
theorem c178_4 : mc_cd 178 4 = some (.iconst 2, 1) := by decide +kernel
theorem c178_5 : mc_cd 178 5 = some (.if_icmp .ne 19, 3) := by decide +kernel
theorem c178_8 : mc_cd 178 8 = some (.aload_n 0, 1) := by decide +kernel
theorem c178_9 : mc_cd 178 9 = some (.getfield 94, 3) := by decide +kernel
theorem c178_12 : mc_cd 178 12 = some (.aload_n 1, 1) := by decide +kernel
theorem c178_13 : mc_cd 178 13 = some (.invokestatic 110, 3) := by decide +kernel
theorem c178_16 : mc_cd 178 16 = some (.lcmp, 1) := by decide +kernel
theorem c178_17 : mc_cd 178 17 = some (.ifCond .ne 7, 3) := by decide +kernel
theorem c178_20 : mc_cd 178 20 = some (.iconst 1, 1) := by decide +kernel
theorem c178_21 : mc_cd 178 21 = some (.goto 4, 3) := by decide +kernel
theorem c178_24 : mc_cd 178 24 = some (.iconst 0, 1) := by decide +kernel
theorem c178_25 : mc_cd 178 25 = some (.ireturn, 1) := by decide +kernel
/-! StrikeAwakeModel.wrong(I)V -/
theorem e181 : wq_en 181 = some (9, 2, false, none) := rfl
theorem c181_0 : mc_cd 181 0 = some (.aload_n 0, 1) := by decide +kernel
theorem c181_1 : mc_cd 181 1 = some (.getfield 75, 3) := by decide +kernel
theorem c181_4 : mc_cd 181 4 = some (.iconst 5, 1) := by decide +kernel
theorem c181_5 : mc_cd 181 5 = some (.if_icmp .ne 4, 3) := by decide +kernel
theorem c181_8 : mc_cd 181 8 = some (.return_, 1) := by decide +kernel
theorem c181_9 : mc_cd 181 9 = some (.aload_n 0, 1) := by decide +kernel
theorem c181_10 : mc_cd 181 10 = some (.iload_n 1, 1) := by decide +kernel
theorem c181_11 : mc_cd 181 11 = some (.putfield 104, 3) := by decide +kernel
theorem c181_14 : mc_cd 181 14 = some (.aload_n 0, 1) := by decide +kernel
theorem c181_15 : mc_cd 181 15 = some (.aload_n 0, 1) := by decide +kernel
theorem c181_16 : mc_cd 181 16 = some (.getfield 84, 3) := by decide +kernel
theorem c181_19 : mc_cd 181 19 = some (.putfield 107, 3) := by decide +kernel
theorem c181_22 : mc_cd 181 22 = some (.aload_n 0, 1) := by decide +kernel
theorem c181_23 : mc_cd 181 23 = some (.iconst 5, 1) := by decide +kernel
theorem c181_24 : mc_cd 181 24 = some (.putfield 75, 3) := by decide +kernel
theorem c181_27 : mc_cd 181 27 = some (.return_, 1) := by decide +kernel
/-! StrikeAwakeModel.needs(Ljava/lang/String;)V -/
theorem e183 : wq_en 183 = some (9, 2, false, none) := rfl
theorem c183_0 : mc_cd 183 0 = some (.aload_n 0, 1) := by decide +kernel
theorem c183_1 : mc_cd 183 1 = some (.aload_n 1, 1) := by decide +kernel
theorem c183_2 : mc_cd 183 2 = some (.invokevirtual 114, 3) := by decide +kernel
theorem c183_5 : mc_cd 183 5 = some (.ifCond .ne 8, 3) := by decide +kernel
theorem c183_8 : mc_cd 183 8 = some (.aload_n 0, 1) := by decide +kernel
theorem c183_9 : mc_cd 183 9 = some (.iconst 1, 1) := by decide +kernel
theorem c183_10 : mc_cd 183 10 = some (.invokevirtual 121, 3) := by decide +kernel
theorem c183_13 : mc_cd 183 13 = some (.aload_n 0, 1) := by decide +kernel
theorem c183_14 : mc_cd 183 14 = some (.invokevirtual 118, 3) := by decide +kernel
theorem c183_17 : mc_cd 183 17 = some (.return_, 1) := by decide +kernel
/-! StrikeAwakeModel.in(III)Z -/
theorem e186 : wq_en 186 = some (9, 3, false, some FieldType.boolean) := rfl
theorem c186_0 : mc_cd 186 0 = some (.iload_n 0, 1) := by decide +kernel
theorem c186_1 : mc_cd 186 1 = some (.iload_n 1, 1) := by decide +kernel
theorem c186_2 : mc_cd 186 2 = some (.if_icmp .lt 12, 3) := by decide +kernel
theorem c186_5 : mc_cd 186 5 = some (.iload_n 0, 1) := by decide +kernel
theorem c186_6 : mc_cd 186 6 = some (.iload_n 2, 1) := by decide +kernel
theorem c186_7 : mc_cd 186 7 = some (.if_icmp .gt 7, 3) := by decide +kernel
theorem c186_10 : mc_cd 186 10 = some (.iconst 1, 1) := by decide +kernel
theorem c186_11 : mc_cd 186 11 = some (.goto 4, 3) := by decide +kernel
theorem c186_14 : mc_cd 186 14 = some (.iconst 0, 1) := by decide +kernel
theorem c186_15 : mc_cd 186 15 = some (.ireturn, 1) := by decide +kernel
abbrev q_186 (a0 : Int) (a1 : Int) (a2 : Int) (T : wq_T) (H : wq_H) : Option Value → wq_T → wq_H → Prop := fun r T' H' => T = T' ∧ H = H' ∧ ∃ z : Int, some (vI z) = r ∧ (0 ≤ z ∧ z ≤ 1) ∧ (z = 0 ∨ (a1 ≤ a0 ∧ a0 ≤ a2))
set_option maxHeartbeats 4000000 in
theorem s_186 {kt : Nat → Option mc_E} {T : wq_T} {H : wq_H} {a0 : Int} {a1 : Int} {a2 : Int} (hW : WT T H) (i0 : (-2147483648) ≤ a0 ∧ a0 ≤ 2147483647) (i1 : (-2147483648) ≤ a1 ∧ a1 ≤ 2147483647) (i2 : (-2147483648) ≤ a2 ∧ a2 ≤ 2147483647) : wpc kt 1 186 [vI a0, vI a1, vI a2] T H (q_186 a0 a1 a2 T H) := by
  refine wp_enter e186 (Nat.le_of_ble_eq_true rfl) rfl ?_
  show wp _ _ 186 0 [(0, vI a0), (1, vI a1), (2, vI a2)] [] _ H _
  refine wp_of e186 c186_0 (rw_iload_n (pc' := 1) (z := a0) rfl rfl ?_)
  refine wp_of e186 c186_1 (rw_iload_n (pc' := 2) (z := a1) rfl rfl ?_)
  refine wp_of e186 c186_2 (rw_icmp_lt (p1 := 14) (p2 := 5) (by decide) rfl ⟨by omega, by omega⟩ ⟨by omega, by omega⟩ (fun c87893 => ?_) (fun c87893 => ?_))
  · refine wp_of e186 c186_14 (rw_iconst (pc' := 15) rfl ?_)
    exact wp_zreturn e186 c186_15 rfl (by omega) ⟨rfl, rfl, 0, rfl, ⟨by omega, by omega⟩, by omega⟩
  · refine wp_of e186 c186_5 (rw_iload_n (pc' := 6) (z := a0) rfl rfl ?_)
    refine wp_of e186 c186_6 (rw_iload_n (pc' := 7) (z := a2) rfl rfl ?_)
    refine wp_of e186 c186_7 (rw_icmp_gt (p1 := 14) (p2 := 10) (by decide) rfl ⟨by omega, by omega⟩ ⟨by omega, by omega⟩ (fun c87894 => ?_) (fun c87894 => ?_))
    · refine wp_of e186 c186_14 (rw_iconst (pc' := 15) rfl ?_)
      exact wp_zreturn e186 c186_15 rfl (by omega) ⟨rfl, rfl, 0, rfl, ⟨by omega, by omega⟩, by omega⟩
    · refine wp_of e186 c186_10 (rw_iconst (pc' := 11) rfl ?_)
      refine wp_of e186 c186_11 (rw_goto (p1 := 15) (by decide) ?_)
      exact wp_zreturn e186 c186_15 rfl (by omega) ⟨rfl, rfl, 1, rfl, ⟨by omega, by omega⟩, by omega⟩
/-! StrikeAwakeModel.whole(II)I -/
theorem e185 : wq_en 185 = some (9, 3, false, some FieldType.int) := rfl
theorem c185_0 : mc_cd 185 0 = some (.aload_n 0, 1) := by decide +kernel
theorem c185_1 : mc_cd 185 1 = some (.getfield 75, 3) := by decide +kernel
theorem c185_4 : mc_cd 185 4 = some (.iconst 3, 1) := by decide +kernel
theorem c185_5 : mc_cd 185 5 = some (.if_icmp .eq 11, 3) := by decide +kernel
theorem c185_8 : mc_cd 185 8 = some (.aload_n 0, 1) := by decide +kernel
theorem c185_9 : mc_cd 185 9 = some (.iconst 1, 1) := by decide +kernel
theorem c185_10 : mc_cd 185 10 = some (.invokevirtual 121, 3) := by decide +kernel
theorem c185_13 : mc_cd 185 13 = some (.goto 20, 3) := by decide +kernel
theorem c185_16 : mc_cd 185 16 = some (.aload_n 0, 1) := by decide +kernel
theorem c185_17 : mc_cd 185 17 = some (.getfield 101, 3) := by decide +kernel
theorem c185_20 : mc_cd 185 20 = some (.iload_n 1, 1) := by decide +kernel
theorem c185_21 : mc_cd 185 21 = some (.iload_n 2, 1) := by decide +kernel
theorem c185_22 : mc_cd 185 22 = some (.invokestatic 125, 3) := by decide +kernel
theorem c185_25 : mc_cd 185 25 = some (.ifCond .ne 8, 3) := by decide +kernel
theorem c185_28 : mc_cd 185 28 = some (.aload_n 0, 1) := by decide +kernel
theorem c185_29 : mc_cd 185 29 = some (.iconst 4, 1) := by decide +kernel
theorem c185_30 : mc_cd 185 30 = some (.invokevirtual 121, 3) := by decide +kernel
theorem c185_33 : mc_cd 185 33 = some (.aload_n 0, 1) := by decide +kernel
theorem c185_34 : mc_cd 185 34 = some (.getfield 75, 3) := by decide +kernel
theorem c185_37 : mc_cd 185 37 = some (.iconst 5, 1) := by decide +kernel
theorem c185_38 : mc_cd 185 38 = some (.if_icmp .ne 7, 3) := by decide +kernel
theorem c185_41 : mc_cd 185 41 = some (.iconst 0, 1) := by decide +kernel
theorem c185_42 : mc_cd 185 42 = some (.goto 7, 3) := by decide +kernel
theorem c185_45 : mc_cd 185 45 = some (.aload_n 0, 1) := by decide +kernel
theorem c185_46 : mc_cd 185 46 = some (.getfield 101, 3) := by decide +kernel
theorem c185_49 : mc_cd 185 49 = some (.ireturn, 1) := by decide +kernel
/-! StrikeAwakeModel.readWhole(II)I -/
theorem e184 : wq_en 184 = some (9, 4, false, some FieldType.int) := rfl
theorem c184_0 : mc_cd 184 0 = some (.aload_n 0, 1) := by decide +kernel
theorem c184_1 : mc_cd 184 1 = some (.iload_n 1, 1) := by decide +kernel
theorem c184_2 : mc_cd 184 2 = some (.iload_n 2, 1) := by decide +kernel
theorem c184_3 : mc_cd 184 3 = some (.invokevirtual 129, 3) := by decide +kernel
theorem c184_6 : mc_cd 184 6 = some (.istore_n 3, 1) := by decide +kernel
theorem c184_7 : mc_cd 184 7 = some (.aload_n 0, 1) := by decide +kernel
theorem c184_8 : mc_cd 184 8 = some (.invokevirtual 118, 3) := by decide +kernel
theorem c184_11 : mc_cd 184 11 = some (.iload_n 3, 1) := by decide +kernel
theorem c184_12 : mc_cd 184 12 = some (.ireturn, 1) := by decide +kernel
/-! StrikeAwakeModel.readPart(Ljava/lang/String;II)I -/
theorem e182 : wq_en 182 = some (9, 4, false, some FieldType.int) := rfl
theorem c182_0 : mc_cd 182 0 = some (.aload_n 0, 1) := by decide +kernel
theorem c182_1 : mc_cd 182 1 = some (.aload_n 1, 1) := by decide +kernel
theorem c182_2 : mc_cd 182 2 = some (.invokevirtual 133, 3) := by decide +kernel
theorem c182_5 : mc_cd 182 5 = some (.aload_n 0, 1) := by decide +kernel
theorem c182_6 : mc_cd 182 6 = some (.iload_n 2, 1) := by decide +kernel
theorem c182_7 : mc_cd 182 7 = some (.iload_n 3, 1) := by decide +kernel
theorem c182_8 : mc_cd 182 8 = some (.invokevirtual 137, 3) := by decide +kernel
theorem c182_11 : mc_cd 182 11 = some (.ireturn, 1) := by decide +kernel
/-! StrikeAwakeModel.readLaw()V -/
theorem e180 : wq_en 180 = some (9, 2, false, none) := rfl
theorem c180_0 : mc_cd 180 0 = some (.aload_n 0, 1) := by decide +kernel
theorem c180_1 : mc_cd 180 1 = some (.getfield 166, 3) := by decide +kernel
theorem c180_4 : mc_cd 180 4 = some (.getfield 185, 3) := by decide +kernel
theorem c180_7 : mc_cd 180 7 = some (.ifCond .le 8, 3) := by decide +kernel
theorem c180_10 : mc_cd 180 10 = some (.aload_n 0, 1) := by decide +kernel
theorem c180_11 : mc_cd 180 11 = some (.iconst 3, 1) := by decide +kernel
theorem c180_12 : mc_cd 180 12 = some (.invokevirtual 121, 3) := by decide +kernel
theorem c180_15 : mc_cd 180 15 = some (.aload_n 0, 1) := by decide +kernel
theorem c180_16 : mc_cd 180 16 = some (.invokevirtual 118, 3) := by decide +kernel
theorem c180_19 : mc_cd 180 19 = some (.aload_n 0, 1) := by decide +kernel
theorem c180_20 : mc_cd 180 20 = some (.ldc 215, 2) := by decide +kernel
theorem c180_22 : mc_cd 180 22 = some (.iconst 1, 1) := by decide +kernel
theorem c180_23 : mc_cd 180 23 = some (.bipush 24, 2) := by decide +kernel
theorem c180_25 : mc_cd 180 25 = some (.invokevirtual 216, 3) := by decide +kernel
theorem c180_28 : mc_cd 180 28 = some (.istore_n 1, 1) := by decide +kernel
theorem c180_29 : mc_cd 180 29 = some (.aload_n 0, 1) := by decide +kernel
theorem c180_30 : mc_cd 180 30 = some (.getfield 166, 3) := by decide +kernel
theorem c180_33 : mc_cd 180 33 = some (.aload_n 0, 1) := by decide +kernel
theorem c180_34 : mc_cd 180 34 = some (.ldc 220, 2) := by decide +kernel
theorem c180_36 : mc_cd 180 36 = some (.iconst 0, 1) := by decide +kernel
theorem c180_37 : mc_cd 180 37 = some (.bipush 9, 2) := by decide +kernel
theorem c180_39 : mc_cd 180 39 = some (.invokevirtual 216, 3) := by decide +kernel
theorem c180_42 : mc_cd 180 42 = some (.putfield 222, 3) := by decide +kernel
theorem c180_45 : mc_cd 180 45 = some (.aload_n 0, 1) := by decide +kernel
theorem c180_46 : mc_cd 180 46 = some (.getfield 166, 3) := by decide +kernel
theorem c180_49 : mc_cd 180 49 = some (.aload_n 0, 1) := by decide +kernel
theorem c180_50 : mc_cd 180 50 = some (.ldc 224, 2) := by decide +kernel
theorem c180_52 : mc_cd 180 52 = some (.iconst 0, 1) := by decide +kernel
theorem c180_53 : mc_cd 180 53 = some (.iconst 3, 1) := by decide +kernel
theorem c180_54 : mc_cd 180 54 = some (.invokevirtual 216, 3) := by decide +kernel
theorem c180_57 : mc_cd 180 57 = some (.putfield 226, 3) := by decide +kernel
theorem c180_60 : mc_cd 180 60 = some (.aload_n 0, 1) := by decide +kernel
theorem c180_61 : mc_cd 180 61 = some (.getfield 75, 3) := by decide +kernel
theorem c180_64 : mc_cd 180 64 = some (.iconst 5, 1) := by decide +kernel
theorem c180_65 : mc_cd 180 65 = some (.if_icmp .eq 11, 3) := by decide +kernel
theorem c180_68 : mc_cd 180 68 = some (.aload_n 0, 1) := by decide +kernel
theorem c180_69 : mc_cd 180 69 = some (.getfield 166, 3) := by decide +kernel
theorem c180_72 : mc_cd 180 72 = some (.iload_n 1, 1) := by decide +kernel
theorem c180_73 : mc_cd 180 73 = some (.putfield 185, 3) := by decide +kernel
theorem c180_76 : mc_cd 180 76 = some (.return_, 1) := by decide +kernel
/-! StrikeAwakeModel.begins(II)V -/
theorem e188 : wq_en 188 = some (9, 3, false, none) := rfl
theorem c188_0 : mc_cd 188 0 = some (.iload_n 1, 1) := by decide +kernel
theorem c188_1 : mc_cd 188 1 = some (.iload_n 2, 1) := by decide +kernel
theorem c188_2 : mc_cd 188 2 = some (.if_icmp .ne 8, 3) := by decide +kernel
theorem c188_5 : mc_cd 188 5 = some (.aload_n 0, 1) := by decide +kernel
theorem c188_6 : mc_cd 188 6 = some (.iconst 5, 1) := by decide +kernel
theorem c188_7 : mc_cd 188 7 = some (.invokevirtual 121, 3) := by decide +kernel
theorem c188_10 : mc_cd 188 10 = some (.aload_n 0, 1) := by decide +kernel
theorem c188_11 : mc_cd 188 11 = some (.invokevirtual 118, 3) := by decide +kernel
theorem c188_14 : mc_cd 188 14 = some (.return_, 1) := by decide +kernel
/-! StrikeAwakeModel.isName()Z -/
theorem e189 : wq_en 189 = some (9, 1, false, some FieldType.boolean) := rfl
theorem c189_0 : mc_cd 189 0 = some (.aload_n 0, 1) := by decide +kernel
theorem c189_1 : mc_cd 189 1 = some (.getfield 75, 3) := by decide +kernel
theorem c189_4 : mc_cd 189 4 = some (.iconst 2, 1) := by decide +kernel
theorem c189_5 : mc_cd 189 5 = some (.if_icmp .ne 57, 3) := by decide +kernel
theorem c189_8 : mc_cd 189 8 = some (.aload_n 0, 1) := by decide +kernel
theorem c189_9 : mc_cd 189 9 = some (.ldc 140, 2) := by decide +kernel
theorem c189_11 : mc_cd 189 11 = some (.invokevirtual 114, 3) := by decide +kernel
theorem c189_14 : mc_cd 189 14 = some (.ifCond .ne 48, 3) := by decide +kernel
theorem c189_17 : mc_cd 189 17 = some (.aload_n 0, 1) := by decide +kernel
theorem c189_18 : mc_cd 189 18 = some (.ldc 142, 2) := by decide +kernel
theorem c189_20 : mc_cd 189 20 = some (.invokevirtual 114, 3) := by decide +kernel
theorem c189_23 : mc_cd 189 23 = some (.ifCond .ne 39, 3) := by decide +kernel
theorem c189_26 : mc_cd 189 26 = some (.aload_n 0, 1) := by decide +kernel
theorem c189_27 : mc_cd 189 27 = some (.ldc 144, 2) := by decide +kernel
theorem c189_29 : mc_cd 189 29 = some (.invokevirtual 114, 3) := by decide +kernel
theorem c189_32 : mc_cd 189 32 = some (.ifCond .ne 30, 3) := by decide +kernel
theorem c189_35 : mc_cd 189 35 = some (.aload_n 0, 1) := by decide +kernel
theorem c189_36 : mc_cd 189 36 = some (.ldc 146, 2) := by decide +kernel
theorem c189_38 : mc_cd 189 38 = some (.invokevirtual 114, 3) := by decide +kernel
theorem c189_41 : mc_cd 189 41 = some (.ifCond .ne 21, 3) := by decide +kernel
theorem c189_44 : mc_cd 189 44 = some (.aload_n 0, 1) := by decide +kernel
theorem c189_45 : mc_cd 189 45 = some (.ldc 148, 2) := by decide +kernel
theorem c189_47 : mc_cd 189 47 = some (.invokevirtual 114, 3) := by decide +kernel
theorem c189_50 : mc_cd 189 50 = some (.ifCond .ne 12, 3) := by decide +kernel
theorem c189_53 : mc_cd 189 53 = some (.aload_n 0, 1) := by decide +kernel
theorem c189_54 : mc_cd 189 54 = some (.ldc 150, 2) := by decide +kernel
theorem c189_56 : mc_cd 189 56 = some (.invokevirtual 114, 3) := by decide +kernel
theorem c189_59 : mc_cd 189 59 = some (.ifCond .eq 5, 3) := by decide +kernel
theorem c189_62 : mc_cd 189 62 = some (.iconst 0, 1) := by decide +kernel
theorem c189_63 : mc_cd 189 63 = some (.ireturn, 1) := by decide +kernel
theorem c189_64 : mc_cd 189 64 = some (.aload_n 0, 1) := by decide +kernel
theorem c189_65 : mc_cd 189 65 = some (.ldc 152, 2) := by decide +kernel
theorem c189_67 : mc_cd 189 67 = some (.invokevirtual 114, 3) := by decide +kernel
theorem c189_70 : mc_cd 189 70 = some (.ifCond .ne 43, 3) := by decide +kernel
theorem c189_73 : mc_cd 189 73 = some (.aload_n 0, 1) := by decide +kernel
theorem c189_74 : mc_cd 189 74 = some (.ldc 154, 2) := by decide +kernel
theorem c189_76 : mc_cd 189 76 = some (.invokevirtual 114, 3) := by decide +kernel
theorem c189_79 : mc_cd 189 79 = some (.ifCond .ne 34, 3) := by decide +kernel
theorem c189_82 : mc_cd 189 82 = some (.aload_n 0, 1) := by decide +kernel
theorem c189_83 : mc_cd 189 83 = some (.ldc 156, 2) := by decide +kernel
theorem c189_85 : mc_cd 189 85 = some (.invokevirtual 114, 3) := by decide +kernel
theorem c189_88 : mc_cd 189 88 = some (.ifCond .ne 25, 3) := by decide +kernel
theorem c189_91 : mc_cd 189 91 = some (.aload_n 0, 1) := by decide +kernel
theorem c189_92 : mc_cd 189 92 = some (.ldc 158, 2) := by decide +kernel
theorem c189_94 : mc_cd 189 94 = some (.invokevirtual 114, 3) := by decide +kernel
theorem c189_97 : mc_cd 189 97 = some (.ifCond .ne 16, 3) := by decide +kernel
theorem c189_100 : mc_cd 189 100 = some (.aload_n 0, 1) := by decide +kernel
theorem c189_101 : mc_cd 189 101 = some (.ldc 160, 2) := by decide +kernel
theorem c189_103 : mc_cd 189 103 = some (.invokevirtual 114, 3) := by decide +kernel
theorem c189_106 : mc_cd 189 106 = some (.ifCond .ne 7, 3) := by decide +kernel
theorem c189_109 : mc_cd 189 109 = some (.iconst 1, 1) := by decide +kernel
theorem c189_110 : mc_cd 189 110 = some (.goto 4, 3) := by decide +kernel
theorem c189_113 : mc_cd 189 113 = some (.iconst 0, 1) := by decide +kernel
theorem c189_114 : mc_cd 189 114 = some (.ireturn, 1) := by decide +kernel
/-! StrikeAwakeModel$Parish.find(J)I -/
theorem e190 : wq_en 190 = some (10, 4, false, some FieldType.int) := rfl
theorem c190_0 : mc_cd 190 0 = some (.iconst 0, 1) := by decide +kernel
theorem c190_1 : mc_cd 190 1 = some (.istore_n 3, 1) := by decide +kernel
theorem c190_2 : mc_cd 190 2 = some (.iload_n 3, 1) := by decide +kernel
theorem c190_3 : mc_cd 190 3 = some (.aload_n 0, 1) := by decide +kernel
theorem c190_4 : mc_cd 190 4 = some (.getfield 72, 3) := by decide +kernel
theorem c190_7 : mc_cd 190 7 = some (.if_icmp .ge 22, 3) := by decide +kernel
theorem c190_10 : mc_cd 190 10 = some (.aload_n 0, 1) := by decide +kernel
theorem c190_11 : mc_cd 190 11 = some (.getfield 15, 3) := by decide +kernel
theorem c190_14 : mc_cd 190 14 = some (.iload_n 3, 1) := by decide +kernel
theorem c190_15 : mc_cd 190 15 = some (.laload, 1) := by decide +kernel
theorem c190_16 : mc_cd 190 16 = some (.lload_n 1, 1) := by decide +kernel
theorem c190_17 : mc_cd 190 17 = some (.lcmp, 1) := by decide +kernel
theorem c190_18 : mc_cd 190 18 = some (.ifCond .ne 5, 3) := by decide +kernel
theorem c190_21 : mc_cd 190 21 = some (.iload_n 3, 1) := by decide +kernel
theorem c190_22 : mc_cd 190 22 = some (.ireturn, 1) := by decide +kernel
theorem c190_23 : mc_cd 190 23 = some (.iinc 3 1, 3) := by decide +kernel
theorem c190_26 : mc_cd 190 26 = some (.goto (-24), 3) := by decide +kernel
theorem c190_29 : mc_cd 190 29 = some (.iconst (-1), 1) := by decide +kernel
theorem c190_30 : mc_cd 190 30 = some (.ireturn, 1) := by decide +kernel
/-! StrikeAwakeModel.least(II)I -/
theorem e191 : wq_en 191 = some (9, 2, false, some FieldType.int) := rfl
theorem c191_0 : mc_cd 191 0 = some (.iload_n 0, 1) := by decide +kernel
theorem c191_1 : mc_cd 191 1 = some (.iload_n 1, 1) := by decide +kernel
theorem c191_2 : mc_cd 191 2 = some (.if_icmp .ge 7, 3) := by decide +kernel
theorem c191_5 : mc_cd 191 5 = some (.iload_n 0, 1) := by decide +kernel
theorem c191_6 : mc_cd 191 6 = some (.goto 4, 3) := by decide +kernel
theorem c191_9 : mc_cd 191 9 = some (.iload_n 1, 1) := by decide +kernel
theorem c191_10 : mc_cd 191 10 = some (.ireturn, 1) := by decide +kernel
/-! StrikeAwakeModel.eatsWord(Ljava/lang/String;)Z -/
theorem e192 : wq_en 192 = some (9, 3, false, some FieldType.boolean) := rfl
theorem c192_0 : mc_cd 192 0 = some (.aload_n 0, 1) := by decide +kernel
theorem c192_1 : mc_cd 192 1 = some (.aload_n 1, 1) := by decide +kernel
theorem c192_2 : mc_cd 192 2 = some (.invokevirtual 114, 3) := by decide +kernel
theorem c192_5 : mc_cd 192 5 = some (.istore_n 2, 1) := by decide +kernel
theorem c192_6 : mc_cd 192 6 = some (.iload_n 2, 1) := by decide +kernel
theorem c192_7 : mc_cd 192 7 = some (.ifCond .eq 7, 3) := by decide +kernel
theorem c192_10 : mc_cd 192 10 = some (.aload_n 0, 1) := by decide +kernel
theorem c192_11 : mc_cd 192 11 = some (.invokevirtual 118, 3) := by decide +kernel
theorem c192_14 : mc_cd 192 14 = some (.iload_n 2, 1) := by decide +kernel
theorem c192_15 : mc_cd 192 15 = some (.ireturn, 1) := by decide +kernel
/-! StrikeAwakeModel.readPerson()V -/
theorem e187 : wq_en 187 = some (9, 13, false, none) := rfl
theorem c187_0 : mc_cd 187 0 = some (.aload_n 0, 1) := by decide +kernel
theorem c187_1 : mc_cd 187 1 = some (.aload_n 0, 1) := by decide +kernel
theorem c187_2 : mc_cd 187 2 = some (.getfield 166, 3) := by decide +kernel
theorem c187_5 : mc_cd 187 5 = some (.getfield 188, 3) := by decide +kernel
theorem c187_8 : mc_cd 187 8 = some (.bipush 6, 2) := by decide +kernel
theorem c187_10 : mc_cd 187 10 = some (.invokevirtual 228, 3) := by decide +kernel
theorem c187_13 : mc_cd 187 13 = some (.aload_n 0, 1) := by decide +kernel
theorem c187_14 : mc_cd 187 14 = some (.invokevirtual 162, 3) := by decide +kernel
theorem c187_17 : mc_cd 187 17 = some (.ifCond .ne 8, 3) := by decide +kernel
theorem c187_20 : mc_cd 187 20 = some (.aload_n 0, 1) := by decide +kernel
theorem c187_21 : mc_cd 187 21 = some (.iconst 1, 1) := by decide +kernel
theorem c187_22 : mc_cd 187 22 = some (.invokevirtual 121, 3) := by decide +kernel
theorem c187_25 : mc_cd 187 25 = some (.aload_n 0, 1) := by decide +kernel
theorem c187_26 : mc_cd 187 26 = some (.getfield 166, 3) := by decide +kernel
theorem c187_29 : mc_cd 187 29 = some (.aload_n 0, 1) := by decide +kernel
theorem c187_30 : mc_cd 187 30 = some (.getfield 94, 3) := by decide +kernel
theorem c187_33 : mc_cd 187 33 = some (.invokevirtual 170, 3) := by decide +kernel
theorem c187_36 : mc_cd 187 36 = some (.iconst (-1), 1) := by decide +kernel
theorem c187_37 : mc_cd 187 37 = some (.if_icmp .eq 8, 3) := by decide +kernel
theorem c187_40 : mc_cd 187 40 = some (.aload_n 0, 1) := by decide +kernel
theorem c187_41 : mc_cd 187 41 = some (.iconst 3, 1) := by decide +kernel
theorem c187_42 : mc_cd 187 42 = some (.invokevirtual 121, 3) := by decide +kernel
theorem c187_45 : mc_cd 187 45 = some (.aload_n 0, 1) := by decide +kernel
theorem c187_46 : mc_cd 187 46 = some (.getfield 94, 3) := by decide +kernel
theorem c187_49 : mc_cd 187 49 = some (.lstore_n 1, 1) := by decide +kernel
theorem c187_50 : mc_cd 187 50 = some (.aload_n 0, 1) := by decide +kernel
theorem c187_51 : mc_cd 187 51 = some (.invokevirtual 118, 3) := by decide +kernel
theorem c187_54 : mc_cd 187 54 = some (.aload_n 0, 1) := by decide +kernel
theorem c187_55 : mc_cd 187 55 = some (.ldc 232, 2) := by decide +kernel
theorem c187_57 : mc_cd 187 57 = some (.iconst 0, 1) := by decide +kernel
theorem c187_58 : mc_cd 187 58 = some (.bipush 23, 2) := by decide +kernel
theorem c187_60 : mc_cd 187 60 = some (.invokevirtual 216, 3) := by decide +kernel
theorem c187_63 : mc_cd 187 63 = some (.istore_n 3, 1) := by decide +kernel
theorem c187_64 : mc_cd 187 64 = some (.aload_n 0, 1) := by decide +kernel
theorem c187_65 : mc_cd 187 65 = some (.ldc 233, 2) := by decide +kernel
theorem c187_67 : mc_cd 187 67 = some (.iload_n 3, 1) := by decide +kernel
theorem c187_68 : mc_cd 187 68 = some (.bipush 23, 2) := by decide +kernel
theorem c187_70 : mc_cd 187 70 = some (.iload_n 3, 1) := by decide +kernel
theorem c187_71 : mc_cd 187 71 = some (.bipush 7, 2) := by decide +kernel
theorem c187_73 : mc_cd 187 73 = some (.iadd, 1) := by decide +kernel
theorem c187_74 : mc_cd 187 74 = some (.invokestatic 235, 3) := by decide +kernel
theorem c187_77 : mc_cd 187 77 = some (.invokevirtual 216, 3) := by decide +kernel
theorem c187_80 : mc_cd 187 80 = some (.istore 4, 2) := by decide +kernel
theorem c187_82 : mc_cd 187 82 = some (.aload_n 0, 1) := by decide +kernel
theorem c187_83 : mc_cd 187 83 = some (.ldc 238, 2) := by decide +kernel
theorem c187_85 : mc_cd 187 85 = some (.iconst 0, 1) := by decide +kernel
theorem c187_86 : mc_cd 187 86 = some (.bipush 12, 2) := by decide +kernel
theorem c187_88 : mc_cd 187 88 = some (.invokevirtual 216, 3) := by decide +kernel
theorem c187_91 : mc_cd 187 91 = some (.istore 5, 2) := by decide +kernel
theorem c187_93 : mc_cd 187 93 = some (.aload_n 0, 1) := by decide +kernel
theorem c187_94 : mc_cd 187 94 = some (.ldc 233, 2) := by decide +kernel
theorem c187_96 : mc_cd 187 96 = some (.iload 5, 2) := by decide +kernel
theorem c187_98 : mc_cd 187 98 = some (.bipush 12, 2) := by decide +kernel
theorem c187_100 : mc_cd 187 100 = some (.iload 5, 2) := by decide +kernel
theorem c187_102 : mc_cd 187 102 = some (.iconst 4, 1) := by decide +kernel
theorem c187_103 : mc_cd 187 103 = some (.iadd, 1) := by decide +kernel
theorem c187_104 : mc_cd 187 104 = some (.invokestatic 235, 3) := by decide +kernel
theorem c187_107 : mc_cd 187 107 = some (.invokevirtual 216, 3) := by decide +kernel
theorem c187_110 : mc_cd 187 110 = some (.istore 6, 2) := by decide +kernel
theorem c187_112 : mc_cd 187 112 = some (.aload_n 0, 1) := by decide +kernel
theorem c187_113 : mc_cd 187 113 = some (.ldc 156, 2) := by decide +kernel
theorem c187_115 : mc_cd 187 115 = some (.invokevirtual 240, 3) := by decide +kernel
theorem c187_118 : mc_cd 187 118 = some (.ifCond .eq 13, 3) := by decide +kernel
theorem c187_121 : mc_cd 187 121 = some (.aload_n 0, 1) := by decide +kernel
theorem c187_122 : mc_cd 187 122 = some (.iconst 0, 1) := by decide +kernel
theorem c187_123 : mc_cd 187 123 = some (.bipush 23, 2) := by decide +kernel
theorem c187_125 : mc_cd 187 125 = some (.invokevirtual 137, 3) := by decide +kernel
theorem c187_128 : mc_cd 187 128 = some (.goto 4, 3) := by decide +kernel
theorem c187_131 : mc_cd 187 131 = some (.iconst (-1), 1) := by decide +kernel
theorem c187_132 : mc_cd 187 132 = some (.istore 7, 2) := by decide +kernel
theorem c187_134 : mc_cd 187 134 = some (.aload_n 0, 1) := by decide +kernel
theorem c187_135 : mc_cd 187 135 = some (.ldc 158, 2) := by decide +kernel
theorem c187_137 : mc_cd 187 137 = some (.invokevirtual 240, 3) := by decide +kernel
theorem c187_140 : mc_cd 187 140 = some (.istore 8, 2) := by decide +kernel
theorem c187_142 : mc_cd 187 142 = some (.iload 8, 2) := by decide +kernel
theorem c187_144 : mc_cd 187 144 = some (.ifCond .eq 13, 3) := by decide +kernel
theorem c187_147 : mc_cd 187 147 = some (.aload_n 0, 1) := by decide +kernel
theorem c187_148 : mc_cd 187 148 = some (.iconst 0, 1) := by decide +kernel
theorem c187_149 : mc_cd 187 149 = some (.bipush 23, 2) := by decide +kernel
theorem c187_151 : mc_cd 187 151 = some (.invokevirtual 137, 3) := by decide +kernel
theorem c187_154 : mc_cd 187 154 = some (.goto 4, 3) := by decide +kernel
theorem c187_157 : mc_cd 187 157 = some (.iconst 0, 1) := by decide +kernel
theorem c187_158 : mc_cd 187 158 = some (.istore 9, 2) := by decide +kernel
theorem c187_160 : mc_cd 187 160 = some (.iload 8, 2) := by decide +kernel
theorem c187_162 : mc_cd 187 162 = some (.ifCond .eq 18, 3) := by decide +kernel
theorem c187_165 : mc_cd 187 165 = some (.aload_n 0, 1) := by decide +kernel
theorem c187_166 : mc_cd 187 166 = some (.ldc 233, 2) := by decide +kernel
theorem c187_168 : mc_cd 187 168 = some (.iload 9, 2) := by decide +kernel
theorem c187_170 : mc_cd 187 170 = some (.iconst 1, 1) := by decide +kernel
theorem c187_171 : mc_cd 187 171 = some (.iadd, 1) := by decide +kernel
theorem c187_172 : mc_cd 187 172 = some (.bipush 24, 2) := by decide +kernel
theorem c187_174 : mc_cd 187 174 = some (.invokevirtual 216, 3) := by decide +kernel
theorem c187_177 : mc_cd 187 177 = some (.goto 4, 3) := by decide +kernel
theorem c187_180 : mc_cd 187 180 = some (.iconst 0, 1) := by decide +kernel
theorem c187_181 : mc_cd 187 181 = some (.istore 10, 2) := by decide +kernel
theorem c187_183 : mc_cd 187 183 = some (.aload_n 0, 1) := by decide +kernel
theorem c187_184 : mc_cd 187 184 = some (.ldc 160, 2) := by decide +kernel
theorem c187_186 : mc_cd 187 186 = some (.invokevirtual 240, 3) := by decide +kernel
theorem c187_189 : mc_cd 187 189 = some (.istore 11, 2) := by decide +kernel
theorem c187_191 : mc_cd 187 191 = some (.aload_n 0, 1) := by decide +kernel
theorem c187_192 : mc_cd 187 192 = some (.getfield 75, 3) := by decide +kernel
theorem c187_195 : mc_cd 187 195 = some (.iconst 5, 1) := by decide +kernel
theorem c187_196 : mc_cd 187 196 = some (.if_icmp .ne 4, 3) := by decide +kernel
theorem c187_199 : mc_cd 187 199 = some (.return_, 1) := by decide +kernel
theorem c187_200 : mc_cd 187 200 = some (.aload_n 0, 1) := by decide +kernel
theorem c187_201 : mc_cd 187 201 = some (.getfield 166, 3) := by decide +kernel
theorem c187_204 : mc_cd 187 204 = some (.getfield 188, 3) := by decide +kernel
theorem c187_207 : mc_cd 187 207 = some (.istore 12, 2) := by decide +kernel
theorem c187_209 : mc_cd 187 209 = some (.aload_n 0, 1) := by decide +kernel
theorem c187_210 : mc_cd 187 210 = some (.getfield 166, 3) := by decide +kernel
theorem c187_213 : mc_cd 187 213 = some (.getfield 243, 3) := by decide +kernel
theorem c187_216 : mc_cd 187 216 = some (.iload 12, 2) := by decide +kernel
theorem c187_218 : mc_cd 187 218 = some (.lload_n 1, 1) := by decide +kernel
theorem c187_219 : mc_cd 187 219 = some (.lastore, 1) := by decide +kernel
theorem c187_220 : mc_cd 187 220 = some (.aload_n 0, 1) := by decide +kernel
theorem c187_221 : mc_cd 187 221 = some (.getfield 166, 3) := by decide +kernel
theorem c187_224 : mc_cd 187 224 = some (.getfield 247, 3) := by decide +kernel
theorem c187_227 : mc_cd 187 227 = some (.iload 12, 2) := by decide +kernel
theorem c187_229 : mc_cd 187 229 = some (.iload_n 3, 1) := by decide +kernel
theorem c187_230 : mc_cd 187 230 = some (.iastore, 1) := by decide +kernel
theorem c187_231 : mc_cd 187 231 = some (.aload_n 0, 1) := by decide +kernel
theorem c187_232 : mc_cd 187 232 = some (.getfield 166, 3) := by decide +kernel
theorem c187_235 : mc_cd 187 235 = some (.getfield 250, 3) := by decide +kernel
theorem c187_238 : mc_cd 187 238 = some (.iload 12, 2) := by decide +kernel
theorem c187_240 : mc_cd 187 240 = some (.iload 4, 2) := by decide +kernel
theorem c187_242 : mc_cd 187 242 = some (.iastore, 1) := by decide +kernel
theorem c187_243 : mc_cd 187 243 = some (.aload_n 0, 1) := by decide +kernel
theorem c187_244 : mc_cd 187 244 = some (.getfield 166, 3) := by decide +kernel
theorem c187_247 : mc_cd 187 247 = some (.getfield 253, 3) := by decide +kernel
theorem c187_250 : mc_cd 187 250 = some (.iload 12, 2) := by decide +kernel
theorem c187_252 : mc_cd 187 252 = some (.iload 5, 2) := by decide +kernel
theorem c187_254 : mc_cd 187 254 = some (.iastore, 1) := by decide +kernel
theorem c187_255 : mc_cd 187 255 = some (.aload_n 0, 1) := by decide +kernel
theorem c187_256 : mc_cd 187 256 = some (.getfield 166, 3) := by decide +kernel
theorem c187_259 : mc_cd 187 259 = some (.getfield 256, 3) := by decide +kernel
theorem c187_262 : mc_cd 187 262 = some (.iload 12, 2) := by decide +kernel
theorem c187_264 : mc_cd 187 264 = some (.iload 6, 2) := by decide +kernel
theorem c187_266 : mc_cd 187 266 = some (.iastore, 1) := by decide +kernel
theorem c187_267 : mc_cd 187 267 = some (.aload_n 0, 1) := by decide +kernel
theorem c187_268 : mc_cd 187 268 = some (.getfield 166, 3) := by decide +kernel
theorem c187_271 : mc_cd 187 271 = some (.getfield 259, 3) := by decide +kernel
theorem c187_274 : mc_cd 187 274 = some (.iload 12, 2) := by decide +kernel
theorem c187_276 : mc_cd 187 276 = some (.iload 7, 2) := by decide +kernel
theorem c187_278 : mc_cd 187 278 = some (.iastore, 1) := by decide +kernel
theorem c187_279 : mc_cd 187 279 = some (.aload_n 0, 1) := by decide +kernel
theorem c187_280 : mc_cd 187 280 = some (.getfield 166, 3) := by decide +kernel
theorem c187_283 : mc_cd 187 283 = some (.getfield 261, 3) := by decide +kernel
theorem c187_286 : mc_cd 187 286 = some (.iload 12, 2) := by decide +kernel
theorem c187_288 : mc_cd 187 288 = some (.iload 9, 2) := by decide +kernel
theorem c187_290 : mc_cd 187 290 = some (.iastore, 1) := by decide +kernel
theorem c187_291 : mc_cd 187 291 = some (.aload_n 0, 1) := by decide +kernel
theorem c187_292 : mc_cd 187 292 = some (.getfield 166, 3) := by decide +kernel
theorem c187_295 : mc_cd 187 295 = some (.getfield 264, 3) := by decide +kernel
theorem c187_298 : mc_cd 187 298 = some (.iload 12, 2) := by decide +kernel
theorem c187_300 : mc_cd 187 300 = some (.iload 10, 2) := by decide +kernel
theorem c187_302 : mc_cd 187 302 = some (.iastore, 1) := by decide +kernel
theorem c187_303 : mc_cd 187 303 = some (.aload_n 0, 1) := by decide +kernel
theorem c187_304 : mc_cd 187 304 = some (.getfield 166, 3) := by decide +kernel
theorem c187_307 : mc_cd 187 307 = some (.getfield 267, 3) := by decide +kernel
theorem c187_310 : mc_cd 187 310 = some (.iload 12, 2) := by decide +kernel
theorem c187_312 : mc_cd 187 312 = some (.iload 11, 2) := by decide +kernel
theorem c187_314 : mc_cd 187 314 = some (.bastore, 1) := by decide +kernel
theorem c187_315 : mc_cd 187 315 = some (.aload_n 0, 1) := by decide +kernel
theorem c187_316 : mc_cd 187 316 = some (.getfield 166, 3) := by decide +kernel
theorem c187_319 : mc_cd 187 319 = some (.dup, 1) := by decide +kernel
theorem c187_320 : mc_cd 187 320 = some (.getfield 188, 3) := by decide +kernel
theorem c187_323 : mc_cd 187 323 = some (.iconst 1, 1) := by decide +kernel
theorem c187_324 : mc_cd 187 324 = some (.iadd, 1) := by decide +kernel
theorem c187_325 : mc_cd 187 325 = some (.putfield 188, 3) := by decide +kernel
theorem c187_328 : mc_cd 187 328 = some (.return_, 1) := by decide +kernel
