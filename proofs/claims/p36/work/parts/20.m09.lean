section
/-! methods (own work, written by wip/gen2/sx.py) -/
/-! StrikeAwake.proof()I -/
theorem e137 : wq_en 137 = some (0, 1, false, some FieldType.int) := rfl
theorem cg137_0 : mc_cd 137 0 = some (.aload_n 0, 1) ∧ mc_cd 137 1 = some (.getfield 58, 3) ∧ mc_cd 137 4 = some (.ifCond .ne 9, 3) ∧ mc_cd 137 7 = some (.aload_n 0, 1) ∧ mc_cd 137 8 = some (.iconst 1, 1) ∧ mc_cd 137 9 = some (.invokevirtual 70, 3) ∧ mc_cd 137 12 = some (.ireturn, 1) ∧ mc_cd 137 13 = some (.aload_n 0, 1) := by decide +kernel
theorem c137_0 : mc_cd 137 0 = some (.aload_n 0, 1) := cg137_0.1
theorem c137_1 : mc_cd 137 1 = some (.getfield 58, 3) := cg137_0.2.1
theorem c137_4 : mc_cd 137 4 = some (.ifCond .ne 9, 3) := cg137_0.2.2.1
theorem c137_7 : mc_cd 137 7 = some (.aload_n 0, 1) := cg137_0.2.2.2.1
theorem c137_8 : mc_cd 137 8 = some (.iconst 1, 1) := cg137_0.2.2.2.2.1
theorem c137_9 : mc_cd 137 9 = some (.invokevirtual 70, 3) := cg137_0.2.2.2.2.2.1
theorem c137_12 : mc_cd 137 12 = some (.ireturn, 1) := cg137_0.2.2.2.2.2.2.1
theorem c137_13 : mc_cd 137 13 = some (.aload_n 0, 1) := cg137_0.2.2.2.2.2.2.2
theorem cg137_14 : mc_cd 137 14 = some (.getfield 51, 3) ∧ mc_cd 137 17 = some (.getfield 141, 3) ∧ mc_cd 137 20 = some (.ldc2_w 252, 3) ∧ mc_cd 137 23 = some (.lcmp, 1) ∧ mc_cd 137 24 = some (.ifCond .le 9, 3) ∧ mc_cd 137 27 = some (.aload_n 0, 1) ∧ mc_cd 137 28 = some (.iconst 3, 1) ∧ mc_cd 137 29 = some (.invokevirtual 70, 3) := by decide +kernel
theorem c137_14 : mc_cd 137 14 = some (.getfield 51, 3) := cg137_14.1
theorem c137_17 : mc_cd 137 17 = some (.getfield 141, 3) := cg137_14.2.1
theorem c137_20 : mc_cd 137 20 = some (.ldc2_w 252, 3) := cg137_14.2.2.1
theorem c137_23 : mc_cd 137 23 = some (.lcmp, 1) := cg137_14.2.2.2.1
theorem c137_24 : mc_cd 137 24 = some (.ifCond .le 9, 3) := cg137_14.2.2.2.2.1
theorem c137_27 : mc_cd 137 27 = some (.aload_n 0, 1) := cg137_14.2.2.2.2.2.1
theorem c137_28 : mc_cd 137 28 = some (.iconst 3, 1) := cg137_14.2.2.2.2.2.2.1
theorem c137_29 : mc_cd 137 29 = some (.invokevirtual 70, 3) := cg137_14.2.2.2.2.2.2.2
theorem cg137_32 : mc_cd 137 32 = some (.ireturn, 1) ∧ mc_cd 137 33 = some (.aload_n 0, 1) ∧ mc_cd 137 34 = some (.getfield 30, 3) ∧ mc_cd 137 37 = some (.aload_n 0, 1) ∧ mc_cd 137 38 = some (.getfield 51, 3) ∧ mc_cd 137 41 = some (.aload_n 0, 1) ∧ mc_cd 137 42 = some (.getfield 23, 3) ∧ mc_cd 137 45 = some (.invokevirtual 254, 3) := by decide +kernel
theorem c137_32 : mc_cd 137 32 = some (.ireturn, 1) := cg137_32.1
theorem c137_33 : mc_cd 137 33 = some (.aload_n 0, 1) := cg137_32.2.1
theorem c137_34 : mc_cd 137 34 = some (.getfield 30, 3) := cg137_32.2.2.1
theorem c137_37 : mc_cd 137 37 = some (.aload_n 0, 1) := cg137_32.2.2.2.1
theorem c137_38 : mc_cd 137 38 = some (.getfield 51, 3) := cg137_32.2.2.2.2.1
theorem c137_41 : mc_cd 137 41 = some (.aload_n 0, 1) := cg137_32.2.2.2.2.2.1
theorem c137_42 : mc_cd 137 42 = some (.getfield 23, 3) := cg137_32.2.2.2.2.2.2.1
theorem c137_45 : mc_cd 137 45 = some (.invokevirtual 254, 3) := cg137_32.2.2.2.2.2.2.2
theorem cg137_48 : mc_cd 137 48 = some (.aload_n 0, 1) ∧ mc_cd 137 49 = some (.getfield 30, 3) ∧ mc_cd 137 52 = some (.getfield 177, 3) ∧ mc_cd 137 55 = some (.ifCond .le 9, 3) ∧ mc_cd 137 58 = some (.aload_n 0, 1) ∧ mc_cd 137 59 = some (.iconst 5, 1) ∧ mc_cd 137 60 = some (.invokevirtual 70, 3) ∧ mc_cd 137 63 = some (.ireturn, 1) := by decide +kernel
theorem c137_48 : mc_cd 137 48 = some (.aload_n 0, 1) := cg137_48.1
theorem c137_49 : mc_cd 137 49 = some (.getfield 30, 3) := cg137_48.2.1
theorem c137_52 : mc_cd 137 52 = some (.getfield 177, 3) := cg137_48.2.2.1
theorem c137_55 : mc_cd 137 55 = some (.ifCond .le 9, 3) := cg137_48.2.2.2.1
theorem c137_58 : mc_cd 137 58 = some (.aload_n 0, 1) := cg137_48.2.2.2.2.1
theorem c137_59 : mc_cd 137 59 = some (.iconst 5, 1) := cg137_48.2.2.2.2.2.1
theorem c137_60 : mc_cd 137 60 = some (.invokevirtual 70, 3) := cg137_48.2.2.2.2.2.2.1
theorem c137_63 : mc_cd 137 63 = some (.ireturn, 1) := cg137_48.2.2.2.2.2.2.2
theorem cg137_64 : mc_cd 137 64 = some (.aload_n 0, 1) ∧ mc_cd 137 65 = some (.aload_n 0, 1) ∧ mc_cd 137 66 = some (.getfield 44, 3) ∧ mc_cd 137 69 = some (.aload_n 0, 1) ∧ mc_cd 137 70 = some (.getfield 51, 3) ∧ mc_cd 137 73 = some (.aload_n 0, 1) ∧ mc_cd 137 74 = some (.getfield 23, 3) ∧ mc_cd 137 77 = some (.invokevirtual 258, 3) := by decide +kernel
theorem c137_64 : mc_cd 137 64 = some (.aload_n 0, 1) := cg137_64.1
theorem c137_65 : mc_cd 137 65 = some (.aload_n 0, 1) := cg137_64.2.1
theorem c137_66 : mc_cd 137 66 = some (.getfield 44, 3) := cg137_64.2.2.1
theorem c137_69 : mc_cd 137 69 = some (.aload_n 0, 1) := cg137_64.2.2.2.1
theorem c137_70 : mc_cd 137 70 = some (.getfield 51, 3) := cg137_64.2.2.2.2.1
theorem c137_73 : mc_cd 137 73 = some (.aload_n 0, 1) := cg137_64.2.2.2.2.2.1
theorem c137_74 : mc_cd 137 74 = some (.getfield 23, 3) := cg137_64.2.2.2.2.2.2.1
theorem c137_77 : mc_cd 137 77 = some (.invokevirtual 258, 3) := cg137_64.2.2.2.2.2.2.2
theorem cg137_80 : mc_cd 137 80 = some (.invokevirtual 99, 3) ∧ mc_cd 137 83 = some (.ireturn, 1) := by decide +kernel
theorem c137_80 : mc_cd 137 80 = some (.invokevirtual 99, 3) := cg137_80.1
theorem c137_83 : mc_cd 137 83 = some (.ireturn, 1) := cg137_80.2
/-! StrikeAwake.part(IZ)I -/
theorem e146 : wq_en 146 = some (0, 5, false, some FieldType.int) := rfl
theorem cg146_0 : mc_cd 146 0 = some (.aload_n 0, 1) ∧ mc_cd 146 1 = some (.aload_n 0, 1) ∧ mc_cd 146 2 = some (.iload_n 1, 1) ∧ mc_cd 146 3 = some (.invokevirtual 132, 3) ∧ mc_cd 146 6 = some (.ifCond .eq 19, 3) ∧ mc_cd 146 9 = some (.aload_n 0, 1) ∧ mc_cd 146 10 = some (.getfield 51, 3) ∧ mc_cd 146 13 = some (.getfield 262, 3) := by decide +kernel
theorem c146_0 : mc_cd 146 0 = some (.aload_n 0, 1) := cg146_0.1
theorem c146_1 : mc_cd 146 1 = some (.aload_n 0, 1) := cg146_0.2.1
theorem c146_2 : mc_cd 146 2 = some (.iload_n 1, 1) := cg146_0.2.2.1
theorem c146_3 : mc_cd 146 3 = some (.invokevirtual 132, 3) := cg146_0.2.2.2.1
theorem c146_6 : mc_cd 146 6 = some (.ifCond .eq 19, 3) := cg146_0.2.2.2.2.1
theorem c146_9 : mc_cd 146 9 = some (.aload_n 0, 1) := cg146_0.2.2.2.2.2.1
theorem c146_10 : mc_cd 146 10 = some (.getfield 51, 3) := cg146_0.2.2.2.2.2.2.1
theorem c146_13 : mc_cd 146 13 = some (.getfield 262, 3) := cg146_0.2.2.2.2.2.2.2
theorem cg146_16 : mc_cd 146 16 = some (.iload_n 1, 1) ∧ mc_cd 146 17 = some (.iaload, 1) ∧ mc_cd 146 18 = some (.ifCond .lt 7, 3) ∧ mc_cd 146 21 = some (.iconst 1, 1) ∧ mc_cd 146 22 = some (.goto 4, 3) ∧ mc_cd 146 25 = some (.iconst 0, 1) ∧ mc_cd 146 26 = some (.invokevirtual 198, 3) ∧ mc_cd 146 29 = some (.istore_n 3, 1) := by decide +kernel
theorem c146_16 : mc_cd 146 16 = some (.iload_n 1, 1) := cg146_16.1
theorem c146_17 : mc_cd 146 17 = some (.iaload, 1) := cg146_16.2.1
theorem c146_18 : mc_cd 146 18 = some (.ifCond .lt 7, 3) := cg146_16.2.2.1
theorem c146_21 : mc_cd 146 21 = some (.iconst 1, 1) := cg146_16.2.2.2.1
theorem c146_22 : mc_cd 146 22 = some (.goto 4, 3) := cg146_16.2.2.2.2.1
theorem c146_25 : mc_cd 146 25 = some (.iconst 0, 1) := cg146_16.2.2.2.2.2.1
theorem c146_26 : mc_cd 146 26 = some (.invokevirtual 198, 3) := cg146_16.2.2.2.2.2.2.1
theorem c146_29 : mc_cd 146 29 = some (.istore_n 3, 1) := cg146_16.2.2.2.2.2.2.2
theorem cg146_30 : mc_cd 146 30 = some (.iload_n 3, 1) ∧ mc_cd 146 31 = some (.ifCond .eq 12, 3) ∧ mc_cd 146 34 = some (.aload_n 0, 1) ∧ mc_cd 146 35 = some (.iload_n 3, 1) ∧ mc_cd 146 36 = some (.putfield 102, 3) ∧ mc_cd 146 39 = some (.sipush (-1000), 3) ∧ mc_cd 146 42 = some (.ireturn, 1) ∧ mc_cd 146 43 = some (.iload_n 2, 1) := by decide +kernel
theorem c146_30 : mc_cd 146 30 = some (.iload_n 3, 1) := cg146_30.1
theorem c146_31 : mc_cd 146 31 = some (.ifCond .eq 12, 3) := cg146_30.2.1
theorem c146_34 : mc_cd 146 34 = some (.aload_n 0, 1) := cg146_30.2.2.1
theorem c146_35 : mc_cd 146 35 = some (.iload_n 3, 1) := cg146_30.2.2.2.1
theorem c146_36 : mc_cd 146 36 = some (.putfield 102, 3) := cg146_30.2.2.2.2.1
theorem c146_39 : mc_cd 146 39 = some (.sipush (-1000), 3) := cg146_30.2.2.2.2.2.1
theorem c146_42 : mc_cd 146 42 = some (.ireturn, 1) := cg146_30.2.2.2.2.2.2.1
theorem c146_43 : mc_cd 146 43 = some (.iload_n 2, 1) := cg146_30.2.2.2.2.2.2.2
theorem cg146_44 : mc_cd 146 44 = some (.ifCond .eq 15, 3) ∧ mc_cd 146 47 = some (.aload_n 0, 1) ∧ mc_cd 146 48 = some (.getfield 30, 3) ∧ mc_cd 146 51 = some (.getfield 265, 3) ∧ mc_cd 146 54 = some (.iload_n 1, 1) ∧ mc_cd 146 55 = some (.iaload, 1) ∧ mc_cd 146 56 = some (.goto 12, 3) ∧ mc_cd 146 59 = some (.aload_n 0, 1) := by decide +kernel
theorem c146_44 : mc_cd 146 44 = some (.ifCond .eq 15, 3) := cg146_44.1
theorem c146_47 : mc_cd 146 47 = some (.aload_n 0, 1) := cg146_44.2.1
theorem c146_48 : mc_cd 146 48 = some (.getfield 30, 3) := cg146_44.2.2.1
theorem c146_51 : mc_cd 146 51 = some (.getfield 265, 3) := cg146_44.2.2.2.1
theorem c146_54 : mc_cd 146 54 = some (.iload_n 1, 1) := cg146_44.2.2.2.2.1
theorem c146_55 : mc_cd 146 55 = some (.iaload, 1) := cg146_44.2.2.2.2.2.1
theorem c146_56 : mc_cd 146 56 = some (.goto 12, 3) := cg146_44.2.2.2.2.2.2.1
theorem c146_59 : mc_cd 146 59 = some (.aload_n 0, 1) := cg146_44.2.2.2.2.2.2.2
theorem cg146_60 : mc_cd 146 60 = some (.getfield 30, 3) ∧ mc_cd 146 63 = some (.getfield 268, 3) ∧ mc_cd 146 66 = some (.iload_n 1, 1) ∧ mc_cd 146 67 = some (.iaload, 1) ∧ mc_cd 146 68 = some (.istore 4, 2) ∧ mc_cd 146 70 = some (.aload_n 0, 1) ∧ mc_cd 146 71 = some (.aload_n 0, 1) ∧ mc_cd 146 72 = some (.getfield 51, 3) := by decide +kernel
theorem c146_60 : mc_cd 146 60 = some (.getfield 30, 3) := cg146_60.1
theorem c146_63 : mc_cd 146 63 = some (.getfield 268, 3) := cg146_60.2.1
theorem c146_66 : mc_cd 146 66 = some (.iload_n 1, 1) := cg146_60.2.2.1
theorem c146_67 : mc_cd 146 67 = some (.iaload, 1) := cg146_60.2.2.2.1
theorem c146_68 : mc_cd 146 68 = some (.istore 4, 2) := cg146_60.2.2.2.2.1
theorem c146_70 : mc_cd 146 70 = some (.aload_n 0, 1) := cg146_60.2.2.2.2.2.1
theorem c146_71 : mc_cd 146 71 = some (.aload_n 0, 1) := cg146_60.2.2.2.2.2.2.1
theorem c146_72 : mc_cd 146 72 = some (.getfield 51, 3) := cg146_60.2.2.2.2.2.2.2
theorem cg146_75 : mc_cd 146 75 = some (.getfield 262, 3) ∧ mc_cd 146 78 = some (.iload_n 1, 1) ∧ mc_cd 146 79 = some (.iaload, 1) ∧ mc_cd 146 80 = some (.iload 4, 2) ∧ mc_cd 146 82 = some (.isub, 1) ∧ mc_cd 146 83 = some (.invokevirtual 99, 3) ∧ mc_cd 146 86 = some (.ireturn, 1) := by decide +kernel
theorem c146_75 : mc_cd 146 75 = some (.getfield 262, 3) := cg146_75.1
theorem c146_78 : mc_cd 146 78 = some (.iload_n 1, 1) := cg146_75.2.1
theorem c146_79 : mc_cd 146 79 = some (.iaload, 1) := cg146_75.2.2.1
theorem c146_80 : mc_cd 146 80 = some (.iload 4, 2) := cg146_75.2.2.2.1
theorem c146_82 : mc_cd 146 82 = some (.isub, 1) := cg146_75.2.2.2.2.1
theorem c146_83 : mc_cd 146 83 = some (.invokevirtual 99, 3) := cg146_75.2.2.2.2.2.1
theorem c146_86 : mc_cd 146 86 = some (.ireturn, 1) := cg146_75.2.2.2.2.2.2
/-! StrikeAwake$Walk.silentHours(LStrikeAwake$Parish;)I -/
theorem e148 : wq_en 148 = some (3, 2, false, some FieldType.int) := rfl
theorem cg148_0 : mc_cd 148 0 = some (.aload_n 1, 1) ∧ mc_cd 148 1 = some (.invokevirtual 88, 3) ∧ mc_cd 148 4 = some (.aload_n 0, 1) ∧ mc_cd 148 5 = some (.getfield 22, 3) ∧ mc_cd 148 8 = some (.aload_n 0, 1) ∧ mc_cd 148 9 = some (.getfield 51, 3) ∧ mc_cd 148 12 = some (.iaload, 1) ∧ mc_cd 148 13 = some (.iconst (-1), 1) := by decide +kernel
theorem c148_0 : mc_cd 148 0 = some (.aload_n 1, 1) := cg148_0.1
theorem c148_1 : mc_cd 148 1 = some (.invokevirtual 88, 3) := cg148_0.2.1
theorem c148_4 : mc_cd 148 4 = some (.aload_n 0, 1) := cg148_0.2.2.1
theorem c148_5 : mc_cd 148 5 = some (.getfield 22, 3) := cg148_0.2.2.2.1
theorem c148_8 : mc_cd 148 8 = some (.aload_n 0, 1) := cg148_0.2.2.2.2.1
theorem c148_9 : mc_cd 148 9 = some (.getfield 51, 3) := cg148_0.2.2.2.2.2.1
theorem c148_12 : mc_cd 148 12 = some (.iaload, 1) := cg148_0.2.2.2.2.2.2.1
theorem c148_13 : mc_cd 148 13 = some (.iconst (-1), 1) := cg148_0.2.2.2.2.2.2.2
theorem cg148_14 : mc_cd 148 14 = some (.ixor, 1) ∧ mc_cd 148 15 = some (.iand, 1) ∧ mc_cd 148 16 = some (.ireturn, 1) := by decide +kernel
theorem c148_14 : mc_cd 148 14 = some (.ixor, 1) := cg148_14.1
theorem c148_15 : mc_cd 148 15 = some (.iand, 1) := cg148_14.2.1
theorem c148_16 : mc_cd 148 16 = some (.ireturn, 1) := cg148_14.2.2
abbrev q_148 (r0 : Nat) (r1 : Nat) (T : wq_T) (H : wq_H) : Option Value → wq_T → wq_H → Prop := fun r T' H' => T = T' ∧ H = H' ∧ ∃ z : Int, some (vI z) = r ∧ ((-2147483648) ≤ z ∧ z ≤ 2147483647)
set_option maxHeartbeats 4000000 in
theorem s_148 {kt : Nat → Option mc_E} {T : wq_T} {H : wq_H} {r0 : Nat} {r1 : Nat} (hW : WT T H) (g0 : T.2.2.2 r0 = some 6) (g1 : T.2.2.2 r1 = some 27) : wpc kt 3 148 [.ref r0, .ref r1] T H (q_148 r0 r1 T H) := by
  refine wp_enter e148 (Nat.le_of_ble_eq_true rfl) rfl ?_
  show wp _ _ 148 0 [(0, .ref r0), (1, .ref r1)] [] _ H _
  refine wp_of e148 c148_0 (rw_aload_n (pc' := 1) (v := .ref r1) rfl rfl rfl ?_)
  refine wp_of e148 c148_1 (xc_V (pc' := 4) (r := r1) (as := []) (st := []) (lm_3_88) rfl rfl (Nat.le_of_ble_eq_true rfl) hW g1 sh_27 (by decide) rfl (by decide) (s_45 hW g1) (fun R74180 T74181 H74182 p74183 => ?_))
  obtain ⟨e74184, e74186, z74187, e74185, b74188⟩ := p74183
  subst e74184
  subst e74185
  subst e74186
  show wp _ _ 148 4 [(0, .ref r0), (1, .ref r1)] [vI z74187] _ H _
  refine wp_of e148 c148_4 (rw_aload_n (pc' := 5) (v := .ref r0) rfl rfl rfl ?_)
  refine wp_of e148 c148_5 (xg_R (pc' := 8) lf_3_22 hW g0 sh_6 (by decide) (by decide) ty_6_3 rfl rfl (fun r74189 q74190 g74191 => ?_))
  refine wp_of e148 c148_8 (rw_aload_n (pc' := 9) (v := .ref r0) rfl rfl rfl ?_)
  refine wp_of e148 c148_9 (xg_I (pc' := 12) lf_3_51 hW g0 sh_6 (by decide) (by decide) ty_6_5 rfl rfl (fun b74192 b74193 => ?_))
  refine wp_of e148 c148_12 (xa_I (so := 0) (pc' := 13) hW g74191 sh_10 (by decide) (ty_10 _) (by omega) (by omega) rfl (fun b74194 b74195 => ?_))
  refine wp_of e148 c148_13 (rw_iconst (pc' := 14) rfl ?_)
  refine wp_of e148 c148_14 (rw_ixor (pc' := 15) rfl ?_)
  obtain ⟨v74196, e74197⟩ : ∃ x : Int, x = wq_xor (H r74189 ((H r0 5).toNat)) (-1) := ⟨_, rfl⟩
  rw [← e74197]
  have b74198 : -2147483648 ≤ v74196 ∧ v74196 ≤ 2147483647 := by
    rw [e74197]
    exact wI_xor _ _
  refine wp_of e148 c148_15 (rw_iand (pc' := 16) rfl ?_)
  obtain ⟨v74199, e74200⟩ : ∃ x : Int, x = wq_and z74187 v74196 := ⟨_, rfl⟩
  rw [← e74200]
  have b74201 : -2147483648 ≤ v74199 ∧ v74199 ≤ 2147483647 := by
    rw [e74200]
    exact wI_and _ _
  exact wp_ireturn e148 c148_16 rfl ⟨rfl, rfl, v74199, rfl, ⟨by omega, by omega⟩⟩
/-! StrikeAwake.nothing()I -/
theorem e147 : wq_en 147 = some (0, 4, false, some FieldType.int) := rfl
theorem cg147_0 : mc_cd 147 0 = some (.aload_n 0, 1) ∧ mc_cd 147 1 = some (.aload_n 0, 1) ∧ mc_cd 147 2 = some (.getfield 58, 3) ∧ mc_cd 147 5 = some (.invokevirtual 245, 3) ∧ mc_cd 147 8 = some (.istore_n 1, 1) ∧ mc_cd 147 9 = some (.iload_n 1, 1) ∧ mc_cd 147 10 = some (.ifCond .eq 9, 3) ∧ mc_cd 147 13 = some (.aload_n 0, 1) := by decide +kernel
theorem c147_0 : mc_cd 147 0 = some (.aload_n 0, 1) := cg147_0.1
theorem c147_1 : mc_cd 147 1 = some (.aload_n 0, 1) := cg147_0.2.1
theorem c147_2 : mc_cd 147 2 = some (.getfield 58, 3) := cg147_0.2.2.1
theorem c147_5 : mc_cd 147 5 = some (.invokevirtual 245, 3) := cg147_0.2.2.2.1
theorem c147_8 : mc_cd 147 8 = some (.istore_n 1, 1) := cg147_0.2.2.2.2.1
theorem c147_9 : mc_cd 147 9 = some (.iload_n 1, 1) := cg147_0.2.2.2.2.2.1
theorem c147_10 : mc_cd 147 10 = some (.ifCond .eq 9, 3) := cg147_0.2.2.2.2.2.2.1
theorem c147_13 : mc_cd 147 13 = some (.aload_n 0, 1) := cg147_0.2.2.2.2.2.2.2
theorem cg147_14 : mc_cd 147 14 = some (.iload_n 1, 1) ∧ mc_cd 147 15 = some (.invokevirtual 70, 3) ∧ mc_cd 147 18 = some (.ireturn, 1) ∧ mc_cd 147 19 = some (.iconst 0, 1) ∧ mc_cd 147 20 = some (.istore_n 2, 1) ∧ mc_cd 147 21 = some (.aload_n 0, 1) ∧ mc_cd 147 22 = some (.getfield 23, 3) ∧ mc_cd 147 25 = some (.aload_n 0, 1) := by decide +kernel
theorem c147_14 : mc_cd 147 14 = some (.iload_n 1, 1) := cg147_14.1
theorem c147_15 : mc_cd 147 15 = some (.invokevirtual 70, 3) := cg147_14.2.1
theorem c147_18 : mc_cd 147 18 = some (.ireturn, 1) := cg147_14.2.2.1
theorem c147_19 : mc_cd 147 19 = some (.iconst 0, 1) := cg147_14.2.2.2.1
theorem c147_20 : mc_cd 147 20 = some (.istore_n 2, 1) := cg147_14.2.2.2.2.1
theorem c147_21 : mc_cd 147 21 = some (.aload_n 0, 1) := cg147_14.2.2.2.2.2.1
theorem c147_22 : mc_cd 147 22 = some (.getfield 23, 3) := cg147_14.2.2.2.2.2.2.1
theorem c147_25 : mc_cd 147 25 = some (.aload_n 0, 1) := cg147_14.2.2.2.2.2.2.2
theorem cg147_26 : mc_cd 147 26 = some (.getfield 51, 3) ∧ mc_cd 147 29 = some (.invokevirtual 271, 3) ∧ mc_cd 147 32 = some (.iconst 0, 1) ∧ mc_cd 147 33 = some (.istore_n 3, 1) ∧ mc_cd 147 34 = some (.iload_n 3, 1) ∧ mc_cd 147 35 = some (.i2l, 1) ∧ mc_cd 147 36 = some (.aload_n 0, 1) ∧ mc_cd 147 37 = some (.getfield 51, 3) := by decide +kernel
theorem c147_26 : mc_cd 147 26 = some (.getfield 51, 3) := cg147_26.1
theorem c147_29 : mc_cd 147 29 = some (.invokevirtual 271, 3) := cg147_26.2.1
theorem c147_32 : mc_cd 147 32 = some (.iconst 0, 1) := cg147_26.2.2.1
theorem c147_33 : mc_cd 147 33 = some (.istore_n 3, 1) := cg147_26.2.2.2.1
theorem c147_34 : mc_cd 147 34 = some (.iload_n 3, 1) := cg147_26.2.2.2.2.1
theorem c147_35 : mc_cd 147 35 = some (.i2l, 1) := cg147_26.2.2.2.2.2.1
theorem c147_36 : mc_cd 147 36 = some (.aload_n 0, 1) := cg147_26.2.2.2.2.2.2.1
theorem c147_37 : mc_cd 147 37 = some (.getfield 51, 3) := cg147_26.2.2.2.2.2.2.2
theorem cg147_40 : mc_cd 147 40 = some (.getfield 141, 3) ∧ mc_cd 147 43 = some (.lcmp, 1) ∧ mc_cd 147 44 = some (.ifCond .ge 51, 3) ∧ mc_cd 147 47 = some (.iload_n 3, 1) ∧ mc_cd 147 48 = some (.sipush 20000, 3) ∧ mc_cd 147 51 = some (.if_icmp .ge 44, 3) ∧ mc_cd 147 54 = some (.aload_n 0, 1) ∧ mc_cd 147 55 = some (.getfield 23, 3) := by decide +kernel
theorem c147_40 : mc_cd 147 40 = some (.getfield 141, 3) := cg147_40.1
theorem c147_43 : mc_cd 147 43 = some (.lcmp, 1) := cg147_40.2.1
theorem c147_44 : mc_cd 147 44 = some (.ifCond .ge 51, 3) := cg147_40.2.2.1
theorem c147_47 : mc_cd 147 47 = some (.iload_n 3, 1) := cg147_40.2.2.2.1
theorem c147_48 : mc_cd 147 48 = some (.sipush 20000, 3) := cg147_40.2.2.2.2.1
theorem c147_51 : mc_cd 147 51 = some (.if_icmp .ge 44, 3) := cg147_40.2.2.2.2.2.1
theorem c147_54 : mc_cd 147 54 = some (.aload_n 0, 1) := cg147_40.2.2.2.2.2.2.1
theorem c147_55 : mc_cd 147 55 = some (.getfield 23, 3) := cg147_40.2.2.2.2.2.2.2
theorem cg147_58 : mc_cd 147 58 = some (.invokevirtual 275, 3) ∧ mc_cd 147 61 = some (.ifCond .ne 17, 3) ∧ mc_cd 147 64 = some (.iload_n 2, 1) ∧ mc_cd 147 65 = some (.aload_n 0, 1) ∧ mc_cd 147 66 = some (.getfield 23, 3) ∧ mc_cd 147 69 = some (.aload_n 0, 1) ∧ mc_cd 147 70 = some (.getfield 51, 3) ∧ mc_cd 147 73 = some (.invokevirtual 278, 3) := by decide +kernel
theorem c147_58 : mc_cd 147 58 = some (.invokevirtual 275, 3) := cg147_58.1
theorem c147_61 : mc_cd 147 61 = some (.ifCond .ne 17, 3) := cg147_58.2.1
theorem c147_64 : mc_cd 147 64 = some (.iload_n 2, 1) := cg147_58.2.2.1
theorem c147_65 : mc_cd 147 65 = some (.aload_n 0, 1) := cg147_58.2.2.2.1
theorem c147_66 : mc_cd 147 66 = some (.getfield 23, 3) := cg147_58.2.2.2.2.1
theorem c147_69 : mc_cd 147 69 = some (.aload_n 0, 1) := cg147_58.2.2.2.2.2.1
theorem c147_70 : mc_cd 147 70 = some (.getfield 51, 3) := cg147_58.2.2.2.2.2.2.1
theorem c147_73 : mc_cd 147 73 = some (.invokevirtual 278, 3) := cg147_58.2.2.2.2.2.2.2
theorem cg147_76 : mc_cd 147 76 = some (.ior, 1) ∧ mc_cd 147 77 = some (.istore_n 2, 1) ∧ mc_cd 147 78 = some (.aload_n 0, 1) ∧ mc_cd 147 79 = some (.getfield 23, 3) ∧ mc_cd 147 82 = some (.aload_n 0, 1) ∧ mc_cd 147 83 = some (.getfield 51, 3) ∧ mc_cd 147 86 = some (.invokevirtual 281, 3) ∧ mc_cd 147 89 = some (.iinc 3 1, 3) := by decide +kernel
theorem c147_76 : mc_cd 147 76 = some (.ior, 1) := cg147_76.1
theorem c147_77 : mc_cd 147 77 = some (.istore_n 2, 1) := cg147_76.2.1
theorem c147_78 : mc_cd 147 78 = some (.aload_n 0, 1) := cg147_76.2.2.1
theorem c147_79 : mc_cd 147 79 = some (.getfield 23, 3) := cg147_76.2.2.2.1
theorem c147_82 : mc_cd 147 82 = some (.aload_n 0, 1) := cg147_76.2.2.2.2.1
theorem c147_83 : mc_cd 147 83 = some (.getfield 51, 3) := cg147_76.2.2.2.2.2.1
theorem c147_86 : mc_cd 147 86 = some (.invokevirtual 281, 3) := cg147_76.2.2.2.2.2.2.1
theorem c147_89 : mc_cd 147 89 = some (.iinc 3 1, 3) := cg147_76.2.2.2.2.2.2.2
theorem cg147_92 : mc_cd 147 92 = some (.goto (-58), 3) ∧ mc_cd 147 95 = some (.aload_n 0, 1) ∧ mc_cd 147 96 = some (.iload_n 2, 1) ∧ mc_cd 147 97 = some (.invokevirtual 99, 3) ∧ mc_cd 147 100 = some (.ireturn, 1) := by decide +kernel
theorem c147_92 : mc_cd 147 92 = some (.goto (-58), 3) := cg147_92.1
theorem c147_95 : mc_cd 147 95 = some (.aload_n 0, 1) := cg147_92.2.1
theorem c147_96 : mc_cd 147 96 = some (.iload_n 2, 1) := cg147_92.2.2.1
theorem c147_97 : mc_cd 147 97 = some (.invokevirtual 99, 3) := cg147_92.2.2.2.1
theorem c147_100 : mc_cd 147 100 = some (.ireturn, 1) := cg147_92.2.2.2.2
/-! StrikeAwake$Parish.hoursOffered(I)I -/
theorem e151 : wq_en 151 = some (7, 4, false, some FieldType.int) := rfl
theorem cg151_0 : mc_cd 151 0 = some (.iconst 0, 1) ∧ mc_cd 151 1 = some (.istore_n 2, 1) ∧ mc_cd 151 2 = some (.iconst 0, 1) ∧ mc_cd 151 3 = some (.istore_n 3, 1) ∧ mc_cd 151 4 = some (.iload_n 3, 1) ∧ mc_cd 151 5 = some (.aload_n 0, 1) ∧ mc_cd 151 6 = some (.getfield 62, 3) ∧ mc_cd 151 9 = some (.if_icmp .ge 26, 3) := by decide +kernel
theorem c151_0 : mc_cd 151 0 = some (.iconst 0, 1) := cg151_0.1
theorem c151_1 : mc_cd 151 1 = some (.istore_n 2, 1) := cg151_0.2.1
theorem c151_2 : mc_cd 151 2 = some (.iconst 0, 1) := cg151_0.2.2.1
theorem c151_3 : mc_cd 151 3 = some (.istore_n 3, 1) := cg151_0.2.2.2.1
theorem c151_4 : mc_cd 151 4 = some (.iload_n 3, 1) := cg151_0.2.2.2.2.1
theorem c151_5 : mc_cd 151 5 = some (.aload_n 0, 1) := cg151_0.2.2.2.2.2.1
theorem c151_6 : mc_cd 151 6 = some (.getfield 62, 3) := cg151_0.2.2.2.2.2.2.1
theorem c151_9 : mc_cd 151 9 = some (.if_icmp .ge 26, 3) := cg151_0.2.2.2.2.2.2.2
theorem cg151_12 : mc_cd 151 12 = some (.iload_n 1, 1) ∧ mc_cd 151 13 = some (.iload_n 3, 1) ∧ mc_cd 151 14 = some (.invokestatic 121, 3) ∧ mc_cd 151 17 = some (.ifCond .eq 12, 3) ∧ mc_cd 151 20 = some (.iload_n 2, 1) ∧ mc_cd 151 21 = some (.aload_n 0, 1) ∧ mc_cd 151 22 = some (.getfield 33, 3) ∧ mc_cd 151 25 = some (.iload_n 3, 1) := by decide +kernel
theorem c151_12 : mc_cd 151 12 = some (.iload_n 1, 1) := cg151_12.1
theorem c151_13 : mc_cd 151 13 = some (.iload_n 3, 1) := cg151_12.2.1
theorem c151_14 : mc_cd 151 14 = some (.invokestatic 121, 3) := cg151_12.2.2.1
theorem c151_17 : mc_cd 151 17 = some (.ifCond .eq 12, 3) := cg151_12.2.2.2.1
theorem c151_20 : mc_cd 151 20 = some (.iload_n 2, 1) := cg151_12.2.2.2.2.1
theorem c151_21 : mc_cd 151 21 = some (.aload_n 0, 1) := cg151_12.2.2.2.2.2.1
theorem c151_22 : mc_cd 151 22 = some (.getfield 33, 3) := cg151_12.2.2.2.2.2.2.1
theorem c151_25 : mc_cd 151 25 = some (.iload_n 3, 1) := cg151_12.2.2.2.2.2.2.2
theorem cg151_26 : mc_cd 151 26 = some (.iaload, 1) ∧ mc_cd 151 27 = some (.ior, 1) ∧ mc_cd 151 28 = some (.istore_n 2, 1) ∧ mc_cd 151 29 = some (.iinc 3 1, 3) ∧ mc_cd 151 32 = some (.goto (-28), 3) ∧ mc_cd 151 35 = some (.iload_n 2, 1) ∧ mc_cd 151 36 = some (.ireturn, 1) := by decide +kernel
theorem c151_26 : mc_cd 151 26 = some (.iaload, 1) := cg151_26.1
theorem c151_27 : mc_cd 151 27 = some (.ior, 1) := cg151_26.2.1
theorem c151_28 : mc_cd 151 28 = some (.istore_n 2, 1) := cg151_26.2.2.1
theorem c151_29 : mc_cd 151 29 = some (.iinc 3 1, 3) := cg151_26.2.2.2.1
theorem c151_32 : mc_cd 151 32 = some (.goto (-28), 3) := cg151_26.2.2.2.2.1
theorem c151_35 : mc_cd 151 35 = some (.iload_n 2, 1) := cg151_26.2.2.2.2.2.1
theorem c151_36 : mc_cd 151 36 = some (.ireturn, 1) := cg151_26.2.2.2.2.2.2
abbrev q_151 (r0 : Nat) (a1 : Int) (T : wq_T) (H : wq_H) : Option Value → wq_T → wq_H → Prop := fun r T' H' => T = T' ∧ H = H' ∧ ∃ z : Int, some (vI z) = r ∧ ((-2147483648) ≤ z ∧ z ≤ 2147483647)
set_option maxHeartbeats 4000000 in
theorem s_151 {kt : Nat → Option mc_E} {T : wq_T} {H : wq_H} {r0 : Nat} {a1 : Int} (hW : WT T H) (g0 : T.2.2.2 r0 = some 27) (i1 : (-2147483648) ≤ a1 ∧ a1 ≤ 2147483647) : wpc kt 2 151 [.ref r0, vI a1] T H (q_151 r0 a1 T H) := by
  refine wp_enter e151 (Nat.le_of_ble_eq_true rfl) rfl ?_
  show wp _ _ 151 0 [(0, .ref r0), (1, vI a1)] [] _ H _
  refine wp_of e151 c151_0 (rw_iconst (pc' := 1) rfl ?_)
  refine wp_of e151 c151_1 (rw_istore_n (pc' := 2) (z := 0) (L' := [(2, vI 0), (0, .ref r0), (1, vI a1)]) rfl rfl rfl ?_)
  refine wp_of e151 c151_2 (rw_iconst (pc' := 3) rfl ?_)
  refine wp_of e151 c151_3 (rw_istore_n (pc' := 4) (z := 0) (L' := [(3, vI 0), (2, vI 0), (0, .ref r0), (1, vI a1)]) rfl rfl rfl ?_)
  have lp75505 : ∀ (n75506 : Nat) (v75508 : Int) (v75509 : Int), (0 ≤ v75508 ∧ v75508 ≤ 6) → ((-2147483648) ≤ v75509 ∧ v75509 ≤ 2147483647) → (6 - v75508).toNat = n75506 → wp kt 1 151 4 [(3, vI v75508), (2, vI v75509), (0, .ref r0), (1, vI a1)] [] T H (q_151 r0 a1 T H) := by
    intro n75506
    induction n75506 using Nat.strongRecOn with
    | _ n75506 ih75507 =>
      intro v75508 v75509 b75512 b75513 m75514
      refine wp_of e151 c151_4 (rw_iload_n (pc' := 5) (z := v75508) rfl rfl ?_)
      refine wp_of e151 c151_5 (rw_aload_n (pc' := 6) (v := .ref r0) rfl rfl rfl ?_)
      refine wp_of e151 c151_6 (xg_I (pc' := 9) lf_7_62 hW g0 sh_27 (by decide) (by decide) ty_27_14 rfl rfl (fun b75515 b75516 => ?_))
      refine wp_of e151 c151_9 (rw_icmp_ge (p1 := 35) (p2 := 12) (by decide) rfl ⟨by omega, by omega⟩ ⟨by omega, by omega⟩ (fun c75517 => ?_) (fun c75517 => ?_))
      · refine wp_of e151 c151_35 (rw_iload_n (pc' := 36) (z := v75509) rfl rfl ?_)
        exact wp_ireturn e151 c151_36 rfl ⟨rfl, rfl, v75509, rfl, ⟨by omega, by omega⟩⟩
      · refine wp_of e151 c151_12 (rw_iload_n (pc' := 13) (z := a1) rfl rfl ?_)
        refine wp_of e151 c151_13 (rw_iload_n (pc' := 14) (z := v75508) rfl rfl ?_)
        refine wp_of e151 c151_14 (xc_S (pc' := 17) (as := [vI a1, vI v75508]) (st := []) (lm_7_121) rfl rfl (Nat.le_of_ble_eq_true rfl) rfl (by decide) (s_36 hW ⟨by omega, by omega⟩ ⟨by omega, by omega⟩) (fun R75518 T75519 H75520 p75521 => ?_))
        obtain ⟨e75522, e75524, z75525, e75523, b75526⟩ := p75521
        subst e75522
        subst e75523
        subst e75524
        show wp _ _ 151 17 [(3, vI v75508), (2, vI v75509), (0, .ref r0), (1, vI a1)] [vI z75525] _ H _
        refine wp_of e151 c151_17 (rw_if_eq (p1 := 29) (p2 := 20) (by decide) rfl ⟨by omega, by omega⟩ (fun c75527 => ?_) (fun c75527 => ?_))
        · refine wp_of e151 c151_29 (rw_iinc (pc' := 32) (z := v75508) (L' := [(3, vI (v75508 + 1)), (2, vI v75509), (0, .ref r0), (1, vI a1)]) rfl rfl rfl rfl ?_)
          refine wp_of e151 c151_32 (rw_goto (p1 := 4) (by decide) ?_)
          exact wp_lc (ks := [3, 2, 0, 1]) (wl_c rfl (wl_c rfl (wl_c rfl (wl_c rfl wl_n)))) rfl (by decide) (ih75507 _ (by omega) (v75508 + 1) v75509 ⟨by omega, by omega⟩ ⟨by omega, by omega⟩ rfl)
        · refine wp_of e151 c151_20 (rw_iload_n (pc' := 21) (z := v75509) rfl rfl ?_)
          refine wp_of e151 c151_21 (rw_aload_n (pc' := 22) (v := .ref r0) rfl rfl rfl ?_)
          refine wp_of e151 c151_22 (xg_R (pc' := 25) lf_7_33 hW g0 sh_27 (by decide) (by decide) ty_27_6 rfl rfl (fun r75528 q75529 g75530 => ?_))
          refine wp_of e151 c151_25 (rw_iload_n (pc' := 26) (z := v75508) rfl rfl ?_)
          refine wp_of e151 c151_26 (xa_I (so := 0) (pc' := 27) hW g75530 sh_34 (by decide) (ty_34 _) (by omega) (by omega) rfl (fun b75531 b75532 => ?_))
          refine wp_of e151 c151_27 (rw_ior (pc' := 28) rfl ?_)
          obtain ⟨v75533, e75534⟩ : ∃ x : Int, x = wq_or v75509 (H r75528 (v75508.toNat)) := ⟨_, rfl⟩
          rw [← e75534]
          have b75535 : -2147483648 ≤ v75533 ∧ v75533 ≤ 2147483647 := by
            rw [e75534]
            exact wI_or _ _
          refine wp_of e151 c151_28 (rw_istore_n (pc' := 29) (z := v75533) (L' := [(2, vI v75533), (3, vI v75508), (0, .ref r0), (1, vI a1)]) rfl rfl rfl ?_)
          refine wp_of e151 c151_29 (rw_iinc (pc' := 32) (z := v75508) (L' := [(3, vI (v75508 + 1)), (2, vI v75533), (0, .ref r0), (1, vI a1)]) rfl rfl rfl rfl ?_)
          refine wp_of e151 c151_32 (rw_goto (p1 := 4) (by decide) ?_)
          exact wp_lc (ks := [3, 2, 0, 1]) (wl_c rfl (wl_c rfl (wl_c rfl (wl_c rfl wl_n)))) rfl (by decide) (ih75507 _ (by omega) (v75508 + 1) v75533 ⟨by omega, by omega⟩ ⟨by omega, by omega⟩ rfl)
  exact wp_lc (ks := [3, 2, 0, 1]) (wl_c rfl (wl_c rfl (wl_c rfl (wl_c rfl wl_n)))) rfl (by decide) (lp75505 _ 0 0 ⟨by omega, by omega⟩ ⟨by omega, by omega⟩ rfl)
/-! StrikeAwake$Parish.fewestOffers()I -/
theorem e150 : wq_en 150 = some (7, 4, false, some FieldType.int) := rfl
theorem cg150_0 : mc_cd 150 0 = some (.aload_n 0, 1) ∧ mc_cd 150 1 = some (.invokevirtual 96, 3) ∧ mc_cd 150 4 = some (.istore_n 1, 1) ∧ mc_cd 150 5 = some (.iconst 1, 1) ∧ mc_cd 150 6 = some (.istore_n 2, 1) ∧ mc_cd 150 7 = some (.iload_n 2, 1) ∧ mc_cd 150 8 = some (.aload_n 0, 1) ∧ mc_cd 150 9 = some (.getfield 62, 3) := by decide +kernel
theorem c150_0 : mc_cd 150 0 = some (.aload_n 0, 1) := cg150_0.1
theorem c150_1 : mc_cd 150 1 = some (.invokevirtual 96, 3) := cg150_0.2.1
theorem c150_4 : mc_cd 150 4 = some (.istore_n 1, 1) := cg150_0.2.2.1
theorem c150_5 : mc_cd 150 5 = some (.iconst 1, 1) := cg150_0.2.2.2.1
theorem c150_6 : mc_cd 150 6 = some (.istore_n 2, 1) := cg150_0.2.2.2.2.1
theorem c150_7 : mc_cd 150 7 = some (.iload_n 2, 1) := cg150_0.2.2.2.2.2.1
theorem c150_8 : mc_cd 150 8 = some (.aload_n 0, 1) := cg150_0.2.2.2.2.2.2.1
theorem c150_9 : mc_cd 150 9 = some (.getfield 62, 3) := cg150_0.2.2.2.2.2.2.2
theorem cg150_12 : mc_cd 150 12 = some (.if_icmp .gt 46, 3) ∧ mc_cd 150 15 = some (.iconst 1, 1) ∧ mc_cd 150 16 = some (.istore_n 3, 1) ∧ mc_cd 150 17 = some (.iload_n 3, 1) ∧ mc_cd 150 18 = some (.iconst 1, 1) ∧ mc_cd 150 19 = some (.aload_n 0, 1) ∧ mc_cd 150 20 = some (.getfield 62, 3) ∧ mc_cd 150 23 = some (.ishl, 1) := by decide +kernel
theorem c150_12 : mc_cd 150 12 = some (.if_icmp .gt 46, 3) := cg150_12.1
theorem c150_15 : mc_cd 150 15 = some (.iconst 1, 1) := cg150_12.2.1
theorem c150_16 : mc_cd 150 16 = some (.istore_n 3, 1) := cg150_12.2.2.1
theorem c150_17 : mc_cd 150 17 = some (.iload_n 3, 1) := cg150_12.2.2.2.1
theorem c150_18 : mc_cd 150 18 = some (.iconst 1, 1) := cg150_12.2.2.2.2.1
theorem c150_19 : mc_cd 150 19 = some (.aload_n 0, 1) := cg150_12.2.2.2.2.2.1
theorem c150_20 : mc_cd 150 20 = some (.getfield 62, 3) := cg150_12.2.2.2.2.2.2.1
theorem c150_23 : mc_cd 150 23 = some (.ishl, 1) := cg150_12.2.2.2.2.2.2.2
theorem cg150_24 : mc_cd 150 24 = some (.if_icmp .ge 28, 3) ∧ mc_cd 150 27 = some (.iload_n 3, 1) ∧ mc_cd 150 28 = some (.invokestatic 113, 3) ∧ mc_cd 150 31 = some (.iload_n 2, 1) ∧ mc_cd 150 32 = some (.if_icmp .ne 14, 3) ∧ mc_cd 150 35 = some (.aload_n 0, 1) ∧ mc_cd 150 36 = some (.iload_n 3, 1) ∧ mc_cd 150 37 = some (.invokevirtual 118, 3) := by decide +kernel
theorem c150_24 : mc_cd 150 24 = some (.if_icmp .ge 28, 3) := cg150_24.1
theorem c150_27 : mc_cd 150 27 = some (.iload_n 3, 1) := cg150_24.2.1
theorem c150_28 : mc_cd 150 28 = some (.invokestatic 113, 3) := cg150_24.2.2.1
theorem c150_31 : mc_cd 150 31 = some (.iload_n 2, 1) := cg150_24.2.2.2.1
theorem c150_32 : mc_cd 150 32 = some (.if_icmp .ne 14, 3) := cg150_24.2.2.2.2.1
theorem c150_35 : mc_cd 150 35 = some (.aload_n 0, 1) := cg150_24.2.2.2.2.2.1
theorem c150_36 : mc_cd 150 36 = some (.iload_n 3, 1) := cg150_24.2.2.2.2.2.2.1
theorem c150_37 : mc_cd 150 37 = some (.invokevirtual 118, 3) := cg150_24.2.2.2.2.2.2.2
theorem cg150_40 : mc_cd 150 40 = some (.iload_n 1, 1) ∧ mc_cd 150 41 = some (.if_icmp .ne 5, 3) ∧ mc_cd 150 44 = some (.iload_n 3, 1) ∧ mc_cd 150 45 = some (.ireturn, 1) ∧ mc_cd 150 46 = some (.iinc 3 1, 3) ∧ mc_cd 150 49 = some (.goto (-32), 3) ∧ mc_cd 150 52 = some (.iinc 2 1, 3) ∧ mc_cd 150 55 = some (.goto (-48), 3) := by decide +kernel
theorem c150_40 : mc_cd 150 40 = some (.iload_n 1, 1) := cg150_40.1
theorem c150_41 : mc_cd 150 41 = some (.if_icmp .ne 5, 3) := cg150_40.2.1
theorem c150_44 : mc_cd 150 44 = some (.iload_n 3, 1) := cg150_40.2.2.1
theorem c150_45 : mc_cd 150 45 = some (.ireturn, 1) := cg150_40.2.2.2.1
theorem c150_46 : mc_cd 150 46 = some (.iinc 3 1, 3) := cg150_40.2.2.2.2.1
theorem c150_49 : mc_cd 150 49 = some (.goto (-32), 3) := cg150_40.2.2.2.2.2.1
theorem c150_52 : mc_cd 150 52 = some (.iinc 2 1, 3) := cg150_40.2.2.2.2.2.2.1
theorem c150_55 : mc_cd 150 55 = some (.goto (-48), 3) := cg150_40.2.2.2.2.2.2.2
theorem cg150_58 : mc_cd 150 58 = some (.bipush (-2), 2) ∧ mc_cd 150 60 = some (.ireturn, 1) := by decide +kernel
theorem c150_58 : mc_cd 150 58 = some (.bipush (-2), 2) := cg150_58.1
theorem c150_60 : mc_cd 150 60 = some (.ireturn, 1) := cg150_58.2
abbrev q_150 (r0 : Nat) (T : wq_T) (H : wq_H) : Option Value → wq_T → wq_H → Prop := fun r T' H' => T = T' ∧ H = H' ∧ ∃ z : Int, some (vI z) = r ∧ ((-2147483648) ≤ z ∧ z ≤ 2147483647)
set_option maxHeartbeats 4000000 in
theorem s_150 {kt : Nat → Option mc_E} {T : wq_T} {H : wq_H} {r0 : Nat} (hW : WT T H) (g0 : T.2.2.2 r0 = some 27) : wpc kt 3 150 [.ref r0] T H (q_150 r0 T H) := by
  refine wp_enter e150 (Nat.le_of_ble_eq_true rfl) rfl ?_
  show wp _ _ 150 0 [(0, .ref r0)] [] _ H _
  refine wp_of e150 c150_0 (rw_aload_n (pc' := 1) (v := .ref r0) rfl rfl rfl ?_)
  refine wp_of e150 c150_1 (xc_V (pc' := 4) (r := r0) (as := []) (st := []) (lm_7_96) rfl rfl (Nat.le_of_ble_eq_true rfl) hW g0 sh_27 (by decide) rfl (by decide) (s_45 hW g0) (fun R77442 T77443 H77444 p77445 => ?_))
  obtain ⟨e77446, e77448, z77449, e77447, b77450⟩ := p77445
  subst e77446
  subst e77447
  subst e77448
  show wp _ _ 150 4 [(0, .ref r0)] [vI z77449] _ H _
  refine wp_of e150 c150_4 (rw_istore_n (pc' := 5) (z := z77449) (L' := [(1, vI z77449), (0, .ref r0)]) rfl rfl rfl ?_)
  refine wp_of e150 c150_5 (rw_iconst (pc' := 6) rfl ?_)
  refine wp_of e150 c150_6 (rw_istore_n (pc' := 7) (z := 1) (L' := [(2, vI 1), (1, vI z77449), (0, .ref r0)]) rfl rfl rfl ?_)
  have lp79110 : ∀ (n79111 : Nat) (v79113 : Int), (1 ≤ v79113 ∧ v79113 ≤ 7) → (7 - v79113).toNat = n79111 → wp kt 2 150 7 [(2, vI v79113), (1, vI z77449), (0, .ref r0)] [] T H (q_150 r0 T H) := by
    intro n79111
    induction n79111 using Nat.strongRecOn with
    | _ n79111 ih79112 =>
      intro v79113 b79116 m79117
      refine wp_of e150 c150_7 (rw_iload_n (pc' := 8) (z := v79113) rfl rfl ?_)
      refine wp_of e150 c150_8 (rw_aload_n (pc' := 9) (v := .ref r0) rfl rfl rfl ?_)
      refine wp_of e150 c150_9 (xg_I (pc' := 12) lf_7_62 hW g0 sh_27 (by decide) (by decide) ty_27_14 rfl rfl (fun b79118 b79119 => ?_))
      refine wp_of e150 c150_12 (rw_icmp_gt (p1 := 58) (p2 := 15) (by decide) rfl ⟨by omega, by omega⟩ ⟨by omega, by omega⟩ (fun c79120 => ?_) (fun c79120 => ?_))
      · refine wp_of e150 c150_58 (rw_bipush (pc' := 60) (z := -2) rfl (by decide) ?_)
        exact wp_ireturn e150 c150_60 rfl ⟨rfl, rfl, -2, rfl, ⟨by omega, by omega⟩⟩
      · refine wp_of e150 c150_15 (rw_iconst (pc' := 16) rfl ?_)
        refine wp_of e150 c150_16 (rw_istore_n (pc' := 17) (z := 1) (L' := [(3, vI 1), (2, vI v79113), (1, vI z77449), (0, .ref r0)]) rfl rfl rfl ?_)
        have lp79329 : ∀ (n79330 : Nat) (v79332 : Int), (1 ≤ v79332 ∧ v79332 ≤ 64) → (64 - v79332).toNat = n79330 → wp kt 2 150 17 [(3, vI v79332), (2, vI v79113), (1, vI z77449), (0, .ref r0)] [] T H (q_150 r0 T H) := by
          intro n79330
          induction n79330 using Nat.strongRecOn with
          | _ n79330 ih79331 =>
            intro v79332 b79335 m79336
            refine wp_of e150 c150_17 (rw_iload_n (pc' := 18) (z := v79332) rfl rfl ?_)
            refine wp_of e150 c150_18 (rw_iconst (pc' := 19) rfl ?_)
            refine wp_of e150 c150_19 (rw_aload_n (pc' := 20) (v := .ref r0) rfl rfl rfl ?_)
            refine wp_of e150 c150_20 (xg_I (pc' := 23) lf_7_62 hW g0 sh_27 (by decide) (by decide) ty_27_14 rfl rfl (fun b79337 b79338 => ?_))
            refine wp_of e150 c150_23 (rw_ishl (pc' := 24) rfl ?_)
            obtain ⟨v79339, e79340⟩ : ∃ x : Int, x = wq_shl 1 (H r0 14) := ⟨_, rfl⟩
            rw [← e79340]
            have b79341 : 1 ≤ v79339 ∧ v79339 ≤ 64 := by
              rw [e79340]
              exact wq_shl1_6 ⟨by omega, by omega⟩
            refine wp_of e150 c150_24 (rw_icmp_ge (p1 := 52) (p2 := 27) (by decide) rfl ⟨by omega, by omega⟩ ⟨by omega, by omega⟩ (fun c79342 => ?_) (fun c79342 => ?_))
            · refine wp_of e150 c150_52 (rw_iinc (pc' := 55) (z := v79113) (L' := [(2, vI (v79113 + 1)), (3, vI v79332), (1, vI z77449), (0, .ref r0)]) rfl rfl rfl rfl ?_)
              refine wp_of e150 c150_55 (rw_goto (p1 := 7) (by decide) ?_)
              exact wp_lc (ks := [2, 3, 1, 0]) (wl_c rfl (wl_c rfl (wl_c rfl wl_n))) rfl (by decide) (ih79112 _ (by omega) (v79113 + 1) ⟨by omega, by omega⟩ rfl)
            · refine wp_of e150 c150_27 (rw_iload_n (pc' := 28) (z := v79332) rfl rfl ?_)
              refine wp_of e150 c150_28 (xc_S (pc' := 31) (as := [vI v79332]) (st := []) (lm_7_113) rfl rfl (Nat.le_of_ble_eq_true rfl) rfl (by decide) (s_126 hW ⟨by omega, by omega⟩) (fun R79343 T79344 H79345 p79346 => ?_))
              obtain ⟨e79347, e79349, z79350, e79348, b79351⟩ := p79346
              subst e79347
              subst e79348
              subst e79349
              show wp _ _ 150 31 [(3, vI v79332), (2, vI v79113), (1, vI z77449), (0, .ref r0)] [vI z79350] _ H _
              refine wp_of e150 c150_31 (rw_iload_n (pc' := 32) (z := v79113) rfl rfl ?_)
              refine wp_of e150 c150_32 (rw_icmp_ne (p1 := 46) (p2 := 35) (by decide) rfl ⟨by omega, by omega⟩ ⟨by omega, by omega⟩ (fun c79352 => ?_) (fun c79352 => ?_))
              · refine wp_of e150 c150_46 (rw_iinc (pc' := 49) (z := v79332) (L' := [(3, vI (v79332 + 1)), (2, vI v79113), (1, vI z77449), (0, .ref r0)]) rfl rfl rfl rfl ?_)
                refine wp_of e150 c150_49 (rw_goto (p1 := 17) (by decide) ?_)
                exact wp_lc (ks := [3, 2, 1, 0]) (wl_c rfl (wl_c rfl (wl_c rfl (wl_c rfl wl_n)))) rfl (by decide) (ih79331 _ (by omega) (v79332 + 1) ⟨by omega, by omega⟩ rfl)
              · refine wp_of e150 c150_35 (rw_aload_n (pc' := 36) (v := .ref r0) rfl rfl rfl ?_)
                refine wp_of e150 c150_36 (rw_iload_n (pc' := 37) (z := v79332) rfl rfl ?_)
                refine wp_of e150 c150_37 (xc_V (pc' := 40) (r := r0) (as := [vI v79332]) (st := []) (lm_7_118) rfl rfl (Nat.le_of_ble_eq_true rfl) hW g0 sh_27 (by decide) rfl (by decide) (s_151 hW g0 ⟨by omega, by omega⟩) (fun R79353 T79354 H79355 p79356 => ?_))
                obtain ⟨e79357, e79359, z79360, e79358, b79361⟩ := p79356
                subst e79357
                subst e79358
                subst e79359
                show wp _ _ 150 40 [(3, vI v79332), (2, vI v79113), (1, vI z77449), (0, .ref r0)] [vI z79360] _ H _
                refine wp_of e150 c150_40 (rw_iload_n (pc' := 41) (z := z77449) rfl rfl ?_)
                refine wp_of e150 c150_41 (rw_icmp_ne (p1 := 46) (p2 := 44) (by decide) rfl ⟨by omega, by omega⟩ ⟨by omega, by omega⟩ (fun c79362 => ?_) (fun c79362 => ?_))
                · refine wp_of e150 c150_46 (rw_iinc (pc' := 49) (z := v79332) (L' := [(3, vI (v79332 + 1)), (2, vI v79113), (1, vI z77449), (0, .ref r0)]) rfl rfl rfl rfl ?_)
                  refine wp_of e150 c150_49 (rw_goto (p1 := 17) (by decide) ?_)
                  exact wp_lc (ks := [3, 2, 1, 0]) (wl_c rfl (wl_c rfl (wl_c rfl (wl_c rfl wl_n)))) rfl (by decide) (ih79331 _ (by omega) (v79332 + 1) ⟨by omega, by omega⟩ rfl)
                · refine wp_of e150 c150_44 (rw_iload_n (pc' := 45) (z := v79332) rfl rfl ?_)
                  exact wp_ireturn e150 c150_45 rfl ⟨rfl, rfl, v79332, rfl, ⟨by omega, by omega⟩⟩
        exact wp_lc (ks := [3, 2, 1, 0]) (wl_c rfl (wl_c rfl (wl_c rfl (wl_c rfl wl_n)))) rfl (by decide) (lp79329 _ 1 ⟨by omega, by omega⟩ rfl)
  exact wp_lc (ks := [2, 1, 0]) (wl_c rfl (wl_c rfl (wl_c rfl wl_n))) rfl (by decide) (lp79110 _ 1 ⟨by omega, by omega⟩ rfl)
/-! StrikeAwake.keep()I -/
theorem e149 : wq_en 149 = some (0, 1, false, some FieldType.int) := rfl
theorem cg149_0 : mc_cd 149 0 = some (.aload_n 0, 1) ∧ mc_cd 149 1 = some (.getfield 58, 3) ∧ mc_cd 149 4 = some (.ifCond .ne 9, 3) ∧ mc_cd 149 7 = some (.aload_n 0, 1) ∧ mc_cd 149 8 = some (.iconst 1, 1) ∧ mc_cd 149 9 = some (.invokevirtual 70, 3) ∧ mc_cd 149 12 = some (.ireturn, 1) ∧ mc_cd 149 13 = some (.aload_n 0, 1) := by decide +kernel
theorem c149_0 : mc_cd 149 0 = some (.aload_n 0, 1) := cg149_0.1
theorem c149_1 : mc_cd 149 1 = some (.getfield 58, 3) := cg149_0.2.1
theorem c149_4 : mc_cd 149 4 = some (.ifCond .ne 9, 3) := cg149_0.2.2.1
theorem c149_7 : mc_cd 149 7 = some (.aload_n 0, 1) := cg149_0.2.2.2.1
theorem c149_8 : mc_cd 149 8 = some (.iconst 1, 1) := cg149_0.2.2.2.2.1
theorem c149_9 : mc_cd 149 9 = some (.invokevirtual 70, 3) := cg149_0.2.2.2.2.2.1
theorem c149_12 : mc_cd 149 12 = some (.ireturn, 1) := cg149_0.2.2.2.2.2.2.1
theorem c149_13 : mc_cd 149 13 = some (.aload_n 0, 1) := cg149_0.2.2.2.2.2.2.2
theorem cg149_14 : mc_cd 149 14 = some (.aload_n 0, 1) ∧ mc_cd 149 15 = some (.getfield 51, 3) ∧ mc_cd 149 18 = some (.invokevirtual 284, 3) ∧ mc_cd 149 21 = some (.invokevirtual 99, 3) ∧ mc_cd 149 24 = some (.ireturn, 1) := by decide +kernel
theorem c149_14 : mc_cd 149 14 = some (.aload_n 0, 1) := cg149_14.1
theorem c149_15 : mc_cd 149 15 = some (.getfield 51, 3) := cg149_14.2.1
theorem c149_18 : mc_cd 149 18 = some (.invokevirtual 284, 3) := cg149_14.2.2.1
theorem c149_21 : mc_cd 149 21 = some (.invokevirtual 99, 3) := cg149_14.2.2.2.1
theorem c149_24 : mc_cd 149 24 = some (.ireturn, 1) := cg149_14.2.2.2.2
abbrev q_149 (r0 : Nat) (T : wq_T) (H : wq_H) : Option Value → wq_T → wq_H → Prop := fun r T' H' => T = T' ∧ WT T H' ∧ wfr [(1, 10)] T H H' ∧ ∃ z : Int, some (vI z) = r ∧ ((-2147483648) ≤ z ∧ z ≤ 2147483647)
set_option maxHeartbeats 4000000 in
theorem s_149 {kt : Nat → Option mc_E} {T : wq_T} {H : wq_H} {r0 : Nat} (hW : WT T H) (g0 : T.2.2.2 r0 = some 1) : wpc kt 4 149 [.ref r0] T H (q_149 r0 T H) := by
  refine wp_enter e149 (Nat.le_of_ble_eq_true rfl) rfl ?_
  have f0 : wfr [(1, 10)] T H H := wfr.rf
  show wp _ _ 149 0 [(0, .ref r0)] [] _ H _
  refine wp_of e149 c149_0 (rw_aload_n (pc' := 1) (v := .ref r0) rfl rfl rfl ?_)
  refine wp_of e149 c149_1 (xg_I (pc' := 4) lf_0_58 hW g0 sh_1 (by decide) (by decide) ty_1_8 rfl rfl (fun b79400 b79401 => ?_))
  refine wp_of e149 c149_4 (rw_if_ne (p1 := 13) (p2 := 7) (by decide) rfl ⟨by omega, by omega⟩ (fun c79402 => ?_) (fun c79402 => ?_))
  · refine wp_of e149 c149_13 (rw_aload_n (pc' := 14) (v := .ref r0) rfl rfl rfl ?_)
    refine wp_of e149 c149_14 (rw_aload_n (pc' := 15) (v := .ref r0) rfl rfl rfl ?_)
    refine wp_of e149 c149_15 (xg_R (pc' := 18) lf_0_51 hW g0 sh_1 (by decide) (by decide) ty_1_6 rfl rfl (fun r79403 q79404 g79405 => ?_))
    refine wp_of e149 c149_18 (xc_V (pc' := 21) (r := r79403) (as := []) (st := [.ref r0]) (lm_0_284) rfl rfl (Nat.le_of_ble_eq_true rfl) hW g79405 sh_27 (by decide) rfl (by decide) (s_150 hW g79405) (fun R79406 T79407 H79408 p79409 => ?_))
    obtain ⟨e79410, e79412, z79413, e79411, b79414⟩ := p79409
    subst e79410
    subst e79411
    subst e79412
    show wp _ _ 149 21 [(0, .ref r0)] [vI z79413, .ref r0] _ H _
    refine wp_of e149 c149_21 (xc_V (pc' := 24) (r := r0) (as := [vI z79413]) (st := []) (lm_0_99) rfl rfl (Nat.le_of_ble_eq_true rfl) hW g0 sh_1 (by decide) rfl (by decide) (s_51 hW g0 ⟨by omega, by omega⟩) (fun R79415 T79416 H79417 p79418 => ?_))
    obtain ⟨e79419, w79421, f79422, z79423, e79420, b79424⟩ := p79418
    subst e79419
    subst e79420
    have f79425 := f0.tr f79422 rfl
    show wp _ _ 149 24 [(0, .ref r0)] [vI z79423] _ H79417 _
    exact wp_ireturn e149 c149_24 rfl ⟨rfl, w79421, f79425, z79423, rfl, ⟨by omega, by omega⟩⟩
  · refine wp_of e149 c149_7 (rw_aload_n (pc' := 8) (v := .ref r0) rfl rfl rfl ?_)
    refine wp_of e149 c149_8 (rw_iconst (pc' := 9) rfl ?_)
    refine wp_of e149 c149_9 (xc_V (pc' := 12) (r := r0) (as := [vI 1]) (st := []) (lm_0_70) rfl rfl (Nat.le_of_ble_eq_true rfl) hW g0 sh_1 (by decide) rfl (by decide) (s_12 hW g0 ⟨by omega, by omega⟩) (fun R79426 T79427 H79428 p79429 => ?_))
    obtain ⟨e79430, w79432, f79433, z79434, e79431, b79435⟩ := p79429
    subst e79430
    subst e79431
    have f79436 := f0.tr f79433 rfl
    show wp _ _ 149 12 [(0, .ref r0)] [vI z79434] _ H79428 _
    exact wp_ireturn e149 c149_12 rfl ⟨rfl, w79432, f79436, z79434, rfl, ⟨by omega, by omega⟩⟩
/-! StrikeAwake.quiet(I)I -/
theorem e152 : wq_en 152 = some (0, 2, false, some FieldType.int) := rfl
theorem cg152_0 : mc_cd 152 0 = some (.aload_n 0, 1) ∧ mc_cd 152 1 = some (.getfield 58, 3) ∧ mc_cd 152 4 = some (.ifCond .ne 9, 3) ∧ mc_cd 152 7 = some (.aload_n 0, 1) ∧ mc_cd 152 8 = some (.iconst 1, 1) ∧ mc_cd 152 9 = some (.invokevirtual 70, 3) ∧ mc_cd 152 12 = some (.ireturn, 1) ∧ mc_cd 152 13 = some (.iload_n 1, 1) := by decide +kernel
theorem c152_0 : mc_cd 152 0 = some (.aload_n 0, 1) := cg152_0.1
theorem c152_1 : mc_cd 152 1 = some (.getfield 58, 3) := cg152_0.2.1
theorem c152_4 : mc_cd 152 4 = some (.ifCond .ne 9, 3) := cg152_0.2.2.1
theorem c152_7 : mc_cd 152 7 = some (.aload_n 0, 1) := cg152_0.2.2.2.1
theorem c152_8 : mc_cd 152 8 = some (.iconst 1, 1) := cg152_0.2.2.2.2.1
theorem c152_9 : mc_cd 152 9 = some (.invokevirtual 70, 3) := cg152_0.2.2.2.2.2.1
theorem c152_12 : mc_cd 152 12 = some (.ireturn, 1) := cg152_0.2.2.2.2.2.2.1
theorem c152_13 : mc_cd 152 13 = some (.iload_n 1, 1) := cg152_0.2.2.2.2.2.2.2
theorem cg152_14 : mc_cd 152 14 = some (.ifCond .lt 9, 3) ∧ mc_cd 152 17 = some (.iload_n 1, 1) ∧ mc_cd 152 18 = some (.bipush 99, 2) ∧ mc_cd 152 20 = some (.if_icmp .le 9, 3) ∧ mc_cd 152 23 = some (.aload_n 0, 1) ∧ mc_cd 152 24 = some (.iconst 2, 1) ∧ mc_cd 152 25 = some (.invokevirtual 70, 3) ∧ mc_cd 152 28 = some (.ireturn, 1) := by decide +kernel
theorem c152_14 : mc_cd 152 14 = some (.ifCond .lt 9, 3) := cg152_14.1
theorem c152_17 : mc_cd 152 17 = some (.iload_n 1, 1) := cg152_14.2.1
theorem c152_18 : mc_cd 152 18 = some (.bipush 99, 2) := cg152_14.2.2.1
theorem c152_20 : mc_cd 152 20 = some (.if_icmp .le 9, 3) := cg152_14.2.2.2.1
theorem c152_23 : mc_cd 152 23 = some (.aload_n 0, 1) := cg152_14.2.2.2.2.1
theorem c152_24 : mc_cd 152 24 = some (.iconst 2, 1) := cg152_14.2.2.2.2.2.1
theorem c152_25 : mc_cd 152 25 = some (.invokevirtual 70, 3) := cg152_14.2.2.2.2.2.2.1
theorem c152_28 : mc_cd 152 28 = some (.ireturn, 1) := cg152_14.2.2.2.2.2.2.2
theorem cg152_29 : mc_cd 152 29 = some (.aload_n 0, 1) ∧ mc_cd 152 30 = some (.aload_n 0, 1) ∧ mc_cd 152 31 = some (.getfield 51, 3) ∧ mc_cd 152 34 = some (.iload_n 1, 1) ∧ mc_cd 152 35 = some (.invokevirtual 288, 3) ∧ mc_cd 152 38 = some (.invokevirtual 99, 3) ∧ mc_cd 152 41 = some (.ireturn, 1) := by decide +kernel
theorem c152_29 : mc_cd 152 29 = some (.aload_n 0, 1) := cg152_29.1
theorem c152_30 : mc_cd 152 30 = some (.aload_n 0, 1) := cg152_29.2.1
theorem c152_31 : mc_cd 152 31 = some (.getfield 51, 3) := cg152_29.2.2.1
theorem c152_34 : mc_cd 152 34 = some (.iload_n 1, 1) := cg152_29.2.2.2.1
theorem c152_35 : mc_cd 152 35 = some (.invokevirtual 288, 3) := cg152_29.2.2.2.2.1
theorem c152_38 : mc_cd 152 38 = some (.invokevirtual 99, 3) := cg152_29.2.2.2.2.2.1
theorem c152_41 : mc_cd 152 41 = some (.ireturn, 1) := cg152_29.2.2.2.2.2.2
abbrev q_152 (r0 : Nat) (a1 : Int) (T : wq_T) (H : wq_H) : Option Value → wq_T → wq_H → Prop := fun r T' H' => T = T' ∧ WT T H' ∧ wfr [(1, 10)] T H H' ∧ ∃ z : Int, some (vI z) = r ∧ ((-2147483648) ≤ z ∧ z ≤ 2147483647)
set_option maxHeartbeats 4000000 in
theorem s_152 {kt : Nat → Option mc_E} {T : wq_T} {H : wq_H} {r0 : Nat} {a1 : Int} (hW : WT T H) (g0 : T.2.2.2 r0 = some 1) (i1 : (-2147483648) ≤ a1 ∧ a1 ≤ 2147483647) : wpc kt 2 152 [.ref r0, vI a1] T H (q_152 r0 a1 T H) := by
  refine wp_enter e152 (Nat.le_of_ble_eq_true rfl) rfl ?_
  have f0 : wfr [(1, 10)] T H H := wfr.rf
  show wp _ _ 152 0 [(0, .ref r0), (1, vI a1)] [] _ H _
  refine wp_of e152 c152_0 (rw_aload_n (pc' := 1) (v := .ref r0) rfl rfl rfl ?_)
  refine wp_of e152 c152_1 (xg_I (pc' := 4) lf_0_58 hW g0 sh_1 (by decide) (by decide) ty_1_8 rfl rfl (fun b79498 b79499 => ?_))
  refine wp_of e152 c152_4 (rw_if_ne (p1 := 13) (p2 := 7) (by decide) rfl ⟨by omega, by omega⟩ (fun c79500 => ?_) (fun c79500 => ?_))
  · refine wp_of e152 c152_13 (rw_iload_n (pc' := 14) (z := a1) rfl rfl ?_)
    refine wp_of e152 c152_14 (rw_if_lt (p1 := 23) (p2 := 17) (by decide) rfl ⟨by omega, by omega⟩ (fun c79501 => ?_) (fun c79501 => ?_))
    · refine wp_of e152 c152_23 (rw_aload_n (pc' := 24) (v := .ref r0) rfl rfl rfl ?_)
      refine wp_of e152 c152_24 (rw_iconst (pc' := 25) rfl ?_)
      refine wp_of e152 c152_25 (xc_V (pc' := 28) (r := r0) (as := [vI 2]) (st := []) (lm_0_70) rfl rfl (Nat.le_of_ble_eq_true rfl) hW g0 sh_1 (by decide) rfl (by decide) (s_12 hW g0 ⟨by omega, by omega⟩) (fun R79502 T79503 H79504 p79505 => ?_))
      obtain ⟨e79506, w79508, f79509, z79510, e79507, b79511⟩ := p79505
      subst e79506
      subst e79507
      have f79512 := f0.tr f79509 rfl
      show wp _ _ 152 28 [(0, .ref r0), (1, vI a1)] [vI z79510] _ H79504 _
      exact wp_ireturn e152 c152_28 rfl ⟨rfl, w79508, f79512, z79510, rfl, ⟨by omega, by omega⟩⟩
    · refine wp_of e152 c152_17 (rw_iload_n (pc' := 18) (z := a1) rfl rfl ?_)
      refine wp_of e152 c152_18 (rw_bipush (pc' := 20) (z := 99) rfl (by decide) ?_)
      refine wp_of e152 c152_20 (rw_icmp_le (p1 := 29) (p2 := 23) (by decide) rfl ⟨by omega, by omega⟩ ⟨by omega, by omega⟩ (fun c79513 => ?_) (fun c79513 => ?_))
      · refine wp_of e152 c152_29 (rw_aload_n (pc' := 30) (v := .ref r0) rfl rfl rfl ?_)
        refine wp_of e152 c152_30 (rw_aload_n (pc' := 31) (v := .ref r0) rfl rfl rfl ?_)
        refine wp_of e152 c152_31 (xg_R (pc' := 34) lf_0_51 hW g0 sh_1 (by decide) (by decide) ty_1_6 rfl rfl (fun r79514 q79515 g79516 => ?_))
        refine wp_of e152 c152_34 (rw_iload_n (pc' := 35) (z := a1) rfl rfl ?_)
        refine wp_of e152 c152_35 (xc_V (pc' := 38) (r := r79514) (as := [vI a1]) (st := [.ref r0]) (lm_0_288) rfl rfl (Nat.le_of_ble_eq_true rfl) hW g79516 sh_27 (by decide) rfl (by decide) (s_46 hW g79516 ⟨by omega, by omega⟩) (fun R79517 T79518 H79519 p79520 => ?_))
        obtain ⟨e79521, e79523, z79524, e79522, b79525⟩ := p79520
        subst e79521
        subst e79522
        subst e79523
        show wp _ _ 152 38 [(0, .ref r0), (1, vI a1)] [vI z79524, .ref r0] _ H _
        refine wp_of e152 c152_38 (xc_V (pc' := 41) (r := r0) (as := [vI z79524]) (st := []) (lm_0_99) rfl rfl (Nat.le_of_ble_eq_true rfl) hW g0 sh_1 (by decide) rfl (by decide) (s_51 hW g0 ⟨by omega, by omega⟩) (fun R79526 T79527 H79528 p79529 => ?_))
        obtain ⟨e79530, w79532, f79533, z79534, e79531, b79535⟩ := p79529
        subst e79530
        subst e79531
        have f79536 := f0.tr f79533 rfl
        show wp _ _ 152 41 [(0, .ref r0), (1, vI a1)] [vI z79534] _ H79528 _
        exact wp_ireturn e152 c152_41 rfl ⟨rfl, w79532, f79536, z79534, rfl, ⟨by omega, by omega⟩⟩
      · refine wp_of e152 c152_23 (rw_aload_n (pc' := 24) (v := .ref r0) rfl rfl rfl ?_)
        refine wp_of e152 c152_24 (rw_iconst (pc' := 25) rfl ?_)
        refine wp_of e152 c152_25 (xc_V (pc' := 28) (r := r0) (as := [vI 2]) (st := []) (lm_0_70) rfl rfl (Nat.le_of_ble_eq_true rfl) hW g0 sh_1 (by decide) rfl (by decide) (s_12 hW g0 ⟨by omega, by omega⟩) (fun R79537 T79538 H79539 p79540 => ?_))
        obtain ⟨e79541, w79543, f79544, z79545, e79542, b79546⟩ := p79540
        subst e79541
        subst e79542
        have f79547 := f0.tr f79544 rfl
        show wp _ _ 152 28 [(0, .ref r0), (1, vI a1)] [vI z79545] _ H79539 _
        exact wp_ireturn e152 c152_28 rfl ⟨rfl, w79543, f79547, z79545, rfl, ⟨by omega, by omega⟩⟩
  · refine wp_of e152 c152_7 (rw_aload_n (pc' := 8) (v := .ref r0) rfl rfl rfl ?_)
    refine wp_of e152 c152_8 (rw_iconst (pc' := 9) rfl ?_)
    refine wp_of e152 c152_9 (xc_V (pc' := 12) (r := r0) (as := [vI 1]) (st := []) (lm_0_70) rfl rfl (Nat.le_of_ble_eq_true rfl) hW g0 sh_1 (by decide) rfl (by decide) (s_12 hW g0 ⟨by omega, by omega⟩) (fun R79548 T79549 H79550 p79551 => ?_))
    obtain ⟨e79552, w79554, f79555, z79556, e79553, b79557⟩ := p79551
    subst e79552
    subst e79553
    have f79558 := f0.tr f79555 rfl
    show wp _ _ 152 12 [(0, .ref r0), (1, vI a1)] [vI z79556] _ H79550 _
    exact wp_ireturn e152 c152_12 rfl ⟨rfl, w79554, f79558, z79556, rfl, ⟨by omega, by omega⟩⟩
/-! StrikeAwake.strike(II)I -/
theorem e153 : wq_en 153 = some (0, 3, false, some FieldType.int) := rfl
theorem cg153_0 : mc_cd 153 0 = some (.aload_n 0, 1) ∧ mc_cd 153 1 = some (.iload_n 1, 1) ∧ mc_cd 153 2 = some (.invokevirtual 132, 3) ∧ mc_cd 153 5 = some (.ifCond .ne 9, 3) ∧ mc_cd 153 8 = some (.aload_n 0, 1) ∧ mc_cd 153 9 = some (.iconst 1, 1) ∧ mc_cd 153 10 = some (.invokevirtual 70, 3) ∧ mc_cd 153 13 = some (.ireturn, 1) := by decide +kernel
theorem c153_0 : mc_cd 153 0 = some (.aload_n 0, 1) := cg153_0.1
theorem c153_1 : mc_cd 153 1 = some (.iload_n 1, 1) := cg153_0.2.1
theorem c153_2 : mc_cd 153 2 = some (.invokevirtual 132, 3) := cg153_0.2.2.1
theorem c153_5 : mc_cd 153 5 = some (.ifCond .ne 9, 3) := cg153_0.2.2.2.1
theorem c153_8 : mc_cd 153 8 = some (.aload_n 0, 1) := cg153_0.2.2.2.2.1
theorem c153_9 : mc_cd 153 9 = some (.iconst 1, 1) := cg153_0.2.2.2.2.2.1
theorem c153_10 : mc_cd 153 10 = some (.invokevirtual 70, 3) := cg153_0.2.2.2.2.2.2.1
theorem c153_13 : mc_cd 153 13 = some (.ireturn, 1) := cg153_0.2.2.2.2.2.2.2
theorem cg153_14 : mc_cd 153 14 = some (.iload_n 2, 1) ∧ mc_cd 153 15 = some (.ifCond .lt 9, 3) ∧ mc_cd 153 18 = some (.iload_n 2, 1) ∧ mc_cd 153 19 = some (.bipush 99, 2) ∧ mc_cd 153 21 = some (.if_icmp .le 9, 3) ∧ mc_cd 153 24 = some (.aload_n 0, 1) ∧ mc_cd 153 25 = some (.iconst 2, 1) ∧ mc_cd 153 26 = some (.invokevirtual 70, 3) := by decide +kernel
theorem c153_14 : mc_cd 153 14 = some (.iload_n 2, 1) := cg153_14.1
theorem c153_15 : mc_cd 153 15 = some (.ifCond .lt 9, 3) := cg153_14.2.1
theorem c153_18 : mc_cd 153 18 = some (.iload_n 2, 1) := cg153_14.2.2.1
theorem c153_19 : mc_cd 153 19 = some (.bipush 99, 2) := cg153_14.2.2.2.1
theorem c153_21 : mc_cd 153 21 = some (.if_icmp .le 9, 3) := cg153_14.2.2.2.2.1
theorem c153_24 : mc_cd 153 24 = some (.aload_n 0, 1) := cg153_14.2.2.2.2.2.1
theorem c153_25 : mc_cd 153 25 = some (.iconst 2, 1) := cg153_14.2.2.2.2.2.2.1
theorem c153_26 : mc_cd 153 26 = some (.invokevirtual 70, 3) := cg153_14.2.2.2.2.2.2.2
theorem cg153_29 : mc_cd 153 29 = some (.ireturn, 1) ∧ mc_cd 153 30 = some (.aload_n 0, 1) ∧ mc_cd 153 31 = some (.getfield 51, 3) ∧ mc_cd 153 34 = some (.iload_n 1, 1) ∧ mc_cd 153 35 = some (.iload_n 2, 1) ∧ mc_cd 153 36 = some (.invokevirtual 291, 3) ∧ mc_cd 153 39 = some (.aload_n 0, 1) ∧ mc_cd 153 40 = some (.getfield 30, 3) := by decide +kernel
theorem c153_29 : mc_cd 153 29 = some (.ireturn, 1) := cg153_29.1
theorem c153_30 : mc_cd 153 30 = some (.aload_n 0, 1) := cg153_29.2.1
theorem c153_31 : mc_cd 153 31 = some (.getfield 51, 3) := cg153_29.2.2.1
theorem c153_34 : mc_cd 153 34 = some (.iload_n 1, 1) := cg153_29.2.2.2.1
theorem c153_35 : mc_cd 153 35 = some (.iload_n 2, 1) := cg153_29.2.2.2.2.1
theorem c153_36 : mc_cd 153 36 = some (.invokevirtual 291, 3) := cg153_29.2.2.2.2.2.1
theorem c153_39 : mc_cd 153 39 = some (.aload_n 0, 1) := cg153_29.2.2.2.2.2.2.1
theorem c153_40 : mc_cd 153 40 = some (.getfield 30, 3) := cg153_29.2.2.2.2.2.2.2
theorem cg153_43 : mc_cd 153 43 = some (.invokevirtual 93, 3) ∧ mc_cd 153 46 = some (.aload_n 0, 1) ∧ mc_cd 153 47 = some (.aload_n 0, 1) ∧ mc_cd 153 48 = some (.getfield 51, 3) ∧ mc_cd 153 51 = some (.getfield 295, 3) ∧ mc_cd 153 54 = some (.invokevirtual 99, 3) ∧ mc_cd 153 57 = some (.ireturn, 1) := by decide +kernel
theorem c153_43 : mc_cd 153 43 = some (.invokevirtual 93, 3) := cg153_43.1
theorem c153_46 : mc_cd 153 46 = some (.aload_n 0, 1) := cg153_43.2.1
theorem c153_47 : mc_cd 153 47 = some (.aload_n 0, 1) := cg153_43.2.2.1
theorem c153_48 : mc_cd 153 48 = some (.getfield 51, 3) := cg153_43.2.2.2.1
theorem c153_51 : mc_cd 153 51 = some (.getfield 295, 3) := cg153_43.2.2.2.2.1
theorem c153_54 : mc_cd 153 54 = some (.invokevirtual 99, 3) := cg153_43.2.2.2.2.2.1
theorem c153_57 : mc_cd 153 57 = some (.ireturn, 1) := cg153_43.2.2.2.2.2.2
/-! StrikeAwake.still(I)Z -/
theorem e154 : wq_en 154 = some (0, 2, false, some FieldType.boolean) := rfl
theorem cg154_0 : mc_cd 154 0 = some (.aload_n 0, 1) ∧ mc_cd 154 1 = some (.iload_n 1, 1) ∧ mc_cd 154 2 = some (.invokevirtual 132, 3) ∧ mc_cd 154 5 = some (.ifCond .eq 15, 3) ∧ mc_cd 154 8 = some (.aload_n 0, 1) ∧ mc_cd 154 9 = some (.getfield 51, 3) ∧ mc_cd 154 12 = some (.getfield 262, 3) ∧ mc_cd 154 15 = some (.iload_n 1, 1) := by decide +kernel
theorem c154_0 : mc_cd 154 0 = some (.aload_n 0, 1) := cg154_0.1
theorem c154_1 : mc_cd 154 1 = some (.iload_n 1, 1) := cg154_0.2.1
theorem c154_2 : mc_cd 154 2 = some (.invokevirtual 132, 3) := cg154_0.2.2.1
theorem c154_5 : mc_cd 154 5 = some (.ifCond .eq 15, 3) := cg154_0.2.2.2.1
theorem c154_8 : mc_cd 154 8 = some (.aload_n 0, 1) := cg154_0.2.2.2.2.1
theorem c154_9 : mc_cd 154 9 = some (.getfield 51, 3) := cg154_0.2.2.2.2.2.1
theorem c154_12 : mc_cd 154 12 = some (.getfield 262, 3) := cg154_0.2.2.2.2.2.2.1
theorem c154_15 : mc_cd 154 15 = some (.iload_n 1, 1) := cg154_0.2.2.2.2.2.2.2
theorem cg154_16 : mc_cd 154 16 = some (.iaload, 1) ∧ mc_cd 154 17 = some (.ifCond .ge 9, 3) ∧ mc_cd 154 20 = some (.aload_n 0, 1) ∧ mc_cd 154 21 = some (.iconst 1, 1) ∧ mc_cd 154 22 = some (.invokevirtual 145, 3) ∧ mc_cd 154 25 = some (.ireturn, 1) ∧ mc_cd 154 26 = some (.aload_n 0, 1) ∧ mc_cd 154 27 = some (.getfield 51, 3) := by decide +kernel
theorem c154_16 : mc_cd 154 16 = some (.iaload, 1) := cg154_16.1
theorem c154_17 : mc_cd 154 17 = some (.ifCond .ge 9, 3) := cg154_16.2.1
theorem c154_20 : mc_cd 154 20 = some (.aload_n 0, 1) := cg154_16.2.2.1
theorem c154_21 : mc_cd 154 21 = some (.iconst 1, 1) := cg154_16.2.2.2.1
theorem c154_22 : mc_cd 154 22 = some (.invokevirtual 145, 3) := cg154_16.2.2.2.2.1
theorem c154_25 : mc_cd 154 25 = some (.ireturn, 1) := cg154_16.2.2.2.2.2.1
theorem c154_26 : mc_cd 154 26 = some (.aload_n 0, 1) := cg154_16.2.2.2.2.2.2.1
theorem c154_27 : mc_cd 154 27 = some (.getfield 51, 3) := cg154_16.2.2.2.2.2.2.2
theorem cg154_30 : mc_cd 154 30 = some (.iload_n 1, 1) ∧ mc_cd 154 31 = some (.bipush (-2), 2) ∧ mc_cd 154 33 = some (.invokevirtual 291, 3) ∧ mc_cd 154 36 = some (.aload_n 0, 1) ∧ mc_cd 154 37 = some (.getfield 30, 3) ∧ mc_cd 154 40 = some (.invokevirtual 93, 3) ∧ mc_cd 154 43 = some (.aload_n 0, 1) ∧ mc_cd 154 44 = some (.invokevirtual 151, 3) := by decide +kernel
theorem c154_30 : mc_cd 154 30 = some (.iload_n 1, 1) := cg154_30.1
theorem c154_31 : mc_cd 154 31 = some (.bipush (-2), 2) := cg154_30.2.1
theorem c154_33 : mc_cd 154 33 = some (.invokevirtual 291, 3) := cg154_30.2.2.1
theorem c154_36 : mc_cd 154 36 = some (.aload_n 0, 1) := cg154_30.2.2.2.1
theorem c154_37 : mc_cd 154 37 = some (.getfield 30, 3) := cg154_30.2.2.2.2.1
theorem c154_40 : mc_cd 154 40 = some (.invokevirtual 93, 3) := cg154_30.2.2.2.2.2.1
theorem c154_43 : mc_cd 154 43 = some (.aload_n 0, 1) := cg154_30.2.2.2.2.2.2.1
theorem c154_44 : mc_cd 154 44 = some (.invokevirtual 151, 3) := cg154_30.2.2.2.2.2.2.2
theorem c154_47 : mc_cd 154 47 = some (.ireturn, 1) := by decide +kernel
/-! StrikeAwake.struck(I)I -/
theorem e155 : wq_en 155 = some (0, 2, false, some FieldType.int) := rfl
theorem cg155_0 : mc_cd 155 0 = some (.aload_n 0, 1) ∧ mc_cd 155 1 = some (.iload_n 1, 1) ∧ mc_cd 155 2 = some (.invokevirtual 132, 3) ∧ mc_cd 155 5 = some (.ifCond .ne 9, 3) ∧ mc_cd 155 8 = some (.aload_n 0, 1) ∧ mc_cd 155 9 = some (.iconst 1, 1) ∧ mc_cd 155 10 = some (.invokevirtual 70, 3) ∧ mc_cd 155 13 = some (.ireturn, 1) := by decide +kernel
theorem c155_0 : mc_cd 155 0 = some (.aload_n 0, 1) := cg155_0.1
theorem c155_1 : mc_cd 155 1 = some (.iload_n 1, 1) := cg155_0.2.1
theorem c155_2 : mc_cd 155 2 = some (.invokevirtual 132, 3) := cg155_0.2.2.1
theorem c155_5 : mc_cd 155 5 = some (.ifCond .ne 9, 3) := cg155_0.2.2.2.1
theorem c155_8 : mc_cd 155 8 = some (.aload_n 0, 1) := cg155_0.2.2.2.2.1
theorem c155_9 : mc_cd 155 9 = some (.iconst 1, 1) := cg155_0.2.2.2.2.2.1
theorem c155_10 : mc_cd 155 10 = some (.invokevirtual 70, 3) := cg155_0.2.2.2.2.2.2.1
theorem c155_13 : mc_cd 155 13 = some (.ireturn, 1) := cg155_0.2.2.2.2.2.2.2
theorem cg155_14 : mc_cd 155 14 = some (.aload_n 0, 1) ∧ mc_cd 155 15 = some (.aload_n 0, 1) ∧ mc_cd 155 16 = some (.getfield 51, 3) ∧ mc_cd 155 19 = some (.getfield 262, 3) ∧ mc_cd 155 22 = some (.iload_n 1, 1) ∧ mc_cd 155 23 = some (.iaload, 1) ∧ mc_cd 155 24 = some (.invokevirtual 99, 3) ∧ mc_cd 155 27 = some (.ireturn, 1) := by decide +kernel
theorem c155_14 : mc_cd 155 14 = some (.aload_n 0, 1) := cg155_14.1
theorem c155_15 : mc_cd 155 15 = some (.aload_n 0, 1) := cg155_14.2.1
theorem c155_16 : mc_cd 155 16 = some (.getfield 51, 3) := cg155_14.2.2.1
theorem c155_19 : mc_cd 155 19 = some (.getfield 262, 3) := cg155_14.2.2.2.1
theorem c155_22 : mc_cd 155 22 = some (.iload_n 1, 1) := cg155_14.2.2.2.2.1
theorem c155_23 : mc_cd 155 23 = some (.iaload, 1) := cg155_14.2.2.2.2.2.1
theorem c155_24 : mc_cd 155 24 = some (.invokevirtual 99, 3) := cg155_14.2.2.2.2.2.2.1
theorem c155_27 : mc_cd 155 27 = some (.ireturn, 1) := cg155_14.2.2.2.2.2.2.2
abbrev q_155 (r0 : Nat) (a1 : Int) (T : wq_T) (H : wq_H) : Option Value → wq_T → wq_H → Prop := fun r T' H' => T = T' ∧ WT T H' ∧ wfr [(1, 10)] T H H' ∧ ∃ z : Int, some (vI z) = r ∧ ((-2147483648) ≤ z ∧ z ≤ 2147483647)
set_option maxHeartbeats 4000000 in
theorem s_155 {kt : Nat → Option mc_E} {T : wq_T} {H : wq_H} {r0 : Nat} {a1 : Int} (hW : WT T H) (g0 : T.2.2.2 r0 = some 1) (i1 : (-2147483648) ≤ a1 ∧ a1 ≤ 2147483647) : wpc kt 2 155 [.ref r0, vI a1] T H (q_155 r0 a1 T H) := by
  refine wp_enter e155 (Nat.le_of_ble_eq_true rfl) rfl ?_
  have f0 : wfr [(1, 10)] T H H := wfr.rf
  show wp _ _ 155 0 [(0, .ref r0), (1, vI a1)] [] _ H _
  refine wp_of e155 c155_0 (rw_aload_n (pc' := 1) (v := .ref r0) rfl rfl rfl ?_)
  refine wp_of e155 c155_1 (rw_iload_n (pc' := 2) (z := a1) rfl rfl ?_)
  refine wp_of e155 c155_2 (xc_V (pc' := 5) (r := r0) (as := [vI a1]) (st := []) (lm_0_132) rfl rfl (Nat.le_of_ble_eq_true rfl) hW g0 sh_1 (by decide) rfl (by decide) (s_60 hW g0 ⟨by omega, by omega⟩) (fun R79918 T79919 H79920 p79921 => ?_))
  obtain ⟨e79922, e79924, z79926, e79923, b79927, p79925⟩ := p79921
  subst e79922
  subst e79923
  subst e79924
  show wp _ _ 155 5 [(0, .ref r0), (1, vI a1)] [vI z79926] _ H _
  refine wp_of e155 c155_5 (rw_if_ne (p1 := 14) (p2 := 8) (by decide) rfl ⟨by omega, by omega⟩ (fun c79928 => ?_) (fun c79928 => ?_))
  · refine wp_of e155 c155_14 (rw_aload_n (pc' := 15) (v := .ref r0) rfl rfl rfl ?_)
    refine wp_of e155 c155_15 (rw_aload_n (pc' := 16) (v := .ref r0) rfl rfl rfl ?_)
    refine wp_of e155 c155_16 (xg_R (pc' := 19) lf_0_51 hW g0 sh_1 (by decide) (by decide) ty_1_6 rfl rfl (fun r79929 q79930 g79931 => ?_))
    refine wp_of e155 c155_19 (xg_R (pc' := 22) lf_0_262 hW g79931 sh_27 (by decide) (by decide) ty_27_1 rfl rfl (fun r79932 q79933 g79934 => ?_))
    refine wp_of e155 c155_22 (rw_iload_n (pc' := 23) (z := a1) rfl rfl ?_)
    refine wp_of e155 c155_23 (xa_I (so := 0) (pc' := 24) hW g79934 sh_29 (by decide) (ty_29 _) (by omega) (by omega) rfl (fun b79935 b79936 => ?_))
    refine wp_of e155 c155_24 (xc_V (pc' := 27) (r := r0) (as := [vI (H r79932 (a1.toNat))]) (st := []) (lm_0_99) rfl rfl (Nat.le_of_ble_eq_true rfl) hW g0 sh_1 (by decide) rfl (by decide) (s_51 hW g0 ⟨by omega, by omega⟩) (fun R79937 T79938 H79939 p79940 => ?_))
    obtain ⟨e79941, w79943, f79944, z79945, e79942, b79946⟩ := p79940
    subst e79941
    subst e79942
    have f79947 := f0.tr f79944 rfl
    show wp _ _ 155 27 [(0, .ref r0), (1, vI a1)] [vI z79945] _ H79939 _
    exact wp_ireturn e155 c155_27 rfl ⟨rfl, w79943, f79947, z79945, rfl, ⟨by omega, by omega⟩⟩
  · refine wp_of e155 c155_8 (rw_aload_n (pc' := 9) (v := .ref r0) rfl rfl rfl ?_)
    refine wp_of e155 c155_9 (rw_iconst (pc' := 10) rfl ?_)
    refine wp_of e155 c155_10 (xc_V (pc' := 13) (r := r0) (as := [vI 1]) (st := []) (lm_0_70) rfl rfl (Nat.le_of_ble_eq_true rfl) hW g0 sh_1 (by decide) rfl (by decide) (s_12 hW g0 ⟨by omega, by omega⟩) (fun R79948 T79949 H79950 p79951 => ?_))
    obtain ⟨e79952, w79954, f79955, z79956, e79953, b79957⟩ := p79951
    subst e79952
    subst e79953
    have f79958 := f0.tr f79955 rfl
    show wp _ _ 155 13 [(0, .ref r0), (1, vI a1)] [vI z79956] _ H79950 _
    exact wp_ireturn e155 c155_13 rfl ⟨rfl, w79954, f79958, z79956, rfl, ⟨by omega, by omega⟩⟩
/-! StrikeAwake.seek()I -/
theorem e156 : wq_en 156 = some (0, 3, false, some FieldType.int) := rfl
theorem cg156_0 : mc_cd 156 0 = some (.aload_n 0, 1) ∧ mc_cd 156 1 = some (.aload_n 0, 1) ∧ mc_cd 156 2 = some (.getfield 58, 3) ∧ mc_cd 156 5 = some (.invokevirtual 174, 3) ∧ mc_cd 156 8 = some (.istore_n 1, 1) ∧ mc_cd 156 9 = some (.iload_n 1, 1) ∧ mc_cd 156 10 = some (.ifCond .eq 9, 3) ∧ mc_cd 156 13 = some (.aload_n 0, 1) := by decide +kernel
theorem c156_0 : mc_cd 156 0 = some (.aload_n 0, 1) := cg156_0.1
theorem c156_1 : mc_cd 156 1 = some (.aload_n 0, 1) := cg156_0.2.1
theorem c156_2 : mc_cd 156 2 = some (.getfield 58, 3) := cg156_0.2.2.1
theorem c156_5 : mc_cd 156 5 = some (.invokevirtual 174, 3) := cg156_0.2.2.2.1
theorem c156_8 : mc_cd 156 8 = some (.istore_n 1, 1) := cg156_0.2.2.2.2.1
theorem c156_9 : mc_cd 156 9 = some (.iload_n 1, 1) := cg156_0.2.2.2.2.2.1
theorem c156_10 : mc_cd 156 10 = some (.ifCond .eq 9, 3) := cg156_0.2.2.2.2.2.2.1
theorem c156_13 : mc_cd 156 13 = some (.aload_n 0, 1) := cg156_0.2.2.2.2.2.2.2
theorem cg156_14 : mc_cd 156 14 = some (.iload_n 1, 1) ∧ mc_cd 156 15 = some (.invokevirtual 70, 3) ∧ mc_cd 156 18 = some (.ireturn, 1) ∧ mc_cd 156 19 = some (.aload_n 0, 1) ∧ mc_cd 156 20 = some (.getfield 30, 3) ∧ mc_cd 156 23 = some (.aload_n 0, 1) ∧ mc_cd 156 24 = some (.getfield 51, 3) ∧ mc_cd 156 27 = some (.getfield 298, 3) := by decide +kernel
theorem c156_14 : mc_cd 156 14 = some (.iload_n 1, 1) := cg156_14.1
theorem c156_15 : mc_cd 156 15 = some (.invokevirtual 70, 3) := cg156_14.2.1
theorem c156_18 : mc_cd 156 18 = some (.ireturn, 1) := cg156_14.2.2.1
theorem c156_19 : mc_cd 156 19 = some (.aload_n 0, 1) := cg156_14.2.2.2.1
theorem c156_20 : mc_cd 156 20 = some (.getfield 30, 3) := cg156_14.2.2.2.2.1
theorem c156_23 : mc_cd 156 23 = some (.aload_n 0, 1) := cg156_14.2.2.2.2.2.1
theorem c156_24 : mc_cd 156 24 = some (.getfield 51, 3) := cg156_14.2.2.2.2.2.2.1
theorem c156_27 : mc_cd 156 27 = some (.getfield 298, 3) := cg156_14.2.2.2.2.2.2.2
theorem cg156_30 : mc_cd 156 30 = some (.aload_n 0, 1) ∧ mc_cd 156 31 = some (.getfield 51, 3) ∧ mc_cd 156 34 = some (.invokevirtual 301, 3) ∧ mc_cd 156 37 = some (.istore_n 2, 1) ∧ mc_cd 156 38 = some (.iload_n 2, 1) ∧ mc_cd 156 39 = some (.ifCond .ge 10, 3) ∧ mc_cd 156 42 = some (.aload_n 0, 1) ∧ mc_cd 156 43 = some (.bipush 6, 2) := by decide +kernel
theorem c156_30 : mc_cd 156 30 = some (.aload_n 0, 1) := cg156_30.1
theorem c156_31 : mc_cd 156 31 = some (.getfield 51, 3) := cg156_30.2.1
theorem c156_34 : mc_cd 156 34 = some (.invokevirtual 301, 3) := cg156_30.2.2.1
theorem c156_37 : mc_cd 156 37 = some (.istore_n 2, 1) := cg156_30.2.2.2.1
theorem c156_38 : mc_cd 156 38 = some (.iload_n 2, 1) := cg156_30.2.2.2.2.1
theorem c156_39 : mc_cd 156 39 = some (.ifCond .ge 10, 3) := cg156_30.2.2.2.2.2.1
theorem c156_42 : mc_cd 156 42 = some (.aload_n 0, 1) := cg156_30.2.2.2.2.2.2.1
theorem c156_43 : mc_cd 156 43 = some (.bipush 6, 2) := cg156_30.2.2.2.2.2.2.2
theorem cg156_45 : mc_cd 156 45 = some (.invokevirtual 70, 3) ∧ mc_cd 156 48 = some (.ireturn, 1) ∧ mc_cd 156 49 = some (.aload_n 0, 1) ∧ mc_cd 156 50 = some (.getfield 51, 3) ∧ mc_cd 156 53 = some (.iload_n 2, 1) ∧ mc_cd 156 54 = some (.iconst 1, 1) ∧ mc_cd 156 55 = some (.iadd, 1) ∧ mc_cd 156 56 = some (.putfield 298, 3) := by decide +kernel
theorem c156_45 : mc_cd 156 45 = some (.invokevirtual 70, 3) := cg156_45.1
theorem c156_48 : mc_cd 156 48 = some (.ireturn, 1) := cg156_45.2.1
theorem c156_49 : mc_cd 156 49 = some (.aload_n 0, 1) := cg156_45.2.2.1
theorem c156_50 : mc_cd 156 50 = some (.getfield 51, 3) := cg156_45.2.2.2.1
theorem c156_53 : mc_cd 156 53 = some (.iload_n 2, 1) := cg156_45.2.2.2.2.1
theorem c156_54 : mc_cd 156 54 = some (.iconst 1, 1) := cg156_45.2.2.2.2.2.1
theorem c156_55 : mc_cd 156 55 = some (.iadd, 1) := cg156_45.2.2.2.2.2.2.1
theorem c156_56 : mc_cd 156 56 = some (.putfield 298, 3) := cg156_45.2.2.2.2.2.2.2
theorem cg156_59 : mc_cd 156 59 = some (.aload_n 0, 1) ∧ mc_cd 156 60 = some (.iload_n 2, 1) ∧ mc_cd 156 61 = some (.invokevirtual 99, 3) ∧ mc_cd 156 64 = some (.ireturn, 1) := by decide +kernel
theorem c156_59 : mc_cd 156 59 = some (.aload_n 0, 1) := cg156_59.1
theorem c156_60 : mc_cd 156 60 = some (.iload_n 2, 1) := cg156_59.2.1
theorem c156_61 : mc_cd 156 61 = some (.invokevirtual 99, 3) := cg156_59.2.2.1
theorem c156_64 : mc_cd 156 64 = some (.ireturn, 1) := cg156_59.2.2.2
/-! StrikeAwake.lot(II)I -/
theorem e157 : wq_en 157 = some (0, 4, false, some FieldType.int) := rfl
theorem cg157_0 : mc_cd 157 0 = some (.aload_n 0, 1) ∧ mc_cd 157 1 = some (.aload_n 0, 1) ∧ mc_cd 157 2 = some (.iload_n 2, 1) ∧ mc_cd 157 3 = some (.invokevirtual 105, 3) ∧ mc_cd 157 6 = some (.ifCond .eq 24, 3) ∧ mc_cd 157 9 = some (.iload_n 1, 1) ∧ mc_cd 157 10 = some (.ifCond .lt 20, 3) ∧ mc_cd 157 13 = some (.iload_n 1, 1) := by decide +kernel
theorem c157_0 : mc_cd 157 0 = some (.aload_n 0, 1) := cg157_0.1
theorem c157_1 : mc_cd 157 1 = some (.aload_n 0, 1) := cg157_0.2.1
theorem c157_2 : mc_cd 157 2 = some (.iload_n 2, 1) := cg157_0.2.2.1
theorem c157_3 : mc_cd 157 3 = some (.invokevirtual 105, 3) := cg157_0.2.2.2.1
theorem c157_6 : mc_cd 157 6 = some (.ifCond .eq 24, 3) := cg157_0.2.2.2.2.1
theorem c157_9 : mc_cd 157 9 = some (.iload_n 1, 1) := cg157_0.2.2.2.2.2.1
theorem c157_10 : mc_cd 157 10 = some (.ifCond .lt 20, 3) := cg157_0.2.2.2.2.2.2.1
theorem c157_13 : mc_cd 157 13 = some (.iload_n 1, 1) := cg157_0.2.2.2.2.2.2.2
theorem cg157_14 : mc_cd 157 14 = some (.i2l, 1) ∧ mc_cd 157 15 = some (.aload_n 0, 1) ∧ mc_cd 157 16 = some (.getfield 51, 3) ∧ mc_cd 157 19 = some (.getfield 141, 3) ∧ mc_cd 157 22 = some (.lcmp, 1) ∧ mc_cd 157 23 = some (.ifCond .ge 7, 3) ∧ mc_cd 157 26 = some (.iconst 1, 1) ∧ mc_cd 157 27 = some (.goto 4, 3) := by decide +kernel
theorem c157_14 : mc_cd 157 14 = some (.i2l, 1) := cg157_14.1
theorem c157_15 : mc_cd 157 15 = some (.aload_n 0, 1) := cg157_14.2.1
theorem c157_16 : mc_cd 157 16 = some (.getfield 51, 3) := cg157_14.2.2.1
theorem c157_19 : mc_cd 157 19 = some (.getfield 141, 3) := cg157_14.2.2.2.1
theorem c157_22 : mc_cd 157 22 = some (.lcmp, 1) := cg157_14.2.2.2.2.1
theorem c157_23 : mc_cd 157 23 = some (.ifCond .ge 7, 3) := cg157_14.2.2.2.2.2.1
theorem c157_26 : mc_cd 157 26 = some (.iconst 1, 1) := cg157_14.2.2.2.2.2.2.1
theorem c157_27 : mc_cd 157 27 = some (.goto 4, 3) := cg157_14.2.2.2.2.2.2.2
theorem cg157_30 : mc_cd 157 30 = some (.iconst 0, 1) ∧ mc_cd 157 31 = some (.invokevirtual 245, 3) ∧ mc_cd 157 34 = some (.istore_n 3, 1) ∧ mc_cd 157 35 = some (.iload_n 3, 1) ∧ mc_cd 157 36 = some (.ifCond .eq 9, 3) ∧ mc_cd 157 39 = some (.aload_n 0, 1) ∧ mc_cd 157 40 = some (.iload_n 3, 1) ∧ mc_cd 157 41 = some (.invokevirtual 70, 3) := by decide +kernel
theorem c157_30 : mc_cd 157 30 = some (.iconst 0, 1) := cg157_30.1
theorem c157_31 : mc_cd 157 31 = some (.invokevirtual 245, 3) := cg157_30.2.1
theorem c157_34 : mc_cd 157 34 = some (.istore_n 3, 1) := cg157_30.2.2.1
theorem c157_35 : mc_cd 157 35 = some (.iload_n 3, 1) := cg157_30.2.2.2.1
theorem c157_36 : mc_cd 157 36 = some (.ifCond .eq 9, 3) := cg157_30.2.2.2.2.1
theorem c157_39 : mc_cd 157 39 = some (.aload_n 0, 1) := cg157_30.2.2.2.2.2.1
theorem c157_40 : mc_cd 157 40 = some (.iload_n 3, 1) := cg157_30.2.2.2.2.2.2.1
theorem c157_41 : mc_cd 157 41 = some (.invokevirtual 70, 3) := cg157_30.2.2.2.2.2.2.2
theorem cg157_44 : mc_cd 157 44 = some (.ireturn, 1) ∧ mc_cd 157 45 = some (.aload_n 0, 1) ∧ mc_cd 157 46 = some (.aload_n 0, 1) ∧ mc_cd 157 47 = some (.getfield 51, 3) ∧ mc_cd 157 50 = some (.iload_n 1, 1) ∧ mc_cd 157 51 = some (.iload_n 2, 1) ∧ mc_cd 157 52 = some (.invokevirtual 183, 3) ∧ mc_cd 157 55 = some (.invokevirtual 99, 3) := by decide +kernel
theorem c157_44 : mc_cd 157 44 = some (.ireturn, 1) := cg157_44.1
theorem c157_45 : mc_cd 157 45 = some (.aload_n 0, 1) := cg157_44.2.1
theorem c157_46 : mc_cd 157 46 = some (.aload_n 0, 1) := cg157_44.2.2.1
theorem c157_47 : mc_cd 157 47 = some (.getfield 51, 3) := cg157_44.2.2.2.1
theorem c157_50 : mc_cd 157 50 = some (.iload_n 1, 1) := cg157_44.2.2.2.2.1
theorem c157_51 : mc_cd 157 51 = some (.iload_n 2, 1) := cg157_44.2.2.2.2.2.1
theorem c157_52 : mc_cd 157 52 = some (.invokevirtual 183, 3) := cg157_44.2.2.2.2.2.2.1
theorem c157_55 : mc_cd 157 55 = some (.invokevirtual 99, 3) := cg157_44.2.2.2.2.2.2.2
theorem c157_58 : mc_cd 157 58 = some (.ireturn, 1) := by decide +kernel
abbrev q_157 (r0 : Nat) (a1 : Int) (a2 : Int) (T : wq_T) (H : wq_H) : Option Value → wq_T → wq_H → Prop := fun r T' H' => T = T' ∧ WT T H' ∧ wfr [(1, 10)] T H H' ∧ ∃ z : Int, some (vI z) = r ∧ ((-2147483648) ≤ z ∧ z ≤ 2147483647)
set_option maxHeartbeats 4000000 in
theorem s_157 {kt : Nat → Option mc_E} {T : wq_T} {H : wq_H} {r0 : Nat} {a1 : Int} {a2 : Int} (hW : WT T H) (g0 : T.2.2.2 r0 = some 1) (i1 : (-2147483648) ≤ a1 ∧ a1 ≤ 2147483647) (i2 : (-2147483648) ≤ a2 ∧ a2 ≤ 2147483647) : wpc kt 2 157 [.ref r0, vI a1, vI a2] T H (q_157 r0 a1 a2 T H) := by
  refine wp_enter e157 (Nat.le_of_ble_eq_true rfl) rfl ?_
  have f0 : wfr [(1, 10)] T H H := wfr.rf
  show wp _ _ 157 0 [(0, .ref r0), (1, vI a1), (2, vI a2)] [] _ H _
  refine wp_of e157 c157_0 (rw_aload_n (pc' := 1) (v := .ref r0) rfl rfl rfl ?_)
  refine wp_of e157 c157_1 (rw_aload_n (pc' := 2) (v := .ref r0) rfl rfl rfl ?_)
  refine wp_of e157 c157_2 (rw_iload_n (pc' := 3) (z := a2) rfl rfl ?_)
  refine wp_of e157 c157_3 (xc_V (pc' := 6) (r := r0) (as := [vI a2]) (st := [.ref r0]) (lm_0_105) rfl rfl (Nat.le_of_ble_eq_true rfl) hW g0 sh_1 (by decide) rfl (by decide) (s_55 hW g0 ⟨by omega, by omega⟩) (fun R80228 T80229 H80230 p80231 => ?_))
  obtain ⟨e80232, e80234, z80236, e80233, b80237, p80235⟩ := p80231
  subst e80232
  subst e80233
  subst e80234
  show wp _ _ 157 6 [(0, .ref r0), (1, vI a1), (2, vI a2)] [vI z80236, .ref r0] _ H _
  refine wp_of e157 c157_6 (rw_if_eq (p1 := 30) (p2 := 9) (by decide) rfl ⟨by omega, by omega⟩ (fun c80238 => ?_) (fun c80238 => ?_))
  · refine wp_of e157 c157_30 (rw_iconst (pc' := 31) rfl ?_)
    refine wp_of e157 c157_31 (xc_V (pc' := 34) (r := r0) (as := [vI 0]) (st := []) (lm_0_245) rfl rfl (Nat.le_of_ble_eq_true rfl) hW g0 sh_1 (by decide) rfl (by decide) (s_84 hW g0 ⟨by omega, by omega⟩) (fun R80239 T80240 H80241 p80242 => ?_))
    obtain ⟨e80243, e80245, z80247, e80244, b80248, p80246⟩ := p80242
    subst e80243
    subst e80244
    subst e80245
    show wp _ _ 157 34 [(0, .ref r0), (1, vI a1), (2, vI a2)] [vI z80247] _ H _
    refine wp_of e157 c157_34 (rw_istore_n (pc' := 35) (z := z80247) (L' := [(3, vI z80247), (0, .ref r0), (1, vI a1), (2, vI a2)]) rfl rfl rfl ?_)
    refine wp_of e157 c157_35 (rw_iload_n (pc' := 36) (z := z80247) rfl rfl ?_)
    refine wp_of e157 c157_36 (rw_if_eq (p1 := 45) (p2 := 39) (by decide) rfl ⟨by omega, by omega⟩ (fun c80249 => ?_) (fun c80249 => ?_))
    · exfalso
      omega
    · refine wp_of e157 c157_39 (rw_aload_n (pc' := 40) (v := .ref r0) rfl rfl rfl ?_)
      refine wp_of e157 c157_40 (rw_iload_n (pc' := 41) (z := z80247) rfl rfl ?_)
      refine wp_of e157 c157_41 (xc_V (pc' := 44) (r := r0) (as := [vI z80247]) (st := []) (lm_0_70) rfl rfl (Nat.le_of_ble_eq_true rfl) hW g0 sh_1 (by decide) rfl (by decide) (s_12 hW g0 ⟨by omega, by omega⟩) (fun R80250 T80251 H80252 p80253 => ?_))
      obtain ⟨e80254, w80256, f80257, z80258, e80255, b80259⟩ := p80253
      subst e80254
      subst e80255
      have f80260 := f0.tr f80257 rfl
      show wp _ _ 157 44 [(3, vI z80247), (0, .ref r0), (1, vI a1), (2, vI a2)] [vI z80258] _ H80252 _
      exact wp_ireturn e157 c157_44 rfl ⟨rfl, w80256, f80260, z80258, rfl, ⟨by omega, by omega⟩⟩
  · refine wp_of e157 c157_9 (rw_iload_n (pc' := 10) (z := a1) rfl rfl ?_)
    refine wp_of e157 c157_10 (rw_if_lt (p1 := 30) (p2 := 13) (by decide) rfl ⟨by omega, by omega⟩ (fun c80261 => ?_) (fun c80261 => ?_))
    · refine wp_of e157 c157_30 (rw_iconst (pc' := 31) rfl ?_)
      refine wp_of e157 c157_31 (xc_V (pc' := 34) (r := r0) (as := [vI 0]) (st := []) (lm_0_245) rfl rfl (Nat.le_of_ble_eq_true rfl) hW g0 sh_1 (by decide) rfl (by decide) (s_84 hW g0 ⟨by omega, by omega⟩) (fun R80262 T80263 H80264 p80265 => ?_))
      obtain ⟨e80266, e80268, z80270, e80267, b80271, p80269⟩ := p80265
      subst e80266
      subst e80267
      subst e80268
      show wp _ _ 157 34 [(0, .ref r0), (1, vI a1), (2, vI a2)] [vI z80270] _ H _
      refine wp_of e157 c157_34 (rw_istore_n (pc' := 35) (z := z80270) (L' := [(3, vI z80270), (0, .ref r0), (1, vI a1), (2, vI a2)]) rfl rfl rfl ?_)
      refine wp_of e157 c157_35 (rw_iload_n (pc' := 36) (z := z80270) rfl rfl ?_)
      refine wp_of e157 c157_36 (rw_if_eq (p1 := 45) (p2 := 39) (by decide) rfl ⟨by omega, by omega⟩ (fun c80272 => ?_) (fun c80272 => ?_))
      · exfalso
        omega
      · refine wp_of e157 c157_39 (rw_aload_n (pc' := 40) (v := .ref r0) rfl rfl rfl ?_)
        refine wp_of e157 c157_40 (rw_iload_n (pc' := 41) (z := z80270) rfl rfl ?_)
        refine wp_of e157 c157_41 (xc_V (pc' := 44) (r := r0) (as := [vI z80270]) (st := []) (lm_0_70) rfl rfl (Nat.le_of_ble_eq_true rfl) hW g0 sh_1 (by decide) rfl (by decide) (s_12 hW g0 ⟨by omega, by omega⟩) (fun R80273 T80274 H80275 p80276 => ?_))
        obtain ⟨e80277, w80279, f80280, z80281, e80278, b80282⟩ := p80276
        subst e80277
        subst e80278
        have f80283 := f0.tr f80280 rfl
        show wp _ _ 157 44 [(3, vI z80270), (0, .ref r0), (1, vI a1), (2, vI a2)] [vI z80281] _ H80275 _
        exact wp_ireturn e157 c157_44 rfl ⟨rfl, w80279, f80283, z80281, rfl, ⟨by omega, by omega⟩⟩
    · refine wp_of e157 c157_13 (rw_iload_n (pc' := 14) (z := a1) rfl rfl ?_)
      refine wp_of e157 c157_14 (rw_i2l (pc' := 15) rfl ⟨by omega, by omega⟩ ?_)
      refine wp_of e157 c157_15 (rw_aload_n (pc' := 16) (v := .ref r0) rfl rfl rfl ?_)
      refine wp_of e157 c157_16 (xg_R (pc' := 19) lf_0_51 hW g0 sh_1 (by decide) (by decide) ty_1_6 rfl rfl (fun r80284 q80285 g80286 => ?_))
      refine wp_of e157 c157_19 (xg_L (pc' := 22) lf_0_141 hW g80286 sh_27 (by decide) (by decide) ty_27_18 rfl rfl (fun b80287 b80288 => ?_))
      refine wp_of e157 c157_22 (rw_lcmp (pc' := 23) rfl ⟨by omega, by omega⟩ ⟨by omega, by omega⟩ ?_)
      have b80289 := wq_cmp_b a1 (H r80284 18)
      refine wp_of e157 c157_23 (rw_if_ge (p1 := 30) (p2 := 26) (by decide) rfl ⟨by omega, by omega⟩ (fun c80290 => ?_) (fun c80290 => ?_))
      · refine wp_of e157 c157_30 (rw_iconst (pc' := 31) rfl ?_)
        refine wp_of e157 c157_31 (xc_V (pc' := 34) (r := r0) (as := [vI 0]) (st := []) (lm_0_245) rfl rfl (Nat.le_of_ble_eq_true rfl) hW g0 sh_1 (by decide) rfl (by decide) (s_84 hW g0 ⟨by omega, by omega⟩) (fun R80291 T80292 H80293 p80294 => ?_))
        obtain ⟨e80295, e80297, z80299, e80296, b80300, p80298⟩ := p80294
        subst e80295
        subst e80296
        subst e80297
        show wp _ _ 157 34 [(0, .ref r0), (1, vI a1), (2, vI a2)] [vI z80299] _ H _
        refine wp_of e157 c157_34 (rw_istore_n (pc' := 35) (z := z80299) (L' := [(3, vI z80299), (0, .ref r0), (1, vI a1), (2, vI a2)]) rfl rfl rfl ?_)
        refine wp_of e157 c157_35 (rw_iload_n (pc' := 36) (z := z80299) rfl rfl ?_)
        refine wp_of e157 c157_36 (rw_if_eq (p1 := 45) (p2 := 39) (by decide) rfl ⟨by omega, by omega⟩ (fun c80301 => ?_) (fun c80301 => ?_))
        · exfalso
          omega
        · refine wp_of e157 c157_39 (rw_aload_n (pc' := 40) (v := .ref r0) rfl rfl rfl ?_)
          refine wp_of e157 c157_40 (rw_iload_n (pc' := 41) (z := z80299) rfl rfl ?_)
          refine wp_of e157 c157_41 (xc_V (pc' := 44) (r := r0) (as := [vI z80299]) (st := []) (lm_0_70) rfl rfl (Nat.le_of_ble_eq_true rfl) hW g0 sh_1 (by decide) rfl (by decide) (s_12 hW g0 ⟨by omega, by omega⟩) (fun R80302 T80303 H80304 p80305 => ?_))
          obtain ⟨e80306, w80308, f80309, z80310, e80307, b80311⟩ := p80305
          subst e80306
          subst e80307
          have f80312 := f0.tr f80309 rfl
          show wp _ _ 157 44 [(3, vI z80299), (0, .ref r0), (1, vI a1), (2, vI a2)] [vI z80310] _ H80304 _
          exact wp_ireturn e157 c157_44 rfl ⟨rfl, w80308, f80312, z80310, rfl, ⟨by omega, by omega⟩⟩
      · refine wp_of e157 c157_26 (rw_iconst (pc' := 27) rfl ?_)
        refine wp_of e157 c157_27 (rw_goto (p1 := 31) (by decide) ?_)
        refine wp_of e157 c157_31 (xc_V (pc' := 34) (r := r0) (as := [vI 1]) (st := []) (lm_0_245) rfl rfl (Nat.le_of_ble_eq_true rfl) hW g0 sh_1 (by decide) rfl (by decide) (s_84 hW g0 ⟨by omega, by omega⟩) (fun R80313 T80314 H80315 p80316 => ?_))
        obtain ⟨e80317, e80319, z80321, e80318, b80322, p80320⟩ := p80316
        subst e80317
        subst e80318
        subst e80319
        show wp _ _ 157 34 [(0, .ref r0), (1, vI a1), (2, vI a2)] [vI z80321] _ H _
        refine wp_of e157 c157_34 (rw_istore_n (pc' := 35) (z := z80321) (L' := [(3, vI z80321), (0, .ref r0), (1, vI a1), (2, vI a2)]) rfl rfl rfl ?_)
        refine wp_of e157 c157_35 (rw_iload_n (pc' := 36) (z := z80321) rfl rfl ?_)
        refine wp_of e157 c157_36 (rw_if_eq (p1 := 45) (p2 := 39) (by decide) rfl ⟨by omega, by omega⟩ (fun c80323 => ?_) (fun c80323 => ?_))
        · refine wp_of e157 c157_45 (rw_aload_n (pc' := 46) (v := .ref r0) rfl rfl rfl ?_)
          refine wp_of e157 c157_46 (rw_aload_n (pc' := 47) (v := .ref r0) rfl rfl rfl ?_)
          refine wp_of e157 c157_47 (xg_K (pc' := 50) lf_0_51 hW g0 sh_1 (by decide) (by decide) rfl q80285 rfl ?_)
          refine wp_of e157 c157_50 (rw_iload_n (pc' := 51) (z := a1) rfl rfl ?_)
          refine wp_of e157 c157_51 (rw_iload_n (pc' := 52) (z := a2) rfl rfl ?_)
          refine wp_of e157 c157_52 (xc_V (pc' := 55) (r := r80284) (as := [vI a1, vI a2]) (st := [.ref r0]) (lm_0_183) rfl rfl (Nat.le_of_ble_eq_true rfl) hW g80286 sh_27 (by decide) rfl (by decide) (s_96 hW g80286 ⟨by omega, by omega⟩ ⟨by omega, by omega⟩) (fun R80324 T80325 H80326 p80327 => ?_))
          obtain ⟨e80328, e80330, z80331, e80329, b80332⟩ := p80327
          subst e80328
          subst e80329
          subst e80330
          show wp _ _ 157 55 [(3, vI z80321), (0, .ref r0), (1, vI a1), (2, vI a2)] [vI z80331, .ref r0] _ H _
          refine wp_of e157 c157_55 (xc_V (pc' := 58) (r := r0) (as := [vI z80331]) (st := []) (lm_0_99) rfl rfl (Nat.le_of_ble_eq_true rfl) hW g0 sh_1 (by decide) rfl (by decide) (s_51 hW g0 ⟨by omega, by omega⟩) (fun R80333 T80334 H80335 p80336 => ?_))
          obtain ⟨e80337, w80339, f80340, z80341, e80338, b80342⟩ := p80336
          subst e80337
          subst e80338
          have f80343 := f0.tr f80340 rfl
          show wp _ _ 157 58 [(3, vI z80321), (0, .ref r0), (1, vI a1), (2, vI a2)] [vI z80341] _ H80335 _
          exact wp_ireturn e157 c157_58 rfl ⟨rfl, w80339, f80343, z80341, rfl, ⟨by omega, by omega⟩⟩
        · refine wp_of e157 c157_39 (rw_aload_n (pc' := 40) (v := .ref r0) rfl rfl rfl ?_)
          refine wp_of e157 c157_40 (rw_iload_n (pc' := 41) (z := z80321) rfl rfl ?_)
          refine wp_of e157 c157_41 (xc_V (pc' := 44) (r := r0) (as := [vI z80321]) (st := []) (lm_0_70) rfl rfl (Nat.le_of_ble_eq_true rfl) hW g0 sh_1 (by decide) rfl (by decide) (s_12 hW g0 ⟨by omega, by omega⟩) (fun R80344 T80345 H80346 p80347 => ?_))
          obtain ⟨e80348, w80350, f80351, z80352, e80349, b80353⟩ := p80347
          subst e80348
          subst e80349
          have f80354 := f0.tr f80351 rfl
          show wp _ _ 157 44 [(3, vI z80321), (0, .ref r0), (1, vI a1), (2, vI a2)] [vI z80352] _ H80346 _
          exact wp_ireturn e157 c157_44 rfl ⟨rfl, w80350, f80354, z80352, rfl, ⟨by omega, by omega⟩⟩
/-! StrikeAwake.again()Z -/
theorem e158 : wq_en 158 = some (0, 1, false, some FieldType.boolean) := rfl
theorem cg158_0 : mc_cd 158 0 = some (.aload_n 0, 1) ∧ mc_cd 158 1 = some (.getfield 58, 3) ∧ mc_cd 158 4 = some (.ifCond .ne 9, 3) ∧ mc_cd 158 7 = some (.aload_n 0, 1) ∧ mc_cd 158 8 = some (.iconst 1, 1) ∧ mc_cd 158 9 = some (.invokevirtual 145, 3) ∧ mc_cd 158 12 = some (.ireturn, 1) ∧ mc_cd 158 13 = some (.aload_n 0, 1) := by decide +kernel
theorem c158_0 : mc_cd 158 0 = some (.aload_n 0, 1) := cg158_0.1
theorem c158_1 : mc_cd 158 1 = some (.getfield 58, 3) := cg158_0.2.1
theorem c158_4 : mc_cd 158 4 = some (.ifCond .ne 9, 3) := cg158_0.2.2.1
theorem c158_7 : mc_cd 158 7 = some (.aload_n 0, 1) := cg158_0.2.2.2.1
theorem c158_8 : mc_cd 158 8 = some (.iconst 1, 1) := cg158_0.2.2.2.2.1
theorem c158_9 : mc_cd 158 9 = some (.invokevirtual 145, 3) := cg158_0.2.2.2.2.2.1
theorem c158_12 : mc_cd 158 12 = some (.ireturn, 1) := cg158_0.2.2.2.2.2.2.1
theorem c158_13 : mc_cd 158 13 = some (.aload_n 0, 1) := cg158_0.2.2.2.2.2.2.2
theorem cg158_14 : mc_cd 158 14 = some (.getfield 51, 3) ∧ mc_cd 158 17 = some (.iconst 0, 1) ∧ mc_cd 158 18 = some (.putfield 298, 3) ∧ mc_cd 158 21 = some (.aload_n 0, 1) ∧ mc_cd 158 22 = some (.invokevirtual 151, 3) ∧ mc_cd 158 25 = some (.ireturn, 1) := by decide +kernel
theorem c158_14 : mc_cd 158 14 = some (.getfield 51, 3) := cg158_14.1
theorem c158_17 : mc_cd 158 17 = some (.iconst 0, 1) := cg158_14.2.1
theorem c158_18 : mc_cd 158 18 = some (.putfield 298, 3) := cg158_14.2.2.1
theorem c158_21 : mc_cd 158 21 = some (.aload_n 0, 1) := cg158_14.2.2.2.1
theorem c158_22 : mc_cd 158 22 = some (.invokevirtual 151, 3) := cg158_14.2.2.2.2.1
theorem c158_25 : mc_cd 158 25 = some (.ireturn, 1) := cg158_14.2.2.2.2.2
abbrev q_158 (r0 : Nat) (T : wq_T) (H : wq_H) : Option Value → wq_T → wq_H → Prop := fun r T' H' => T = T' ∧ WT T H' ∧ wfr [(27, 17), (1, 10)] T H H' ∧ ∃ z : Int, some (vI z) = r ∧ (0 ≤ z ∧ z ≤ 1)
set_option maxHeartbeats 4000000 in
theorem s_158 {kt : Nat → Option mc_E} {T : wq_T} {H : wq_H} {r0 : Nat} (hW : WT T H) (g0 : T.2.2.2 r0 = some 1) : wpc kt 2 158 [.ref r0] T H (q_158 r0 T H) := by
  refine wp_enter e158 (Nat.le_of_ble_eq_true rfl) rfl ?_
  have f0 : wfr [(27, 17), (1, 10)] T H H := wfr.rf
  show wp _ _ 158 0 [(0, .ref r0)] [] _ H _
  refine wp_of e158 c158_0 (rw_aload_n (pc' := 1) (v := .ref r0) rfl rfl rfl ?_)
  refine wp_of e158 c158_1 (xg_I (pc' := 4) lf_0_58 hW g0 sh_1 (by decide) (by decide) ty_1_8 rfl rfl (fun b80388 b80389 => ?_))
  refine wp_of e158 c158_4 (rw_if_ne (p1 := 13) (p2 := 7) (by decide) rfl ⟨by omega, by omega⟩ (fun c80390 => ?_) (fun c80390 => ?_))
  · refine wp_of e158 c158_13 (rw_aload_n (pc' := 14) (v := .ref r0) rfl rfl rfl ?_)
    refine wp_of e158 c158_14 (xg_R (pc' := 17) lf_0_51 hW g0 sh_1 (by decide) (by decide) ty_1_6 rfl rfl (fun r80391 q80392 g80393 => ?_))
    refine wp_of e158 c158_17 (rw_iconst (pc' := 18) rfl ?_)
    refine wp_of e158 c158_18 (xp_I (pc' := 21) lf_0_298 hW g80393 sh_27 (by decide) (by decide) ty_27_17 rfl rfl (by omega) (by omega) ⟨by omega, by omega⟩ rfl (fun H80394 e80395 w80396 => ?_))
    have f80397 := f0.put' e80395 g80393 rfl
    have k80398 : H80394 r80391 17 = 0 := wq_u_s e80395
    refine wp_of e158 c158_21 (rw_aload_n (pc' := 22) (v := .ref r0) rfl rfl rfl ?_)
    refine wp_of e158 c158_22 (xc_V (pc' := 25) (r := r0) (as := []) (st := []) (lm_0_151) rfl rfl (Nat.le_of_ble_eq_true rfl) w80396 g0 sh_1 (by decide) rfl (by decide) (s_64 w80396 g0) (fun R80399 T80400 H80401 p80402 => ?_))
    obtain ⟨e80403, w80405, f80406, z80407, e80404, b80408⟩ := p80402
    subst e80403
    subst e80404
    have f80409 := f80397.tr f80406 rfl
    show wp _ _ 158 25 [(0, .ref r0)] [vI z80407] _ H80401 _
    exact wp_zreturn e158 c158_25 rfl (by omega) ⟨rfl, w80405, f80409, z80407, rfl, ⟨by omega, by omega⟩⟩
  · refine wp_of e158 c158_7 (rw_aload_n (pc' := 8) (v := .ref r0) rfl rfl rfl ?_)
    refine wp_of e158 c158_8 (rw_iconst (pc' := 9) rfl ?_)
    refine wp_of e158 c158_9 (xc_V (pc' := 12) (r := r0) (as := [vI 1]) (st := []) (lm_0_145) rfl rfl (Nat.le_of_ble_eq_true rfl) hW g0 sh_1 (by decide) rfl (by decide) (s_63 hW g0 ⟨by omega, by omega⟩) (fun R80410 T80411 H80412 p80413 => ?_))
    obtain ⟨e80414, w80416, f80417, z80418, e80415, b80419⟩ := p80413
    subst e80414
    subst e80415
    have f80420 := f0.tr f80417 rfl
    show wp _ _ 158 12 [(0, .ref r0)] [vI z80418] _ H80412 _
    exact wp_zreturn e158 c158_12 rfl (by omega) ⟨rfl, w80416, f80420, z80418, rfl, ⟨by omega, by omega⟩⟩
/-! StrikeAwake$Parish.picture()J -/
theorem e160 : wq_en 160 = some (7, 4, false, some FieldType.long) := rfl
theorem cg160_0 : mc_cd 160 0 = some (.aload_n 0, 1) ∧ mc_cd 160 1 = some (.getfield 68, 3) ∧ mc_cd 160 4 = some (.i2l, 1) ∧ mc_cd 160 5 = some (.lstore_n 1, 1) ∧ mc_cd 160 6 = some (.iconst 0, 1) ∧ mc_cd 160 7 = some (.istore_n 3, 1) ∧ mc_cd 160 8 = some (.iload_n 3, 1) ∧ mc_cd 160 9 = some (.aload_n 0, 1) := by decide +kernel
theorem c160_0 : mc_cd 160 0 = some (.aload_n 0, 1) := cg160_0.1
theorem c160_1 : mc_cd 160 1 = some (.getfield 68, 3) := cg160_0.2.1
theorem c160_4 : mc_cd 160 4 = some (.i2l, 1) := cg160_0.2.2.1
theorem c160_5 : mc_cd 160 5 = some (.lstore_n 1, 1) := cg160_0.2.2.2.1
theorem c160_6 : mc_cd 160 6 = some (.iconst 0, 1) := cg160_0.2.2.2.2.1
theorem c160_7 : mc_cd 160 7 = some (.istore_n 3, 1) := cg160_0.2.2.2.2.2.1
theorem c160_8 : mc_cd 160 8 = some (.iload_n 3, 1) := cg160_0.2.2.2.2.2.2.1
theorem c160_9 : mc_cd 160 9 = some (.aload_n 0, 1) := cg160_0.2.2.2.2.2.2.2
theorem cg160_10 : mc_cd 160 10 = some (.getfield 50, 3) ∧ mc_cd 160 13 = some (.if_icmp .ge 26, 3) ∧ mc_cd 160 16 = some (.lload_n 1, 1) ∧ mc_cd 160 17 = some (.ldc2_w 125, 3) ∧ mc_cd 160 20 = some (.lmul, 1) ∧ mc_cd 160 21 = some (.aload_n 0, 1) ∧ mc_cd 160 22 = some (.getfield 11, 3) ∧ mc_cd 160 25 = some (.iload_n 3, 1) := by decide +kernel
theorem c160_10 : mc_cd 160 10 = some (.getfield 50, 3) := cg160_10.1
theorem c160_13 : mc_cd 160 13 = some (.if_icmp .ge 26, 3) := cg160_10.2.1
theorem c160_16 : mc_cd 160 16 = some (.lload_n 1, 1) := cg160_10.2.2.1
theorem c160_17 : mc_cd 160 17 = some (.ldc2_w 125, 3) := cg160_10.2.2.2.1
theorem c160_20 : mc_cd 160 20 = some (.lmul, 1) := cg160_10.2.2.2.2.1
theorem c160_21 : mc_cd 160 21 = some (.aload_n 0, 1) := cg160_10.2.2.2.2.2.1
theorem c160_22 : mc_cd 160 22 = some (.getfield 11, 3) := cg160_10.2.2.2.2.2.2.1
theorem c160_25 : mc_cd 160 25 = some (.iload_n 3, 1) := cg160_10.2.2.2.2.2.2.2
theorem cg160_26 : mc_cd 160 26 = some (.aaload, 1) ∧ mc_cd 160 27 = some (.getfield 127, 3) ∧ mc_cd 160 30 = some (.i2l, 1) ∧ mc_cd 160 31 = some (.ladd, 1) ∧ mc_cd 160 32 = some (.lstore_n 1, 1) ∧ mc_cd 160 33 = some (.iinc 3 1, 3) ∧ mc_cd 160 36 = some (.goto (-28), 3) ∧ mc_cd 160 39 = some (.lload_n 1, 1) := by decide +kernel
theorem c160_26 : mc_cd 160 26 = some (.aaload, 1) := cg160_26.1
theorem c160_27 : mc_cd 160 27 = some (.getfield 127, 3) := cg160_26.2.1
theorem c160_30 : mc_cd 160 30 = some (.i2l, 1) := cg160_26.2.2.1
theorem c160_31 : mc_cd 160 31 = some (.ladd, 1) := cg160_26.2.2.2.1
theorem c160_32 : mc_cd 160 32 = some (.lstore_n 1, 1) := cg160_26.2.2.2.2.1
theorem c160_33 : mc_cd 160 33 = some (.iinc 3 1, 3) := cg160_26.2.2.2.2.2.1
theorem c160_36 : mc_cd 160 36 = some (.goto (-28), 3) := cg160_26.2.2.2.2.2.2.1
theorem c160_39 : mc_cd 160 39 = some (.lload_n 1, 1) := cg160_26.2.2.2.2.2.2.2
theorem c160_40 : mc_cd 160 40 = some (.lreturn, 1) := by decide +kernel
abbrev q_160 (r0 : Nat) (T : wq_T) (H : wq_H) : Option Value → wq_T → wq_H → Prop := fun r T' H' => T = T' ∧ H = H' ∧ ∃ z : Int, some (vL z) = r ∧ ((-9223372036854775808) ≤ z ∧ z ≤ 9223372036854775807)
set_option maxHeartbeats 4000000 in
theorem s_160 {kt : Nat → Option mc_E} {T : wq_T} {H : wq_H} {r0 : Nat} (hW : WT T H) (g0 : T.2.2.2 r0 = some 27) : wpc kt 1 160 [.ref r0] T H (q_160 r0 T H) := by
  refine wp_enter e160 (Nat.le_of_ble_eq_true rfl) rfl ?_
  show wp _ _ 160 0 [(0, .ref r0)] [] _ H _
  refine wp_of e160 c160_0 (rw_aload_n (pc' := 1) (v := .ref r0) rfl rfl rfl ?_)
  refine wp_of e160 c160_1 (xg_I (pc' := 4) lf_7_68 hW g0 sh_27 (by decide) (by decide) ty_27_17 rfl rfl (fun b80532 b80533 => ?_))
  refine wp_of e160 c160_4 (rw_i2l (pc' := 5) rfl ⟨by omega, by omega⟩ ?_)
  refine wp_of e160 c160_5 (rw_lstore_n (pc' := 6) (z := H r0 17) (L' := [(1, vL (H r0 17)), (0, .ref r0)]) rfl rfl rfl ?_)
  refine wp_of e160 c160_6 (rw_iconst (pc' := 7) rfl ?_)
  refine wp_of e160 c160_7 (rw_istore_n (pc' := 8) (z := 0) (L' := [(3, vI 0), (1, vL (H r0 17)), (0, .ref r0)]) rfl rfl rfl ?_)
  have lp80627 : ∀ (n80628 : Nat) (v80630 : Int) (v80631 : Int), (0 ≤ v80630 ∧ v80630 ≤ 6) → ((-9223372036854775808) ≤ v80631 ∧ v80631 ≤ 9223372036854775807) → (6 - v80630).toNat = n80628 → wp kt 0 160 8 [(3, vI v80630), (1, vL v80631), (0, .ref r0)] [] T H (q_160 r0 T H) := by
    intro n80628
    induction n80628 using Nat.strongRecOn with
    | _ n80628 ih80629 =>
      intro v80630 v80631 b80634 b80635 m80636
      refine wp_of e160 c160_8 (rw_iload_n (pc' := 9) (z := v80630) rfl rfl ?_)
      refine wp_of e160 c160_9 (rw_aload_n (pc' := 10) (v := .ref r0) rfl rfl rfl ?_)
      refine wp_of e160 c160_10 (xg_I (pc' := 13) lf_7_50 hW g0 sh_27 (by decide) (by decide) ty_27_10 rfl rfl (fun b80637 b80638 => ?_))
      refine wp_of e160 c160_13 (rw_icmp_ge (p1 := 39) (p2 := 16) (by decide) rfl ⟨by omega, by omega⟩ ⟨by omega, by omega⟩ (fun c80639 => ?_) (fun c80639 => ?_))
      · refine wp_of e160 c160_39 (rw_lload_n (pc' := 40) (z := v80631) rfl rfl ?_)
        exact wp_lreturn e160 c160_40 rfl ⟨rfl, rfl, v80631, rfl, ⟨by omega, by omega⟩⟩
      · refine wp_of e160 c160_16 (rw_lload_n (pc' := 17) (z := v80631) rfl rfl ?_)
        refine wp_of e160 c160_17 (rw_ldc2 (pc' := 20) (z := 40) rfl rfl rfl ?_)
        refine wp_of e160 c160_20 (rw_lmulw (pc' := 21) rfl ?_)
        obtain ⟨v80640, e80641⟩ : ∃ x : Int, x = wl_w (v80631 * 40) := ⟨_, rfl⟩
        rw [← e80641]
        have b80642 : -9223372036854775808 ≤ v80640 ∧ v80640 ≤ 9223372036854775807 := by
          rw [e80641]
          exact wL_w _
        refine wp_of e160 c160_21 (rw_aload_n (pc' := 22) (v := .ref r0) rfl rfl rfl ?_)
        refine wp_of e160 c160_22 (xg_R (pc' := 25) lf_7_11 hW g0 sh_27 (by decide) (by decide) ty_27_0 rfl rfl (fun r80643 q80644 g80645 => ?_))
        refine wp_of e160 c160_25 (rw_iload_n (pc' := 26) (z := v80630) rfl rfl ?_)
        refine wp_of e160 c160_26 (xa_R (pc' := 27) (by decide) hW g80645 sh_28 (by decide) (ty_28 _) (by omega) (by omega) rfl (fun r80646 q80647 g80648 => ?_))
        refine wp_of e160 c160_27 (xg_I (pc' := 30) lf_7_127 hW g80648 sh_35 (by decide) (by decide) ty_35_16 rfl rfl (fun b80649 b80650 => ?_))
        refine wp_of e160 c160_30 (rw_i2l (pc' := 31) rfl ⟨by omega, by omega⟩ ?_)
        refine wp_of e160 c160_31 (rw_laddw (pc' := 32) rfl ?_)
        obtain ⟨v80651, e80652⟩ : ∃ x : Int, x = wl_w (v80640 + (H r80646 16)) := ⟨_, rfl⟩
        rw [← e80652]
        have b80653 : -9223372036854775808 ≤ v80651 ∧ v80651 ≤ 9223372036854775807 := by
          rw [e80652]
          exact wL_w _
        refine wp_of e160 c160_32 (rw_lstore_n (pc' := 33) (z := v80651) (L' := [(1, vL v80651), (3, vI v80630), (0, .ref r0)]) rfl rfl rfl ?_)
        refine wp_of e160 c160_33 (rw_iinc (pc' := 36) (z := v80630) (L' := [(3, vI (v80630 + 1)), (1, vL v80651), (0, .ref r0)]) rfl rfl rfl rfl ?_)
        refine wp_of e160 c160_36 (rw_goto (p1 := 8) (by decide) ?_)
        exact wp_lc (ks := [3, 1, 0]) (wl_c rfl (wl_c rfl (wl_c rfl wl_n))) rfl (by decide) (ih80629 _ (by omega) (v80630 + 1) v80651 ⟨by omega, by omega⟩ ⟨by omega, by omega⟩ rfl)
  exact wp_lc (ks := [3, 1, 0]) (wl_c rfl (wl_c rfl (wl_c rfl wl_n))) rfl (by decide) (lp80627 _ 0 (H r0 17) ⟨by omega, by omega⟩ ⟨by omega, by omega⟩ rfl)
/-! StrikeAwake.image()J -/
theorem e159 : wq_en 159 = some (0, 1, false, some FieldType.long) := rfl
theorem cg159_0 : mc_cd 159 0 = some (.aload_n 0, 1) ∧ mc_cd 159 1 = some (.getfield 58, 3) ∧ mc_cd 159 4 = some (.ifCond .ne 10, 3) ∧ mc_cd 159 7 = some (.aload_n 0, 1) ∧ mc_cd 159 8 = some (.iconst 1, 1) ∧ mc_cd 159 9 = some (.invokevirtual 70, 3) ∧ mc_cd 159 12 = some (.i2l, 1) ∧ mc_cd 159 13 = some (.lreturn, 1) := by decide +kernel
theorem c159_0 : mc_cd 159 0 = some (.aload_n 0, 1) := cg159_0.1
theorem c159_1 : mc_cd 159 1 = some (.getfield 58, 3) := cg159_0.2.1
theorem c159_4 : mc_cd 159 4 = some (.ifCond .ne 10, 3) := cg159_0.2.2.1
theorem c159_7 : mc_cd 159 7 = some (.aload_n 0, 1) := cg159_0.2.2.2.1
theorem c159_8 : mc_cd 159 8 = some (.iconst 1, 1) := cg159_0.2.2.2.2.1
theorem c159_9 : mc_cd 159 9 = some (.invokevirtual 70, 3) := cg159_0.2.2.2.2.2.1
theorem c159_12 : mc_cd 159 12 = some (.i2l, 1) := cg159_0.2.2.2.2.2.2.1
theorem c159_13 : mc_cd 159 13 = some (.lreturn, 1) := cg159_0.2.2.2.2.2.2.2
theorem cg159_14 : mc_cd 159 14 = some (.aload_n 0, 1) ∧ mc_cd 159 15 = some (.iconst 0, 1) ∧ mc_cd 159 16 = some (.putfield 102, 3) ∧ mc_cd 159 19 = some (.aload_n 0, 1) ∧ mc_cd 159 20 = some (.getfield 51, 3) ∧ mc_cd 159 23 = some (.invokevirtual 305, 3) ∧ mc_cd 159 26 = some (.lreturn, 1) := by decide +kernel
theorem c159_14 : mc_cd 159 14 = some (.aload_n 0, 1) := cg159_14.1
theorem c159_15 : mc_cd 159 15 = some (.iconst 0, 1) := cg159_14.2.1
theorem c159_16 : mc_cd 159 16 = some (.putfield 102, 3) := cg159_14.2.2.1
theorem c159_19 : mc_cd 159 19 = some (.aload_n 0, 1) := cg159_14.2.2.2.1
theorem c159_20 : mc_cd 159 20 = some (.getfield 51, 3) := cg159_14.2.2.2.2.1
theorem c159_23 : mc_cd 159 23 = some (.invokevirtual 305, 3) := cg159_14.2.2.2.2.2.1
theorem c159_26 : mc_cd 159 26 = some (.lreturn, 1) := cg159_14.2.2.2.2.2.2
abbrev q_159 (r0 : Nat) (T : wq_T) (H : wq_H) : Option Value → wq_T → wq_H → Prop := fun r T' H' => T = T' ∧ WT T H' ∧ wfr [(1, 10)] T H H' ∧ ∃ z : Int, some (vL z) = r ∧ ((-9223372036854775808) ≤ z ∧ z ≤ 9223372036854775807)
set_option maxHeartbeats 4000000 in
theorem s_159 {kt : Nat → Option mc_E} {T : wq_T} {H : wq_H} {r0 : Nat} (hW : WT T H) (g0 : T.2.2.2 r0 = some 1) : wpc kt 2 159 [.ref r0] T H (q_159 r0 T H) := by
  refine wp_enter e159 (Nat.le_of_ble_eq_true rfl) rfl ?_
  have f0 : wfr [(1, 10)] T H H := wfr.rf
  show wp _ _ 159 0 [(0, .ref r0)] [] _ H _
  refine wp_of e159 c159_0 (rw_aload_n (pc' := 1) (v := .ref r0) rfl rfl rfl ?_)
  refine wp_of e159 c159_1 (xg_I (pc' := 4) lf_0_58 hW g0 sh_1 (by decide) (by decide) ty_1_8 rfl rfl (fun b80685 b80686 => ?_))
  refine wp_of e159 c159_4 (rw_if_ne (p1 := 14) (p2 := 7) (by decide) rfl ⟨by omega, by omega⟩ (fun c80687 => ?_) (fun c80687 => ?_))
  · refine wp_of e159 c159_14 (rw_aload_n (pc' := 15) (v := .ref r0) rfl rfl rfl ?_)
    refine wp_of e159 c159_15 (rw_iconst (pc' := 16) rfl ?_)
    refine wp_of e159 c159_16 (xp_I (pc' := 19) lf_0_102 hW g0 sh_1 (by decide) (by decide) ty_1_10 rfl rfl (by omega) (by omega) ⟨by omega, by omega⟩ rfl (fun H80688 e80689 w80690 => ?_))
    have f80691 := f0.put' e80689 g0 rfl
    have k80692 : H80688 r0 10 = 0 := wq_u_s e80689
    refine wp_of e159 c159_19 (rw_aload_n (pc' := 20) (v := .ref r0) rfl rfl rfl ?_)
    refine wp_of e159 c159_20 (xg_R (pc' := 23) lf_0_51 w80690 g0 sh_1 (by decide) (by decide) ty_1_6 rfl rfl (fun r80693 q80694 g80695 => ?_))
    refine wp_of e159 c159_23 (xc_V (pc' := 26) (r := r80693) (as := []) (st := []) (lm_0_305) rfl rfl (Nat.le_of_ble_eq_true rfl) w80690 g80695 sh_27 (by decide) rfl (by decide) (s_160 w80690 g80695) (fun R80696 T80697 H80698 p80699 => ?_))
    obtain ⟨e80700, e80702, z80703, e80701, b80704⟩ := p80699
    subst e80700
    subst e80701
    subst e80702
    show wp _ _ 159 26 [(0, .ref r0)] [vL z80703] _ H80688 _
    exact wp_lreturn e159 c159_26 rfl ⟨rfl, w80690, f80691, z80703, rfl, ⟨by omega, by omega⟩⟩
  · refine wp_of e159 c159_7 (rw_aload_n (pc' := 8) (v := .ref r0) rfl rfl rfl ?_)
    refine wp_of e159 c159_8 (rw_iconst (pc' := 9) rfl ?_)
    refine wp_of e159 c159_9 (xc_V (pc' := 12) (r := r0) (as := [vI 1]) (st := []) (lm_0_70) rfl rfl (Nat.le_of_ble_eq_true rfl) hW g0 sh_1 (by decide) rfl (by decide) (s_12 hW g0 ⟨by omega, by omega⟩) (fun R80705 T80706 H80707 p80708 => ?_))
    obtain ⟨e80709, w80711, f80712, z80713, e80710, b80714⟩ := p80708
    subst e80709
    subst e80710
    have f80715 := f0.tr f80712 rfl
    show wp _ _ 159 12 [(0, .ref r0)] [vI z80713] _ H80707 _
    refine wp_of e159 c159_12 (rw_i2l (pc' := 13) rfl ⟨by omega, by omega⟩ ?_)
    exact wp_lreturn e159 c159_13 rfl ⟨rfl, w80711, f80715, z80713, rfl, ⟨by omega, by omega⟩⟩
/-! StrikeAwake$Parish.isPicture(J)Z -/
theorem e162 : wq_en 162 = some (7, 8, false, some FieldType.boolean) := rfl
theorem cg162_0 : mc_cd 162 0 = some (.lload_n 1, 1) ∧ mc_cd 162 1 = some (.lstore_n 3, 1) ∧ mc_cd 162 2 = some (.aload_n 0, 1) ∧ mc_cd 162 3 = some (.getfield 50, 3) ∧ mc_cd 162 6 = some (.iconst 1, 1) ∧ mc_cd 162 7 = some (.isub, 1) ∧ mc_cd 162 8 = some (.istore 5, 2) ∧ mc_cd 162 10 = some (.iload 5, 2) := by decide +kernel
theorem c162_0 : mc_cd 162 0 = some (.lload_n 1, 1) := cg162_0.1
theorem c162_1 : mc_cd 162 1 = some (.lstore_n 3, 1) := cg162_0.2.1
theorem c162_2 : mc_cd 162 2 = some (.aload_n 0, 1) := cg162_0.2.2.1
theorem c162_3 : mc_cd 162 3 = some (.getfield 50, 3) := cg162_0.2.2.2.1
theorem c162_6 : mc_cd 162 6 = some (.iconst 1, 1) := cg162_0.2.2.2.2.1
theorem c162_7 : mc_cd 162 7 = some (.isub, 1) := cg162_0.2.2.2.2.2.1
theorem c162_8 : mc_cd 162 8 = some (.istore 5, 2) := cg162_0.2.2.2.2.2.2.1
theorem c162_10 : mc_cd 162 10 = some (.iload 5, 2) := cg162_0.2.2.2.2.2.2.2
theorem cg162_12 : mc_cd 162 12 = some (.ifCond .lt 48, 3) ∧ mc_cd 162 15 = some (.lload_n 3, 1) ∧ mc_cd 162 16 = some (.ldc2_w 125, 3) ∧ mc_cd 162 19 = some (.lrem, 1) ∧ mc_cd 162 20 = some (.lstore 6, 2) ∧ mc_cd 162 22 = some (.lload 6, 2) ∧ mc_cd 162 24 = some (.lconst 0, 1) ∧ mc_cd 162 25 = some (.lcmp, 1) := by decide +kernel
theorem c162_12 : mc_cd 162 12 = some (.ifCond .lt 48, 3) := cg162_12.1
theorem c162_15 : mc_cd 162 15 = some (.lload_n 3, 1) := cg162_12.2.1
theorem c162_16 : mc_cd 162 16 = some (.ldc2_w 125, 3) := cg162_12.2.2.1
theorem c162_19 : mc_cd 162 19 = some (.lrem, 1) := cg162_12.2.2.2.1
theorem c162_20 : mc_cd 162 20 = some (.lstore 6, 2) := cg162_12.2.2.2.2.1
theorem c162_22 : mc_cd 162 22 = some (.lload 6, 2) := cg162_12.2.2.2.2.2.1
theorem c162_24 : mc_cd 162 24 = some (.lconst 0, 1) := cg162_12.2.2.2.2.2.2.1
theorem c162_25 : mc_cd 162 25 = some (.lcmp, 1) := cg162_12.2.2.2.2.2.2.2
theorem cg162_26 : mc_cd 162 26 = some (.ifCond .eq 22, 3) ∧ mc_cd 162 29 = some (.lload 6, 2) ∧ mc_cd 162 31 = some (.aload_n 0, 1) ∧ mc_cd 162 32 = some (.getfield 11, 3) ∧ mc_cd 162 35 = some (.iload 5, 2) ∧ mc_cd 162 37 = some (.aaload, 1) ∧ mc_cd 162 38 = some (.getfield 110, 3) ∧ mc_cd 162 41 = some (.i2l, 1) := by decide +kernel
theorem c162_26 : mc_cd 162 26 = some (.ifCond .eq 22, 3) := cg162_26.1
theorem c162_29 : mc_cd 162 29 = some (.lload 6, 2) := cg162_26.2.1
theorem c162_31 : mc_cd 162 31 = some (.aload_n 0, 1) := cg162_26.2.2.1
theorem c162_32 : mc_cd 162 32 = some (.getfield 11, 3) := cg162_26.2.2.2.1
theorem c162_35 : mc_cd 162 35 = some (.iload 5, 2) := cg162_26.2.2.2.2.1
theorem c162_37 : mc_cd 162 37 = some (.aaload, 1) := cg162_26.2.2.2.2.2.1
theorem c162_38 : mc_cd 162 38 = some (.getfield 110, 3) := cg162_26.2.2.2.2.2.2.1
theorem c162_41 : mc_cd 162 41 = some (.i2l, 1) := cg162_26.2.2.2.2.2.2.2
theorem cg162_42 : mc_cd 162 42 = some (.lcmp, 1) ∧ mc_cd 162 43 = some (.ifCond .lt 5, 3) ∧ mc_cd 162 46 = some (.iconst 0, 1) ∧ mc_cd 162 47 = some (.ireturn, 1) ∧ mc_cd 162 48 = some (.lload_n 3, 1) ∧ mc_cd 162 49 = some (.ldc2_w 125, 3) ∧ mc_cd 162 52 = some (.ldiv, 1) ∧ mc_cd 162 53 = some (.lstore_n 3, 1) := by decide +kernel
theorem c162_42 : mc_cd 162 42 = some (.lcmp, 1) := cg162_42.1
theorem c162_43 : mc_cd 162 43 = some (.ifCond .lt 5, 3) := cg162_42.2.1
theorem c162_46 : mc_cd 162 46 = some (.iconst 0, 1) := cg162_42.2.2.1
theorem c162_47 : mc_cd 162 47 = some (.ireturn, 1) := cg162_42.2.2.2.1
theorem c162_48 : mc_cd 162 48 = some (.lload_n 3, 1) := cg162_42.2.2.2.2.1
theorem c162_49 : mc_cd 162 49 = some (.ldc2_w 125, 3) := cg162_42.2.2.2.2.2.1
theorem c162_52 : mc_cd 162 52 = some (.ldiv, 1) := cg162_42.2.2.2.2.2.2.1
theorem c162_53 : mc_cd 162 53 = some (.lstore_n 3, 1) := cg162_42.2.2.2.2.2.2.2
theorem cg162_54 : mc_cd 162 54 = some (.iinc 5 (-1), 3) ∧ mc_cd 162 57 = some (.goto (-47), 3) ∧ mc_cd 162 60 = some (.lload_n 1, 1) ∧ mc_cd 162 61 = some (.lconst 0, 1) ∧ mc_cd 162 62 = some (.lcmp, 1) ∧ mc_cd 162 63 = some (.ifCond .lt 15, 3) ∧ mc_cd 162 66 = some (.lload_n 3, 1) ∧ mc_cd 162 67 = some (.ldc2_w 130, 3) := by decide +kernel
theorem c162_54 : mc_cd 162 54 = some (.iinc 5 (-1), 3) := cg162_54.1
theorem c162_57 : mc_cd 162 57 = some (.goto (-47), 3) := cg162_54.2.1
theorem c162_60 : mc_cd 162 60 = some (.lload_n 1, 1) := cg162_54.2.2.1
theorem c162_61 : mc_cd 162 61 = some (.lconst 0, 1) := cg162_54.2.2.2.1
theorem c162_62 : mc_cd 162 62 = some (.lcmp, 1) := cg162_54.2.2.2.2.1
theorem c162_63 : mc_cd 162 63 = some (.ifCond .lt 15, 3) := cg162_54.2.2.2.2.2.1
theorem c162_66 : mc_cd 162 66 = some (.lload_n 3, 1) := cg162_54.2.2.2.2.2.2.1
theorem c162_67 : mc_cd 162 67 = some (.ldc2_w 130, 3) := cg162_54.2.2.2.2.2.2.2
theorem cg162_70 : mc_cd 162 70 = some (.lcmp, 1) ∧ mc_cd 162 71 = some (.ifCond .gt 7, 3) ∧ mc_cd 162 74 = some (.iconst 1, 1) ∧ mc_cd 162 75 = some (.goto 4, 3) ∧ mc_cd 162 78 = some (.iconst 0, 1) ∧ mc_cd 162 79 = some (.ireturn, 1) := by decide +kernel
theorem c162_70 : mc_cd 162 70 = some (.lcmp, 1) := cg162_70.1
theorem c162_71 : mc_cd 162 71 = some (.ifCond .gt 7, 3) := cg162_70.2.1
theorem c162_74 : mc_cd 162 74 = some (.iconst 1, 1) := cg162_70.2.2.1
theorem c162_75 : mc_cd 162 75 = some (.goto 4, 3) := cg162_70.2.2.2.1
theorem c162_78 : mc_cd 162 78 = some (.iconst 0, 1) := cg162_70.2.2.2.2.1
theorem c162_79 : mc_cd 162 79 = some (.ireturn, 1) := cg162_70.2.2.2.2.2
/-! StrikeAwake$Parish.takePicture(J)V -/
theorem e163 : wq_en 163 = some (7, 6, false, none) := rfl
theorem cg163_0 : mc_cd 163 0 = some (.lload_n 1, 1) ∧ mc_cd 163 1 = some (.lstore_n 3, 1) ∧ mc_cd 163 2 = some (.aload_n 0, 1) ∧ mc_cd 163 3 = some (.getfield 50, 3) ∧ mc_cd 163 6 = some (.iconst 1, 1) ∧ mc_cd 163 7 = some (.isub, 1) ∧ mc_cd 163 8 = some (.istore 5, 2) ∧ mc_cd 163 10 = some (.iload 5, 2) := by decide +kernel
theorem c163_0 : mc_cd 163 0 = some (.lload_n 1, 1) := cg163_0.1
theorem c163_1 : mc_cd 163 1 = some (.lstore_n 3, 1) := cg163_0.2.1
theorem c163_2 : mc_cd 163 2 = some (.aload_n 0, 1) := cg163_0.2.2.1
theorem c163_3 : mc_cd 163 3 = some (.getfield 50, 3) := cg163_0.2.2.2.1
theorem c163_6 : mc_cd 163 6 = some (.iconst 1, 1) := cg163_0.2.2.2.2.1
theorem c163_7 : mc_cd 163 7 = some (.isub, 1) := cg163_0.2.2.2.2.2.1
theorem c163_8 : mc_cd 163 8 = some (.istore 5, 2) := cg163_0.2.2.2.2.2.2.1
theorem c163_10 : mc_cd 163 10 = some (.iload 5, 2) := cg163_0.2.2.2.2.2.2.2
theorem cg163_12 : mc_cd 163 12 = some (.ifCond .lt 31, 3) ∧ mc_cd 163 15 = some (.aload_n 0, 1) ∧ mc_cd 163 16 = some (.getfield 11, 3) ∧ mc_cd 163 19 = some (.iload 5, 2) ∧ mc_cd 163 21 = some (.aaload, 1) ∧ mc_cd 163 22 = some (.lload_n 3, 1) ∧ mc_cd 163 23 = some (.ldc2_w 125, 3) ∧ mc_cd 163 26 = some (.lrem, 1) := by decide +kernel
theorem c163_12 : mc_cd 163 12 = some (.ifCond .lt 31, 3) := cg163_12.1
theorem c163_15 : mc_cd 163 15 = some (.aload_n 0, 1) := cg163_12.2.1
theorem c163_16 : mc_cd 163 16 = some (.getfield 11, 3) := cg163_12.2.2.1
theorem c163_19 : mc_cd 163 19 = some (.iload 5, 2) := cg163_12.2.2.2.1
theorem c163_21 : mc_cd 163 21 = some (.aaload, 1) := cg163_12.2.2.2.2.1
theorem c163_22 : mc_cd 163 22 = some (.lload_n 3, 1) := cg163_12.2.2.2.2.2.1
theorem c163_23 : mc_cd 163 23 = some (.ldc2_w 125, 3) := cg163_12.2.2.2.2.2.2.1
theorem c163_26 : mc_cd 163 26 = some (.lrem, 1) := cg163_12.2.2.2.2.2.2.2
theorem cg163_27 : mc_cd 163 27 = some (.l2i, 1) ∧ mc_cd 163 28 = some (.putfield 127, 3) ∧ mc_cd 163 31 = some (.lload_n 3, 1) ∧ mc_cd 163 32 = some (.ldc2_w 125, 3) ∧ mc_cd 163 35 = some (.ldiv, 1) ∧ mc_cd 163 36 = some (.lstore_n 3, 1) ∧ mc_cd 163 37 = some (.iinc 5 (-1), 3) ∧ mc_cd 163 40 = some (.goto (-30), 3) := by decide +kernel
theorem c163_27 : mc_cd 163 27 = some (.l2i, 1) := cg163_27.1
theorem c163_28 : mc_cd 163 28 = some (.putfield 127, 3) := cg163_27.2.1
theorem c163_31 : mc_cd 163 31 = some (.lload_n 3, 1) := cg163_27.2.2.1
theorem c163_32 : mc_cd 163 32 = some (.ldc2_w 125, 3) := cg163_27.2.2.2.1
theorem c163_35 : mc_cd 163 35 = some (.ldiv, 1) := cg163_27.2.2.2.2.1
theorem c163_36 : mc_cd 163 36 = some (.lstore_n 3, 1) := cg163_27.2.2.2.2.2.1
theorem c163_37 : mc_cd 163 37 = some (.iinc 5 (-1), 3) := cg163_27.2.2.2.2.2.2.1
theorem c163_40 : mc_cd 163 40 = some (.goto (-30), 3) := cg163_27.2.2.2.2.2.2.2
theorem cg163_43 : mc_cd 163 43 = some (.aload_n 0, 1) ∧ mc_cd 163 44 = some (.lload_n 3, 1) ∧ mc_cd 163 45 = some (.l2i, 1) ∧ mc_cd 163 46 = some (.putfield 68, 3) ∧ mc_cd 163 49 = some (.return_, 1) := by decide +kernel
theorem c163_43 : mc_cd 163 43 = some (.aload_n 0, 1) := cg163_43.1
theorem c163_44 : mc_cd 163 44 = some (.lload_n 3, 1) := cg163_43.2.1
theorem c163_45 : mc_cd 163 45 = some (.l2i, 1) := cg163_43.2.2.1
theorem c163_46 : mc_cd 163 46 = some (.putfield 68, 3) := cg163_43.2.2.2.1
theorem c163_49 : mc_cd 163 49 = some (.return_, 1) := cg163_43.2.2.2.2
end
section
/-! methods (own work, written by wip/gen2/sx.py) -/
/-! StrikeAwake.restore(J)Z -/
theorem e161 : wq_en 161 = some (0, 3, false, some FieldType.boolean) := rfl
theorem cg161_0 : mc_cd 161 0 = some (.aload_n 0, 1) ∧ mc_cd 161 1 = some (.getfield 58, 3) ∧ mc_cd 161 4 = some (.ifCond .ne 9, 3) ∧ mc_cd 161 7 = some (.aload_n 0, 1) ∧ mc_cd 161 8 = some (.iconst 1, 1) ∧ mc_cd 161 9 = some (.invokevirtual 145, 3) ∧ mc_cd 161 12 = some (.ireturn, 1) ∧ mc_cd 161 13 = some (.aload_n 0, 1) := by decide +kernel
theorem c161_0 : mc_cd 161 0 = some (.aload_n 0, 1) := cg161_0.1
theorem c161_1 : mc_cd 161 1 = some (.getfield 58, 3) := cg161_0.2.1
theorem c161_4 : mc_cd 161 4 = some (.ifCond .ne 9, 3) := cg161_0.2.2.1
theorem c161_7 : mc_cd 161 7 = some (.aload_n 0, 1) := cg161_0.2.2.2.1
theorem c161_8 : mc_cd 161 8 = some (.iconst 1, 1) := cg161_0.2.2.2.2.1
theorem c161_9 : mc_cd 161 9 = some (.invokevirtual 145, 3) := cg161_0.2.2.2.2.2.1
theorem c161_12 : mc_cd 161 12 = some (.ireturn, 1) := cg161_0.2.2.2.2.2.2.1
theorem c161_13 : mc_cd 161 13 = some (.aload_n 0, 1) := cg161_0.2.2.2.2.2.2.2
theorem cg161_14 : mc_cd 161 14 = some (.getfield 51, 3) ∧ mc_cd 161 17 = some (.lload_n 1, 1) ∧ mc_cd 161 18 = some (.invokevirtual 309, 3) ∧ mc_cd 161 21 = some (.ifCond .ne 9, 3) ∧ mc_cd 161 24 = some (.aload_n 0, 1) ∧ mc_cd 161 25 = some (.iconst 2, 1) ∧ mc_cd 161 26 = some (.invokevirtual 145, 3) ∧ mc_cd 161 29 = some (.ireturn, 1) := by decide +kernel
theorem c161_14 : mc_cd 161 14 = some (.getfield 51, 3) := cg161_14.1
theorem c161_17 : mc_cd 161 17 = some (.lload_n 1, 1) := cg161_14.2.1
theorem c161_18 : mc_cd 161 18 = some (.invokevirtual 309, 3) := cg161_14.2.2.1
theorem c161_21 : mc_cd 161 21 = some (.ifCond .ne 9, 3) := cg161_14.2.2.2.1
theorem c161_24 : mc_cd 161 24 = some (.aload_n 0, 1) := cg161_14.2.2.2.2.1
theorem c161_25 : mc_cd 161 25 = some (.iconst 2, 1) := cg161_14.2.2.2.2.2.1
theorem c161_26 : mc_cd 161 26 = some (.invokevirtual 145, 3) := cg161_14.2.2.2.2.2.2.1
theorem c161_29 : mc_cd 161 29 = some (.ireturn, 1) := cg161_14.2.2.2.2.2.2.2
theorem cg161_30 : mc_cd 161 30 = some (.aload_n 0, 1) ∧ mc_cd 161 31 = some (.getfield 51, 3) ∧ mc_cd 161 34 = some (.lload_n 1, 1) ∧ mc_cd 161 35 = some (.invokevirtual 313, 3) ∧ mc_cd 161 38 = some (.aload_n 0, 1) ∧ mc_cd 161 39 = some (.invokevirtual 151, 3) ∧ mc_cd 161 42 = some (.ireturn, 1) := by decide +kernel
theorem c161_30 : mc_cd 161 30 = some (.aload_n 0, 1) := cg161_30.1
theorem c161_31 : mc_cd 161 31 = some (.getfield 51, 3) := cg161_30.2.1
theorem c161_34 : mc_cd 161 34 = some (.lload_n 1, 1) := cg161_30.2.2.1
theorem c161_35 : mc_cd 161 35 = some (.invokevirtual 313, 3) := cg161_30.2.2.2.1
theorem c161_38 : mc_cd 161 38 = some (.aload_n 0, 1) := cg161_30.2.2.2.2.1
theorem c161_39 : mc_cd 161 39 = some (.invokevirtual 151, 3) := cg161_30.2.2.2.2.2.1
theorem c161_42 : mc_cd 161 42 = some (.ireturn, 1) := cg161_30.2.2.2.2.2.2
/-! StrikeAwake.size(I)I -/
theorem e164 : wq_en 164 = some (0, 2, false, some FieldType.int) := rfl
theorem cg164_0 : mc_cd 164 0 = some (.iload_n 1, 1) ∧ mc_cd 164 1 = some (.tableswitch 143 0 9 #[55, 63, 71, 79, 87, 95, 103, 111, 130, 138], 55) ∧ mc_cd 164 56 = some (.aload_n 0, 1) ∧ mc_cd 164 57 = some (.getfield 51, 3) ∧ mc_cd 164 60 = some (.getfield 96, 3) ∧ mc_cd 164 63 = some (.ireturn, 1) ∧ mc_cd 164 64 = some (.aload_n 0, 1) ∧ mc_cd 164 65 = some (.getfield 51, 3) := by decide +kernel
theorem c164_0 : mc_cd 164 0 = some (.iload_n 1, 1) := cg164_0.1
theorem c164_1 : mc_cd 164 1 = some (.tableswitch 143 0 9 #[55, 63, 71, 79, 87, 95, 103, 111, 130, 138], 55) := cg164_0.2.1
theorem c164_56 : mc_cd 164 56 = some (.aload_n 0, 1) := cg164_0.2.2.1
theorem c164_57 : mc_cd 164 57 = some (.getfield 51, 3) := cg164_0.2.2.2.1
theorem c164_60 : mc_cd 164 60 = some (.getfield 96, 3) := cg164_0.2.2.2.2.1
theorem c164_63 : mc_cd 164 63 = some (.ireturn, 1) := cg164_0.2.2.2.2.2.1
theorem c164_64 : mc_cd 164 64 = some (.aload_n 0, 1) := cg164_0.2.2.2.2.2.2.1
theorem c164_65 : mc_cd 164 65 = some (.getfield 51, 3) := cg164_0.2.2.2.2.2.2.2
theorem cg164_68 : mc_cd 164 68 = some (.getfield 327, 3) ∧ mc_cd 164 71 = some (.ireturn, 1) ∧ mc_cd 164 72 = some (.aload_n 0, 1) ∧ mc_cd 164 73 = some (.getfield 51, 3) ∧ mc_cd 164 76 = some (.getfield 330, 3) ∧ mc_cd 164 79 = some (.ireturn, 1) ∧ mc_cd 164 80 = some (.aload_n 0, 1) ∧ mc_cd 164 81 = some (.getfield 51, 3) := by decide +kernel
theorem c164_68 : mc_cd 164 68 = some (.getfield 327, 3) := cg164_68.1
theorem c164_71 : mc_cd 164 71 = some (.ireturn, 1) := cg164_68.2.1
theorem c164_72 : mc_cd 164 72 = some (.aload_n 0, 1) := cg164_68.2.2.1
theorem c164_73 : mc_cd 164 73 = some (.getfield 51, 3) := cg164_68.2.2.2.1
theorem c164_76 : mc_cd 164 76 = some (.getfield 330, 3) := cg164_68.2.2.2.2.1
theorem c164_79 : mc_cd 164 79 = some (.ireturn, 1) := cg164_68.2.2.2.2.2.1
theorem c164_80 : mc_cd 164 80 = some (.aload_n 0, 1) := cg164_68.2.2.2.2.2.2.1
theorem c164_81 : mc_cd 164 81 = some (.getfield 51, 3) := cg164_68.2.2.2.2.2.2.2
theorem cg164_84 : mc_cd 164 84 = some (.getfield 295, 3) ∧ mc_cd 164 87 = some (.ireturn, 1) ∧ mc_cd 164 88 = some (.aload_n 0, 1) ∧ mc_cd 164 89 = some (.getfield 51, 3) ∧ mc_cd 164 92 = some (.getfield 333, 3) ∧ mc_cd 164 95 = some (.ireturn, 1) ∧ mc_cd 164 96 = some (.aload_n 0, 1) ∧ mc_cd 164 97 = some (.getfield 51, 3) := by decide +kernel
theorem c164_84 : mc_cd 164 84 = some (.getfield 295, 3) := cg164_84.1
theorem c164_87 : mc_cd 164 87 = some (.ireturn, 1) := cg164_84.2.1
theorem c164_88 : mc_cd 164 88 = some (.aload_n 0, 1) := cg164_84.2.2.1
theorem c164_89 : mc_cd 164 89 = some (.getfield 51, 3) := cg164_84.2.2.2.1
theorem c164_92 : mc_cd 164 92 = some (.getfield 333, 3) := cg164_84.2.2.2.2.1
theorem c164_95 : mc_cd 164 95 = some (.ireturn, 1) := cg164_84.2.2.2.2.2.1
theorem c164_96 : mc_cd 164 96 = some (.aload_n 0, 1) := cg164_84.2.2.2.2.2.2.1
theorem c164_97 : mc_cd 164 97 = some (.getfield 51, 3) := cg164_84.2.2.2.2.2.2.2
theorem cg164_100 : mc_cd 164 100 = some (.getfield 336, 3) ∧ mc_cd 164 103 = some (.ireturn, 1) ∧ mc_cd 164 104 = some (.aload_n 0, 1) ∧ mc_cd 164 105 = some (.getfield 51, 3) ∧ mc_cd 164 108 = some (.getfield 339, 3) ∧ mc_cd 164 111 = some (.ireturn, 1) ∧ mc_cd 164 112 = some (.aload_n 0, 1) ∧ mc_cd 164 113 = some (.getfield 58, 3) := by decide +kernel
theorem c164_100 : mc_cd 164 100 = some (.getfield 336, 3) := cg164_100.1
theorem c164_103 : mc_cd 164 103 = some (.ireturn, 1) := cg164_100.2.1
theorem c164_104 : mc_cd 164 104 = some (.aload_n 0, 1) := cg164_100.2.2.1
theorem c164_105 : mc_cd 164 105 = some (.getfield 51, 3) := cg164_100.2.2.2.1
theorem c164_108 : mc_cd 164 108 = some (.getfield 339, 3) := cg164_100.2.2.2.2.1
theorem c164_111 : mc_cd 164 111 = some (.ireturn, 1) := cg164_100.2.2.2.2.2.1
theorem c164_112 : mc_cd 164 112 = some (.aload_n 0, 1) := cg164_100.2.2.2.2.2.2.1
theorem c164_113 : mc_cd 164 113 = some (.getfield 58, 3) := cg164_100.2.2.2.2.2.2.2
theorem cg164_116 : mc_cd 164 116 = some (.ifCond .eq 13, 3) ∧ mc_cd 164 119 = some (.aload_n 0, 1) ∧ mc_cd 164 120 = some (.getfield 51, 3) ∧ mc_cd 164 123 = some (.getfield 342, 3) ∧ mc_cd 164 126 = some (.goto 4, 3) ∧ mc_cd 164 129 = some (.iconst 0, 1) ∧ mc_cd 164 130 = some (.ireturn, 1) ∧ mc_cd 164 131 = some (.aload_n 0, 1) := by decide +kernel
theorem c164_116 : mc_cd 164 116 = some (.ifCond .eq 13, 3) := cg164_116.1
theorem c164_119 : mc_cd 164 119 = some (.aload_n 0, 1) := cg164_116.2.1
theorem c164_120 : mc_cd 164 120 = some (.getfield 51, 3) := cg164_116.2.2.1
theorem c164_123 : mc_cd 164 123 = some (.getfield 342, 3) := cg164_116.2.2.2.1
theorem c164_126 : mc_cd 164 126 = some (.goto 4, 3) := cg164_116.2.2.2.2.1
theorem c164_129 : mc_cd 164 129 = some (.iconst 0, 1) := cg164_116.2.2.2.2.2.1
theorem c164_130 : mc_cd 164 130 = some (.ireturn, 1) := cg164_116.2.2.2.2.2.2.1
theorem c164_131 : mc_cd 164 131 = some (.aload_n 0, 1) := cg164_116.2.2.2.2.2.2.2
theorem cg164_132 : mc_cd 164 132 = some (.getfield 51, 3) ∧ mc_cd 164 135 = some (.getfield 298, 3) ∧ mc_cd 164 138 = some (.ireturn, 1) ∧ mc_cd 164 139 = some (.aload_n 0, 1) ∧ mc_cd 164 140 = some (.getfield 62, 3) ∧ mc_cd 164 143 = some (.ireturn, 1) ∧ mc_cd 164 144 = some (.iconst (-1), 1) ∧ mc_cd 164 145 = some (.ireturn, 1) := by decide +kernel
theorem c164_132 : mc_cd 164 132 = some (.getfield 51, 3) := cg164_132.1
theorem c164_135 : mc_cd 164 135 = some (.getfield 298, 3) := cg164_132.2.1
theorem c164_138 : mc_cd 164 138 = some (.ireturn, 1) := cg164_132.2.2.1
theorem c164_139 : mc_cd 164 139 = some (.aload_n 0, 1) := cg164_132.2.2.2.1
theorem c164_140 : mc_cd 164 140 = some (.getfield 62, 3) := cg164_132.2.2.2.2.1
theorem c164_143 : mc_cd 164 143 = some (.ireturn, 1) := cg164_132.2.2.2.2.2.1
theorem c164_144 : mc_cd 164 144 = some (.iconst (-1), 1) := cg164_132.2.2.2.2.2.2.1
theorem c164_145 : mc_cd 164 145 = some (.ireturn, 1) := cg164_132.2.2.2.2.2.2.2
abbrev q_164 (r0 : Nat) (a1 : Int) (T : wq_T) (H : wq_H) : Option Value → wq_T → wq_H → Prop := fun r T' H' => T = T' ∧ H = H' ∧ ∃ z : Int, some (vI z) = r ∧ ((-2147483648) ≤ z ∧ z ≤ 2147483647)
set_option maxHeartbeats 4000000 in
theorem s_164 {kt : Nat → Option mc_E} {T : wq_T} {H : wq_H} {r0 : Nat} {a1 : Int} (hW : WT T H) (g0 : T.2.2.2 r0 = some 1) (i1 : (-2147483648) ≤ a1 ∧ a1 ≤ 2147483647) : wpc kt 1 164 [.ref r0, vI a1] T H (q_164 r0 a1 T H) := by
  refine wp_enter e164 (Nat.le_of_ble_eq_true rfl) rfl ?_
  show wp _ _ 164 0 [(0, .ref r0), (1, vI a1)] [] _ H _
  refine wp_of e164 c164_0 (rw_iload_n (pc' := 1) (z := a1) rfl rfl ?_)
  have c81141 : a1 = 0 ∨ a1 = 1 ∨ a1 = 2 ∨ a1 = 3 ∨ a1 = 4 ∨ a1 = 5 ∨ a1 = 6 ∨ a1 = 7 ∨ a1 = 8 ∨ a1 = 9 ∨ (a1 < 0 ∨ 9 < a1) := by omega
  rcases c81141 with c81141 | c81141 | c81141 | c81141 | c81141 | c81141 | c81141 | c81141 | c81141 | c81141 | c81141
  · refine wp_of e164 c164_1 (rw_tsw (p1 := 56) ⟨by omega, by omega⟩ (by rw [c81141]; decide) ?_)
    refine wp_of e164 c164_56 (rw_aload_n (pc' := 57) (v := .ref r0) rfl rfl rfl ?_)
    refine wp_of e164 c164_57 (xg_R (pc' := 60) lf_0_51 hW g0 sh_1 (by decide) (by decide) ty_1_6 rfl rfl (fun r81142 q81143 g81144 => ?_))
    refine wp_of e164 c164_60 (xg_I (pc' := 63) lf_0_96 hW g81144 sh_27 (by decide) (by decide) ty_27_10 rfl rfl (fun b81145 b81146 => ?_))
    exact wp_ireturn e164 c164_63 rfl ⟨rfl, rfl, H r81142 10, rfl, ⟨by omega, by omega⟩⟩
  · refine wp_of e164 c164_1 (rw_tsw (p1 := 64) ⟨by omega, by omega⟩ (by rw [c81141]; decide) ?_)
    refine wp_of e164 c164_64 (rw_aload_n (pc' := 65) (v := .ref r0) rfl rfl rfl ?_)
    refine wp_of e164 c164_65 (xg_R (pc' := 68) lf_0_51 hW g0 sh_1 (by decide) (by decide) ty_1_6 rfl rfl (fun r81147 q81148 g81149 => ?_))
    refine wp_of e164 c164_68 (xg_I (pc' := 71) lf_0_327 hW g81149 sh_27 (by decide) (by decide) ty_27_11 rfl rfl (fun b81150 b81151 => ?_))
    exact wp_ireturn e164 c164_71 rfl ⟨rfl, rfl, H r81147 11, rfl, ⟨by omega, by omega⟩⟩
  · refine wp_of e164 c164_1 (rw_tsw (p1 := 72) ⟨by omega, by omega⟩ (by rw [c81141]; decide) ?_)
    refine wp_of e164 c164_72 (rw_aload_n (pc' := 73) (v := .ref r0) rfl rfl rfl ?_)
    refine wp_of e164 c164_73 (xg_R (pc' := 76) lf_0_51 hW g0 sh_1 (by decide) (by decide) ty_1_6 rfl rfl (fun r81152 q81153 g81154 => ?_))
    refine wp_of e164 c164_76 (xg_I (pc' := 79) lf_0_330 hW g81154 sh_27 (by decide) (by decide) ty_27_12 rfl rfl (fun b81155 b81156 => ?_))
    exact wp_ireturn e164 c164_79 rfl ⟨rfl, rfl, H r81152 12, rfl, ⟨by omega, by omega⟩⟩
  · refine wp_of e164 c164_1 (rw_tsw (p1 := 80) ⟨by omega, by omega⟩ (by rw [c81141]; decide) ?_)
    refine wp_of e164 c164_80 (rw_aload_n (pc' := 81) (v := .ref r0) rfl rfl rfl ?_)
    refine wp_of e164 c164_81 (xg_R (pc' := 84) lf_0_51 hW g0 sh_1 (by decide) (by decide) ty_1_6 rfl rfl (fun r81157 q81158 g81159 => ?_))
    refine wp_of e164 c164_84 (xg_I (pc' := 87) lf_0_295 hW g81159 sh_27 (by decide) (by decide) ty_27_16 rfl rfl (fun b81160 b81161 => ?_))
    exact wp_ireturn e164 c164_87 rfl ⟨rfl, rfl, H r81157 16, rfl, ⟨by omega, by omega⟩⟩
  · refine wp_of e164 c164_1 (rw_tsw (p1 := 88) ⟨by omega, by omega⟩ (by rw [c81141]; decide) ?_)
    refine wp_of e164 c164_88 (rw_aload_n (pc' := 89) (v := .ref r0) rfl rfl rfl ?_)
    refine wp_of e164 c164_89 (xg_R (pc' := 92) lf_0_51 hW g0 sh_1 (by decide) (by decide) ty_1_6 rfl rfl (fun r81162 q81163 g81164 => ?_))
    refine wp_of e164 c164_92 (xg_I (pc' := 95) lf_0_333 hW g81164 sh_27 (by decide) (by decide) ty_27_13 rfl rfl (fun b81165 b81166 => ?_))
    exact wp_ireturn e164 c164_95 rfl ⟨rfl, rfl, H r81162 13, rfl, ⟨by omega, by omega⟩⟩
  · refine wp_of e164 c164_1 (rw_tsw (p1 := 96) ⟨by omega, by omega⟩ (by rw [c81141]; decide) ?_)
    refine wp_of e164 c164_96 (rw_aload_n (pc' := 97) (v := .ref r0) rfl rfl rfl ?_)
    refine wp_of e164 c164_97 (xg_R (pc' := 100) lf_0_51 hW g0 sh_1 (by decide) (by decide) ty_1_6 rfl rfl (fun r81167 q81168 g81169 => ?_))
    refine wp_of e164 c164_100 (xg_I (pc' := 103) lf_0_336 hW g81169 sh_27 (by decide) (by decide) ty_27_14 rfl rfl (fun b81170 b81171 => ?_))
    exact wp_ireturn e164 c164_103 rfl ⟨rfl, rfl, H r81167 14, rfl, ⟨by omega, by omega⟩⟩
  · refine wp_of e164 c164_1 (rw_tsw (p1 := 104) ⟨by omega, by omega⟩ (by rw [c81141]; decide) ?_)
    refine wp_of e164 c164_104 (rw_aload_n (pc' := 105) (v := .ref r0) rfl rfl rfl ?_)
    refine wp_of e164 c164_105 (xg_R (pc' := 108) lf_0_51 hW g0 sh_1 (by decide) (by decide) ty_1_6 rfl rfl (fun r81172 q81173 g81174 => ?_))
    refine wp_of e164 c164_108 (xg_I (pc' := 111) lf_0_339 hW g81174 sh_27 (by decide) (by decide) ty_27_7 rfl rfl (fun b81175 b81176 => ?_))
    exact wp_ireturn e164 c164_111 rfl ⟨rfl, rfl, H r81172 7, rfl, ⟨by omega, by omega⟩⟩
  · refine wp_of e164 c164_1 (rw_tsw (p1 := 112) ⟨by omega, by omega⟩ (by rw [c81141]; decide) ?_)
    refine wp_of e164 c164_112 (rw_aload_n (pc' := 113) (v := .ref r0) rfl rfl rfl ?_)
    refine wp_of e164 c164_113 (xg_I (pc' := 116) lf_0_58 hW g0 sh_1 (by decide) (by decide) ty_1_8 rfl rfl (fun b81177 b81178 => ?_))
    refine wp_of e164 c164_116 (rw_if_eq (p1 := 129) (p2 := 119) (by decide) rfl ⟨by omega, by omega⟩ (fun c81179 => ?_) (fun c81179 => ?_))
    · refine wp_of e164 c164_129 (rw_iconst (pc' := 130) rfl ?_)
      exact wp_ireturn e164 c164_130 rfl ⟨rfl, rfl, 0, rfl, ⟨by omega, by omega⟩⟩
    · refine wp_of e164 c164_119 (rw_aload_n (pc' := 120) (v := .ref r0) rfl rfl rfl ?_)
      refine wp_of e164 c164_120 (xg_R (pc' := 123) lf_0_51 hW g0 sh_1 (by decide) (by decide) ty_1_6 rfl rfl (fun r81180 q81181 g81182 => ?_))
      refine wp_of e164 c164_123 (xg_I (pc' := 126) lf_0_342 hW g81182 sh_27 (by decide) (by decide) ty_27_15 rfl rfl (fun b81183 b81184 => ?_))
      refine wp_of e164 c164_126 (rw_goto (p1 := 130) (by decide) ?_)
      exact wp_ireturn e164 c164_130 rfl ⟨rfl, rfl, H r81180 15, rfl, ⟨by omega, by omega⟩⟩
  · refine wp_of e164 c164_1 (rw_tsw (p1 := 131) ⟨by omega, by omega⟩ (by rw [c81141]; decide) ?_)
    refine wp_of e164 c164_131 (rw_aload_n (pc' := 132) (v := .ref r0) rfl rfl rfl ?_)
    refine wp_of e164 c164_132 (xg_R (pc' := 135) lf_0_51 hW g0 sh_1 (by decide) (by decide) ty_1_6 rfl rfl (fun r81185 q81186 g81187 => ?_))
    refine wp_of e164 c164_135 (xg_I (pc' := 138) lf_0_298 hW g81187 sh_27 (by decide) (by decide) ty_27_17 rfl rfl (fun b81188 b81189 => ?_))
    exact wp_ireturn e164 c164_138 rfl ⟨rfl, rfl, H r81185 17, rfl, ⟨by omega, by omega⟩⟩
  · refine wp_of e164 c164_1 (rw_tsw (p1 := 139) ⟨by omega, by omega⟩ (by rw [c81141]; decide) ?_)
    refine wp_of e164 c164_139 (rw_aload_n (pc' := 140) (v := .ref r0) rfl rfl rfl ?_)
    refine wp_of e164 c164_140 (xg_I (pc' := 143) lf_0_62 hW g0 sh_1 (by decide) (by decide) ty_1_9 rfl rfl (fun b81190 b81191 => ?_))
    exact wp_ireturn e164 c164_143 rfl ⟨rfl, rfl, H r0 9, rfl, ⟨by omega, by omega⟩⟩
  · refine wp_of e164 c164_1 (rw_tsw (p1 := 144) ⟨by omega, by omega⟩ (by rw [if_pos c81141]; decide) ?_)
    refine wp_of e164 c164_144 (rw_iconst (pc' := 145) rfl ?_)
    exact wp_ireturn e164 c164_145 rfl ⟨rfl, rfl, -1, rfl, ⟨by omega, by omega⟩⟩
/-! StrikeAwake.trouble()I -/
theorem e165 : wq_en 165 = some (0, 1, false, some FieldType.int) := rfl
theorem cg165_0 : mc_cd 165 0 = some (.aload_n 0, 1) ∧ mc_cd 165 1 = some (.getfield 102, 3) ∧ mc_cd 165 4 = some (.ireturn, 1) := by decide +kernel
theorem c165_0 : mc_cd 165 0 = some (.aload_n 0, 1) := cg165_0.1
theorem c165_1 : mc_cd 165 1 = some (.getfield 102, 3) := cg165_0.2.1
theorem c165_4 : mc_cd 165 4 = some (.ireturn, 1) := cg165_0.2.2
abbrev q_165 (r0 : Nat) (T : wq_T) (H : wq_H) : Option Value → wq_T → wq_H → Prop := fun r T' H' => T = T' ∧ H = H' ∧ ∃ z : Int, some (vI z) = r ∧ ((-2147483648) ≤ z ∧ z ≤ 2147483647)
set_option maxHeartbeats 4000000 in
theorem s_165 {kt : Nat → Option mc_E} {T : wq_T} {H : wq_H} {r0 : Nat} (hW : WT T H) (g0 : T.2.2.2 r0 = some 1) : wpc kt 1 165 [.ref r0] T H (q_165 r0 T H) := by
  refine wp_enter e165 (Nat.le_of_ble_eq_true rfl) rfl ?_
  show wp _ _ 165 0 [(0, .ref r0)] [] _ H _
  refine wp_of e165 c165_0 (rw_aload_n (pc' := 1) (v := .ref r0) rfl rfl rfl ?_)
  refine wp_of e165 c165_1 (xg_I (pc' := 4) lf_0_102 hW g0 sh_1 (by decide) (by decide) ty_1_10 rfl rfl (fun b81194 b81195 => ?_))
  exact wp_ireturn e165 c165_4 rfl ⟨rfl, rfl, H r0 10, rfl, ⟨by omega, by omega⟩⟩
end
