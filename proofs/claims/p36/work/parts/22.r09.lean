section
/-! methods of the reference (own work, written by wip/gen2/sx.py) -/
/-! StrikeAwakeModel.bed(IZ)I -/
theorem e263 : wq_en 263 = some (9, 4, false, some FieldType.int) := rfl
theorem cg263_0 : mc_cd 263 0 = some (.aload_n 0, 1) ∧ mc_cd 263 1 = some (.iconst 0, 1) ∧ mc_cd 263 2 = some (.putfield 48, 3) ∧ mc_cd 263 5 = some (.aload_n 0, 1) ∧ mc_cd 263 6 = some (.aload_n 0, 1) ∧ mc_cd 263 7 = some (.iload_n 1, 1) ∧ mc_cd 263 8 = some (.invokevirtual 364, 3) ∧ mc_cd 263 11 = some (.invokevirtual 447, 3) := by decide +kernel
theorem c263_0 : mc_cd 263 0 = some (.aload_n 0, 1) := cg263_0.1
theorem c263_1 : mc_cd 263 1 = some (.iconst 0, 1) := cg263_0.2.1
theorem c263_2 : mc_cd 263 2 = some (.putfield 48, 3) := cg263_0.2.2.1
theorem c263_5 : mc_cd 263 5 = some (.aload_n 0, 1) := cg263_0.2.2.2.1
theorem c263_6 : mc_cd 263 6 = some (.aload_n 0, 1) := cg263_0.2.2.2.2.1
theorem c263_7 : mc_cd 263 7 = some (.iload_n 1, 1) := cg263_0.2.2.2.2.2.1
theorem c263_8 : mc_cd 263 8 = some (.invokevirtual 364, 3) := cg263_0.2.2.2.2.2.2.1
theorem c263_11 : mc_cd 263 11 = some (.invokevirtual 447, 3) := cg263_0.2.2.2.2.2.2.2
theorem cg263_14 : mc_cd 263 14 = some (.istore_n 3, 1) ∧ mc_cd 263 15 = some (.iload_n 3, 1) ∧ mc_cd 263 16 = some (.ifCond .le 11, 3) ∧ mc_cd 263 19 = some (.aload_n 0, 1) ∧ mc_cd 263 20 = some (.iload_n 3, 1) ∧ mc_cd 263 21 = some (.invokevirtual 54, 3) ∧ mc_cd 263 24 = some (.goto 17, 3) ∧ mc_cd 263 27 = some (.aload_n 0, 1) := by decide +kernel
theorem c263_14 : mc_cd 263 14 = some (.istore_n 3, 1) := cg263_14.1
theorem c263_15 : mc_cd 263 15 = some (.iload_n 3, 1) := cg263_14.2.1
theorem c263_16 : mc_cd 263 16 = some (.ifCond .le 11, 3) := cg263_14.2.2.1
theorem c263_19 : mc_cd 263 19 = some (.aload_n 0, 1) := cg263_14.2.2.2.1
theorem c263_20 : mc_cd 263 20 = some (.iload_n 3, 1) := cg263_14.2.2.2.2.1
theorem c263_21 : mc_cd 263 21 = some (.invokevirtual 54, 3) := cg263_14.2.2.2.2.2.1
theorem c263_24 : mc_cd 263 24 = some (.goto 17, 3) := cg263_14.2.2.2.2.2.2.1
theorem c263_27 : mc_cd 263 27 = some (.aload_n 0, 1) := cg263_14.2.2.2.2.2.2.2
theorem cg263_28 : mc_cd 263 28 = some (.aload_n 0, 1) ∧ mc_cd 263 29 = some (.iload_n 1, 1) ∧ mc_cd 263 30 = some (.aload_n 0, 1) ∧ mc_cd 263 31 = some (.getfield 24, 3) ∧ mc_cd 263 34 = some (.iload_n 2, 1) ∧ mc_cd 263 35 = some (.invokevirtual 458, 3) ∧ mc_cd 263 38 = some (.invokevirtual 58, 3) ∧ mc_cd 263 41 = some (.ireturn, 1) := by decide +kernel
theorem c263_28 : mc_cd 263 28 = some (.aload_n 0, 1) := cg263_28.1
theorem c263_29 : mc_cd 263 29 = some (.iload_n 1, 1) := cg263_28.2.1
theorem c263_30 : mc_cd 263 30 = some (.aload_n 0, 1) := cg263_28.2.2.1
theorem c263_31 : mc_cd 263 31 = some (.getfield 24, 3) := cg263_28.2.2.2.1
theorem c263_34 : mc_cd 263 34 = some (.iload_n 2, 1) := cg263_28.2.2.2.2.1
theorem c263_35 : mc_cd 263 35 = some (.invokevirtual 458, 3) := cg263_28.2.2.2.2.2.1
theorem c263_38 : mc_cd 263 38 = some (.invokevirtual 58, 3) := cg263_28.2.2.2.2.2.2.1
theorem c263_41 : mc_cd 263 41 = some (.ireturn, 1) := cg263_28.2.2.2.2.2.2.2
/-! StrikeAwakeModel.sleeps(IZ)I -/
theorem e265 : wq_en 265 = some (9, 4, false, some FieldType.int) := rfl
theorem cg265_0 : mc_cd 265 0 = some (.aload_n 0, 1) ∧ mc_cd 265 1 = some (.iconst 0, 1) ∧ mc_cd 265 2 = some (.putfield 48, 3) ∧ mc_cd 265 5 = some (.aload_n 0, 1) ∧ mc_cd 265 6 = some (.aload_n 0, 1) ∧ mc_cd 265 7 = some (.iload_n 1, 1) ∧ mc_cd 265 8 = some (.invokevirtual 364, 3) ∧ mc_cd 265 11 = some (.invokevirtual 447, 3) := by decide +kernel
theorem c265_0 : mc_cd 265 0 = some (.aload_n 0, 1) := cg265_0.1
theorem c265_1 : mc_cd 265 1 = some (.iconst 0, 1) := cg265_0.2.1
theorem c265_2 : mc_cd 265 2 = some (.putfield 48, 3) := cg265_0.2.2.1
theorem c265_5 : mc_cd 265 5 = some (.aload_n 0, 1) := cg265_0.2.2.2.1
theorem c265_6 : mc_cd 265 6 = some (.aload_n 0, 1) := cg265_0.2.2.2.2.1
theorem c265_7 : mc_cd 265 7 = some (.iload_n 1, 1) := cg265_0.2.2.2.2.2.1
theorem c265_8 : mc_cd 265 8 = some (.invokevirtual 364, 3) := cg265_0.2.2.2.2.2.2.1
theorem c265_11 : mc_cd 265 11 = some (.invokevirtual 447, 3) := cg265_0.2.2.2.2.2.2.2
theorem cg265_14 : mc_cd 265 14 = some (.istore_n 3, 1) ∧ mc_cd 265 15 = some (.iload_n 3, 1) ∧ mc_cd 265 16 = some (.ifCond .le 11, 3) ∧ mc_cd 265 19 = some (.aload_n 0, 1) ∧ mc_cd 265 20 = some (.iload_n 3, 1) ∧ mc_cd 265 21 = some (.invokevirtual 54, 3) ∧ mc_cd 265 24 = some (.goto 17, 3) ∧ mc_cd 265 27 = some (.aload_n 0, 1) := by decide +kernel
theorem c265_14 : mc_cd 265 14 = some (.istore_n 3, 1) := cg265_14.1
theorem c265_15 : mc_cd 265 15 = some (.iload_n 3, 1) := cg265_14.2.1
theorem c265_16 : mc_cd 265 16 = some (.ifCond .le 11, 3) := cg265_14.2.2.1
theorem c265_19 : mc_cd 265 19 = some (.aload_n 0, 1) := cg265_14.2.2.2.1
theorem c265_20 : mc_cd 265 20 = some (.iload_n 3, 1) := cg265_14.2.2.2.2.1
theorem c265_21 : mc_cd 265 21 = some (.invokevirtual 54, 3) := cg265_14.2.2.2.2.2.1
theorem c265_24 : mc_cd 265 24 = some (.goto 17, 3) := cg265_14.2.2.2.2.2.2.1
theorem c265_27 : mc_cd 265 27 = some (.aload_n 0, 1) := cg265_14.2.2.2.2.2.2.2
theorem cg265_28 : mc_cd 265 28 = some (.aload_n 0, 1) ∧ mc_cd 265 29 = some (.iload_n 1, 1) ∧ mc_cd 265 30 = some (.aload_n 0, 1) ∧ mc_cd 265 31 = some (.getfield 27, 3) ∧ mc_cd 265 34 = some (.iload_n 2, 1) ∧ mc_cd 265 35 = some (.invokevirtual 458, 3) ∧ mc_cd 265 38 = some (.invokevirtual 58, 3) ∧ mc_cd 265 41 = some (.ireturn, 1) := by decide +kernel
theorem c265_28 : mc_cd 265 28 = some (.aload_n 0, 1) := cg265_28.1
theorem c265_29 : mc_cd 265 29 = some (.iload_n 1, 1) := cg265_28.2.1
theorem c265_30 : mc_cd 265 30 = some (.aload_n 0, 1) := cg265_28.2.2.1
theorem c265_31 : mc_cd 265 31 = some (.getfield 27, 3) := cg265_28.2.2.2.1
theorem c265_34 : mc_cd 265 34 = some (.iload_n 2, 1) := cg265_28.2.2.2.2.1
theorem c265_35 : mc_cd 265 35 = some (.invokevirtual 458, 3) := cg265_28.2.2.2.2.2.1
theorem c265_38 : mc_cd 265 38 = some (.invokevirtual 58, 3) := cg265_28.2.2.2.2.2.2.1
theorem c265_41 : mc_cd 265 41 = some (.ireturn, 1) := cg265_28.2.2.2.2.2.2.2
/-! StrikeAwakeModel.refusesAsking(Z)I -/
theorem e267 : wq_en 267 = some (9, 3, false, some FieldType.int) := rfl
theorem cg267_0 : mc_cd 267 0 = some (.aload_n 0, 1) ∧ mc_cd 267 1 = some (.iload_n 1, 1) ∧ mc_cd 267 2 = some (.invokevirtual 447, 3) ∧ mc_cd 267 5 = some (.istore_n 2, 1) ∧ mc_cd 267 6 = some (.iload_n 2, 1) ∧ mc_cd 267 7 = some (.ifCond .ne 17, 3) ∧ mc_cd 267 10 = some (.aload_n 0, 1) ∧ mc_cd 267 11 = some (.getfield 422, 3) := by decide +kernel
theorem c267_0 : mc_cd 267 0 = some (.aload_n 0, 1) := cg267_0.1
theorem c267_1 : mc_cd 267 1 = some (.iload_n 1, 1) := cg267_0.2.1
theorem c267_2 : mc_cd 267 2 = some (.invokevirtual 447, 3) := cg267_0.2.2.1
theorem c267_5 : mc_cd 267 5 = some (.istore_n 2, 1) := cg267_0.2.2.2.1
theorem c267_6 : mc_cd 267 6 = some (.iload_n 2, 1) := cg267_0.2.2.2.2.1
theorem c267_7 : mc_cd 267 7 = some (.ifCond .ne 17, 3) := cg267_0.2.2.2.2.2.1
theorem c267_10 : mc_cd 267 10 = some (.aload_n 0, 1) := cg267_0.2.2.2.2.2.2.1
theorem c267_11 : mc_cd 267 11 = some (.getfield 422, 3) := cg267_0.2.2.2.2.2.2.2
theorem cg267_14 : mc_cd 267 14 = some (.sipush 400, 3) ∧ mc_cd 267 17 = some (.if_icmp .le 7, 3) ∧ mc_cd 267 20 = some (.iconst 3, 1) ∧ mc_cd 267 21 = some (.goto 4, 3) ∧ mc_cd 267 24 = some (.iload_n 2, 1) ∧ mc_cd 267 25 = some (.ireturn, 1) := by decide +kernel
theorem c267_14 : mc_cd 267 14 = some (.sipush 400, 3) := cg267_14.1
theorem c267_17 : mc_cd 267 17 = some (.if_icmp .le 7, 3) := cg267_14.2.1
theorem c267_20 : mc_cd 267 20 = some (.iconst 3, 1) := cg267_14.2.2.1
theorem c267_21 : mc_cd 267 21 = some (.goto 4, 3) := cg267_14.2.2.2.1
theorem c267_24 : mc_cd 267 24 = some (.iload_n 2, 1) := cg267_14.2.2.2.2.1
theorem c267_25 : mc_cd 267 25 = some (.ireturn, 1) := cg267_14.2.2.2.2.2
/-! StrikeAwakeModel.bits(I)I -/
theorem e269 : wq_en 269 = some (9, 3, false, some FieldType.int) := rfl
theorem cg269_0 : mc_cd 269 0 = some (.iconst 0, 1) ∧ mc_cd 269 1 = some (.istore_n 1, 1) ∧ mc_cd 269 2 = some (.iload_n 0, 1) ∧ mc_cd 269 3 = some (.istore_n 2, 1) ∧ mc_cd 269 4 = some (.iload_n 2, 1) ∧ mc_cd 269 5 = some (.ifCond .eq 15, 3) ∧ mc_cd 269 8 = some (.iinc 1 1, 3) ∧ mc_cd 269 11 = some (.iload_n 2, 1) := by decide +kernel
theorem c269_0 : mc_cd 269 0 = some (.iconst 0, 1) := cg269_0.1
theorem c269_1 : mc_cd 269 1 = some (.istore_n 1, 1) := cg269_0.2.1
theorem c269_2 : mc_cd 269 2 = some (.iload_n 0, 1) := cg269_0.2.2.1
theorem c269_3 : mc_cd 269 3 = some (.istore_n 2, 1) := cg269_0.2.2.2.1
theorem c269_4 : mc_cd 269 4 = some (.iload_n 2, 1) := cg269_0.2.2.2.2.1
theorem c269_5 : mc_cd 269 5 = some (.ifCond .eq 15, 3) := cg269_0.2.2.2.2.2.1
theorem c269_8 : mc_cd 269 8 = some (.iinc 1 1, 3) := cg269_0.2.2.2.2.2.2.1
theorem c269_11 : mc_cd 269 11 = some (.iload_n 2, 1) := cg269_0.2.2.2.2.2.2.2
theorem cg269_12 : mc_cd 269 12 = some (.iload_n 2, 1) ∧ mc_cd 269 13 = some (.iconst 1, 1) ∧ mc_cd 269 14 = some (.isub, 1) ∧ mc_cd 269 15 = some (.iand, 1) ∧ mc_cd 269 16 = some (.istore_n 2, 1) ∧ mc_cd 269 17 = some (.goto (-13), 3) ∧ mc_cd 269 20 = some (.iload_n 1, 1) ∧ mc_cd 269 21 = some (.ireturn, 1) := by decide +kernel
theorem c269_12 : mc_cd 269 12 = some (.iload_n 2, 1) := cg269_12.1
theorem c269_13 : mc_cd 269 13 = some (.iconst 1, 1) := cg269_12.2.1
theorem c269_14 : mc_cd 269 14 = some (.isub, 1) := cg269_12.2.2.1
theorem c269_15 : mc_cd 269 15 = some (.iand, 1) := cg269_12.2.2.2.1
theorem c269_16 : mc_cd 269 16 = some (.istore_n 2, 1) := cg269_12.2.2.2.2.1
theorem c269_17 : mc_cd 269 17 = some (.goto (-13), 3) := cg269_12.2.2.2.2.2.1
theorem c269_20 : mc_cd 269 20 = some (.iload_n 1, 1) := cg269_12.2.2.2.2.2.2.1
theorem c269_21 : mc_cd 269 21 = some (.ireturn, 1) := cg269_12.2.2.2.2.2.2.2
abbrev q_269 (a0 : Int) (T : wq_T) (H : wq_H) : Option Value → wq_T → wq_H → Prop := fun r T' H' => T = T' ∧ H = H' ∧ ∃ z : Int, some (vI z) = r ∧ (0 ≤ z ∧ z ≤ 16777215)
set_option maxHeartbeats 4000000 in
theorem s_269 {kt : Nat → Option mc_E} {T : wq_T} {H : wq_H} {a0 : Int} (hW : WT T H) (i0 : 0 ≤ a0 ∧ a0 ≤ 16777215) : wpc kt 1 269 [vI a0] T H (q_269 a0 T H) := by
  refine wp_enter e269 (Nat.le_of_ble_eq_true rfl) rfl ?_
  show wp _ _ 269 0 [(0, vI a0)] [] _ H _
  refine wp_of e269 c269_0 (rw_iconst (pc' := 1) rfl ?_)
  refine wp_of e269 c269_1 (rw_istore_n (pc' := 2) (z := 0) (L' := [(1, vI 0), (0, vI a0)]) rfl rfl rfl ?_)
  refine wp_of e269 c269_2 (rw_iload_n (pc' := 3) (z := a0) rfl rfl ?_)
  refine wp_of e269 c269_3 (rw_istore_n (pc' := 4) (z := a0) (L' := [(2, vI a0), (1, vI 0), (0, vI a0)]) rfl rfl rfl ?_)
  have lp148217 : ∀ (n148218 : Nat) (v148220 : Int) (v148221 : Int), (0 ≤ v148220 ∧ v148220 ≤ 16777215) → (0 ≤ v148221 ∧ v148221 ≤ 16777215) → (v148221 + v148220 ≤ a0) → (v148220).toNat = n148218 → wp kt 0 269 4 [(2, vI v148220), (1, vI v148221)] [] T H (q_269 a0 T H) := by
    intro n148218
    induction n148218 using Nat.strongRecOn with
    | _ n148218 ih148219 =>
      intro v148220 v148221 b148224 b148225 x148226 m148227
      refine wp_of e269 c269_4 (rw_iload_n (pc' := 5) (z := v148220) rfl rfl ?_)
      refine wp_of e269 c269_5 (rw_if_eq (p1 := 20) (p2 := 8) (by decide) rfl ⟨by omega, by omega⟩ (fun c148228 => ?_) (fun c148228 => ?_))
      · refine wp_of e269 c269_20 (rw_iload_n (pc' := 21) (z := v148221) rfl rfl ?_)
        exact wp_ireturn e269 c269_21 rfl ⟨rfl, rfl, v148221, rfl, ⟨by omega, by omega⟩⟩
      · refine wp_of e269 c269_8 (rw_iinc (pc' := 11) (z := v148221) (L' := [(1, vI (v148221 + 1)), (2, vI v148220)]) rfl rfl rfl rfl ?_)
        refine wp_of e269 c269_11 (rw_iload_n (pc' := 12) (z := v148220) rfl rfl ?_)
        refine wp_of e269 c269_12 (rw_iload_n (pc' := 13) (z := v148220) rfl rfl ?_)
        refine wp_of e269 c269_13 (rw_iconst (pc' := 14) rfl ?_)
        refine wp_of e269 c269_14 (rw_isub (pc' := 15) rfl ?_)
        refine wp_of e269 c269_15 (rw_iand (pc' := 16) rfl ?_)
        obtain ⟨v148229, e148230⟩ : ∃ x : Int, x = wq_and v148220 (v148220 - 1) := ⟨_, rfl⟩
        rw [← e148230]
        have b148231 : 0 ≤ v148229 ∧ v148229 ≤ (v148220 - 1) := by
          rw [e148230]
          exact wq_and_b _ (by omega) (by omega)
        refine wp_of e269 c269_16 (rw_istore_n (pc' := 17) (z := v148229) (L' := [(2, vI v148229), (1, vI (v148221 + 1))]) rfl rfl rfl ?_)
        refine wp_of e269 c269_17 (rw_goto (p1 := 4) (by decide) ?_)
        exact wp_lc (ks := [2, 1]) (wl_c rfl (wl_c rfl wl_n)) rfl (by decide) (ih148219 _ (by omega) v148229 (v148221 + 1) ⟨by omega, by omega⟩ ⟨by omega, by omega⟩ (by omega) rfl)
  exact wp_lc (ks := [2, 1, 0]) (wl_c rfl (wl_c rfl wl_n)) rfl (by decide) (lp148217 _ a0 0 ⟨by omega, by omega⟩ ⟨by omega, by omega⟩ (by omega) rfl)
/-! StrikeAwakeModel.tells(II)Z -/
theorem e270 : wq_en 270 = some (9, 7, false, some FieldType.boolean) := rfl
theorem cg270_0 : mc_cd 270 0 = some (.iconst 0, 1) ∧ mc_cd 270 1 = some (.istore_n 3, 1) ∧ mc_cd 270 2 = some (.iload_n 3, 1) ∧ mc_cd 270 3 = some (.aload_n 0, 1) ∧ mc_cd 270 4 = some (.getfield 422, 3) ∧ mc_cd 270 7 = some (.if_icmp .ge 175, 3) ∧ mc_cd 270 10 = some (.aload_n 0, 1) ∧ mc_cd 270 11 = some (.aload_n 0, 1) := by decide +kernel
theorem c270_0 : mc_cd 270 0 = some (.iconst 0, 1) := cg270_0.1
theorem c270_1 : mc_cd 270 1 = some (.istore_n 3, 1) := cg270_0.2.1
theorem c270_2 : mc_cd 270 2 = some (.iload_n 3, 1) := cg270_0.2.2.1
theorem c270_3 : mc_cd 270 3 = some (.aload_n 0, 1) := cg270_0.2.2.2.1
theorem c270_4 : mc_cd 270 4 = some (.getfield 422, 3) := cg270_0.2.2.2.2.1
theorem c270_7 : mc_cd 270 7 = some (.if_icmp .ge 175, 3) := cg270_0.2.2.2.2.2.1
theorem c270_10 : mc_cd 270 10 = some (.aload_n 0, 1) := cg270_0.2.2.2.2.2.2.1
theorem c270_11 : mc_cd 270 11 = some (.aload_n 0, 1) := cg270_0.2.2.2.2.2.2.2
theorem cg270_12 : mc_cd 270 12 = some (.getfield 42, 3) ∧ mc_cd 270 15 = some (.iload_n 3, 1) ∧ mc_cd 270 16 = some (.iaload, 1) ∧ mc_cd 270 17 = some (.invokevirtual 425, 3) ∧ mc_cd 270 20 = some (.iconst 0, 1) ∧ mc_cd 270 21 = some (.istore 4, 2) ∧ mc_cd 270 23 = some (.iload 4, 2) ∧ mc_cd 270 25 = some (.aload_n 0, 1) := by decide +kernel
theorem c270_12 : mc_cd 270 12 = some (.getfield 42, 3) := cg270_12.1
theorem c270_15 : mc_cd 270 15 = some (.iload_n 3, 1) := cg270_12.2.1
theorem c270_16 : mc_cd 270 16 = some (.iaload, 1) := cg270_12.2.2.1
theorem c270_17 : mc_cd 270 17 = some (.invokevirtual 425, 3) := cg270_12.2.2.2.1
theorem c270_20 : mc_cd 270 20 = some (.iconst 0, 1) := cg270_12.2.2.2.2.1
theorem c270_21 : mc_cd 270 21 = some (.istore 4, 2) := cg270_12.2.2.2.2.2.1
theorem c270_23 : mc_cd 270 23 = some (.iload 4, 2) := cg270_12.2.2.2.2.2.2.1
theorem c270_25 : mc_cd 270 25 = some (.aload_n 0, 1) := cg270_12.2.2.2.2.2.2.2
theorem cg270_26 : mc_cd 270 26 = some (.getfield 337, 3) ∧ mc_cd 270 29 = some (.getfield 188, 3) ∧ mc_cd 270 32 = some (.if_icmp .ge 23, 3) ∧ mc_cd 270 35 = some (.aload_n 0, 1) ∧ mc_cd 270 36 = some (.getfield 45, 3) ∧ mc_cd 270 39 = some (.iload 4, 2) ∧ mc_cd 270 41 = some (.aload_n 0, 1) ∧ mc_cd 270 42 = some (.getfield 39, 3) := by decide +kernel
theorem c270_26 : mc_cd 270 26 = some (.getfield 337, 3) := cg270_26.1
theorem c270_29 : mc_cd 270 29 = some (.getfield 188, 3) := cg270_26.2.1
theorem c270_32 : mc_cd 270 32 = some (.if_icmp .ge 23, 3) := cg270_26.2.2.1
theorem c270_35 : mc_cd 270 35 = some (.aload_n 0, 1) := cg270_26.2.2.2.1
theorem c270_36 : mc_cd 270 36 = some (.getfield 45, 3) := cg270_26.2.2.2.2.1
theorem c270_39 : mc_cd 270 39 = some (.iload 4, 2) := cg270_26.2.2.2.2.2.1
theorem c270_41 : mc_cd 270 41 = some (.aload_n 0, 1) := cg270_26.2.2.2.2.2.2.1
theorem c270_42 : mc_cd 270 42 = some (.getfield 39, 3) := cg270_26.2.2.2.2.2.2.2
theorem cg270_45 : mc_cd 270 45 = some (.iload 4, 2) ∧ mc_cd 270 47 = some (.iaload, 1) ∧ mc_cd 270 48 = some (.iastore, 1) ∧ mc_cd 270 49 = some (.iinc 4 1, 3) ∧ mc_cd 270 52 = some (.goto (-29), 3) ∧ mc_cd 270 55 = some (.iconst 0, 1) ∧ mc_cd 270 56 = some (.istore 4, 2) ∧ mc_cd 270 58 = some (.iload 4, 2) := by decide +kernel
theorem c270_45 : mc_cd 270 45 = some (.iload 4, 2) := cg270_45.1
theorem c270_47 : mc_cd 270 47 = some (.iaload, 1) := cg270_45.2.1
theorem c270_48 : mc_cd 270 48 = some (.iastore, 1) := cg270_45.2.2.1
theorem c270_49 : mc_cd 270 49 = some (.iinc 4 1, 3) := cg270_45.2.2.2.1
theorem c270_52 : mc_cd 270 52 = some (.goto (-29), 3) := cg270_45.2.2.2.2.1
theorem c270_55 : mc_cd 270 55 = some (.iconst 0, 1) := cg270_45.2.2.2.2.2.1
theorem c270_56 : mc_cd 270 56 = some (.istore 4, 2) := cg270_45.2.2.2.2.2.2.1
theorem c270_58 : mc_cd 270 58 = some (.iload 4, 2) := cg270_45.2.2.2.2.2.2.2
theorem cg270_60 : mc_cd 270 60 = some (.iload_n 3, 1) ∧ mc_cd 270 61 = some (.if_icmp .ge 115, 3) ∧ mc_cd 270 64 = some (.aload_n 0, 1) ∧ mc_cd 270 65 = some (.aload_n 0, 1) ∧ mc_cd 270 66 = some (.getfield 42, 3) ∧ mc_cd 270 69 = some (.iload 4, 2) ∧ mc_cd 270 71 = some (.iaload, 1) ∧ mc_cd 270 72 = some (.invokevirtual 425, 3) := by decide +kernel
theorem c270_60 : mc_cd 270 60 = some (.iload_n 3, 1) := cg270_60.1
theorem c270_61 : mc_cd 270 61 = some (.if_icmp .ge 115, 3) := cg270_60.2.1
theorem c270_64 : mc_cd 270 64 = some (.aload_n 0, 1) := cg270_60.2.2.1
theorem c270_65 : mc_cd 270 65 = some (.aload_n 0, 1) := cg270_60.2.2.2.1
theorem c270_66 : mc_cd 270 66 = some (.getfield 42, 3) := cg270_60.2.2.2.2.1
theorem c270_69 : mc_cd 270 69 = some (.iload 4, 2) := cg270_60.2.2.2.2.2.1
theorem c270_71 : mc_cd 270 71 = some (.iaload, 1) := cg270_60.2.2.2.2.2.2.1
theorem c270_72 : mc_cd 270 72 = some (.invokevirtual 425, 3) := cg270_60.2.2.2.2.2.2.2
theorem cg270_75 : mc_cd 270 75 = some (.iconst 1, 1) ∧ mc_cd 270 76 = some (.istore 5, 2) ∧ mc_cd 270 78 = some (.iconst 0, 1) ∧ mc_cd 270 79 = some (.istore 6, 2) ∧ mc_cd 270 81 = some (.iload 6, 2) ∧ mc_cd 270 83 = some (.aload_n 0, 1) ∧ mc_cd 270 84 = some (.getfield 337, 3) ∧ mc_cd 270 87 = some (.getfield 188, 3) := by decide +kernel
theorem c270_75 : mc_cd 270 75 = some (.iconst 1, 1) := cg270_75.1
theorem c270_76 : mc_cd 270 76 = some (.istore 5, 2) := cg270_75.2.1
theorem c270_78 : mc_cd 270 78 = some (.iconst 0, 1) := cg270_75.2.2.1
theorem c270_79 : mc_cd 270 79 = some (.istore 6, 2) := cg270_75.2.2.2.1
theorem c270_81 : mc_cd 270 81 = some (.iload 6, 2) := cg270_75.2.2.2.2.1
theorem c270_83 : mc_cd 270 83 = some (.aload_n 0, 1) := cg270_75.2.2.2.2.2.1
theorem c270_84 : mc_cd 270 84 = some (.getfield 337, 3) := cg270_75.2.2.2.2.2.2.1
theorem c270_87 : mc_cd 270 87 = some (.getfield 188, 3) := cg270_75.2.2.2.2.2.2.2
theorem cg270_90 : mc_cd 270 90 = some (.if_icmp .ge 47, 3) ∧ mc_cd 270 93 = some (.iload 5, 2) ∧ mc_cd 270 95 = some (.ifCond .eq 33, 3) ∧ mc_cd 270 98 = some (.iload_n 1, 1) ∧ mc_cd 270 99 = some (.iload 6, 2) ∧ mc_cd 270 101 = some (.invokestatic 346, 3) ∧ mc_cd 270 104 = some (.ifCond .eq 20, 3) ∧ mc_cd 270 107 = some (.aload_n 0, 1) := by decide +kernel
theorem c270_90 : mc_cd 270 90 = some (.if_icmp .ge 47, 3) := cg270_90.1
theorem c270_93 : mc_cd 270 93 = some (.iload 5, 2) := cg270_90.2.1
theorem c270_95 : mc_cd 270 95 = some (.ifCond .eq 33, 3) := cg270_90.2.2.1
theorem c270_98 : mc_cd 270 98 = some (.iload_n 1, 1) := cg270_90.2.2.2.1
theorem c270_99 : mc_cd 270 99 = some (.iload 6, 2) := cg270_90.2.2.2.2.1
theorem c270_101 : mc_cd 270 101 = some (.invokestatic 346, 3) := cg270_90.2.2.2.2.2.1
theorem c270_104 : mc_cd 270 104 = some (.ifCond .eq 20, 3) := cg270_90.2.2.2.2.2.2.1
theorem c270_107 : mc_cd 270 107 = some (.aload_n 0, 1) := cg270_90.2.2.2.2.2.2.2
theorem cg270_108 : mc_cd 270 108 = some (.getfield 39, 3) ∧ mc_cd 270 111 = some (.iload 6, 2) ∧ mc_cd 270 113 = some (.iaload, 1) ∧ mc_cd 270 114 = some (.aload_n 0, 1) ∧ mc_cd 270 115 = some (.getfield 45, 3) ∧ mc_cd 270 118 = some (.iload 6, 2) ∧ mc_cd 270 120 = some (.iaload, 1) ∧ mc_cd 270 121 = some (.if_icmp .ne 7, 3) := by decide +kernel
theorem c270_108 : mc_cd 270 108 = some (.getfield 39, 3) := cg270_108.1
theorem c270_111 : mc_cd 270 111 = some (.iload 6, 2) := cg270_108.2.1
theorem c270_113 : mc_cd 270 113 = some (.iaload, 1) := cg270_108.2.2.1
theorem c270_114 : mc_cd 270 114 = some (.aload_n 0, 1) := cg270_108.2.2.2.1
theorem c270_115 : mc_cd 270 115 = some (.getfield 45, 3) := cg270_108.2.2.2.2.1
theorem c270_118 : mc_cd 270 118 = some (.iload 6, 2) := cg270_108.2.2.2.2.2.1
theorem c270_120 : mc_cd 270 120 = some (.iaload, 1) := cg270_108.2.2.2.2.2.2.1
theorem c270_121 : mc_cd 270 121 = some (.if_icmp .ne 7, 3) := cg270_108.2.2.2.2.2.2.2
theorem cg270_124 : mc_cd 270 124 = some (.iconst 1, 1) ∧ mc_cd 270 125 = some (.goto 4, 3) ∧ mc_cd 270 128 = some (.iconst 0, 1) ∧ mc_cd 270 129 = some (.istore 5, 2) ∧ mc_cd 270 131 = some (.iinc 6 1, 3) ∧ mc_cd 270 134 = some (.goto (-53), 3) ∧ mc_cd 270 137 = some (.iload 5, 2) ∧ mc_cd 270 139 = some (.ifCond .eq 31, 3) := by decide +kernel
theorem c270_124 : mc_cd 270 124 = some (.iconst 1, 1) := cg270_124.1
theorem c270_125 : mc_cd 270 125 = some (.goto 4, 3) := cg270_124.2.1
theorem c270_128 : mc_cd 270 128 = some (.iconst 0, 1) := cg270_124.2.2.1
theorem c270_129 : mc_cd 270 129 = some (.istore 5, 2) := cg270_124.2.2.2.1
theorem c270_131 : mc_cd 270 131 = some (.iinc 6 1, 3) := cg270_124.2.2.2.2.1
theorem c270_134 : mc_cd 270 134 = some (.goto (-53), 3) := cg270_124.2.2.2.2.2.1
theorem c270_137 : mc_cd 270 137 = some (.iload 5, 2) := cg270_124.2.2.2.2.2.2.1
theorem c270_139 : mc_cd 270 139 = some (.ifCond .eq 31, 3) := cg270_124.2.2.2.2.2.2.2
theorem cg270_142 : mc_cd 270 142 = some (.iload_n 2, 1) ∧ mc_cd 270 143 = some (.iconst (-1), 1) ∧ mc_cd 270 144 = some (.if_icmp .eq 24, 3) ∧ mc_cd 270 147 = some (.aload_n 0, 1) ∧ mc_cd 270 148 = some (.aload_n 0, 1) ∧ mc_cd 270 149 = some (.getfield 39, 3) ∧ mc_cd 270 152 = some (.iload_n 2, 1) ∧ mc_cd 270 153 = some (.invokevirtual 455, 3) := by decide +kernel
theorem c270_142 : mc_cd 270 142 = some (.iload_n 2, 1) := cg270_142.1
theorem c270_143 : mc_cd 270 143 = some (.iconst (-1), 1) := cg270_142.2.1
theorem c270_144 : mc_cd 270 144 = some (.if_icmp .eq 24, 3) := cg270_142.2.2.1
theorem c270_147 : mc_cd 270 147 = some (.aload_n 0, 1) := cg270_142.2.2.2.1
theorem c270_148 : mc_cd 270 148 = some (.aload_n 0, 1) := cg270_142.2.2.2.2.1
theorem c270_149 : mc_cd 270 149 = some (.getfield 39, 3) := cg270_142.2.2.2.2.2.1
theorem c270_152 : mc_cd 270 152 = some (.iload_n 2, 1) := cg270_142.2.2.2.2.2.2.1
theorem c270_153 : mc_cd 270 153 = some (.invokevirtual 455, 3) := cg270_142.2.2.2.2.2.2.2
theorem cg270_156 : mc_cd 270 156 = some (.aload_n 0, 1) ∧ mc_cd 270 157 = some (.aload_n 0, 1) ∧ mc_cd 270 158 = some (.getfield 45, 3) ∧ mc_cd 270 161 = some (.iload_n 2, 1) ∧ mc_cd 270 162 = some (.invokevirtual 455, 3) ∧ mc_cd 270 165 = some (.if_icmp .eq 5, 3) ∧ mc_cd 270 168 = some (.iconst 0, 1) ∧ mc_cd 270 169 = some (.ireturn, 1) := by decide +kernel
theorem c270_156 : mc_cd 270 156 = some (.aload_n 0, 1) := cg270_156.1
theorem c270_157 : mc_cd 270 157 = some (.aload_n 0, 1) := cg270_156.2.1
theorem c270_158 : mc_cd 270 158 = some (.getfield 45, 3) := cg270_156.2.2.1
theorem c270_161 : mc_cd 270 161 = some (.iload_n 2, 1) := cg270_156.2.2.2.1
theorem c270_162 : mc_cd 270 162 = some (.invokevirtual 455, 3) := cg270_156.2.2.2.2.1
theorem c270_165 : mc_cd 270 165 = some (.if_icmp .eq 5, 3) := cg270_156.2.2.2.2.2.1
theorem c270_168 : mc_cd 270 168 = some (.iconst 0, 1) := cg270_156.2.2.2.2.2.2.1
theorem c270_169 : mc_cd 270 169 = some (.ireturn, 1) := cg270_156.2.2.2.2.2.2.2
theorem cg270_170 : mc_cd 270 170 = some (.iinc 4 1, 3) ∧ mc_cd 270 173 = some (.goto (-115), 3) ∧ mc_cd 270 176 = some (.iinc 3 1, 3) ∧ mc_cd 270 179 = some (.goto (-177), 3) ∧ mc_cd 270 182 = some (.iconst 1, 1) ∧ mc_cd 270 183 = some (.ireturn, 1) := by decide +kernel
theorem c270_170 : mc_cd 270 170 = some (.iinc 4 1, 3) := cg270_170.1
theorem c270_173 : mc_cd 270 173 = some (.goto (-115), 3) := cg270_170.2.1
theorem c270_176 : mc_cd 270 176 = some (.iinc 3 1, 3) := cg270_170.2.2.1
theorem c270_179 : mc_cd 270 179 = some (.goto (-177), 3) := cg270_170.2.2.2.1
theorem c270_182 : mc_cd 270 182 = some (.iconst 1, 1) := cg270_170.2.2.2.2.1
theorem c270_183 : mc_cd 270 183 = some (.ireturn, 1) := cg270_170.2.2.2.2.2
abbrev q_270 (r0 : Nat) (a1 : Int) (a2 : Int) (pp : Nat) (T : wq_T) (H : wq_H) : Option Value → wq_T → wq_H → Prop := fun r T' H' => T = T' ∧ WT T H' ∧ wfr [(51, 999), (53, 999)] T H H' ∧ ∃ z : Int, some (vI z) = r ∧ (0 ≤ z ∧ z ≤ 1)
set_option maxHeartbeats 4000000 in
theorem s_270 {kt : Nat → Option mc_E} {T : wq_T} {H : wq_H} {r0 : Nat} {a1 : Int} {a2 : Int} {pp : Nat} (hW : WT T H) (g0 : T.2.2.2 r0 = some 42) (i1 : (-2147483648) ≤ a1 ∧ a1 ≤ 2147483647) (i2 : (-2147483648) ≤ a2 ∧ a2 ≤ 2147483647) (qpp : H r0 3 = (pp : Int)) (gpp : T.2.2.2 pp = some 54) (p0 : H r0 29 = 0 ∨ 0 < wLM H r0) : wpc kt 3 270 [.ref r0, vI a1, vI a2] T H (q_270 r0 a1 a2 pp T H) := by
  refine wp_enter e270 (Nat.le_of_ble_eq_true rfl) rfl ?_
  have f0 : wfr [(51, 999), (53, 999)] T H H := wfr.rf
  show wp _ _ 270 0 [(0, .ref r0), (1, vI a1), (2, vI a2)] [] _ H _
  have b163385 : 0 ≤ H r0 29 ∧ H r0 29 ≤ 20000 := hW.box g0 (n := 33) rfl (by decide) rfl
  refine wp_of e270 c270_0 (rw_iconst (pc' := 1) rfl ?_)
  refine wp_of e270 c270_1 (rw_istore_n (pc' := 2) (z := 0) (L' := [(3, vI 0), (0, .ref r0), (1, vI a1), (2, vI a2)]) rfl rfl rfl ?_)
  have lp175958 : ∀ (n175959 : Nat) (v175961 : Int) (H175962 : wq_H), WT T H175962 → wfr [(51, 999), (53, 999)] T H H175962 → (0 ≤ v175961 ∧ v175961 ≤ 20000) → (20000 - v175961).toNat = n175959 → wp kt 2 270 2 [(3, vI v175961), (0, .ref r0), (1, vI a1), (2, vI a2)] [] T H175962 (q_270 r0 a1 a2 pp T H) := by
    intro n175959
    induction n175959 using Nat.strongRecOn with
    | _ n175959 ih175960 =>
      intro v175961 H175962 w175963 f175964 b175965 m175966
      have f175967 := f0.tr f175964 rfl
      refine wp_of e270 c270_2 (rw_iload_n (pc' := 3) (z := v175961) rfl rfl ?_)
      refine wp_of e270 c270_3 (rw_aload_n (pc' := 4) (v := .ref r0) rfl rfl rfl ?_)
      have k175968 : H175962 r0 29 = H r0 29 := (f175964 r0 29 _ g0 rfl)
      refine wp_of e270 c270_4 (xg_I (pc' := 7) lf_9_422 w175963 g0 sh_42 (by decide) (by decide) ty_42_29 rfl rfl (fun b175969 b175970 => ?_))
      refine wp_of e270 c270_7 (rw_icmp_ge (p1 := 182) (p2 := 10) (by decide) rfl ⟨by omega, by omega⟩ ⟨by omega, by omega⟩ (fun c175971 => ?_) (fun c175971 => ?_))
      · refine wp_of e270 c270_182 (rw_iconst (pc' := 183) rfl ?_)
        exact wp_zreturn e270 c270_183 rfl (by omega) ⟨rfl, w175963, f175967, 1, rfl, ⟨by omega, by omega⟩⟩
      · refine wp_of e270 c270_10 (rw_aload_n (pc' := 11) (v := .ref r0) rfl rfl rfl ?_)
        refine wp_of e270 c270_11 (rw_aload_n (pc' := 12) (v := .ref r0) rfl rfl rfl ?_)
        refine wp_of e270 c270_12 (xg_R (pc' := 15) lf_9_42 w175963 g0 sh_42 (by decide) (by decide) ty_42_30 rfl rfl (fun r175972 q175973 g175974 => ?_))
        refine wp_of e270 c270_15 (rw_iload_n (pc' := 16) (z := v175961) rfl rfl ?_)
        refine wp_of e270 c270_16 (xa_I (so := 0) (pc' := 17) w175963 g175974 sh_52 (by decide) (ty_52 _) (by omega) (by omega) rfl (fun b175975 b175976 => ?_))
        have k175977 : wLM H175962 r0 = wLM H r0 := (wLM_fr hW g0 f175964 rfl)
        have k175978 : H175962 r0 3 = H r0 3 := (f175964 r0 3 _ g0 rfl)
        have q175979 : H175962 r0 3 = (pp : Int) := k175978.trans qpp
        refine wp_of e270 c270_17 (xc_V (pc' := 20) (r := r0) (as := [vI (H175962 r175972 (v175961.toNat))]) (st := []) (lm_9_425) rfl rfl (Nat.le_of_ble_eq_true rfl) w175963 g0 sh_42 (by decide) rfl (by decide) (s_243 w175963 g0 ⟨by omega, by omega⟩ q175979 gpp (by omega)) (fun R175980 T175981 H175982 p175983 => ?_))
        obtain ⟨e175984, w175986, f175987, e175985⟩ := p175983
        subst e175984
        subst e175985
        have f175988 := f175967.tr f175987 rfl
        have f175989 := f175964.tr f175987 rfl
        show wp _ _ 270 20 [(3, vI v175961), (0, .ref r0), (1, vI a1), (2, vI a2)] [] _ H175982 _
        refine wp_of e270 c270_20 (rw_iconst (pc' := 21) rfl ?_)
        refine wp_of e270 c270_21 (rw_istore (pc' := 23) (z := 0) (L' := [(4, vI 0), (3, vI v175961), (0, .ref r0), (1, vI a1), (2, vI a2)]) rfl rfl rfl ?_)
        have lp176116 : ∀ (n176117 : Nat) (v176119 : Int) (H176120 : wq_H), WT T H176120 → wfr [(53, 999)] T H175982 H176120 → (0 ≤ v176119 ∧ v176119 ≤ 6) → (6 - v176119).toNat = n176117 → wp kt 2 270 23 [(4, vI v176119), (3, vI v175961), (0, .ref r0), (1, vI a1), (2, vI a2)] [] T H176120 (q_270 r0 a1 a2 pp T H) := by
          intro n176117
          induction n176117 using Nat.strongRecOn with
          | _ n176117 ih176118 =>
            intro v176119 H176120 w176121 f176122 b176123 m176124
            have f176125 := f175988.tr f176122 rfl
            have f176126 := f175989.tr f176122 rfl
            refine wp_of e270 c270_23 (rw_iload (pc' := 25) (z := v176119) rfl rfl ?_)
            refine wp_of e270 c270_25 (rw_aload_n (pc' := 26) (v := .ref r0) rfl rfl rfl ?_)
            have k176127 : H176120 r0 3 = H175962 r0 3 := ((f176122 r0 3 _ g0 rfl).trans (f175987 r0 3 _ g0 rfl))
            have q176128 : H176120 r0 3 = (pp : Int) := k176127.trans q175979
            refine wp_of e270 c270_26 (xg_K (pc' := 29) lf_9_337 w176121 g0 sh_42 (by decide) (by decide) rfl q176128 rfl ?_)
            refine wp_of e270 c270_29 (xg_I (pc' := 32) lf_9_188 w176121 gpp sh_54 (by decide) (by decide) ty_54_3 rfl rfl (fun b176129 b176130 => ?_))
            refine wp_of e270 c270_32 (rw_icmp_ge (p1 := 55) (p2 := 35) (by decide) rfl ⟨by omega, by omega⟩ ⟨by omega, by omega⟩ (fun c176131 => ?_) (fun c176131 => ?_))
            · refine wp_of e270 c270_55 (rw_iconst (pc' := 56) rfl ?_)
              refine wp_of e270 c270_56 (rw_istore (pc' := 58) (z := 0) (L' := [(4, vI 0), (3, vI v175961), (0, .ref r0), (1, vI a1), (2, vI a2)]) rfl rfl rfl ?_)
              have lp178292 : ∀ (n178293 : Nat) (v178295 : Int) (H178296 : wq_H), WT T H178296 → wfr [(51, 999)] T H176120 H178296 → (0 ≤ v178295 ∧ v178295 ≤ 19999) → (19999 - v178295).toNat = n178293 → wp kt 2 270 58 [(4, vI v178295), (3, vI v175961), (0, .ref r0), (1, vI a1), (2, vI a2)] [] T H178296 (q_270 r0 a1 a2 pp T H) := by
                intro n178293
                induction n178293 using Nat.strongRecOn with
                | _ n178293 ih178294 =>
                  intro v178295 H178296 w178297 f178298 b178299 m178300
                  have f178301 := f176125.tr f178298 rfl
                  have f178302 := f176126.tr f178298 rfl
                  refine wp_of e270 c270_58 (rw_iload (pc' := 60) (z := v178295) rfl rfl ?_)
                  refine wp_of e270 c270_60 (rw_iload_n (pc' := 61) (z := v175961) rfl rfl ?_)
                  refine wp_of e270 c270_61 (rw_icmp_ge (p1 := 176) (p2 := 64) (by decide) rfl ⟨by omega, by omega⟩ ⟨by omega, by omega⟩ (fun c178303 => ?_) (fun c178303 => ?_))
                  · refine wp_of e270 c270_176 (rw_iinc (pc' := 179) (z := v175961) (L' := [(3, vI (v175961 + 1)), (4, vI v178295), (0, .ref r0), (1, vI a1), (2, vI a2)]) rfl rfl rfl rfl ?_)
                    refine wp_of e270 c270_179 (rw_goto (p1 := 2) (by decide) ?_)
                    exact wp_lc (ks := [3, 4, 0, 1, 2]) (wl_c rfl (wl_c rfl (wl_c rfl (wl_c rfl wl_n)))) rfl (by decide) (ih175960 _ (by omega) (v175961 + 1) H178296 w178297 f178302 ⟨by omega, by omega⟩ rfl)
                  · refine wp_of e270 c270_64 (rw_aload_n (pc' := 65) (v := .ref r0) rfl rfl rfl ?_)
                    refine wp_of e270 c270_65 (rw_aload_n (pc' := 66) (v := .ref r0) rfl rfl rfl ?_)
                    have k178304 : H178296 r0 30 = H175962 r0 30 := ((f178298 r0 30 _ g0 rfl).trans ((f176122 r0 30 _ g0 rfl).trans (f175987 r0 30 _ g0 rfl)))
                    have q178305 : H178296 r0 30 = (r175972 : Int) := k178304.trans q175973
                    refine wp_of e270 c270_66 (xg_K (pc' := 69) lf_9_42 w178297 g0 sh_42 (by decide) (by decide) rfl q178305 rfl ?_)
                    refine wp_of e270 c270_69 (rw_iload (pc' := 71) (z := v178295) rfl rfl ?_)
                    refine wp_of e270 c270_71 (xa_I (so := 0) (pc' := 72) w178297 g175974 sh_52 (by decide) (ty_52 _) (by omega) (by omega) rfl (fun b178306 b178307 => ?_))
                    have k178308 : wLM H178296 r0 = wLM H175962 r0 := ((wLM_fr w176121 g0 f178298 rfl).trans ((wLM_fr w175986 g0 f176122 rfl).trans (wLM_fr w175963 g0 f175987 rfl)))
                    have k178309 : H178296 r0 3 = H176120 r0 3 := (f178298 r0 3 _ g0 rfl)
                    have q178310 : H178296 r0 3 = (pp : Int) := k178309.trans q176128
                    refine wp_of e270 c270_72 (xc_V (pc' := 75) (r := r0) (as := [vI (H178296 r175972 (v178295.toNat))]) (st := []) (lm_9_425) rfl rfl (Nat.le_of_ble_eq_true rfl) w178297 g0 sh_42 (by decide) rfl (by decide) (s_243 w178297 g0 ⟨by omega, by omega⟩ q178310 gpp (by omega)) (fun R178311 T178312 H178313 p178314 => ?_))
                    obtain ⟨e178315, w178317, f178318, e178316⟩ := p178314
                    subst e178315
                    subst e178316
                    have f178319 := f178301.tr f178318 rfl
                    have f178320 := f178302.tr f178318 rfl
                    have f178321 := f178298.tr f178318 rfl
                    show wp _ _ 270 75 [(4, vI v178295), (3, vI v175961), (0, .ref r0), (1, vI a1), (2, vI a2)] [] _ H178313 _
                    refine wp_of e270 c270_75 (rw_iconst (pc' := 76) rfl ?_)
                    refine wp_of e270 c270_76 (rw_istore (pc' := 78) (z := 1) (L' := [(5, vI 1), (4, vI v178295), (3, vI v175961), (0, .ref r0), (1, vI a1), (2, vI a2)]) rfl rfl rfl ?_)
                    refine wp_of e270 c270_78 (rw_iconst (pc' := 79) rfl ?_)
                    refine wp_of e270 c270_79 (rw_istore (pc' := 81) (z := 0) (L' := [(6, vI 0), (5, vI 1), (4, vI v178295), (3, vI v175961), (0, .ref r0), (1, vI a1), (2, vI a2)]) rfl rfl rfl ?_)
                    have lp178518 : ∀ (n178519 : Nat) (v178521 : Int) (v178522 : Int), (0 ≤ v178521 ∧ v178521 ≤ 6) → (0 ≤ v178522 ∧ v178522 ≤ 1) → (6 - v178521).toNat = n178519 → wp kt 2 270 81 [(6, vI v178521), (5, vI v178522), (4, vI v178295), (3, vI v175961), (0, .ref r0), (1, vI a1), (2, vI a2)] [] T H178313 (q_270 r0 a1 a2 pp T H) := by
                      intro n178519
                      induction n178519 using Nat.strongRecOn with
                      | _ n178519 ih178520 =>
                        intro v178521 v178522 b178525 b178526 m178527
                        refine wp_of e270 c270_81 (rw_iload (pc' := 83) (z := v178521) rfl rfl ?_)
                        refine wp_of e270 c270_83 (rw_aload_n (pc' := 84) (v := .ref r0) rfl rfl rfl ?_)
                        have k178528 : H178313 r0 3 = H178296 r0 3 := (f178318 r0 3 _ g0 rfl)
                        have q178529 : H178313 r0 3 = (pp : Int) := k178528.trans q178310
                        refine wp_of e270 c270_84 (xg_K (pc' := 87) lf_9_337 w178317 g0 sh_42 (by decide) (by decide) rfl q178529 rfl ?_)
                        have k178530 : H178313 pp 3 = H176120 pp 3 := ((f178318 pp 3 _ gpp rfl).trans (f178298 pp 3 _ gpp rfl))
                        refine wp_of e270 c270_87 (xg_I (pc' := 90) lf_9_188 w178317 gpp sh_54 (by decide) (by decide) ty_54_3 rfl rfl (fun b178531 b178532 => ?_))
                        refine wp_of e270 c270_90 (rw_icmp_ge (p1 := 137) (p2 := 93) (by decide) rfl ⟨by omega, by omega⟩ ⟨by omega, by omega⟩ (fun c178533 => ?_) (fun c178533 => ?_))
                        · refine wp_of e270 c270_137 (rw_iload (pc' := 139) (z := v178522) rfl rfl ?_)
                          refine wp_of e270 c270_139 (rw_if_eq (p1 := 170) (p2 := 142) (by decide) rfl ⟨by omega, by omega⟩ (fun c178534 => ?_) (fun c178534 => ?_))
                          · refine wp_of e270 c270_170 (rw_iinc (pc' := 173) (z := v178295) (L' := [(4, vI (v178295 + 1)), (6, vI v178521), (5, vI v178522), (3, vI v175961), (0, .ref r0), (1, vI a1), (2, vI a2)]) rfl rfl rfl rfl ?_)
                            refine wp_of e270 c270_173 (rw_goto (p1 := 58) (by decide) ?_)
                            exact wp_lc (ks := [4, 6, 5, 3, 0, 1, 2]) (wl_c rfl (wl_c rfl (wl_c rfl (wl_c rfl (wl_c rfl wl_n))))) rfl (by decide) (ih178294 _ (by omega) (v178295 + 1) H178313 w178317 f178321 ⟨by omega, by omega⟩ rfl)
                          · refine wp_of e270 c270_142 (rw_iload_n (pc' := 143) (z := a2) rfl rfl ?_)
                            refine wp_of e270 c270_143 (rw_iconst (pc' := 144) rfl ?_)
                            refine wp_of e270 c270_144 (rw_icmp_eq (p1 := 168) (p2 := 147) (by decide) rfl ⟨by omega, by omega⟩ ⟨by omega, by omega⟩ (fun c178535 => ?_) (fun c178535 => ?_))
                            · refine wp_of e270 c270_168 (rw_iconst (pc' := 169) rfl ?_)
                              exact wp_zreturn e270 c270_169 rfl (by omega) ⟨rfl, w178317, f178319, 0, rfl, ⟨by omega, by omega⟩⟩
                            · refine wp_of e270 c270_147 (rw_aload_n (pc' := 148) (v := .ref r0) rfl rfl rfl ?_)
                              refine wp_of e270 c270_148 (rw_aload_n (pc' := 149) (v := .ref r0) rfl rfl rfl ?_)
                              refine wp_of e270 c270_149 (xg_R (pc' := 152) lf_9_39 w178317 g0 sh_42 (by decide) (by decide) ty_42_27 rfl rfl (fun r178536 q178537 g178538 => ?_))
                              refine wp_of e270 c270_152 (rw_iload_n (pc' := 153) (z := a2) rfl rfl ?_)
                              refine wp_of e270 c270_153 (xc_V (pc' := 156) (r := r0) (as := [.ref r178536, vI a2]) (st := []) (lm_9_455) rfl rfl (Nat.le_of_ble_eq_true rfl) w178317 g0 sh_42 (by decide) rfl (by decide) (s_262_m_lot w178317 g0 g178538 ⟨by omega, by omega⟩ q178529 gpp) (fun R178539 T178540 H178541 p178542 => ?_))
                              obtain ⟨e178543, e178545, z178546, e178544, b178547⟩ := p178542
                              subst e178543
                              subst e178544
                              subst e178545
                              show wp _ _ 270 156 [(6, vI v178521), (5, vI v178522), (4, vI v178295), (3, vI v175961), (0, .ref r0), (1, vI a1), (2, vI a2)] [vI z178546] _ H178313 _
                              refine wp_of e270 c270_156 (rw_aload_n (pc' := 157) (v := .ref r0) rfl rfl rfl ?_)
                              refine wp_of e270 c270_157 (rw_aload_n (pc' := 158) (v := .ref r0) rfl rfl rfl ?_)
                              refine wp_of e270 c270_158 (xg_R (pc' := 161) lf_9_45 w178317 g0 sh_42 (by decide) (by decide) ty_42_31 rfl rfl (fun r178548 q178549 g178550 => ?_))
                              refine wp_of e270 c270_161 (rw_iload_n (pc' := 162) (z := a2) rfl rfl ?_)
                              refine wp_of e270 c270_162 (xc_V (pc' := 165) (r := r0) (as := [.ref r178548, vI a2]) (st := [vI z178546]) (lm_9_455) rfl rfl (Nat.le_of_ble_eq_true rfl) w178317 g0 sh_42 (by decide) rfl (by decide) (s_262_m_one w178317 g0 g178550 ⟨by omega, by omega⟩ q178529 gpp) (fun R178551 T178552 H178553 p178554 => ?_))
                              obtain ⟨e178555, e178557, z178558, e178556, b178559⟩ := p178554
                              subst e178555
                              subst e178556
                              subst e178557
                              show wp _ _ 270 165 [(6, vI v178521), (5, vI v178522), (4, vI v178295), (3, vI v175961), (0, .ref r0), (1, vI a1), (2, vI a2)] [vI z178558, vI z178546] _ H178313 _
                              refine wp_of e270 c270_165 (rw_icmp_eq (p1 := 170) (p2 := 168) (by decide) rfl ⟨by omega, by omega⟩ ⟨by omega, by omega⟩ (fun c178560 => ?_) (fun c178560 => ?_))
                              · refine wp_of e270 c270_170 (rw_iinc (pc' := 173) (z := v178295) (L' := [(4, vI (v178295 + 1)), (6, vI v178521), (5, vI v178522), (3, vI v175961), (0, .ref r0), (1, vI a1), (2, vI a2)]) rfl rfl rfl rfl ?_)
                                refine wp_of e270 c270_173 (rw_goto (p1 := 58) (by decide) ?_)
                                exact wp_lc (ks := [4, 6, 5, 3, 0, 1, 2]) (wl_c rfl (wl_c rfl (wl_c rfl (wl_c rfl (wl_c rfl wl_n))))) rfl (by decide) (ih178294 _ (by omega) (v178295 + 1) H178313 w178317 f178321 ⟨by omega, by omega⟩ rfl)
                              · refine wp_of e270 c270_168 (rw_iconst (pc' := 169) rfl ?_)
                                exact wp_zreturn e270 c270_169 rfl (by omega) ⟨rfl, w178317, f178319, 0, rfl, ⟨by omega, by omega⟩⟩
                        · refine wp_of e270 c270_93 (rw_iload (pc' := 95) (z := v178522) rfl rfl ?_)
                          refine wp_of e270 c270_95 (rw_if_eq (p1 := 128) (p2 := 98) (by decide) rfl ⟨by omega, by omega⟩ (fun c178561 => ?_) (fun c178561 => ?_))
                          · refine wp_of e270 c270_128 (rw_iconst (pc' := 129) rfl ?_)
                            refine wp_of e270 c270_129 (rw_istore (pc' := 131) (z := 0) (L' := [(5, vI 0), (6, vI v178521), (4, vI v178295), (3, vI v175961), (0, .ref r0), (1, vI a1), (2, vI a2)]) rfl rfl rfl ?_)
                            refine wp_of e270 c270_131 (rw_iinc (pc' := 134) (z := v178521) (L' := [(6, vI (v178521 + 1)), (5, vI 0), (4, vI v178295), (3, vI v175961), (0, .ref r0), (1, vI a1), (2, vI a2)]) rfl rfl rfl rfl ?_)
                            refine wp_of e270 c270_134 (rw_goto (p1 := 81) (by decide) ?_)
                            exact wp_lc (ks := [6, 5, 4, 3, 0, 1, 2]) (wl_c rfl (wl_c rfl (wl_c rfl (wl_c rfl (wl_c rfl (wl_c rfl (wl_c rfl wl_n))))))) rfl (by decide) (ih178520 _ (by omega) (v178521 + 1) 0 ⟨by omega, by omega⟩ ⟨by omega, by omega⟩ rfl)
                          · refine wp_of e270 c270_98 (rw_iload_n (pc' := 99) (z := a1) rfl rfl ?_)
                            refine wp_of e270 c270_99 (rw_iload (pc' := 101) (z := v178521) rfl rfl ?_)
                            refine wp_of e270 c270_101 (xc_S (pc' := 104) (as := [vI a1, vI v178521]) (st := []) (lm_9_346) rfl rfl (Nat.le_of_ble_eq_true rfl) rfl (by decide) (s_205 w178317 ⟨by omega, by omega⟩ ⟨by omega, by omega⟩) (fun R178562 T178563 H178564 p178565 => ?_))
                            obtain ⟨e178566, e178568, z178569, e178567, b178570⟩ := p178565
                            subst e178566
                            subst e178567
                            subst e178568
                            show wp _ _ 270 104 [(6, vI v178521), (5, vI v178522), (4, vI v178295), (3, vI v175961), (0, .ref r0), (1, vI a1), (2, vI a2)] [vI z178569] _ H178313 _
                            refine wp_of e270 c270_104 (rw_if_eq (p1 := 124) (p2 := 107) (by decide) rfl ⟨by omega, by omega⟩ (fun c178571 => ?_) (fun c178571 => ?_))
                            · refine wp_of e270 c270_124 (rw_iconst (pc' := 125) rfl ?_)
                              refine wp_of e270 c270_125 (rw_goto (p1 := 129) (by decide) ?_)
                              refine wp_of e270 c270_129 (rw_istore (pc' := 131) (z := 1) (L' := [(5, vI 1), (6, vI v178521), (4, vI v178295), (3, vI v175961), (0, .ref r0), (1, vI a1), (2, vI a2)]) rfl rfl rfl ?_)
                              refine wp_of e270 c270_131 (rw_iinc (pc' := 134) (z := v178521) (L' := [(6, vI (v178521 + 1)), (5, vI 1), (4, vI v178295), (3, vI v175961), (0, .ref r0), (1, vI a1), (2, vI a2)]) rfl rfl rfl rfl ?_)
                              refine wp_of e270 c270_134 (rw_goto (p1 := 81) (by decide) ?_)
                              exact wp_lc (ks := [6, 5, 4, 3, 0, 1, 2]) (wl_c rfl (wl_c rfl (wl_c rfl (wl_c rfl (wl_c rfl (wl_c rfl (wl_c rfl wl_n))))))) rfl (by decide) (ih178520 _ (by omega) (v178521 + 1) 1 ⟨by omega, by omega⟩ ⟨by omega, by omega⟩ rfl)
                            · refine wp_of e270 c270_107 (rw_aload_n (pc' := 108) (v := .ref r0) rfl rfl rfl ?_)
                              refine wp_of e270 c270_108 (xg_R (pc' := 111) lf_9_39 w178317 g0 sh_42 (by decide) (by decide) ty_42_27 rfl rfl (fun r178572 q178573 g178574 => ?_))
                              refine wp_of e270 c270_111 (rw_iload (pc' := 113) (z := v178521) rfl rfl ?_)
                              refine wp_of e270 c270_113 (xa_I (so := 0) (pc' := 114) w178317 g178574 sh_51 (by decide) (ty_51 _) (by omega) (by omega) rfl (fun b178575 b178576 => ?_))
                              refine wp_of e270 c270_114 (rw_aload_n (pc' := 115) (v := .ref r0) rfl rfl rfl ?_)
                              refine wp_of e270 c270_115 (xg_R (pc' := 118) lf_9_45 w178317 g0 sh_42 (by decide) (by decide) ty_42_31 rfl rfl (fun r178577 q178578 g178579 => ?_))
                              refine wp_of e270 c270_118 (rw_iload (pc' := 120) (z := v178521) rfl rfl ?_)
                              refine wp_of e270 c270_120 (xa_I (so := 0) (pc' := 121) w178317 g178579 sh_53 (by decide) (ty_53 _) (by omega) (by omega) rfl (fun b178580 b178581 => ?_))
                              refine wp_of e270 c270_121 (rw_icmp_ne (p1 := 128) (p2 := 124) (by decide) rfl ⟨by omega, by omega⟩ ⟨by omega, by omega⟩ (fun c178582 => ?_) (fun c178582 => ?_))
                              · refine wp_of e270 c270_128 (rw_iconst (pc' := 129) rfl ?_)
                                refine wp_of e270 c270_129 (rw_istore (pc' := 131) (z := 0) (L' := [(5, vI 0), (6, vI v178521), (4, vI v178295), (3, vI v175961), (0, .ref r0), (1, vI a1), (2, vI a2)]) rfl rfl rfl ?_)
                                refine wp_of e270 c270_131 (rw_iinc (pc' := 134) (z := v178521) (L' := [(6, vI (v178521 + 1)), (5, vI 0), (4, vI v178295), (3, vI v175961), (0, .ref r0), (1, vI a1), (2, vI a2)]) rfl rfl rfl rfl ?_)
                                refine wp_of e270 c270_134 (rw_goto (p1 := 81) (by decide) ?_)
                                exact wp_lc (ks := [6, 5, 4, 3, 0, 1, 2]) (wl_c rfl (wl_c rfl (wl_c rfl (wl_c rfl (wl_c rfl (wl_c rfl (wl_c rfl wl_n))))))) rfl (by decide) (ih178520 _ (by omega) (v178521 + 1) 0 ⟨by omega, by omega⟩ ⟨by omega, by omega⟩ rfl)
                              · refine wp_of e270 c270_124 (rw_iconst (pc' := 125) rfl ?_)
                                refine wp_of e270 c270_125 (rw_goto (p1 := 129) (by decide) ?_)
                                refine wp_of e270 c270_129 (rw_istore (pc' := 131) (z := 1) (L' := [(5, vI 1), (6, vI v178521), (4, vI v178295), (3, vI v175961), (0, .ref r0), (1, vI a1), (2, vI a2)]) rfl rfl rfl ?_)
                                refine wp_of e270 c270_131 (rw_iinc (pc' := 134) (z := v178521) (L' := [(6, vI (v178521 + 1)), (5, vI 1), (4, vI v178295), (3, vI v175961), (0, .ref r0), (1, vI a1), (2, vI a2)]) rfl rfl rfl rfl ?_)
                                refine wp_of e270 c270_134 (rw_goto (p1 := 81) (by decide) ?_)
                                exact wp_lc (ks := [6, 5, 4, 3, 0, 1, 2]) (wl_c rfl (wl_c rfl (wl_c rfl (wl_c rfl (wl_c rfl (wl_c rfl (wl_c rfl wl_n))))))) rfl (by decide) (ih178520 _ (by omega) (v178521 + 1) 1 ⟨by omega, by omega⟩ ⟨by omega, by omega⟩ rfl)
                    exact wp_lc (ks := [6, 5, 4, 3, 0, 1, 2]) (wl_c rfl (wl_c rfl (wl_c rfl (wl_c rfl (wl_c rfl (wl_c rfl (wl_c rfl wl_n))))))) rfl (by decide) (lp178518 _ 0 1 ⟨by omega, by omega⟩ ⟨by omega, by omega⟩ rfl)
              exact wp_lc (ks := [4, 3, 0, 1, 2]) (wl_c rfl (wl_c rfl (wl_c rfl (wl_c rfl (wl_c rfl wl_n))))) rfl (by decide) (lp178292 _ 0 H176120 w176121 wfr.rf ⟨by omega, by omega⟩ rfl)
            · refine wp_of e270 c270_35 (rw_aload_n (pc' := 36) (v := .ref r0) rfl rfl rfl ?_)
              refine wp_of e270 c270_36 (xg_R (pc' := 39) lf_9_45 w176121 g0 sh_42 (by decide) (by decide) ty_42_31 rfl rfl (fun r178583 q178584 g178585 => ?_))
              refine wp_of e270 c270_39 (rw_iload (pc' := 41) (z := v176119) rfl rfl ?_)
              refine wp_of e270 c270_41 (rw_aload_n (pc' := 42) (v := .ref r0) rfl rfl rfl ?_)
              refine wp_of e270 c270_42 (xg_R (pc' := 45) lf_9_39 w176121 g0 sh_42 (by decide) (by decide) ty_42_27 rfl rfl (fun r178586 q178587 g178588 => ?_))
              refine wp_of e270 c270_45 (rw_iload (pc' := 47) (z := v176119) rfl rfl ?_)
              refine wp_of e270 c270_47 (xa_I (so := 0) (pc' := 48) w176121 g178588 sh_51 (by decide) (ty_51 _) (by omega) (by omega) rfl (fun b178589 b178590 => ?_))
              refine wp_of e270 c270_48 (xs_I (pc' := 49) w176121 g178585 (by decide) sh_53 (by decide) (ty_53 _) (by omega) (by omega) ⟨by omega, by omega⟩ (by omega) (by omega) rfl (fun H178591 e178592 w178593 => ?_))
              have f178594 := f176125.put' e178592 g178585 rfl
              have f178595 := f176126.put' e178592 g178585 rfl
              have f178596 := f176122.put' e178592 g178585 rfl
              refine wp_of e270 c270_49 (rw_iinc (pc' := 52) (z := v176119) (L' := [(4, vI (v176119 + 1)), (3, vI v175961), (0, .ref r0), (1, vI a1), (2, vI a2)]) rfl rfl rfl rfl ?_)
              refine wp_of e270 c270_52 (rw_goto (p1 := 23) (by decide) ?_)
              exact wp_lc (ks := [4, 3, 0, 1, 2]) (wl_c rfl (wl_c rfl (wl_c rfl (wl_c rfl (wl_c rfl wl_n))))) rfl (by decide) (ih176118 _ (by omega) (v176119 + 1) H178591 w178593 f178596 ⟨by omega, by omega⟩ rfl)
        exact wp_lc (ks := [4, 3, 0, 1, 2]) (wl_c rfl (wl_c rfl (wl_c rfl (wl_c rfl (wl_c rfl wl_n))))) rfl (by decide) (lp176116 _ 0 H175982 w175986 wfr.rf ⟨by omega, by omega⟩ rfl)
  exact wp_lc (ks := [3, 0, 1, 2]) (wl_c rfl (wl_c rfl (wl_c rfl (wl_c rfl wl_n)))) rfl (by decide) (lp175958 _ 0 H hW wfr.rf ⟨by omega, by omega⟩ rfl)
/-! StrikeAwakeModel.asked(I)I -/
theorem e268 : wq_en 268 = some (9, 4, false, some FieldType.int) := rfl
theorem cg268_0 : mc_cd 268 0 = some (.iconst (-1), 1) ∧ mc_cd 268 1 = some (.istore_n 2, 1) ∧ mc_cd 268 2 = some (.iconst 0, 1) ∧ mc_cd 268 3 = some (.istore_n 3, 1) ∧ mc_cd 268 4 = some (.iload_n 3, 1) ∧ mc_cd 268 5 = some (.iconst 1, 1) ∧ mc_cd 268 6 = some (.aload_n 0, 1) ∧ mc_cd 268 7 = some (.getfield 337, 3) := by decide +kernel
theorem c268_0 : mc_cd 268 0 = some (.iconst (-1), 1) := cg268_0.1
theorem c268_1 : mc_cd 268 1 = some (.istore_n 2, 1) := cg268_0.2.1
theorem c268_2 : mc_cd 268 2 = some (.iconst 0, 1) := cg268_0.2.2.1
theorem c268_3 : mc_cd 268 3 = some (.istore_n 3, 1) := cg268_0.2.2.2.1
theorem c268_4 : mc_cd 268 4 = some (.iload_n 3, 1) := cg268_0.2.2.2.2.1
theorem c268_5 : mc_cd 268 5 = some (.iconst 1, 1) := cg268_0.2.2.2.2.2.1
theorem c268_6 : mc_cd 268 6 = some (.aload_n 0, 1) := cg268_0.2.2.2.2.2.2.1
theorem c268_7 : mc_cd 268 7 = some (.getfield 337, 3) := cg268_0.2.2.2.2.2.2.2
theorem cg268_10 : mc_cd 268 10 = some (.getfield 188, 3) ∧ mc_cd 268 13 = some (.ishl, 1) ∧ mc_cd 268 14 = some (.if_icmp .ge 39, 3) ∧ mc_cd 268 17 = some (.iload_n 2, 1) ∧ mc_cd 268 18 = some (.iconst (-1), 1) ∧ mc_cd 268 19 = some (.if_icmp .eq 17, 3) ∧ mc_cd 268 22 = some (.iload_n 3, 1) ∧ mc_cd 268 23 = some (.invokestatic 462, 3) := by decide +kernel
theorem c268_10 : mc_cd 268 10 = some (.getfield 188, 3) := cg268_10.1
theorem c268_13 : mc_cd 268 13 = some (.ishl, 1) := cg268_10.2.1
theorem c268_14 : mc_cd 268 14 = some (.if_icmp .ge 39, 3) := cg268_10.2.2.1
theorem c268_17 : mc_cd 268 17 = some (.iload_n 2, 1) := cg268_10.2.2.2.1
theorem c268_18 : mc_cd 268 18 = some (.iconst (-1), 1) := cg268_10.2.2.2.2.1
theorem c268_19 : mc_cd 268 19 = some (.if_icmp .eq 17, 3) := cg268_10.2.2.2.2.2.1
theorem c268_22 : mc_cd 268 22 = some (.iload_n 3, 1) := cg268_10.2.2.2.2.2.2.1
theorem c268_23 : mc_cd 268 23 = some (.invokestatic 462, 3) := cg268_10.2.2.2.2.2.2.2
theorem cg268_26 : mc_cd 268 26 = some (.iload_n 2, 1) ∧ mc_cd 268 27 = some (.invokestatic 462, 3) ∧ mc_cd 268 30 = some (.if_icmp .lt 6, 3) ∧ mc_cd 268 33 = some (.goto 14, 3) ∧ mc_cd 268 36 = some (.aload_n 0, 1) ∧ mc_cd 268 37 = some (.iload_n 3, 1) ∧ mc_cd 268 38 = some (.iload_n 1, 1) ∧ mc_cd 268 39 = some (.invokevirtual 465, 3) := by decide +kernel
theorem c268_26 : mc_cd 268 26 = some (.iload_n 2, 1) := cg268_26.1
theorem c268_27 : mc_cd 268 27 = some (.invokestatic 462, 3) := cg268_26.2.1
theorem c268_30 : mc_cd 268 30 = some (.if_icmp .lt 6, 3) := cg268_26.2.2.1
theorem c268_33 : mc_cd 268 33 = some (.goto 14, 3) := cg268_26.2.2.2.1
theorem c268_36 : mc_cd 268 36 = some (.aload_n 0, 1) := cg268_26.2.2.2.2.1
theorem c268_37 : mc_cd 268 37 = some (.iload_n 3, 1) := cg268_26.2.2.2.2.2.1
theorem c268_38 : mc_cd 268 38 = some (.iload_n 1, 1) := cg268_26.2.2.2.2.2.2.1
theorem c268_39 : mc_cd 268 39 = some (.invokevirtual 465, 3) := cg268_26.2.2.2.2.2.2.2
theorem cg268_42 : mc_cd 268 42 = some (.ifCond .eq 5, 3) ∧ mc_cd 268 45 = some (.iload_n 3, 1) ∧ mc_cd 268 46 = some (.istore_n 2, 1) ∧ mc_cd 268 47 = some (.iinc 3 1, 3) ∧ mc_cd 268 50 = some (.goto (-46), 3) ∧ mc_cd 268 53 = some (.iload_n 2, 1) ∧ mc_cd 268 54 = some (.ireturn, 1) := by decide +kernel
theorem c268_42 : mc_cd 268 42 = some (.ifCond .eq 5, 3) := cg268_42.1
theorem c268_45 : mc_cd 268 45 = some (.iload_n 3, 1) := cg268_42.2.1
theorem c268_46 : mc_cd 268 46 = some (.istore_n 2, 1) := cg268_42.2.2.1
theorem c268_47 : mc_cd 268 47 = some (.iinc 3 1, 3) := cg268_42.2.2.2.1
theorem c268_50 : mc_cd 268 50 = some (.goto (-46), 3) := cg268_42.2.2.2.2.1
theorem c268_53 : mc_cd 268 53 = some (.iload_n 2, 1) := cg268_42.2.2.2.2.2.1
theorem c268_54 : mc_cd 268 54 = some (.ireturn, 1) := cg268_42.2.2.2.2.2.2
abbrev q_268 (r0 : Nat) (a1 : Int) (pp : Nat) (T : wq_T) (H : wq_H) : Option Value → wq_T → wq_H → Prop := fun r T' H' => T = T' ∧ WT T H' ∧ wfr [(51, 999), (53, 999)] T H H' ∧ ∃ z : Int, some (vI z) = r ∧ ((-2147483648) ≤ z ∧ z ≤ 2147483647)
set_option maxHeartbeats 4000000 in
theorem s_268 {kt : Nat → Option mc_E} {T : wq_T} {H : wq_H} {r0 : Nat} {a1 : Int} {pp : Nat} (hW : WT T H) (g0 : T.2.2.2 r0 = some 42) (i1 : (-2147483648) ≤ a1 ∧ a1 ≤ 2147483647) (qpp : H r0 3 = (pp : Int)) (gpp : T.2.2.2 pp = some 54) (p0 : H r0 29 = 0 ∨ 0 < wLM H r0) : wpc kt 4 268 [.ref r0, vI a1] T H (q_268 r0 a1 pp T H) := by
  refine wp_enter e268 (Nat.le_of_ble_eq_true rfl) rfl ?_
  have f0 : wfr [(51, 999), (53, 999)] T H H := wfr.rf
  show wp _ _ 268 0 [(0, .ref r0), (1, vI a1)] [] _ H _
  have b179060 : 0 ≤ H r0 29 ∧ H r0 29 ≤ 20000 := hW.box g0 (n := 33) rfl (by decide) rfl
  refine wp_of e268 c268_0 (rw_iconst (pc' := 1) rfl ?_)
  refine wp_of e268 c268_1 (rw_istore_n (pc' := 2) (z := -1) (L' := [(2, vI (-1)), (0, .ref r0), (1, vI a1)]) rfl rfl rfl ?_)
  refine wp_of e268 c268_2 (rw_iconst (pc' := 3) rfl ?_)
  refine wp_of e268 c268_3 (rw_istore_n (pc' := 4) (z := 0) (L' := [(3, vI 0), (2, vI (-1)), (0, .ref r0), (1, vI a1)]) rfl rfl rfl ?_)
  have lp179468 : ∀ (n179469 : Nat) (v179471 : Int) (v179472 : Int) (H179473 : wq_H), WT T H179473 → wfr [(51, 999), (53, 999)] T H H179473 → (0 ≤ v179471 ∧ v179471 ≤ 64) → ((-1) ≤ v179472 ∧ v179472 ≤ 64) → (64 - v179471).toNat = n179469 → wp kt 3 268 4 [(3, vI v179471), (2, vI v179472), (0, .ref r0), (1, vI a1)] [] T H179473 (q_268 r0 a1 pp T H) := by
    intro n179469
    induction n179469 using Nat.strongRecOn with
    | _ n179469 ih179470 =>
      intro v179471 v179472 H179473 w179474 f179475 b179476 b179477 m179478
      have f179479 := f0.tr f179475 rfl
      refine wp_of e268 c268_4 (rw_iload_n (pc' := 5) (z := v179471) rfl rfl ?_)
      refine wp_of e268 c268_5 (rw_iconst (pc' := 6) rfl ?_)
      refine wp_of e268 c268_6 (rw_aload_n (pc' := 7) (v := .ref r0) rfl rfl rfl ?_)
      have k179480 : H179473 r0 3 = H r0 3 := (f179475 r0 3 _ g0 rfl)
      have q179481 : H179473 r0 3 = (pp : Int) := k179480.trans qpp
      refine wp_of e268 c268_7 (xg_K (pc' := 10) lf_9_337 w179474 g0 sh_42 (by decide) (by decide) rfl q179481 rfl ?_)
      refine wp_of e268 c268_10 (xg_I (pc' := 13) lf_9_188 w179474 gpp sh_54 (by decide) (by decide) ty_54_3 rfl rfl (fun b179482 b179483 => ?_))
      refine wp_of e268 c268_13 (rw_ishl (pc' := 14) rfl ?_)
      obtain ⟨v179484, e179485⟩ : ∃ x : Int, x = wq_shl 1 (H179473 pp 3) := ⟨_, rfl⟩
      rw [← e179485]
      have b179486 : 1 ≤ v179484 ∧ v179484 ≤ 64 := by
        rw [e179485]
        exact wq_shl1_6 ⟨by omega, by omega⟩
      refine wp_of e268 c268_14 (rw_icmp_ge (p1 := 53) (p2 := 17) (by decide) rfl ⟨by omega, by omega⟩ ⟨by omega, by omega⟩ (fun c179487 => ?_) (fun c179487 => ?_))
      · refine wp_of e268 c268_53 (rw_iload_n (pc' := 54) (z := v179472) rfl rfl ?_)
        exact wp_ireturn e268 c268_54 rfl ⟨rfl, w179474, f179479, v179472, rfl, ⟨by omega, by omega⟩⟩
      · refine wp_of e268 c268_17 (rw_iload_n (pc' := 18) (z := v179472) rfl rfl ?_)
        refine wp_of e268 c268_18 (rw_iconst (pc' := 19) rfl ?_)
        refine wp_of e268 c268_19 (rw_icmp_eq (p1 := 36) (p2 := 22) (by decide) rfl ⟨by omega, by omega⟩ ⟨by omega, by omega⟩ (fun c179488 => ?_) (fun c179488 => ?_))
        · refine wp_of e268 c268_36 (rw_aload_n (pc' := 37) (v := .ref r0) rfl rfl rfl ?_)
          refine wp_of e268 c268_37 (rw_iload_n (pc' := 38) (z := v179471) rfl rfl ?_)
          refine wp_of e268 c268_38 (rw_iload_n (pc' := 39) (z := a1) rfl rfl ?_)
          have k179489 : H179473 r0 29 = H r0 29 := (f179475 r0 29 _ g0 rfl)
          have k179490 : wLM H179473 r0 = wLM H r0 := (wLM_fr hW g0 f179475 rfl)
          refine wp_of e268 c268_39 (xc_V (pc' := 42) (r := r0) (as := [vI v179471, vI a1]) (st := []) (lm_9_465) rfl rfl (Nat.le_of_ble_eq_true rfl) w179474 g0 sh_42 (by decide) rfl (by decide) (s_270 w179474 g0 ⟨by omega, by omega⟩ ⟨by omega, by omega⟩ q179481 gpp (by omega)) (fun R179491 T179492 H179493 p179494 => ?_))
          obtain ⟨e179495, w179497, f179498, z179499, e179496, b179500⟩ := p179494
          subst e179495
          subst e179496
          have f179501 := f179479.tr f179498 rfl
          have f179502 := f179475.tr f179498 rfl
          show wp _ _ 268 42 [(3, vI v179471), (2, vI v179472), (0, .ref r0), (1, vI a1)] [vI z179499] _ H179493 _
          refine wp_of e268 c268_42 (rw_if_eq (p1 := 47) (p2 := 45) (by decide) rfl ⟨by omega, by omega⟩ (fun c179503 => ?_) (fun c179503 => ?_))
          · refine wp_of e268 c268_47 (rw_iinc (pc' := 50) (z := v179471) (L' := [(3, vI (v179471 + 1)), (2, vI v179472), (0, .ref r0), (1, vI a1)]) rfl rfl rfl rfl ?_)
            refine wp_of e268 c268_50 (rw_goto (p1 := 4) (by decide) ?_)
            exact wp_lc (ks := [3, 2, 0, 1]) (wl_c rfl (wl_c rfl (wl_c rfl (wl_c rfl wl_n)))) rfl (by decide) (ih179470 _ (by omega) (v179471 + 1) v179472 H179493 w179497 f179502 ⟨by omega, by omega⟩ ⟨by omega, by omega⟩ rfl)
          · refine wp_of e268 c268_45 (rw_iload_n (pc' := 46) (z := v179471) rfl rfl ?_)
            refine wp_of e268 c268_46 (rw_istore_n (pc' := 47) (z := v179471) (L' := [(2, vI v179471), (3, vI v179471), (0, .ref r0), (1, vI a1)]) rfl rfl rfl ?_)
            refine wp_of e268 c268_47 (rw_iinc (pc' := 50) (z := v179471) (L' := [(3, vI (v179471 + 1)), (2, vI v179471), (0, .ref r0), (1, vI a1)]) rfl rfl rfl rfl ?_)
            refine wp_of e268 c268_50 (rw_goto (p1 := 4) (by decide) ?_)
            exact wp_lc (ks := [3, 2, 0, 1]) (wl_c rfl (wl_c rfl (wl_c rfl (wl_c rfl wl_n)))) rfl (by decide) (ih179470 _ (by omega) (v179471 + 1) v179471 H179493 w179497 f179502 ⟨by omega, by omega⟩ ⟨by omega, by omega⟩ rfl)
        · refine wp_of e268 c268_22 (rw_iload_n (pc' := 23) (z := v179471) rfl rfl ?_)
          refine wp_of e268 c268_23 (xc_S (pc' := 26) (as := [vI v179471]) (st := []) (lm_9_462) rfl rfl (Nat.le_of_ble_eq_true rfl) rfl (by decide) (s_269 w179474 ⟨by omega, by omega⟩) (fun R179504 T179505 H179506 p179507 => ?_))
          obtain ⟨e179508, e179510, z179511, e179509, b179512⟩ := p179507
          subst e179508
          subst e179509
          subst e179510
          show wp _ _ 268 26 [(3, vI v179471), (2, vI v179472), (0, .ref r0), (1, vI a1)] [vI z179511] _ H179473 _
          refine wp_of e268 c268_26 (rw_iload_n (pc' := 27) (z := v179472) rfl rfl ?_)
          refine wp_of e268 c268_27 (xc_S (pc' := 30) (as := [vI v179472]) (st := [vI z179511]) (lm_9_462) rfl rfl (Nat.le_of_ble_eq_true rfl) rfl (by decide) (s_269 w179474 ⟨by omega, by omega⟩) (fun R179513 T179514 H179515 p179516 => ?_))
          obtain ⟨e179517, e179519, z179520, e179518, b179521⟩ := p179516
          subst e179517
          subst e179518
          subst e179519
          show wp _ _ 268 30 [(3, vI v179471), (2, vI v179472), (0, .ref r0), (1, vI a1)] [vI z179520, vI z179511] _ H179473 _
          refine wp_of e268 c268_30 (rw_icmp_lt (p1 := 36) (p2 := 33) (by decide) rfl ⟨by omega, by omega⟩ ⟨by omega, by omega⟩ (fun c179522 => ?_) (fun c179522 => ?_))
          · refine wp_of e268 c268_36 (rw_aload_n (pc' := 37) (v := .ref r0) rfl rfl rfl ?_)
            refine wp_of e268 c268_37 (rw_iload_n (pc' := 38) (z := v179471) rfl rfl ?_)
            refine wp_of e268 c268_38 (rw_iload_n (pc' := 39) (z := a1) rfl rfl ?_)
            have k179523 : H179473 r0 29 = H r0 29 := (f179475 r0 29 _ g0 rfl)
            have k179524 : wLM H179473 r0 = wLM H r0 := (wLM_fr hW g0 f179475 rfl)
            refine wp_of e268 c268_39 (xc_V (pc' := 42) (r := r0) (as := [vI v179471, vI a1]) (st := []) (lm_9_465) rfl rfl (Nat.le_of_ble_eq_true rfl) w179474 g0 sh_42 (by decide) rfl (by decide) (s_270 w179474 g0 ⟨by omega, by omega⟩ ⟨by omega, by omega⟩ q179481 gpp (by omega)) (fun R179525 T179526 H179527 p179528 => ?_))
            obtain ⟨e179529, w179531, f179532, z179533, e179530, b179534⟩ := p179528
            subst e179529
            subst e179530
            have f179535 := f179479.tr f179532 rfl
            have f179536 := f179475.tr f179532 rfl
            show wp _ _ 268 42 [(3, vI v179471), (2, vI v179472), (0, .ref r0), (1, vI a1)] [vI z179533] _ H179527 _
            refine wp_of e268 c268_42 (rw_if_eq (p1 := 47) (p2 := 45) (by decide) rfl ⟨by omega, by omega⟩ (fun c179537 => ?_) (fun c179537 => ?_))
            · refine wp_of e268 c268_47 (rw_iinc (pc' := 50) (z := v179471) (L' := [(3, vI (v179471 + 1)), (2, vI v179472), (0, .ref r0), (1, vI a1)]) rfl rfl rfl rfl ?_)
              refine wp_of e268 c268_50 (rw_goto (p1 := 4) (by decide) ?_)
              exact wp_lc (ks := [3, 2, 0, 1]) (wl_c rfl (wl_c rfl (wl_c rfl (wl_c rfl wl_n)))) rfl (by decide) (ih179470 _ (by omega) (v179471 + 1) v179472 H179527 w179531 f179536 ⟨by omega, by omega⟩ ⟨by omega, by omega⟩ rfl)
            · refine wp_of e268 c268_45 (rw_iload_n (pc' := 46) (z := v179471) rfl rfl ?_)
              refine wp_of e268 c268_46 (rw_istore_n (pc' := 47) (z := v179471) (L' := [(2, vI v179471), (3, vI v179471), (0, .ref r0), (1, vI a1)]) rfl rfl rfl ?_)
              refine wp_of e268 c268_47 (rw_iinc (pc' := 50) (z := v179471) (L' := [(3, vI (v179471 + 1)), (2, vI v179471), (0, .ref r0), (1, vI a1)]) rfl rfl rfl rfl ?_)
              refine wp_of e268 c268_50 (rw_goto (p1 := 4) (by decide) ?_)
              exact wp_lc (ks := [3, 2, 0, 1]) (wl_c rfl (wl_c rfl (wl_c rfl (wl_c rfl wl_n)))) rfl (by decide) (ih179470 _ (by omega) (v179471 + 1) v179471 H179527 w179531 f179536 ⟨by omega, by omega⟩ ⟨by omega, by omega⟩ rfl)
          · refine wp_of e268 c268_33 (rw_goto (p1 := 47) (by decide) ?_)
            refine wp_of e268 c268_47 (rw_iinc (pc' := 50) (z := v179471) (L' := [(3, vI (v179471 + 1)), (2, vI v179472), (0, .ref r0), (1, vI a1)]) rfl rfl rfl rfl ?_)
            refine wp_of e268 c268_50 (rw_goto (p1 := 4) (by decide) ?_)
            exact wp_lc (ks := [3, 2, 0, 1]) (wl_c rfl (wl_c rfl (wl_c rfl (wl_c rfl wl_n)))) rfl (by decide) (ih179470 _ (by omega) (v179471 + 1) v179472 H179473 w179474 f179475 ⟨by omega, by omega⟩ ⟨by omega, by omega⟩ rfl)
  exact wp_lc (ks := [3, 2, 0, 1]) (wl_c rfl (wl_c rfl (wl_c rfl (wl_c rfl wl_n)))) rfl (by decide) (lp179468 _ 0 (-1) H hW wfr.rf ⟨by omega, by omega⟩ ⟨by omega, by omega⟩ rfl)
/-! StrikeAwakeModel.ask()I -/
theorem e266 : wq_en 266 = some (9, 2, false, some FieldType.int) := rfl
theorem cg266_0 : mc_cd 266 0 = some (.aload_n 0, 1) ∧ mc_cd 266 1 = some (.iconst 0, 1) ∧ mc_cd 266 2 = some (.putfield 48, 3) ∧ mc_cd 266 5 = some (.aload_n 0, 1) ∧ mc_cd 266 6 = some (.aload_n 0, 1) ∧ mc_cd 266 7 = some (.getfield 337, 3) ∧ mc_cd 266 10 = some (.ifnull 7, 3) ∧ mc_cd 266 13 = some (.iconst 1, 1) := by decide +kernel
theorem c266_0 : mc_cd 266 0 = some (.aload_n 0, 1) := cg266_0.1
theorem c266_1 : mc_cd 266 1 = some (.iconst 0, 1) := cg266_0.2.1
theorem c266_2 : mc_cd 266 2 = some (.putfield 48, 3) := cg266_0.2.2.1
theorem c266_5 : mc_cd 266 5 = some (.aload_n 0, 1) := cg266_0.2.2.2.1
theorem c266_6 : mc_cd 266 6 = some (.aload_n 0, 1) := cg266_0.2.2.2.2.1
theorem c266_7 : mc_cd 266 7 = some (.getfield 337, 3) := cg266_0.2.2.2.2.2.1
theorem c266_10 : mc_cd 266 10 = some (.ifnull 7, 3) := cg266_0.2.2.2.2.2.2.1
theorem c266_13 : mc_cd 266 13 = some (.iconst 1, 1) := cg266_0.2.2.2.2.2.2.2
theorem cg266_14 : mc_cd 266 14 = some (.goto 4, 3) ∧ mc_cd 266 17 = some (.iconst 0, 1) ∧ mc_cd 266 18 = some (.invokevirtual 467, 3) ∧ mc_cd 266 21 = some (.istore_n 1, 1) ∧ mc_cd 266 22 = some (.iload_n 1, 1) ∧ mc_cd 266 23 = some (.ifCond .le 11, 3) ∧ mc_cd 266 26 = some (.aload_n 0, 1) ∧ mc_cd 266 27 = some (.iload_n 1, 1) := by decide +kernel
theorem c266_14 : mc_cd 266 14 = some (.goto 4, 3) := cg266_14.1
theorem c266_17 : mc_cd 266 17 = some (.iconst 0, 1) := cg266_14.2.1
theorem c266_18 : mc_cd 266 18 = some (.invokevirtual 467, 3) := cg266_14.2.2.1
theorem c266_21 : mc_cd 266 21 = some (.istore_n 1, 1) := cg266_14.2.2.2.1
theorem c266_22 : mc_cd 266 22 = some (.iload_n 1, 1) := cg266_14.2.2.2.2.1
theorem c266_23 : mc_cd 266 23 = some (.ifCond .le 11, 3) := cg266_14.2.2.2.2.2.1
theorem c266_26 : mc_cd 266 26 = some (.aload_n 0, 1) := cg266_14.2.2.2.2.2.2.1
theorem c266_27 : mc_cd 266 27 = some (.iload_n 1, 1) := cg266_14.2.2.2.2.2.2.2
theorem cg266_28 : mc_cd 266 28 = some (.invokevirtual 54, 3) ∧ mc_cd 266 31 = some (.goto 12, 3) ∧ mc_cd 266 34 = some (.aload_n 0, 1) ∧ mc_cd 266 35 = some (.aload_n 0, 1) ∧ mc_cd 266 36 = some (.iconst (-1), 1) ∧ mc_cd 266 37 = some (.invokevirtual 470, 3) ∧ mc_cd 266 40 = some (.invokevirtual 58, 3) ∧ mc_cd 266 43 = some (.ireturn, 1) := by decide +kernel
theorem c266_28 : mc_cd 266 28 = some (.invokevirtual 54, 3) := cg266_28.1
theorem c266_31 : mc_cd 266 31 = some (.goto 12, 3) := cg266_28.2.1
theorem c266_34 : mc_cd 266 34 = some (.aload_n 0, 1) := cg266_28.2.2.1
theorem c266_35 : mc_cd 266 35 = some (.aload_n 0, 1) := cg266_28.2.2.2.1
theorem c266_36 : mc_cd 266 36 = some (.iconst (-1), 1) := cg266_28.2.2.2.2.1
theorem c266_37 : mc_cd 266 37 = some (.invokevirtual 470, 3) := cg266_28.2.2.2.2.2.1
theorem c266_40 : mc_cd 266 40 = some (.invokevirtual 58, 3) := cg266_28.2.2.2.2.2.2.1
theorem c266_43 : mc_cd 266 43 = some (.ireturn, 1) := cg266_28.2.2.2.2.2.2.2
/-! StrikeAwakeModel.askFor(I)I -/
theorem e271 : wq_en 271 = some (9, 3, false, some FieldType.int) := rfl
theorem cg271_0 : mc_cd 271 0 = some (.aload_n 0, 1) ∧ mc_cd 271 1 = some (.iconst 0, 1) ∧ mc_cd 271 2 = some (.putfield 48, 3) ∧ mc_cd 271 5 = some (.aload_n 0, 1) ∧ mc_cd 271 6 = some (.aload_n 0, 1) ∧ mc_cd 271 7 = some (.iload_n 1, 1) ∧ mc_cd 271 8 = some (.invokevirtual 373, 3) ∧ mc_cd 271 11 = some (.invokevirtual 467, 3) := by decide +kernel
theorem c271_0 : mc_cd 271 0 = some (.aload_n 0, 1) := cg271_0.1
theorem c271_1 : mc_cd 271 1 = some (.iconst 0, 1) := cg271_0.2.1
theorem c271_2 : mc_cd 271 2 = some (.putfield 48, 3) := cg271_0.2.2.1
theorem c271_5 : mc_cd 271 5 = some (.aload_n 0, 1) := cg271_0.2.2.2.1
theorem c271_6 : mc_cd 271 6 = some (.aload_n 0, 1) := cg271_0.2.2.2.2.1
theorem c271_7 : mc_cd 271 7 = some (.iload_n 1, 1) := cg271_0.2.2.2.2.2.1
theorem c271_8 : mc_cd 271 8 = some (.invokevirtual 373, 3) := cg271_0.2.2.2.2.2.2.1
theorem c271_11 : mc_cd 271 11 = some (.invokevirtual 467, 3) := cg271_0.2.2.2.2.2.2.2
theorem cg271_14 : mc_cd 271 14 = some (.istore_n 2, 1) ∧ mc_cd 271 15 = some (.iload_n 2, 1) ∧ mc_cd 271 16 = some (.ifCond .le 11, 3) ∧ mc_cd 271 19 = some (.aload_n 0, 1) ∧ mc_cd 271 20 = some (.iload_n 2, 1) ∧ mc_cd 271 21 = some (.invokevirtual 54, 3) ∧ mc_cd 271 24 = some (.goto 12, 3) ∧ mc_cd 271 27 = some (.aload_n 0, 1) := by decide +kernel
theorem c271_14 : mc_cd 271 14 = some (.istore_n 2, 1) := cg271_14.1
theorem c271_15 : mc_cd 271 15 = some (.iload_n 2, 1) := cg271_14.2.1
theorem c271_16 : mc_cd 271 16 = some (.ifCond .le 11, 3) := cg271_14.2.2.1
theorem c271_19 : mc_cd 271 19 = some (.aload_n 0, 1) := cg271_14.2.2.2.1
theorem c271_20 : mc_cd 271 20 = some (.iload_n 2, 1) := cg271_14.2.2.2.2.1
theorem c271_21 : mc_cd 271 21 = some (.invokevirtual 54, 3) := cg271_14.2.2.2.2.2.1
theorem c271_24 : mc_cd 271 24 = some (.goto 12, 3) := cg271_14.2.2.2.2.2.2.1
theorem c271_27 : mc_cd 271 27 = some (.aload_n 0, 1) := cg271_14.2.2.2.2.2.2.2
theorem cg271_28 : mc_cd 271 28 = some (.aload_n 0, 1) ∧ mc_cd 271 29 = some (.iload_n 1, 1) ∧ mc_cd 271 30 = some (.invokevirtual 470, 3) ∧ mc_cd 271 33 = some (.invokevirtual 58, 3) ∧ mc_cd 271 36 = some (.ireturn, 1) := by decide +kernel
theorem c271_28 : mc_cd 271 28 = some (.aload_n 0, 1) := cg271_28.1
theorem c271_29 : mc_cd 271 29 = some (.iload_n 1, 1) := cg271_28.2.1
theorem c271_30 : mc_cd 271 30 = some (.invokevirtual 470, 3) := cg271_28.2.2.1
theorem c271_33 : mc_cd 271 33 = some (.invokevirtual 58, 3) := cg271_28.2.2.2.1
theorem c271_36 : mc_cd 271 36 = some (.ireturn, 1) := cg271_28.2.2.2.2
/-! StrikeAwakeModel.isTold(I)Z -/
theorem e273 : wq_en 273 = some (9, 2, false, some FieldType.boolean) := rfl
theorem cg273_0 : mc_cd 273 0 = some (.aload_n 0, 1) ∧ mc_cd 273 1 = some (.getfield 337, 3) ∧ mc_cd 273 4 = some (.ifnull 22, 3) ∧ mc_cd 273 7 = some (.iload_n 1, 1) ∧ mc_cd 273 8 = some (.ifCond .lt 18, 3) ∧ mc_cd 273 11 = some (.iload_n 1, 1) ∧ mc_cd 273 12 = some (.aload_n 0, 1) ∧ mc_cd 273 13 = some (.getfield 337, 3) := by decide +kernel
theorem c273_0 : mc_cd 273 0 = some (.aload_n 0, 1) := cg273_0.1
theorem c273_1 : mc_cd 273 1 = some (.getfield 337, 3) := cg273_0.2.1
theorem c273_4 : mc_cd 273 4 = some (.ifnull 22, 3) := cg273_0.2.2.1
theorem c273_7 : mc_cd 273 7 = some (.iload_n 1, 1) := cg273_0.2.2.2.1
theorem c273_8 : mc_cd 273 8 = some (.ifCond .lt 18, 3) := cg273_0.2.2.2.2.1
theorem c273_11 : mc_cd 273 11 = some (.iload_n 1, 1) := cg273_0.2.2.2.2.2.1
theorem c273_12 : mc_cd 273 12 = some (.aload_n 0, 1) := cg273_0.2.2.2.2.2.2.1
theorem c273_13 : mc_cd 273 13 = some (.getfield 337, 3) := cg273_0.2.2.2.2.2.2.2
theorem cg273_16 : mc_cd 273 16 = some (.getfield 306, 3) ∧ mc_cd 273 19 = some (.if_icmp .ge 7, 3) ∧ mc_cd 273 22 = some (.iconst 1, 1) ∧ mc_cd 273 23 = some (.goto 4, 3) ∧ mc_cd 273 26 = some (.iconst 0, 1) ∧ mc_cd 273 27 = some (.ireturn, 1) := by decide +kernel
theorem c273_16 : mc_cd 273 16 = some (.getfield 306, 3) := cg273_16.1
theorem c273_19 : mc_cd 273 19 = some (.if_icmp .ge 7, 3) := cg273_16.2.1
theorem c273_22 : mc_cd 273 22 = some (.iconst 1, 1) := cg273_16.2.2.1
theorem c273_23 : mc_cd 273 23 = some (.goto 4, 3) := cg273_16.2.2.2.1
theorem c273_26 : mc_cd 273 26 = some (.iconst 0, 1) := cg273_16.2.2.2.2.1
theorem c273_27 : mc_cd 273 27 = some (.ireturn, 1) := cg273_16.2.2.2.2.2
abbrev q_273 (r0 : Nat) (a1 : Int) (T : wq_T) (H : wq_H) : Option Value → wq_T → wq_H → Prop := fun r T' H' => T = T' ∧ H = H' ∧ ∃ z : Int, some (vI z) = r ∧ (0 ≤ z ∧ z ≤ 1) ∧ (z = 0 ∨ (H r0 3 ≠ -1 ∧ 0 ≤ a1 ∧ a1 ≤ 3))
set_option maxHeartbeats 4000000 in
theorem s_273 {kt : Nat → Option mc_E} {T : wq_T} {H : wq_H} {r0 : Nat} {a1 : Int} (hW : WT T H) (g0 : T.2.2.2 r0 = some 42) (i1 : (-2147483648) ≤ a1 ∧ a1 ≤ 2147483647) : wpc kt 1 273 [.ref r0, vI a1] T H (q_273 r0 a1 T H) := by
  refine wp_enter e273 (Nat.le_of_ble_eq_true rfl) rfl ?_
  show wp _ _ 273 0 [(0, .ref r0), (1, vI a1)] [] _ H _
  refine wp_of e273 c273_0 (rw_aload_n (pc' := 1) (v := .ref r0) rfl rfl rfl ?_)
  refine wp_of e273 c273_1 (xg_O (pc' := 4) lf_9_337 hW g0 sh_42 (by decide) (by decide) ty_42_3 rfl rfl (fun q179870 => ?_) (fun r179869 q179870 g179871 => ?_))
  · refine wp_of e273 c273_4 (rw_ifnull_n (p1 := 26) (p2 := 7) (by decide) rfl ?_)
    refine wp_of e273 c273_26 (rw_iconst (pc' := 27) rfl ?_)
    exact wp_zreturn e273 c273_27 rfl (by omega) ⟨rfl, rfl, 0, rfl, ⟨by omega, by omega⟩, by omega⟩
  · refine wp_of e273 c273_4 (rw_ifnull_r (p1 := 26) (p2 := 7) (by decide) rfl ?_)
    refine wp_of e273 c273_7 (rw_iload_n (pc' := 8) (z := a1) rfl rfl ?_)
    refine wp_of e273 c273_8 (rw_if_lt (p1 := 26) (p2 := 11) (by decide) rfl ⟨by omega, by omega⟩ (fun c179872 => ?_) (fun c179872 => ?_))
    · refine wp_of e273 c273_26 (rw_iconst (pc' := 27) rfl ?_)
      exact wp_zreturn e273 c273_27 rfl (by omega) ⟨rfl, rfl, 0, rfl, ⟨by omega, by omega⟩, by omega⟩
    · refine wp_of e273 c273_11 (rw_iload_n (pc' := 12) (z := a1) rfl rfl ?_)
      refine wp_of e273 c273_12 (rw_aload_n (pc' := 13) (v := .ref r0) rfl rfl rfl ?_)
      refine wp_of e273 c273_13 (xg_K (pc' := 16) lf_9_337 hW g0 sh_42 (by decide) (by decide) rfl q179870 rfl ?_)
      refine wp_of e273 c273_16 (xg_I (pc' := 19) lf_9_306 hW g179871 sh_54 (by decide) (by decide) ty_54_6 rfl rfl (fun b179873 b179874 => ?_))
      refine wp_of e273 c273_19 (rw_icmp_ge (p1 := 26) (p2 := 22) (by decide) rfl ⟨by omega, by omega⟩ ⟨by omega, by omega⟩ (fun c179875 => ?_) (fun c179875 => ?_))
      · refine wp_of e273 c273_26 (rw_iconst (pc' := 27) rfl ?_)
        exact wp_zreturn e273 c273_27 rfl (by omega) ⟨rfl, rfl, 0, rfl, ⟨by omega, by omega⟩, by omega⟩
      · refine wp_of e273 c273_22 (rw_iconst (pc' := 23) rfl ?_)
        refine wp_of e273 c273_23 (rw_goto (p1 := 27) (by decide) ?_)
        exact wp_zreturn e273 c273_27 rfl (by omega) ⟨rfl, rfl, 1, rfl, ⟨by omega, by omega⟩, by omega⟩
/-! StrikeAwakeModel.barsOf(I)I -/
theorem e274 : wq_en 274 = some (9, 7, false, some FieldType.int) := rfl
theorem cg274_0 : mc_cd 274 0 = some (.aload_n 0, 1) ∧ mc_cd 274 1 = some (.getfield 337, 3) ∧ mc_cd 274 4 = some (.getfield 312, 3) ∧ mc_cd 274 7 = some (.iload_n 1, 1) ∧ mc_cd 274 8 = some (.iaload, 1) ∧ mc_cd 274 9 = some (.istore_n 2, 1) ∧ mc_cd 274 10 = some (.aload_n 0, 1) ∧ mc_cd 274 11 = some (.getfield 337, 3) := by decide +kernel
theorem c274_0 : mc_cd 274 0 = some (.aload_n 0, 1) := cg274_0.1
theorem c274_1 : mc_cd 274 1 = some (.getfield 337, 3) := cg274_0.2.1
theorem c274_4 : mc_cd 274 4 = some (.getfield 312, 3) := cg274_0.2.2.1
theorem c274_7 : mc_cd 274 7 = some (.iload_n 1, 1) := cg274_0.2.2.2.1
theorem c274_8 : mc_cd 274 8 = some (.iaload, 1) := cg274_0.2.2.2.2.1
theorem c274_9 : mc_cd 274 9 = some (.istore_n 2, 1) := cg274_0.2.2.2.2.2.1
theorem c274_10 : mc_cd 274 10 = some (.aload_n 0, 1) := cg274_0.2.2.2.2.2.2.1
theorem c274_11 : mc_cd 274 11 = some (.getfield 337, 3) := cg274_0.2.2.2.2.2.2.2
theorem cg274_14 : mc_cd 274 14 = some (.getfield 315, 3) ∧ mc_cd 274 17 = some (.iload_n 1, 1) ∧ mc_cd 274 18 = some (.iaload, 1) ∧ mc_cd 274 19 = some (.aload_n 0, 1) ∧ mc_cd 274 20 = some (.getfield 343, 3) ∧ mc_cd 274 23 = some (.iand, 1) ∧ mc_cd 274 24 = some (.istore_n 3, 1) ∧ mc_cd 274 25 = some (.sipush (-1000), 3) := by decide +kernel
theorem c274_14 : mc_cd 274 14 = some (.getfield 315, 3) := cg274_14.1
theorem c274_17 : mc_cd 274 17 = some (.iload_n 1, 1) := cg274_14.2.1
theorem c274_18 : mc_cd 274 18 = some (.iaload, 1) := cg274_14.2.2.1
theorem c274_19 : mc_cd 274 19 = some (.aload_n 0, 1) := cg274_14.2.2.2.1
theorem c274_20 : mc_cd 274 20 = some (.getfield 343, 3) := cg274_14.2.2.2.2.1
theorem c274_23 : mc_cd 274 23 = some (.iand, 1) := cg274_14.2.2.2.2.2.1
theorem c274_24 : mc_cd 274 24 = some (.istore_n 3, 1) := cg274_14.2.2.2.2.2.2.1
theorem c274_25 : mc_cd 274 25 = some (.sipush (-1000), 3) := cg274_14.2.2.2.2.2.2.2
theorem cg274_28 : mc_cd 274 28 = some (.istore 4, 2) ∧ mc_cd 274 30 = some (.iconst 0, 1) ∧ mc_cd 274 31 = some (.istore 5, 2) ∧ mc_cd 274 33 = some (.iload 5, 2) ∧ mc_cd 274 35 = some (.i2l, 1) ∧ mc_cd 274 36 = some (.aload_n 0, 1) ∧ mc_cd 274 37 = some (.invokevirtual 376, 3) ∧ mc_cd 274 40 = some (.lcmp, 1) := by decide +kernel
theorem c274_28 : mc_cd 274 28 = some (.istore 4, 2) := cg274_28.1
theorem c274_30 : mc_cd 274 30 = some (.iconst 0, 1) := cg274_28.2.1
theorem c274_31 : mc_cd 274 31 = some (.istore 5, 2) := cg274_28.2.2.1
theorem c274_33 : mc_cd 274 33 = some (.iload 5, 2) := cg274_28.2.2.2.1
theorem c274_35 : mc_cd 274 35 = some (.i2l, 1) := cg274_28.2.2.2.2.1
theorem c274_36 : mc_cd 274 36 = some (.aload_n 0, 1) := cg274_28.2.2.2.2.2.1
theorem c274_37 : mc_cd 274 37 = some (.invokevirtual 376, 3) := cg274_28.2.2.2.2.2.2.1
theorem c274_40 : mc_cd 274 40 = some (.lcmp, 1) := cg274_28.2.2.2.2.2.2.2
theorem cg274_41 : mc_cd 274 41 = some (.ifCond .ge 82, 3) ∧ mc_cd 274 44 = some (.aload_n 0, 1) ∧ mc_cd 274 45 = some (.iload 5, 2) ∧ mc_cd 274 47 = some (.invokevirtual 425, 3) ∧ mc_cd 274 50 = some (.iload_n 3, 1) ∧ mc_cd 274 51 = some (.aload_n 0, 1) ∧ mc_cd 274 52 = some (.getfield 30, 3) ∧ mc_cd 274 55 = some (.bipush 40, 2) := by decide +kernel
theorem c274_41 : mc_cd 274 41 = some (.ifCond .ge 82, 3) := cg274_41.1
theorem c274_44 : mc_cd 274 44 = some (.aload_n 0, 1) := cg274_41.2.1
theorem c274_45 : mc_cd 274 45 = some (.iload 5, 2) := cg274_41.2.2.1
theorem c274_47 : mc_cd 274 47 = some (.invokevirtual 425, 3) := cg274_41.2.2.2.1
theorem c274_50 : mc_cd 274 50 = some (.iload_n 3, 1) := cg274_41.2.2.2.2.1
theorem c274_51 : mc_cd 274 51 = some (.aload_n 0, 1) := cg274_41.2.2.2.2.2.1
theorem c274_52 : mc_cd 274 52 = some (.getfield 30, 3) := cg274_41.2.2.2.2.2.2.1
theorem c274_55 : mc_cd 274 55 = some (.bipush 40, 2) := cg274_41.2.2.2.2.2.2.2
theorem cg274_57 : mc_cd 274 57 = some (.iload_n 2, 1) ∧ mc_cd 274 58 = some (.imul, 1) ∧ mc_cd 274 59 = some (.aload_n 0, 1) ∧ mc_cd 274 60 = some (.getfield 39, 3) ∧ mc_cd 274 63 = some (.iload_n 2, 1) ∧ mc_cd 274 64 = some (.iaload, 1) ∧ mc_cd 274 65 = some (.iadd, 1) ∧ mc_cd 274 66 = some (.iaload, 1) := by decide +kernel
theorem c274_57 : mc_cd 274 57 = some (.iload_n 2, 1) := cg274_57.1
theorem c274_58 : mc_cd 274 58 = some (.imul, 1) := cg274_57.2.1
theorem c274_59 : mc_cd 274 59 = some (.aload_n 0, 1) := cg274_57.2.2.1
theorem c274_60 : mc_cd 274 60 = some (.getfield 39, 3) := cg274_57.2.2.2.1
theorem c274_63 : mc_cd 274 63 = some (.iload_n 2, 1) := cg274_57.2.2.2.2.1
theorem c274_64 : mc_cd 274 64 = some (.iaload, 1) := cg274_57.2.2.2.2.2.1
theorem c274_65 : mc_cd 274 65 = some (.iadd, 1) := cg274_57.2.2.2.2.2.2.1
theorem c274_66 : mc_cd 274 66 = some (.iaload, 1) := cg274_57.2.2.2.2.2.2.2
theorem cg274_67 : mc_cd 274 67 = some (.iconst (-1), 1) ∧ mc_cd 274 68 = some (.ixor, 1) ∧ mc_cd 274 69 = some (.iand, 1) ∧ mc_cd 274 70 = some (.ifCond .ne 47, 3) ∧ mc_cd 274 73 = some (.aload_n 0, 1) ∧ mc_cd 274 74 = some (.aload_n 0, 1) ∧ mc_cd 274 75 = some (.getfield 39, 3) ∧ mc_cd 274 78 = some (.invokevirtual 393, 3) := by decide +kernel
theorem c274_67 : mc_cd 274 67 = some (.iconst (-1), 1) := cg274_67.1
theorem c274_68 : mc_cd 274 68 = some (.ixor, 1) := cg274_67.2.1
theorem c274_69 : mc_cd 274 69 = some (.iand, 1) := cg274_67.2.2.1
theorem c274_70 : mc_cd 274 70 = some (.ifCond .ne 47, 3) := cg274_67.2.2.2.1
theorem c274_73 : mc_cd 274 73 = some (.aload_n 0, 1) := cg274_67.2.2.2.2.1
theorem c274_74 : mc_cd 274 74 = some (.aload_n 0, 1) := cg274_67.2.2.2.2.2.1
theorem c274_75 : mc_cd 274 75 = some (.getfield 39, 3) := cg274_67.2.2.2.2.2.2.1
theorem c274_78 : mc_cd 274 78 = some (.invokevirtual 393, 3) := cg274_67.2.2.2.2.2.2.2
theorem cg274_81 : mc_cd 274 81 = some (.ifCond .eq 6, 3) ∧ mc_cd 274 84 = some (.goto 33, 3) ∧ mc_cd 274 87 = some (.aload_n 0, 1) ∧ mc_cd 274 88 = some (.aload_n 0, 1) ∧ mc_cd 274 89 = some (.getfield 39, 3) ∧ mc_cd 274 92 = some (.aload_n 0, 1) ∧ mc_cd 274 93 = some (.getfield 343, 3) ∧ mc_cd 274 96 = some (.invokevirtual 397, 3) := by decide +kernel
theorem c274_81 : mc_cd 274 81 = some (.ifCond .eq 6, 3) := cg274_81.1
theorem c274_84 : mc_cd 274 84 = some (.goto 33, 3) := cg274_81.2.1
theorem c274_87 : mc_cd 274 87 = some (.aload_n 0, 1) := cg274_81.2.2.1
theorem c274_88 : mc_cd 274 88 = some (.aload_n 0, 1) := cg274_81.2.2.2.1
theorem c274_89 : mc_cd 274 89 = some (.getfield 39, 3) := cg274_81.2.2.2.2.1
theorem c274_92 : mc_cd 274 92 = some (.aload_n 0, 1) := cg274_81.2.2.2.2.2.1
theorem c274_93 : mc_cd 274 93 = some (.getfield 343, 3) := cg274_81.2.2.2.2.2.2.1
theorem c274_96 : mc_cd 274 96 = some (.invokevirtual 397, 3) := cg274_81.2.2.2.2.2.2.2
theorem cg274_99 : mc_cd 274 99 = some (.istore 6, 2) ∧ mc_cd 274 101 = some (.iload 6, 2) ∧ mc_cd 274 103 = some (.iload 4, 2) ∧ mc_cd 274 105 = some (.if_icmp .le 8, 3) ∧ mc_cd 274 108 = some (.iload 6, 2) ∧ mc_cd 274 110 = some (.goto 5, 3) ∧ mc_cd 274 113 = some (.iload 4, 2) ∧ mc_cd 274 115 = some (.istore 4, 2) := by decide +kernel
theorem c274_99 : mc_cd 274 99 = some (.istore 6, 2) := cg274_99.1
theorem c274_101 : mc_cd 274 101 = some (.iload 6, 2) := cg274_99.2.1
theorem c274_103 : mc_cd 274 103 = some (.iload 4, 2) := cg274_99.2.2.1
theorem c274_105 : mc_cd 274 105 = some (.if_icmp .le 8, 3) := cg274_99.2.2.2.1
theorem c274_108 : mc_cd 274 108 = some (.iload 6, 2) := cg274_99.2.2.2.2.1
theorem c274_110 : mc_cd 274 110 = some (.goto 5, 3) := cg274_99.2.2.2.2.2.1
theorem c274_113 : mc_cd 274 113 = some (.iload 4, 2) := cg274_99.2.2.2.2.2.2.1
theorem c274_115 : mc_cd 274 115 = some (.istore 4, 2) := cg274_99.2.2.2.2.2.2.2
theorem cg274_117 : mc_cd 274 117 = some (.iinc 5 1, 3) ∧ mc_cd 274 120 = some (.goto (-87), 3) ∧ mc_cd 274 123 = some (.iload 4, 2) ∧ mc_cd 274 125 = some (.ireturn, 1) := by decide +kernel
theorem c274_117 : mc_cd 274 117 = some (.iinc 5 1, 3) := cg274_117.1
theorem c274_120 : mc_cd 274 120 = some (.goto (-87), 3) := cg274_117.2.1
theorem c274_123 : mc_cd 274 123 = some (.iload 4, 2) := cg274_117.2.2.1
theorem c274_125 : mc_cd 274 125 = some (.ireturn, 1) := cg274_117.2.2.2
abbrev q_274 (r0 : Nat) (a1 : Int) (pp : Nat) (T : wq_T) (H : wq_H) : Option Value → wq_T → wq_H → Prop := fun r T' H' => T = T' ∧ WT T H' ∧ wfr [(51, 999)] T H H' ∧ ∃ z : Int, some (vI z) = r ∧ ((-2147483648) ≤ z ∧ z ≤ 2147483647)
set_option maxHeartbeats 4000000 in
theorem s_274 {kt : Nat → Option mc_E} {T : wq_T} {H : wq_H} {r0 : Nat} {a1 : Int} {pp : Nat} (hW : WT T H) (g0 : T.2.2.2 r0 = some 42) (i1 : 0 ≤ a1 ∧ a1 ≤ 3) (qpp : H r0 3 = (pp : Int)) (gpp : T.2.2.2 pp = some 54) (p0 : wLM H r0 ≤ 20000) : wpc kt 5 274 [.ref r0, vI a1] T H (q_274 r0 a1 pp T H) := by
  refine wp_enter e274 (Nat.le_of_ble_eq_true rfl) rfl ?_
  have f0 : wfr [(51, 999)] T H H := wfr.rf
  show wp _ _ 274 0 [(0, .ref r0), (1, vI a1)] [] _ H _
  refine wp_of e274 c274_0 (rw_aload_n (pc' := 1) (v := .ref r0) rfl rfl rfl ?_)
  refine wp_of e274 c274_1 (xg_K (pc' := 4) lf_9_337 hW g0 sh_42 (by decide) (by decide) rfl qpp rfl ?_)
  refine wp_of e274 c274_4 (xg_R (pc' := 7) lf_9_312 hW gpp sh_54 (by decide) (by decide) ty_54_22 rfl rfl (fun r180467 q180468 g180469 => ?_))
  refine wp_of e274 c274_7 (rw_iload_n (pc' := 8) (z := a1) rfl rfl ?_)
  refine wp_of e274 c274_8 (xa_I (so := 0) (pc' := 9) hW g180469 sh_68 (by decide) (ty_68 _) (by omega) (by omega) rfl (fun b180470 b180471 => ?_))
  refine wp_of e274 c274_9 (rw_istore_n (pc' := 10) (z := H r180467 (a1.toNat)) (L' := [(2, vI (H r180467 (a1.toNat))), (0, .ref r0), (1, vI a1)]) rfl rfl rfl ?_)
  refine wp_of e274 c274_10 (rw_aload_n (pc' := 11) (v := .ref r0) rfl rfl rfl ?_)
  refine wp_of e274 c274_11 (xg_K (pc' := 14) lf_9_337 hW g0 sh_42 (by decide) (by decide) rfl qpp rfl ?_)
  refine wp_of e274 c274_14 (xg_R (pc' := 17) lf_9_315 hW gpp sh_54 (by decide) (by decide) ty_54_23 rfl rfl (fun r180472 q180473 g180474 => ?_))
  refine wp_of e274 c274_17 (rw_iload_n (pc' := 18) (z := a1) rfl rfl ?_)
  refine wp_of e274 c274_18 (xa_I (so := 0) (pc' := 19) hW g180474 sh_69 (by decide) (ty_69 _) (by omega) (by omega) rfl (fun b180475 b180476 => ?_))
  refine wp_of e274 c274_19 (rw_aload_n (pc' := 20) (v := .ref r0) rfl rfl rfl ?_)
  refine wp_of e274 c274_20 (xg_I (pc' := 23) lf_9_343 hW g0 sh_42 (by decide) (by decide) ty_42_19 rfl rfl (fun b180477 b180478 => ?_))
  refine wp_of e274 c274_23 (rw_iand (pc' := 24) rfl ?_)
  obtain ⟨v180479, e180480⟩ : ∃ x : Int, x = wq_and (H r180472 (a1.toNat)) (H r0 19) := ⟨_, rfl⟩
  rw [← e180480]
  have b180481 : -2147483648 ≤ v180479 ∧ v180479 ≤ 2147483647 := by
    rw [e180480]
    exact wI_and _ _
  refine wp_of e274 c274_24 (rw_istore_n (pc' := 25) (z := v180479) (L' := [(3, vI v180479), (2, vI (H r180467 (a1.toNat))), (0, .ref r0), (1, vI a1)]) rfl rfl rfl ?_)
  refine wp_of e274 c274_25 (rw_sipush (pc' := 28) (z := -1000) rfl (by decide) ?_)
  refine wp_of e274 c274_28 (rw_istore (pc' := 30) (z := -1000) (L' := [(4, vI (-1000)), (3, vI v180479), (2, vI (H r180467 (a1.toNat))), (0, .ref r0), (1, vI a1)]) rfl rfl rfl ?_)
  refine wp_of e274 c274_30 (rw_iconst (pc' := 31) rfl ?_)
  refine wp_of e274 c274_31 (rw_istore (pc' := 33) (z := 0) (L' := [(5, vI 0), (4, vI (-1000)), (3, vI v180479), (2, vI (H r180467 (a1.toNat))), (0, .ref r0), (1, vI a1)]) rfl rfl rfl ?_)
  have lp180994 : ∀ (n180995 : Nat) (v180997 : Int) (v180998 : Int) (H180999 : wq_H), WT T H180999 → wfr [(51, 999)] T H H180999 → (0 ≤ v180997 ∧ v180997 ≤ 20000) → ((-1000) ≤ v180998 ∧ v180998 ≤ 24) → (20000 - v180997).toNat = n180995 → wp kt 4 274 33 [(5, vI v180997), (4, vI v180998), (3, vI v180479), (2, vI (H r180467 (a1.toNat))), (0, .ref r0)] [] T H180999 (q_274 r0 a1 pp T H) := by
    intro n180995
    induction n180995 using Nat.strongRecOn with
    | _ n180995 ih180996 =>
      intro v180997 v180998 H180999 w181000 f181001 b181002 b181003 m181004
      have f181005 := f0.tr f181001 rfl
      refine wp_of e274 c274_33 (rw_iload (pc' := 35) (z := v180997) rfl rfl ?_)
      refine wp_of e274 c274_35 (rw_i2l (pc' := 36) rfl ⟨by omega, by omega⟩ ?_)
      refine wp_of e274 c274_36 (rw_aload_n (pc' := 37) (v := .ref r0) rfl rfl rfl ?_)
      have k181006 : wLM H180999 r0 = wLM H r0 := (wLM_fr hW g0 f181001 rfl)
      have k181007 : H180999 r0 3 = H r0 3 := (f181001 r0 3 _ g0 rfl)
      have q181008 : H180999 r0 3 = (pp : Int) := k181007.trans qpp
      refine wp_of e274 c274_37 (xc_V (pc' := 40) (r := r0) (as := []) (st := [vL v180997]) (lm_9_376) rfl rfl (Nat.le_of_ble_eq_true rfl) w181000 g0 sh_42 (by decide) rfl (by decide) (s_220 w181000 g0 q181008 gpp) (fun R181009 T181010 H181011 p181012 => ?_))
      obtain ⟨e181013, e181015, z181017, e181014, b181018, p181016⟩ := p181012
      subst e181013
      subst e181014
      subst e181015
      show wp _ _ 274 40 [(5, vI v180997), (4, vI v180998), (3, vI v180479), (2, vI (H r180467 (a1.toNat))), (0, .ref r0)] [vL z181017, vL v180997] _ H180999 _
      refine wp_of e274 c274_40 (rw_lcmp (pc' := 41) rfl ⟨by omega, by omega⟩ ⟨by omega, by omega⟩ ?_)
      have b181019 := wq_cmp_b v180997 z181017
      refine wp_of e274 c274_41 (rw_if_ge (p1 := 123) (p2 := 44) (by decide) rfl ⟨by omega, by omega⟩ (fun c181020 => ?_) (fun c181020 => ?_))
      · refine wp_of e274 c274_123 (rw_iload (pc' := 125) (z := v180998) rfl rfl ?_)
        exact wp_ireturn e274 c274_125 rfl ⟨rfl, w181000, f181005, v180998, rfl, ⟨by omega, by omega⟩⟩
      · refine wp_of e274 c274_44 (rw_aload_n (pc' := 45) (v := .ref r0) rfl rfl rfl ?_)
        refine wp_of e274 c274_45 (rw_iload (pc' := 47) (z := v180997) rfl rfl ?_)
        refine wp_of e274 c274_47 (xc_V (pc' := 50) (r := r0) (as := [vI v180997]) (st := []) (lm_9_425) rfl rfl (Nat.le_of_ble_eq_true rfl) w181000 g0 sh_42 (by decide) rfl (by decide) (s_243 w181000 g0 ⟨by omega, by omega⟩ q181008 gpp (by omega)) (fun R181021 T181022 H181023 p181024 => ?_))
        obtain ⟨e181025, w181027, f181028, e181026⟩ := p181024
        subst e181025
        subst e181026
        have f181029 := f181005.tr f181028 rfl
        have f181030 := f181001.tr f181028 rfl
        show wp _ _ 274 50 [(5, vI v180997), (4, vI v180998), (3, vI v180479), (2, vI (H r180467 (a1.toNat))), (0, .ref r0)] [] _ H181023 _
        refine wp_of e274 c274_50 (rw_iload_n (pc' := 51) (z := v180479) rfl rfl ?_)
        refine wp_of e274 c274_51 (rw_aload_n (pc' := 52) (v := .ref r0) rfl rfl rfl ?_)
        refine wp_of e274 c274_52 (xg_R (pc' := 55) lf_9_30 w181027 g0 sh_42 (by decide) (by decide) ty_42_24 rfl rfl (fun r181031 q181032 g181033 => ?_))
        refine wp_of e274 c274_55 (rw_bipush (pc' := 57) (z := 40) rfl (by decide) ?_)
        refine wp_of e274 c274_57 (rw_iload_n (pc' := 58) (z := H r180467 (a1.toNat)) rfl rfl ?_)
        refine wp_of e274 c274_58 (rw_imul (pc' := 59) rfl ?_)
        refine wp_of e274 c274_59 (rw_aload_n (pc' := 60) (v := .ref r0) rfl rfl rfl ?_)
        refine wp_of e274 c274_60 (xg_R (pc' := 63) lf_9_39 w181027 g0 sh_42 (by decide) (by decide) ty_42_27 rfl rfl (fun r181034 q181035 g181036 => ?_))
        refine wp_of e274 c274_63 (rw_iload_n (pc' := 64) (z := H r180467 (a1.toNat)) rfl rfl ?_)
        refine wp_of e274 c274_64 (xa_I (so := 0) (pc' := 65) w181027 g181036 sh_51 (by decide) (ty_51 _) (by omega) (by omega) rfl (fun b181037 b181038 => ?_))
        refine wp_of e274 c274_65 (rw_iadd (pc' := 66) rfl ?_)
        refine wp_of e274 c274_66 (xa_I (so := 0) (pc' := 67) w181027 g181033 sh_48 (by decide) (ty_48 _) (by omega) (by omega) rfl (fun b181039 b181040 => ?_))
        refine wp_of e274 c274_67 (rw_iconst (pc' := 68) rfl ?_)
        refine wp_of e274 c274_68 (rw_ixor (pc' := 69) rfl ?_)
        obtain ⟨v181041, e181042⟩ : ∃ x : Int, x = wq_xor (H181023 r181031 (((40 * (H r180467 (a1.toNat))) + (H181023 r181034 ((H r180467 (a1.toNat)).toNat))).toNat)) (-1) := ⟨_, rfl⟩
        rw [← e181042]
        have b181043 : -2147483648 ≤ v181041 ∧ v181041 ≤ 2147483647 := by
          rw [e181042]
          exact wI_xor _ _
        refine wp_of e274 c274_69 (rw_iand (pc' := 70) rfl ?_)
        obtain ⟨v181044, e181045⟩ : ∃ x : Int, x = wq_and v180479 v181041 := ⟨_, rfl⟩
        rw [← e181045]
        have b181046 : -2147483648 ≤ v181044 ∧ v181044 ≤ 2147483647 := by
          rw [e181045]
          exact wI_and _ _
        refine wp_of e274 c274_70 (rw_if_ne (p1 := 117) (p2 := 73) (by decide) rfl ⟨by omega, by omega⟩ (fun c181047 => ?_) (fun c181047 => ?_))
        · refine wp_of e274 c274_117 (rw_iinc (pc' := 120) (z := v180997) (L' := [(5, vI (v180997 + 1)), (4, vI v180998), (3, vI v180479), (2, vI (H r180467 (a1.toNat))), (0, .ref r0)]) rfl rfl rfl rfl ?_)
          refine wp_of e274 c274_120 (rw_goto (p1 := 33) (by decide) ?_)
          exact wp_lc (ks := [5, 4, 3, 2, 0]) (wl_c rfl (wl_c rfl (wl_c rfl (wl_c rfl (wl_c rfl wl_n))))) rfl (by decide) (ih180996 _ (by omega) (v180997 + 1) v180998 H181023 w181027 f181030 ⟨by omega, by omega⟩ ⟨by omega, by omega⟩ rfl)
        · refine wp_of e274 c274_73 (rw_aload_n (pc' := 74) (v := .ref r0) rfl rfl rfl ?_)
          refine wp_of e274 c274_74 (rw_aload_n (pc' := 75) (v := .ref r0) rfl rfl rfl ?_)
          refine wp_of e274 c274_75 (xg_K (pc' := 78) lf_9_39 w181027 g0 sh_42 (by decide) (by decide) rfl q181035 rfl ?_)
          have k181048 : H181023 r0 3 = H180999 r0 3 := (f181028 r0 3 _ g0 rfl)
          have q181049 : H181023 r0 3 = (pp : Int) := k181048.trans q181008
          refine wp_of e274 c274_78 (xc_V (pc' := 81) (r := r0) (as := [.ref r181034]) (st := []) (lm_9_393) rfl rfl (Nat.le_of_ble_eq_true rfl) w181027 g0 sh_42 (by decide) rfl (by decide) (s_235_m_lot w181027 g0 g181036 q181049 gpp) (fun R181050 T181051 H181052 p181053 => ?_))
          obtain ⟨e181054, e181056, z181057, e181055, b181058⟩ := p181053
          subst e181054
          subst e181055
          subst e181056
          show wp _ _ 274 81 [(5, vI v180997), (4, vI v180998), (3, vI v180479), (2, vI (H r180467 (a1.toNat))), (0, .ref r0)] [vI z181057] _ H181023 _
          refine wp_of e274 c274_81 (rw_if_eq (p1 := 87) (p2 := 84) (by decide) rfl ⟨by omega, by omega⟩ (fun c181059 => ?_) (fun c181059 => ?_))
          · refine wp_of e274 c274_87 (rw_aload_n (pc' := 88) (v := .ref r0) rfl rfl rfl ?_)
            refine wp_of e274 c274_88 (rw_aload_n (pc' := 89) (v := .ref r0) rfl rfl rfl ?_)
            refine wp_of e274 c274_89 (xg_K (pc' := 92) lf_9_39 w181027 g0 sh_42 (by decide) (by decide) rfl q181035 rfl ?_)
            refine wp_of e274 c274_92 (rw_aload_n (pc' := 93) (v := .ref r0) rfl rfl rfl ?_)
            have k181060 : H181023 r0 19 = H r0 19 := ((f181028 r0 19 _ g0 rfl).trans (f181001 r0 19 _ g0 rfl))
            refine wp_of e274 c274_93 (xg_I (pc' := 96) lf_9_343 w181027 g0 sh_42 (by decide) (by decide) ty_42_19 rfl rfl (fun b181061 b181062 => ?_))
            refine wp_of e274 c274_96 (xc_V (pc' := 99) (r := r0) (as := [.ref r181034, vI (H181023 r0 19)]) (st := []) (lm_9_397) rfl rfl (Nat.le_of_ble_eq_true rfl) w181027 g0 sh_42 (by decide) rfl (by decide) (s_239_m_lot w181027 g0 g181036 ⟨by omega, by omega⟩ q181049 gpp) (fun R181063 T181064 H181065 p181066 => ?_))
            obtain ⟨e181067, e181069, z181070, e181068, b181071⟩ := p181066
            subst e181067
            subst e181068
            subst e181069
            show wp _ _ 274 99 [(5, vI v180997), (4, vI v180998), (3, vI v180479), (2, vI (H r180467 (a1.toNat))), (0, .ref r0)] [vI z181070] _ H181023 _
            refine wp_of e274 c274_99 (rw_istore (pc' := 101) (z := z181070) (L' := [(6, vI z181070), (5, vI v180997), (4, vI v180998), (3, vI v180479), (2, vI (H r180467 (a1.toNat))), (0, .ref r0)]) rfl rfl rfl ?_)
            refine wp_of e274 c274_101 (rw_iload (pc' := 103) (z := z181070) rfl rfl ?_)
            refine wp_of e274 c274_103 (rw_iload (pc' := 105) (z := v180998) rfl rfl ?_)
            refine wp_of e274 c274_105 (rw_icmp_le (p1 := 113) (p2 := 108) (by decide) rfl ⟨by omega, by omega⟩ ⟨by omega, by omega⟩ (fun c181072 => ?_) (fun c181072 => ?_))
            · refine wp_of e274 c274_113 (rw_iload (pc' := 115) (z := v180998) rfl rfl ?_)
              refine wp_of e274 c274_115 (rw_istore (pc' := 117) (z := v180998) (L' := [(4, vI v180998), (6, vI z181070), (5, vI v180997), (3, vI v180479), (2, vI (H r180467 (a1.toNat))), (0, .ref r0)]) rfl rfl rfl ?_)
              refine wp_of e274 c274_117 (rw_iinc (pc' := 120) (z := v180997) (L' := [(5, vI (v180997 + 1)), (4, vI v180998), (6, vI z181070), (3, vI v180479), (2, vI (H r180467 (a1.toNat))), (0, .ref r0)]) rfl rfl rfl rfl ?_)
              refine wp_of e274 c274_120 (rw_goto (p1 := 33) (by decide) ?_)
              exact wp_lc (ks := [5, 4, 6, 3, 2, 0]) (wl_c rfl (wl_c rfl (wl_c rfl (wl_c rfl (wl_c rfl wl_n))))) rfl (by decide) (ih180996 _ (by omega) (v180997 + 1) v180998 H181023 w181027 f181030 ⟨by omega, by omega⟩ ⟨by omega, by omega⟩ rfl)
            · refine wp_of e274 c274_108 (rw_iload (pc' := 110) (z := z181070) rfl rfl ?_)
              refine wp_of e274 c274_110 (rw_goto (p1 := 115) (by decide) ?_)
              refine wp_of e274 c274_115 (rw_istore (pc' := 117) (z := z181070) (L' := [(4, vI z181070), (6, vI z181070), (5, vI v180997), (3, vI v180479), (2, vI (H r180467 (a1.toNat))), (0, .ref r0)]) rfl rfl rfl ?_)
              refine wp_of e274 c274_117 (rw_iinc (pc' := 120) (z := v180997) (L' := [(5, vI (v180997 + 1)), (4, vI z181070), (6, vI z181070), (3, vI v180479), (2, vI (H r180467 (a1.toNat))), (0, .ref r0)]) rfl rfl rfl rfl ?_)
              refine wp_of e274 c274_120 (rw_goto (p1 := 33) (by decide) ?_)
              exact wp_lc (ks := [5, 4, 6, 3, 2, 0]) (wl_c rfl (wl_c rfl (wl_c rfl (wl_c rfl (wl_c rfl wl_n))))) rfl (by decide) (ih180996 _ (by omega) (v180997 + 1) z181070 H181023 w181027 f181030 ⟨by omega, by omega⟩ ⟨by omega, by omega⟩ rfl)
          · refine wp_of e274 c274_84 (rw_goto (p1 := 117) (by decide) ?_)
            refine wp_of e274 c274_117 (rw_iinc (pc' := 120) (z := v180997) (L' := [(5, vI (v180997 + 1)), (4, vI v180998), (3, vI v180479), (2, vI (H r180467 (a1.toNat))), (0, .ref r0)]) rfl rfl rfl rfl ?_)
            refine wp_of e274 c274_120 (rw_goto (p1 := 33) (by decide) ?_)
            exact wp_lc (ks := [5, 4, 3, 2, 0]) (wl_c rfl (wl_c rfl (wl_c rfl (wl_c rfl (wl_c rfl wl_n))))) rfl (by decide) (ih180996 _ (by omega) (v180997 + 1) v180998 H181023 w181027 f181030 ⟨by omega, by omega⟩ ⟨by omega, by omega⟩ rfl)
  exact wp_lc (ks := [5, 4, 3, 2, 0, 1]) (wl_c rfl (wl_c rfl (wl_c rfl (wl_c rfl (wl_c rfl wl_n))))) rfl (by decide) (lp180994 _ 0 (-1000) H hW wfr.rf ⟨by omega, by omega⟩ ⟨by omega, by omega⟩ rfl)
end
section
/-! methods of the reference (own work, written by wip/gen2/sx.py) -/
/-! StrikeAwakeModel.lie(I)I -/
theorem e272 : wq_en 272 = some (9, 3, false, some FieldType.int) := rfl
theorem cg272_0 : mc_cd 272 0 = some (.aload_n 0, 1) ∧ mc_cd 272 1 = some (.iconst 0, 1) ∧ mc_cd 272 2 = some (.putfield 48, 3) ∧ mc_cd 272 5 = some (.aload_n 0, 1) ∧ mc_cd 272 6 = some (.aload_n 0, 1) ∧ mc_cd 272 7 = some (.iload_n 1, 1) ∧ mc_cd 272 8 = some (.invokevirtual 473, 3) ∧ mc_cd 272 11 = some (.invokevirtual 433, 3) := by decide +kernel
theorem c272_0 : mc_cd 272 0 = some (.aload_n 0, 1) := cg272_0.1
theorem c272_1 : mc_cd 272 1 = some (.iconst 0, 1) := cg272_0.2.1
theorem c272_2 : mc_cd 272 2 = some (.putfield 48, 3) := cg272_0.2.2.1
theorem c272_5 : mc_cd 272 5 = some (.aload_n 0, 1) := cg272_0.2.2.2.1
theorem c272_6 : mc_cd 272 6 = some (.aload_n 0, 1) := cg272_0.2.2.2.2.1
theorem c272_7 : mc_cd 272 7 = some (.iload_n 1, 1) := cg272_0.2.2.2.2.2.1
theorem c272_8 : mc_cd 272 8 = some (.invokevirtual 473, 3) := cg272_0.2.2.2.2.2.2.1
theorem c272_11 : mc_cd 272 11 = some (.invokevirtual 433, 3) := cg272_0.2.2.2.2.2.2.2
theorem cg272_14 : mc_cd 272 14 = some (.istore_n 2, 1) ∧ mc_cd 272 15 = some (.iload_n 2, 1) ∧ mc_cd 272 16 = some (.ifCond .le 11, 3) ∧ mc_cd 272 19 = some (.aload_n 0, 1) ∧ mc_cd 272 20 = some (.iload_n 2, 1) ∧ mc_cd 272 21 = some (.invokevirtual 54, 3) ∧ mc_cd 272 24 = some (.goto 22, 3) ∧ mc_cd 272 27 = some (.aload_n 0, 1) := by decide +kernel
theorem c272_14 : mc_cd 272 14 = some (.istore_n 2, 1) := cg272_14.1
theorem c272_15 : mc_cd 272 15 = some (.iload_n 2, 1) := cg272_14.2.1
theorem c272_16 : mc_cd 272 16 = some (.ifCond .le 11, 3) := cg272_14.2.2.1
theorem c272_19 : mc_cd 272 19 = some (.aload_n 0, 1) := cg272_14.2.2.2.1
theorem c272_20 : mc_cd 272 20 = some (.iload_n 2, 1) := cg272_14.2.2.2.2.1
theorem c272_21 : mc_cd 272 21 = some (.invokevirtual 54, 3) := cg272_14.2.2.2.2.2.1
theorem c272_24 : mc_cd 272 24 = some (.goto 22, 3) := cg272_14.2.2.2.2.2.2.1
theorem c272_27 : mc_cd 272 27 = some (.aload_n 0, 1) := cg272_14.2.2.2.2.2.2.2
theorem cg272_28 : mc_cd 272 28 = some (.aload_n 0, 1) ∧ mc_cd 272 29 = some (.iload_n 1, 1) ∧ mc_cd 272 30 = some (.invokevirtual 476, 3) ∧ mc_cd 272 33 = some (.bipush 24, 2) ∧ mc_cd 272 35 = some (.if_icmp .ne 7, 3) ∧ mc_cd 272 38 = some (.iconst 0, 1) ∧ mc_cd 272 39 = some (.goto 4, 3) ∧ mc_cd 272 42 = some (.iconst 1, 1) := by decide +kernel
theorem c272_28 : mc_cd 272 28 = some (.aload_n 0, 1) := cg272_28.1
theorem c272_29 : mc_cd 272 29 = some (.iload_n 1, 1) := cg272_28.2.1
theorem c272_30 : mc_cd 272 30 = some (.invokevirtual 476, 3) := cg272_28.2.2.1
theorem c272_33 : mc_cd 272 33 = some (.bipush 24, 2) := cg272_28.2.2.2.1
theorem c272_35 : mc_cd 272 35 = some (.if_icmp .ne 7, 3) := cg272_28.2.2.2.2.1
theorem c272_38 : mc_cd 272 38 = some (.iconst 0, 1) := cg272_28.2.2.2.2.2.1
theorem c272_39 : mc_cd 272 39 = some (.goto 4, 3) := cg272_28.2.2.2.2.2.2.1
theorem c272_42 : mc_cd 272 42 = some (.iconst 1, 1) := cg272_28.2.2.2.2.2.2.2
theorem cg272_43 : mc_cd 272 43 = some (.invokevirtual 58, 3) ∧ mc_cd 272 46 = some (.ireturn, 1) := by decide +kernel
theorem c272_43 : mc_cd 272 43 = some (.invokevirtual 58, 3) := cg272_43.1
theorem c272_46 : mc_cd 272 46 = some (.ireturn, 1) := cg272_43.2
/-! StrikeAwakeModel.bars(I)I -/
theorem e275 : wq_en 275 = some (9, 4, false, some FieldType.int) := rfl
theorem cg275_0 : mc_cd 275 0 = some (.aload_n 0, 1) ∧ mc_cd 275 1 = some (.iconst 0, 1) ∧ mc_cd 275 2 = some (.putfield 48, 3) ∧ mc_cd 275 5 = some (.aload_n 0, 1) ∧ mc_cd 275 6 = some (.aload_n 0, 1) ∧ mc_cd 275 7 = some (.iload_n 1, 1) ∧ mc_cd 275 8 = some (.invokevirtual 473, 3) ∧ mc_cd 275 11 = some (.invokevirtual 433, 3) := by decide +kernel
theorem c275_0 : mc_cd 275 0 = some (.aload_n 0, 1) := cg275_0.1
theorem c275_1 : mc_cd 275 1 = some (.iconst 0, 1) := cg275_0.2.1
theorem c275_2 : mc_cd 275 2 = some (.putfield 48, 3) := cg275_0.2.2.1
theorem c275_5 : mc_cd 275 5 = some (.aload_n 0, 1) := cg275_0.2.2.2.1
theorem c275_6 : mc_cd 275 6 = some (.aload_n 0, 1) := cg275_0.2.2.2.2.1
theorem c275_7 : mc_cd 275 7 = some (.iload_n 1, 1) := cg275_0.2.2.2.2.2.1
theorem c275_8 : mc_cd 275 8 = some (.invokevirtual 473, 3) := cg275_0.2.2.2.2.2.2.1
theorem c275_11 : mc_cd 275 11 = some (.invokevirtual 433, 3) := cg275_0.2.2.2.2.2.2.2
theorem cg275_14 : mc_cd 275 14 = some (.istore_n 2, 1) ∧ mc_cd 275 15 = some (.iload_n 2, 1) ∧ mc_cd 275 16 = some (.ifCond .le 9, 3) ∧ mc_cd 275 19 = some (.aload_n 0, 1) ∧ mc_cd 275 20 = some (.iload_n 2, 1) ∧ mc_cd 275 21 = some (.invokevirtual 54, 3) ∧ mc_cd 275 24 = some (.ireturn, 1) ∧ mc_cd 275 25 = some (.aload_n 0, 1) := by decide +kernel
theorem c275_14 : mc_cd 275 14 = some (.istore_n 2, 1) := cg275_14.1
theorem c275_15 : mc_cd 275 15 = some (.iload_n 2, 1) := cg275_14.2.1
theorem c275_16 : mc_cd 275 16 = some (.ifCond .le 9, 3) := cg275_14.2.2.1
theorem c275_19 : mc_cd 275 19 = some (.aload_n 0, 1) := cg275_14.2.2.2.1
theorem c275_20 : mc_cd 275 20 = some (.iload_n 2, 1) := cg275_14.2.2.2.2.1
theorem c275_21 : mc_cd 275 21 = some (.invokevirtual 54, 3) := cg275_14.2.2.2.2.2.1
theorem c275_24 : mc_cd 275 24 = some (.ireturn, 1) := cg275_14.2.2.2.2.2.2.1
theorem c275_25 : mc_cd 275 25 = some (.aload_n 0, 1) := cg275_14.2.2.2.2.2.2.2
theorem cg275_26 : mc_cd 275 26 = some (.iload_n 1, 1) ∧ mc_cd 275 27 = some (.invokevirtual 476, 3) ∧ mc_cd 275 30 = some (.istore_n 3, 1) ∧ mc_cd 275 31 = some (.aload_n 0, 1) ∧ mc_cd 275 32 = some (.iload_n 3, 1) ∧ mc_cd 275 33 = some (.bipush 24, 2) ∧ mc_cd 275 35 = some (.if_icmp .ne 8, 3) ∧ mc_cd 275 38 = some (.bipush (-2), 2) := by decide +kernel
theorem c275_26 : mc_cd 275 26 = some (.iload_n 1, 1) := cg275_26.1
theorem c275_27 : mc_cd 275 27 = some (.invokevirtual 476, 3) := cg275_26.2.1
theorem c275_30 : mc_cd 275 30 = some (.istore_n 3, 1) := cg275_26.2.2.1
theorem c275_31 : mc_cd 275 31 = some (.aload_n 0, 1) := cg275_26.2.2.2.1
theorem c275_32 : mc_cd 275 32 = some (.iload_n 3, 1) := cg275_26.2.2.2.2.1
theorem c275_33 : mc_cd 275 33 = some (.bipush 24, 2) := cg275_26.2.2.2.2.2.1
theorem c275_35 : mc_cd 275 35 = some (.if_icmp .ne 8, 3) := cg275_26.2.2.2.2.2.2.1
theorem c275_38 : mc_cd 275 38 = some (.bipush (-2), 2) := cg275_26.2.2.2.2.2.2.2
theorem cg275_40 : mc_cd 275 40 = some (.goto 4, 3) ∧ mc_cd 275 43 = some (.iload_n 3, 1) ∧ mc_cd 275 44 = some (.invokevirtual 58, 3) ∧ mc_cd 275 47 = some (.ireturn, 1) := by decide +kernel
theorem c275_40 : mc_cd 275 40 = some (.goto 4, 3) := cg275_40.1
theorem c275_43 : mc_cd 275 43 = some (.iload_n 3, 1) := cg275_40.2.1
theorem c275_44 : mc_cd 275 44 = some (.invokevirtual 58, 3) := cg275_40.2.2.1
theorem c275_47 : mc_cd 275 47 = some (.ireturn, 1) := cg275_40.2.2.2
/-! StrikeAwakeModel.proves(I)Z -/
theorem e278 : wq_en 278 = some (9, 3, false, some FieldType.boolean) := rfl
theorem cg278_0 : mc_cd 278 0 = some (.iconst 0, 1) ∧ mc_cd 278 1 = some (.istore_n 2, 1) ∧ mc_cd 278 2 = some (.iload_n 2, 1) ∧ mc_cd 278 3 = some (.i2l, 1) ∧ mc_cd 278 4 = some (.aload_n 0, 1) ∧ mc_cd 278 5 = some (.invokevirtual 376, 3) ∧ mc_cd 278 8 = some (.lcmp, 1) ∧ mc_cd 278 9 = some (.ifCond .ge 41, 3) := by decide +kernel
theorem c278_0 : mc_cd 278 0 = some (.iconst 0, 1) := cg278_0.1
theorem c278_1 : mc_cd 278 1 = some (.istore_n 2, 1) := cg278_0.2.1
theorem c278_2 : mc_cd 278 2 = some (.iload_n 2, 1) := cg278_0.2.2.1
theorem c278_3 : mc_cd 278 3 = some (.i2l, 1) := cg278_0.2.2.2.1
theorem c278_4 : mc_cd 278 4 = some (.aload_n 0, 1) := cg278_0.2.2.2.2.1
theorem c278_5 : mc_cd 278 5 = some (.invokevirtual 376, 3) := cg278_0.2.2.2.2.2.1
theorem c278_8 : mc_cd 278 8 = some (.lcmp, 1) := cg278_0.2.2.2.2.2.2.1
theorem c278_9 : mc_cd 278 9 = some (.ifCond .ge 41, 3) := cg278_0.2.2.2.2.2.2.2
theorem cg278_12 : mc_cd 278 12 = some (.aload_n 0, 1) ∧ mc_cd 278 13 = some (.iload_n 2, 1) ∧ mc_cd 278 14 = some (.invokevirtual 425, 3) ∧ mc_cd 278 17 = some (.aload_n 0, 1) ∧ mc_cd 278 18 = some (.aload_n 0, 1) ∧ mc_cd 278 19 = some (.getfield 39, 3) ∧ mc_cd 278 22 = some (.invokevirtual 393, 3) ∧ mc_cd 278 25 = some (.ifCond .ne 19, 3) := by decide +kernel
theorem c278_12 : mc_cd 278 12 = some (.aload_n 0, 1) := cg278_12.1
theorem c278_13 : mc_cd 278 13 = some (.iload_n 2, 1) := cg278_12.2.1
theorem c278_14 : mc_cd 278 14 = some (.invokevirtual 425, 3) := cg278_12.2.2.1
theorem c278_17 : mc_cd 278 17 = some (.aload_n 0, 1) := cg278_12.2.2.2.1
theorem c278_18 : mc_cd 278 18 = some (.aload_n 0, 1) := cg278_12.2.2.2.2.1
theorem c278_19 : mc_cd 278 19 = some (.getfield 39, 3) := cg278_12.2.2.2.2.2.1
theorem c278_22 : mc_cd 278 22 = some (.invokevirtual 393, 3) := cg278_12.2.2.2.2.2.2.1
theorem c278_25 : mc_cd 278 25 = some (.ifCond .ne 19, 3) := cg278_12.2.2.2.2.2.2.2
theorem cg278_28 : mc_cd 278 28 = some (.aload_n 0, 1) ∧ mc_cd 278 29 = some (.aload_n 0, 1) ∧ mc_cd 278 30 = some (.getfield 39, 3) ∧ mc_cd 278 33 = some (.iload_n 1, 1) ∧ mc_cd 278 34 = some (.invokevirtual 397, 3) ∧ mc_cd 278 37 = some (.bipush 24, 2) ∧ mc_cd 278 39 = some (.if_icmp .ne 5, 3) ∧ mc_cd 278 42 = some (.iconst 0, 1) := by decide +kernel
theorem c278_28 : mc_cd 278 28 = some (.aload_n 0, 1) := cg278_28.1
theorem c278_29 : mc_cd 278 29 = some (.aload_n 0, 1) := cg278_28.2.1
theorem c278_30 : mc_cd 278 30 = some (.getfield 39, 3) := cg278_28.2.2.1
theorem c278_33 : mc_cd 278 33 = some (.iload_n 1, 1) := cg278_28.2.2.2.1
theorem c278_34 : mc_cd 278 34 = some (.invokevirtual 397, 3) := cg278_28.2.2.2.2.1
theorem c278_37 : mc_cd 278 37 = some (.bipush 24, 2) := cg278_28.2.2.2.2.2.1
theorem c278_39 : mc_cd 278 39 = some (.if_icmp .ne 5, 3) := cg278_28.2.2.2.2.2.2.1
theorem c278_42 : mc_cd 278 42 = some (.iconst 0, 1) := cg278_28.2.2.2.2.2.2.2
theorem cg278_43 : mc_cd 278 43 = some (.ireturn, 1) ∧ mc_cd 278 44 = some (.iinc 2 1, 3) ∧ mc_cd 278 47 = some (.goto (-45), 3) ∧ mc_cd 278 50 = some (.iconst 1, 1) ∧ mc_cd 278 51 = some (.ireturn, 1) := by decide +kernel
theorem c278_43 : mc_cd 278 43 = some (.ireturn, 1) := cg278_43.1
theorem c278_44 : mc_cd 278 44 = some (.iinc 2 1, 3) := cg278_43.2.1
theorem c278_47 : mc_cd 278 47 = some (.goto (-45), 3) := cg278_43.2.2.1
theorem c278_50 : mc_cd 278 50 = some (.iconst 1, 1) := cg278_43.2.2.2.1
theorem c278_51 : mc_cd 278 51 = some (.ireturn, 1) := cg278_43.2.2.2.2
/-! StrikeAwakeModel.leastProof(II)I -/
theorem e277 : wq_en 277 = some (9, 6, false, some FieldType.int) := rfl
theorem cg277_0 : mc_cd 277 0 = some (.iload_n 2, 1) ∧ mc_cd 277 1 = some (.ifCond .ne 17, 3) ∧ mc_cd 277 4 = some (.aload_n 0, 1) ∧ mc_cd 277 5 = some (.iconst 0, 1) ∧ mc_cd 277 6 = some (.invokevirtual 484, 3) ∧ mc_cd 277 9 = some (.ifCond .eq 7, 3) ∧ mc_cd 277 12 = some (.iconst 0, 1) ∧ mc_cd 277 13 = some (.goto 4, 3) := by decide +kernel
theorem c277_0 : mc_cd 277 0 = some (.iload_n 2, 1) := cg277_0.1
theorem c277_1 : mc_cd 277 1 = some (.ifCond .ne 17, 3) := cg277_0.2.1
theorem c277_4 : mc_cd 277 4 = some (.aload_n 0, 1) := cg277_0.2.2.1
theorem c277_5 : mc_cd 277 5 = some (.iconst 0, 1) := cg277_0.2.2.2.1
theorem c277_6 : mc_cd 277 6 = some (.invokevirtual 484, 3) := cg277_0.2.2.2.2.1
theorem c277_9 : mc_cd 277 9 = some (.ifCond .eq 7, 3) := cg277_0.2.2.2.2.2.1
theorem c277_12 : mc_cd 277 12 = some (.iconst 0, 1) := cg277_0.2.2.2.2.2.2.1
theorem c277_13 : mc_cd 277 13 = some (.goto 4, 3) := cg277_0.2.2.2.2.2.2.2
theorem cg277_16 : mc_cd 277 16 = some (.iconst (-1), 1) ∧ mc_cd 277 17 = some (.ireturn, 1) ∧ mc_cd 277 18 = some (.iload_n 2, 1) ∧ mc_cd 277 19 = some (.iconst 1, 1) ∧ mc_cd 277 20 = some (.isub, 1) ∧ mc_cd 277 21 = some (.istore_n 3, 1) ∧ mc_cd 277 22 = some (.iload_n 3, 1) ∧ mc_cd 277 23 = some (.bipush 24, 2) := by decide +kernel
theorem c277_16 : mc_cd 277 16 = some (.iconst (-1), 1) := cg277_16.1
theorem c277_17 : mc_cd 277 17 = some (.ireturn, 1) := cg277_16.2.1
theorem c277_18 : mc_cd 277 18 = some (.iload_n 2, 1) := cg277_16.2.2.1
theorem c277_19 : mc_cd 277 19 = some (.iconst 1, 1) := cg277_16.2.2.2.1
theorem c277_20 : mc_cd 277 20 = some (.isub, 1) := cg277_16.2.2.2.2.1
theorem c277_21 : mc_cd 277 21 = some (.istore_n 3, 1) := cg277_16.2.2.2.2.2.1
theorem c277_22 : mc_cd 277 22 = some (.iload_n 3, 1) := cg277_16.2.2.2.2.2.2.1
theorem c277_23 : mc_cd 277 23 = some (.bipush 24, 2) := cg277_16.2.2.2.2.2.2.2
theorem cg277_25 : mc_cd 277 25 = some (.if_icmp .ge 166, 3) ∧ mc_cd 277 28 = some (.iload_n 1, 1) ∧ mc_cd 277 29 = some (.iload_n 3, 1) ∧ mc_cd 277 30 = some (.invokestatic 346, 3) ∧ mc_cd 277 33 = some (.ifCond .ne 6, 3) ∧ mc_cd 277 36 = some (.goto 149, 3) ∧ mc_cd 277 39 = some (.iload_n 2, 1) ∧ mc_cd 277 40 = some (.iconst 1, 1) := by decide +kernel
theorem c277_25 : mc_cd 277 25 = some (.if_icmp .ge 166, 3) := cg277_25.1
theorem c277_28 : mc_cd 277 28 = some (.iload_n 1, 1) := cg277_25.2.1
theorem c277_29 : mc_cd 277 29 = some (.iload_n 3, 1) := cg277_25.2.2.1
theorem c277_30 : mc_cd 277 30 = some (.invokestatic 346, 3) := cg277_25.2.2.2.1
theorem c277_33 : mc_cd 277 33 = some (.ifCond .ne 6, 3) := cg277_25.2.2.2.2.1
theorem c277_36 : mc_cd 277 36 = some (.goto 149, 3) := cg277_25.2.2.2.2.2.1
theorem c277_39 : mc_cd 277 39 = some (.iload_n 2, 1) := cg277_25.2.2.2.2.2.2.1
theorem c277_40 : mc_cd 277 40 = some (.iconst 1, 1) := cg277_25.2.2.2.2.2.2.2
theorem cg277_41 : mc_cd 277 41 = some (.if_icmp .ne 17, 3) ∧ mc_cd 277 44 = some (.aload_n 0, 1) ∧ mc_cd 277 45 = some (.iconst 1, 1) ∧ mc_cd 277 46 = some (.iload_n 3, 1) ∧ mc_cd 277 47 = some (.ishl, 1) ∧ mc_cd 277 48 = some (.invokevirtual 484, 3) ∧ mc_cd 277 51 = some (.ifCond .eq 7, 3) ∧ mc_cd 277 54 = some (.iconst 1, 1) := by decide +kernel
theorem c277_41 : mc_cd 277 41 = some (.if_icmp .ne 17, 3) := cg277_41.1
theorem c277_44 : mc_cd 277 44 = some (.aload_n 0, 1) := cg277_41.2.1
theorem c277_45 : mc_cd 277 45 = some (.iconst 1, 1) := cg277_41.2.2.1
theorem c277_46 : mc_cd 277 46 = some (.iload_n 3, 1) := cg277_41.2.2.2.1
theorem c277_47 : mc_cd 277 47 = some (.ishl, 1) := cg277_41.2.2.2.2.1
theorem c277_48 : mc_cd 277 48 = some (.invokevirtual 484, 3) := cg277_41.2.2.2.2.2.1
theorem c277_51 : mc_cd 277 51 = some (.ifCond .eq 7, 3) := cg277_41.2.2.2.2.2.2.1
theorem c277_54 : mc_cd 277 54 = some (.iconst 1, 1) := cg277_41.2.2.2.2.2.2.2
theorem cg277_55 : mc_cd 277 55 = some (.iload_n 3, 1) ∧ mc_cd 277 56 = some (.ishl, 1) ∧ mc_cd 277 57 = some (.ireturn, 1) ∧ mc_cd 277 58 = some (.iload_n 2, 1) ∧ mc_cd 277 59 = some (.iconst 2, 1) ∧ mc_cd 277 60 = some (.isub, 1) ∧ mc_cd 277 61 = some (.istore 4, 2) ∧ mc_cd 277 63 = some (.iload 4, 2) := by decide +kernel
theorem c277_55 : mc_cd 277 55 = some (.iload_n 3, 1) := cg277_55.1
theorem c277_56 : mc_cd 277 56 = some (.ishl, 1) := cg277_55.2.1
theorem c277_57 : mc_cd 277 57 = some (.ireturn, 1) := cg277_55.2.2.1
theorem c277_58 : mc_cd 277 58 = some (.iload_n 2, 1) := cg277_55.2.2.2.1
theorem c277_59 : mc_cd 277 59 = some (.iconst 2, 1) := cg277_55.2.2.2.2.1
theorem c277_60 : mc_cd 277 60 = some (.isub, 1) := cg277_55.2.2.2.2.2.1
theorem c277_61 : mc_cd 277 61 = some (.istore 4, 2) := cg277_55.2.2.2.2.2.2.1
theorem c277_63 : mc_cd 277 63 = some (.iload 4, 2) := cg277_55.2.2.2.2.2.2.2
theorem cg277_65 : mc_cd 277 65 = some (.iload_n 3, 1) ∧ mc_cd 277 66 = some (.if_icmp .ge 119, 3) ∧ mc_cd 277 69 = some (.iload_n 2, 1) ∧ mc_cd 277 70 = some (.iconst 1, 1) ∧ mc_cd 277 71 = some (.if_icmp .le 114, 3) ∧ mc_cd 277 74 = some (.iload_n 1, 1) ∧ mc_cd 277 75 = some (.iload 4, 2) ∧ mc_cd 277 77 = some (.invokestatic 346, 3) := by decide +kernel
theorem c277_65 : mc_cd 277 65 = some (.iload_n 3, 1) := cg277_65.1
theorem c277_66 : mc_cd 277 66 = some (.if_icmp .ge 119, 3) := cg277_65.2.1
theorem c277_69 : mc_cd 277 69 = some (.iload_n 2, 1) := cg277_65.2.2.1
theorem c277_70 : mc_cd 277 70 = some (.iconst 1, 1) := cg277_65.2.2.2.1
theorem c277_71 : mc_cd 277 71 = some (.if_icmp .le 114, 3) := cg277_65.2.2.2.2.1
theorem c277_74 : mc_cd 277 74 = some (.iload_n 1, 1) := cg277_65.2.2.2.2.2.1
theorem c277_75 : mc_cd 277 75 = some (.iload 4, 2) := cg277_65.2.2.2.2.2.2.1
theorem c277_77 : mc_cd 277 77 = some (.invokestatic 346, 3) := cg277_65.2.2.2.2.2.2.2
theorem cg277_80 : mc_cd 277 80 = some (.ifCond .ne 6, 3) ∧ mc_cd 277 83 = some (.goto 96, 3) ∧ mc_cd 277 86 = some (.iload_n 2, 1) ∧ mc_cd 277 87 = some (.iconst 2, 1) ∧ mc_cd 277 88 = some (.if_icmp .ne 27, 3) ∧ mc_cd 277 91 = some (.aload_n 0, 1) ∧ mc_cd 277 92 = some (.iconst 1, 1) ∧ mc_cd 277 93 = some (.iload_n 3, 1) := by decide +kernel
theorem c277_80 : mc_cd 277 80 = some (.ifCond .ne 6, 3) := cg277_80.1
theorem c277_83 : mc_cd 277 83 = some (.goto 96, 3) := cg277_80.2.1
theorem c277_86 : mc_cd 277 86 = some (.iload_n 2, 1) := cg277_80.2.2.1
theorem c277_87 : mc_cd 277 87 = some (.iconst 2, 1) := cg277_80.2.2.2.1
theorem c277_88 : mc_cd 277 88 = some (.if_icmp .ne 27, 3) := cg277_80.2.2.2.2.1
theorem c277_91 : mc_cd 277 91 = some (.aload_n 0, 1) := cg277_80.2.2.2.2.2.1
theorem c277_92 : mc_cd 277 92 = some (.iconst 1, 1) := cg277_80.2.2.2.2.2.2.1
theorem c277_93 : mc_cd 277 93 = some (.iload_n 3, 1) := cg277_80.2.2.2.2.2.2.2
theorem cg277_94 : mc_cd 277 94 = some (.ishl, 1) ∧ mc_cd 277 95 = some (.iconst 1, 1) ∧ mc_cd 277 96 = some (.iload 4, 2) ∧ mc_cd 277 98 = some (.ishl, 1) ∧ mc_cd 277 99 = some (.ior, 1) ∧ mc_cd 277 100 = some (.invokevirtual 484, 3) ∧ mc_cd 277 103 = some (.ifCond .eq 12, 3) ∧ mc_cd 277 106 = some (.iconst 1, 1) := by decide +kernel
theorem c277_94 : mc_cd 277 94 = some (.ishl, 1) := cg277_94.1
theorem c277_95 : mc_cd 277 95 = some (.iconst 1, 1) := cg277_94.2.1
theorem c277_96 : mc_cd 277 96 = some (.iload 4, 2) := cg277_94.2.2.1
theorem c277_98 : mc_cd 277 98 = some (.ishl, 1) := cg277_94.2.2.2.1
theorem c277_99 : mc_cd 277 99 = some (.ior, 1) := cg277_94.2.2.2.2.1
theorem c277_100 : mc_cd 277 100 = some (.invokevirtual 484, 3) := cg277_94.2.2.2.2.2.1
theorem c277_103 : mc_cd 277 103 = some (.ifCond .eq 12, 3) := cg277_94.2.2.2.2.2.2.1
theorem c277_106 : mc_cd 277 106 = some (.iconst 1, 1) := cg277_94.2.2.2.2.2.2.2
theorem cg277_107 : mc_cd 277 107 = some (.iload_n 3, 1) ∧ mc_cd 277 108 = some (.ishl, 1) ∧ mc_cd 277 109 = some (.iconst 1, 1) ∧ mc_cd 277 110 = some (.iload 4, 2) ∧ mc_cd 277 112 = some (.ishl, 1) ∧ mc_cd 277 113 = some (.ior, 1) ∧ mc_cd 277 114 = some (.ireturn, 1) ∧ mc_cd 277 115 = some (.iconst 0, 1) := by decide +kernel
theorem c277_107 : mc_cd 277 107 = some (.iload_n 3, 1) := cg277_107.1
theorem c277_108 : mc_cd 277 108 = some (.ishl, 1) := cg277_107.2.1
theorem c277_109 : mc_cd 277 109 = some (.iconst 1, 1) := cg277_107.2.2.1
theorem c277_110 : mc_cd 277 110 = some (.iload 4, 2) := cg277_107.2.2.2.1
theorem c277_112 : mc_cd 277 112 = some (.ishl, 1) := cg277_107.2.2.2.2.1
theorem c277_113 : mc_cd 277 113 = some (.ior, 1) := cg277_107.2.2.2.2.2.1
theorem c277_114 : mc_cd 277 114 = some (.ireturn, 1) := cg277_107.2.2.2.2.2.2.1
theorem c277_115 : mc_cd 277 115 = some (.iconst 0, 1) := cg277_107.2.2.2.2.2.2.2
theorem cg277_116 : mc_cd 277 116 = some (.istore 5, 2) ∧ mc_cd 277 118 = some (.iload 5, 2) ∧ mc_cd 277 120 = some (.iload 4, 2) ∧ mc_cd 277 122 = some (.if_icmp .ge 57, 3) ∧ mc_cd 277 125 = some (.iload_n 2, 1) ∧ mc_cd 277 126 = some (.iconst 2, 1) ∧ mc_cd 277 127 = some (.if_icmp .le 52, 3) ∧ mc_cd 277 130 = some (.iload_n 1, 1) := by decide +kernel
theorem c277_116 : mc_cd 277 116 = some (.istore 5, 2) := cg277_116.1
theorem c277_118 : mc_cd 277 118 = some (.iload 5, 2) := cg277_116.2.1
theorem c277_120 : mc_cd 277 120 = some (.iload 4, 2) := cg277_116.2.2.1
theorem c277_122 : mc_cd 277 122 = some (.if_icmp .ge 57, 3) := cg277_116.2.2.2.1
theorem c277_125 : mc_cd 277 125 = some (.iload_n 2, 1) := cg277_116.2.2.2.2.1
theorem c277_126 : mc_cd 277 126 = some (.iconst 2, 1) := cg277_116.2.2.2.2.2.1
theorem c277_127 : mc_cd 277 127 = some (.if_icmp .le 52, 3) := cg277_116.2.2.2.2.2.2.1
theorem c277_130 : mc_cd 277 130 = some (.iload_n 1, 1) := cg277_116.2.2.2.2.2.2.2
theorem cg277_131 : mc_cd 277 131 = some (.iload 5, 2) ∧ mc_cd 277 133 = some (.invokestatic 346, 3) ∧ mc_cd 277 136 = some (.ifCond .eq 37, 3) ∧ mc_cd 277 139 = some (.aload_n 0, 1) ∧ mc_cd 277 140 = some (.iconst 1, 1) ∧ mc_cd 277 141 = some (.iload_n 3, 1) ∧ mc_cd 277 142 = some (.ishl, 1) ∧ mc_cd 277 143 = some (.iconst 1, 1) := by decide +kernel
theorem c277_131 : mc_cd 277 131 = some (.iload 5, 2) := cg277_131.1
theorem c277_133 : mc_cd 277 133 = some (.invokestatic 346, 3) := cg277_131.2.1
theorem c277_136 : mc_cd 277 136 = some (.ifCond .eq 37, 3) := cg277_131.2.2.1
theorem c277_139 : mc_cd 277 139 = some (.aload_n 0, 1) := cg277_131.2.2.2.1
theorem c277_140 : mc_cd 277 140 = some (.iconst 1, 1) := cg277_131.2.2.2.2.1
theorem c277_141 : mc_cd 277 141 = some (.iload_n 3, 1) := cg277_131.2.2.2.2.2.1
theorem c277_142 : mc_cd 277 142 = some (.ishl, 1) := cg277_131.2.2.2.2.2.2.1
theorem c277_143 : mc_cd 277 143 = some (.iconst 1, 1) := cg277_131.2.2.2.2.2.2.2
theorem cg277_144 : mc_cd 277 144 = some (.iload 4, 2) ∧ mc_cd 277 146 = some (.ishl, 1) ∧ mc_cd 277 147 = some (.ior, 1) ∧ mc_cd 277 148 = some (.iconst 1, 1) ∧ mc_cd 277 149 = some (.iload 5, 2) ∧ mc_cd 277 151 = some (.ishl, 1) ∧ mc_cd 277 152 = some (.ior, 1) ∧ mc_cd 277 153 = some (.invokevirtual 484, 3) := by decide +kernel
theorem c277_144 : mc_cd 277 144 = some (.iload 4, 2) := cg277_144.1
theorem c277_146 : mc_cd 277 146 = some (.ishl, 1) := cg277_144.2.1
theorem c277_147 : mc_cd 277 147 = some (.ior, 1) := cg277_144.2.2.1
theorem c277_148 : mc_cd 277 148 = some (.iconst 1, 1) := cg277_144.2.2.2.1
theorem c277_149 : mc_cd 277 149 = some (.iload 5, 2) := cg277_144.2.2.2.2.1
theorem c277_151 : mc_cd 277 151 = some (.ishl, 1) := cg277_144.2.2.2.2.2.1
theorem c277_152 : mc_cd 277 152 = some (.ior, 1) := cg277_144.2.2.2.2.2.2.1
theorem c277_153 : mc_cd 277 153 = some (.invokevirtual 484, 3) := cg277_144.2.2.2.2.2.2.2
theorem cg277_156 : mc_cd 277 156 = some (.ifCond .eq 17, 3) ∧ mc_cd 277 159 = some (.iconst 1, 1) ∧ mc_cd 277 160 = some (.iload_n 3, 1) ∧ mc_cd 277 161 = some (.ishl, 1) ∧ mc_cd 277 162 = some (.iconst 1, 1) ∧ mc_cd 277 163 = some (.iload 4, 2) ∧ mc_cd 277 165 = some (.ishl, 1) ∧ mc_cd 277 166 = some (.ior, 1) := by decide +kernel
theorem c277_156 : mc_cd 277 156 = some (.ifCond .eq 17, 3) := cg277_156.1
theorem c277_159 : mc_cd 277 159 = some (.iconst 1, 1) := cg277_156.2.1
theorem c277_160 : mc_cd 277 160 = some (.iload_n 3, 1) := cg277_156.2.2.1
theorem c277_161 : mc_cd 277 161 = some (.ishl, 1) := cg277_156.2.2.2.1
theorem c277_162 : mc_cd 277 162 = some (.iconst 1, 1) := cg277_156.2.2.2.2.1
theorem c277_163 : mc_cd 277 163 = some (.iload 4, 2) := cg277_156.2.2.2.2.2.1
theorem c277_165 : mc_cd 277 165 = some (.ishl, 1) := cg277_156.2.2.2.2.2.2.1
theorem c277_166 : mc_cd 277 166 = some (.ior, 1) := cg277_156.2.2.2.2.2.2.2
theorem cg277_167 : mc_cd 277 167 = some (.iconst 1, 1) ∧ mc_cd 277 168 = some (.iload 5, 2) ∧ mc_cd 277 170 = some (.ishl, 1) ∧ mc_cd 277 171 = some (.ior, 1) ∧ mc_cd 277 172 = some (.ireturn, 1) ∧ mc_cd 277 173 = some (.iinc 5 1, 3) ∧ mc_cd 277 176 = some (.goto (-58), 3) ∧ mc_cd 277 179 = some (.iinc 4 1, 3) := by decide +kernel
theorem c277_167 : mc_cd 277 167 = some (.iconst 1, 1) := cg277_167.1
theorem c277_168 : mc_cd 277 168 = some (.iload 5, 2) := cg277_167.2.1
theorem c277_170 : mc_cd 277 170 = some (.ishl, 1) := cg277_167.2.2.1
theorem c277_171 : mc_cd 277 171 = some (.ior, 1) := cg277_167.2.2.2.1
theorem c277_172 : mc_cd 277 172 = some (.ireturn, 1) := cg277_167.2.2.2.2.1
theorem c277_173 : mc_cd 277 173 = some (.iinc 5 1, 3) := cg277_167.2.2.2.2.2.1
theorem c277_176 : mc_cd 277 176 = some (.goto (-58), 3) := cg277_167.2.2.2.2.2.2.1
theorem c277_179 : mc_cd 277 179 = some (.iinc 4 1, 3) := cg277_167.2.2.2.2.2.2.2
theorem cg277_182 : mc_cd 277 182 = some (.goto (-119), 3) ∧ mc_cd 277 185 = some (.iinc 3 1, 3) ∧ mc_cd 277 188 = some (.goto (-166), 3) ∧ mc_cd 277 191 = some (.iconst (-1), 1) ∧ mc_cd 277 192 = some (.ireturn, 1) := by decide +kernel
theorem c277_182 : mc_cd 277 182 = some (.goto (-119), 3) := cg277_182.1
theorem c277_185 : mc_cd 277 185 = some (.iinc 3 1, 3) := cg277_182.2.1
theorem c277_188 : mc_cd 277 188 = some (.goto (-166), 3) := cg277_182.2.2.1
theorem c277_191 : mc_cd 277 191 = some (.iconst (-1), 1) := cg277_182.2.2.2.1
theorem c277_192 : mc_cd 277 192 = some (.ireturn, 1) := cg277_182.2.2.2.2
/-! StrikeAwakeModel.proof()I -/
theorem e276 : wq_en 276 = some (9, 5, false, some FieldType.int) := rfl
theorem cg276_0 : mc_cd 276 0 = some (.aload_n 0, 1) ∧ mc_cd 276 1 = some (.iconst 0, 1) ∧ mc_cd 276 2 = some (.putfield 48, 3) ∧ mc_cd 276 5 = some (.aload_n 0, 1) ∧ mc_cd 276 6 = some (.aload_n 0, 1) ∧ mc_cd 276 7 = some (.getfield 337, 3) ∧ mc_cd 276 10 = some (.ifnull 7, 3) ∧ mc_cd 276 13 = some (.iconst 1, 1) := by decide +kernel
theorem c276_0 : mc_cd 276 0 = some (.aload_n 0, 1) := cg276_0.1
theorem c276_1 : mc_cd 276 1 = some (.iconst 0, 1) := cg276_0.2.1
theorem c276_2 : mc_cd 276 2 = some (.putfield 48, 3) := cg276_0.2.2.1
theorem c276_5 : mc_cd 276 5 = some (.aload_n 0, 1) := cg276_0.2.2.2.1
theorem c276_6 : mc_cd 276 6 = some (.aload_n 0, 1) := cg276_0.2.2.2.2.1
theorem c276_7 : mc_cd 276 7 = some (.getfield 337, 3) := cg276_0.2.2.2.2.2.1
theorem c276_10 : mc_cd 276 10 = some (.ifnull 7, 3) := cg276_0.2.2.2.2.2.2.1
theorem c276_13 : mc_cd 276 13 = some (.iconst 1, 1) := cg276_0.2.2.2.2.2.2.2
theorem cg276_14 : mc_cd 276 14 = some (.goto 4, 3) ∧ mc_cd 276 17 = some (.iconst 0, 1) ∧ mc_cd 276 18 = some (.invokevirtual 433, 3) ∧ mc_cd 276 21 = some (.istore_n 1, 1) ∧ mc_cd 276 22 = some (.iload_n 1, 1) ∧ mc_cd 276 23 = some (.ifCond .ne 16, 3) ∧ mc_cd 276 26 = some (.aload_n 0, 1) ∧ mc_cd 276 27 = some (.invokevirtual 376, 3) := by decide +kernel
theorem c276_14 : mc_cd 276 14 = some (.goto 4, 3) := cg276_14.1
theorem c276_17 : mc_cd 276 17 = some (.iconst 0, 1) := cg276_14.2.1
theorem c276_18 : mc_cd 276 18 = some (.invokevirtual 433, 3) := cg276_14.2.2.1
theorem c276_21 : mc_cd 276 21 = some (.istore_n 1, 1) := cg276_14.2.2.2.1
theorem c276_22 : mc_cd 276 22 = some (.iload_n 1, 1) := cg276_14.2.2.2.2.1
theorem c276_23 : mc_cd 276 23 = some (.ifCond .ne 16, 3) := cg276_14.2.2.2.2.2.1
theorem c276_26 : mc_cd 276 26 = some (.aload_n 0, 1) := cg276_14.2.2.2.2.2.2.1
theorem c276_27 : mc_cd 276 27 = some (.invokevirtual 376, 3) := cg276_14.2.2.2.2.2.2.2
theorem cg276_30 : mc_cd 276 30 = some (.ldc2_w 479, 3) ∧ mc_cd 276 33 = some (.lcmp, 1) ∧ mc_cd 276 34 = some (.ifCond .le 5, 3) ∧ mc_cd 276 37 = some (.iconst 3, 1) ∧ mc_cd 276 38 = some (.istore_n 1, 1) ∧ mc_cd 276 39 = some (.iload_n 1, 1) ∧ mc_cd 276 40 = some (.ifCond .ne 12, 3) ∧ mc_cd 276 43 = some (.aload_n 0, 1) := by decide +kernel
theorem c276_30 : mc_cd 276 30 = some (.ldc2_w 479, 3) := cg276_30.1
theorem c276_33 : mc_cd 276 33 = some (.lcmp, 1) := cg276_30.2.1
theorem c276_34 : mc_cd 276 34 = some (.ifCond .le 5, 3) := cg276_30.2.2.1
theorem c276_37 : mc_cd 276 37 = some (.iconst 3, 1) := cg276_30.2.2.2.1
theorem c276_38 : mc_cd 276 38 = some (.istore_n 1, 1) := cg276_30.2.2.2.2.1
theorem c276_39 : mc_cd 276 39 = some (.iload_n 1, 1) := cg276_30.2.2.2.2.2.1
theorem c276_40 : mc_cd 276 40 = some (.ifCond .ne 12, 3) := cg276_30.2.2.2.2.2.2.1
theorem c276_43 : mc_cd 276 43 = some (.aload_n 0, 1) := cg276_30.2.2.2.2.2.2.2
theorem cg276_44 : mc_cd 276 44 = some (.getfield 422, 3) ∧ mc_cd 276 47 = some (.ifCond .le 5, 3) ∧ mc_cd 276 50 = some (.iconst 5, 1) ∧ mc_cd 276 51 = some (.istore_n 1, 1) ∧ mc_cd 276 52 = some (.iload_n 1, 1) ∧ mc_cd 276 53 = some (.ifCond .le 9, 3) ∧ mc_cd 276 56 = some (.aload_n 0, 1) ∧ mc_cd 276 57 = some (.iload_n 1, 1) := by decide +kernel
theorem c276_44 : mc_cd 276 44 = some (.getfield 422, 3) := cg276_44.1
theorem c276_47 : mc_cd 276 47 = some (.ifCond .le 5, 3) := cg276_44.2.1
theorem c276_50 : mc_cd 276 50 = some (.iconst 5, 1) := cg276_44.2.2.1
theorem c276_51 : mc_cd 276 51 = some (.istore_n 1, 1) := cg276_44.2.2.2.1
theorem c276_52 : mc_cd 276 52 = some (.iload_n 1, 1) := cg276_44.2.2.2.2.1
theorem c276_53 : mc_cd 276 53 = some (.ifCond .le 9, 3) := cg276_44.2.2.2.2.2.1
theorem c276_56 : mc_cd 276 56 = some (.aload_n 0, 1) := cg276_44.2.2.2.2.2.2.1
theorem c276_57 : mc_cd 276 57 = some (.iload_n 1, 1) := cg276_44.2.2.2.2.2.2.2
theorem cg276_58 : mc_cd 276 58 = some (.invokevirtual 54, 3) ∧ mc_cd 276 61 = some (.ireturn, 1) ∧ mc_cd 276 62 = some (.aload_n 0, 1) ∧ mc_cd 276 63 = some (.invokevirtual 357, 3) ∧ mc_cd 276 66 = some (.istore_n 2, 1) ∧ mc_cd 276 67 = some (.iconst 0, 1) ∧ mc_cd 276 68 = some (.istore_n 3, 1) ∧ mc_cd 276 69 = some (.iload_n 3, 1) := by decide +kernel
theorem c276_58 : mc_cd 276 58 = some (.invokevirtual 54, 3) := cg276_58.1
theorem c276_61 : mc_cd 276 61 = some (.ireturn, 1) := cg276_58.2.1
theorem c276_62 : mc_cd 276 62 = some (.aload_n 0, 1) := cg276_58.2.2.1
theorem c276_63 : mc_cd 276 63 = some (.invokevirtual 357, 3) := cg276_58.2.2.2.1
theorem c276_66 : mc_cd 276 66 = some (.istore_n 2, 1) := cg276_58.2.2.2.2.1
theorem c276_67 : mc_cd 276 67 = some (.iconst 0, 1) := cg276_58.2.2.2.2.2.1
theorem c276_68 : mc_cd 276 68 = some (.istore_n 3, 1) := cg276_58.2.2.2.2.2.2.1
theorem c276_69 : mc_cd 276 69 = some (.iload_n 3, 1) := cg276_58.2.2.2.2.2.2.2
theorem cg276_70 : mc_cd 276 70 = some (.iconst 4, 1) ∧ mc_cd 276 71 = some (.if_icmp .ge 30, 3) ∧ mc_cd 276 74 = some (.aload_n 0, 1) ∧ mc_cd 276 75 = some (.iload_n 2, 1) ∧ mc_cd 276 76 = some (.iload_n 3, 1) ∧ mc_cd 276 77 = some (.invokevirtual 481, 3) ∧ mc_cd 276 80 = some (.istore 4, 2) ∧ mc_cd 276 82 = some (.iload 4, 2) := by decide +kernel
theorem c276_70 : mc_cd 276 70 = some (.iconst 4, 1) := cg276_70.1
theorem c276_71 : mc_cd 276 71 = some (.if_icmp .ge 30, 3) := cg276_70.2.1
theorem c276_74 : mc_cd 276 74 = some (.aload_n 0, 1) := cg276_70.2.2.1
theorem c276_75 : mc_cd 276 75 = some (.iload_n 2, 1) := cg276_70.2.2.2.1
theorem c276_76 : mc_cd 276 76 = some (.iload_n 3, 1) := cg276_70.2.2.2.2.1
theorem c276_77 : mc_cd 276 77 = some (.invokevirtual 481, 3) := cg276_70.2.2.2.2.2.1
theorem c276_80 : mc_cd 276 80 = some (.istore 4, 2) := cg276_70.2.2.2.2.2.2.1
theorem c276_82 : mc_cd 276 82 = some (.iload 4, 2) := cg276_70.2.2.2.2.2.2.2
theorem cg276_84 : mc_cd 276 84 = some (.iconst (-1), 1) ∧ mc_cd 276 85 = some (.if_icmp .eq 10, 3) ∧ mc_cd 276 88 = some (.aload_n 0, 1) ∧ mc_cd 276 89 = some (.iload 4, 2) ∧ mc_cd 276 91 = some (.invokevirtual 58, 3) ∧ mc_cd 276 94 = some (.ireturn, 1) ∧ mc_cd 276 95 = some (.iinc 3 1, 3) ∧ mc_cd 276 98 = some (.goto (-29), 3) := by decide +kernel
theorem c276_84 : mc_cd 276 84 = some (.iconst (-1), 1) := cg276_84.1
theorem c276_85 : mc_cd 276 85 = some (.if_icmp .eq 10, 3) := cg276_84.2.1
theorem c276_88 : mc_cd 276 88 = some (.aload_n 0, 1) := cg276_84.2.2.1
theorem c276_89 : mc_cd 276 89 = some (.iload 4, 2) := cg276_84.2.2.2.1
theorem c276_91 : mc_cd 276 91 = some (.invokevirtual 58, 3) := cg276_84.2.2.2.2.1
theorem c276_94 : mc_cd 276 94 = some (.ireturn, 1) := cg276_84.2.2.2.2.2.1
theorem c276_95 : mc_cd 276 95 = some (.iinc 3 1, 3) := cg276_84.2.2.2.2.2.2.1
theorem c276_98 : mc_cd 276 98 = some (.goto (-29), 3) := cg276_84.2.2.2.2.2.2.2
theorem cg276_101 : mc_cd 276 101 = some (.aload_n 0, 1) ∧ mc_cd 276 102 = some (.bipush (-2), 2) ∧ mc_cd 276 104 = some (.invokevirtual 58, 3) ∧ mc_cd 276 107 = some (.ireturn, 1) := by decide +kernel
theorem c276_101 : mc_cd 276 101 = some (.aload_n 0, 1) := cg276_101.1
theorem c276_102 : mc_cd 276 102 = some (.bipush (-2), 2) := cg276_101.2.1
theorem c276_104 : mc_cd 276 104 = some (.invokevirtual 58, 3) := cg276_101.2.2.1
theorem c276_107 : mc_cd 276 107 = some (.ireturn, 1) := cg276_101.2.2.2
/-! StrikeAwakeModel.isStruck(I)Z -/
theorem e280 : wq_en 280 = some (9, 2, false, some FieldType.boolean) := rfl
theorem cg280_0 : mc_cd 280 0 = some (.aload_n 0, 1) ∧ mc_cd 280 1 = some (.iload_n 1, 1) ∧ mc_cd 280 2 = some (.invokevirtual 373, 3) ∧ mc_cd 280 5 = some (.ifCond .eq 16, 3) ∧ mc_cd 280 8 = some (.aload_n 0, 1) ∧ mc_cd 280 9 = some (.getfield 17, 3) ∧ mc_cd 280 12 = some (.iload_n 1, 1) ∧ mc_cd 280 13 = some (.iaload, 1) := by decide +kernel
theorem c280_0 : mc_cd 280 0 = some (.aload_n 0, 1) := cg280_0.1
theorem c280_1 : mc_cd 280 1 = some (.iload_n 1, 1) := cg280_0.2.1
theorem c280_2 : mc_cd 280 2 = some (.invokevirtual 373, 3) := cg280_0.2.2.1
theorem c280_5 : mc_cd 280 5 = some (.ifCond .eq 16, 3) := cg280_0.2.2.2.1
theorem c280_8 : mc_cd 280 8 = some (.aload_n 0, 1) := cg280_0.2.2.2.2.1
theorem c280_9 : mc_cd 280 9 = some (.getfield 17, 3) := cg280_0.2.2.2.2.2.1
theorem c280_12 : mc_cd 280 12 = some (.iload_n 1, 1) := cg280_0.2.2.2.2.2.2.1
theorem c280_13 : mc_cd 280 13 = some (.iaload, 1) := cg280_0.2.2.2.2.2.2.2
theorem cg280_14 : mc_cd 280 14 = some (.ifCond .le 7, 3) ∧ mc_cd 280 17 = some (.iconst 1, 1) ∧ mc_cd 280 18 = some (.goto 4, 3) ∧ mc_cd 280 21 = some (.iconst 0, 1) ∧ mc_cd 280 22 = some (.ireturn, 1) := by decide +kernel
theorem c280_14 : mc_cd 280 14 = some (.ifCond .le 7, 3) := cg280_14.1
theorem c280_17 : mc_cd 280 17 = some (.iconst 1, 1) := cg280_14.2.1
theorem c280_18 : mc_cd 280 18 = some (.goto 4, 3) := cg280_14.2.2.1
theorem c280_21 : mc_cd 280 21 = some (.iconst 0, 1) := cg280_14.2.2.2.1
theorem c280_22 : mc_cd 280 22 = some (.ireturn, 1) := cg280_14.2.2.2.2
abbrev q_280 (r0 : Nat) (a1 : Int) (T : wq_T) (H : wq_H) : Option Value → wq_T → wq_H → Prop := fun r T' H' => T = T' ∧ H = H' ∧ ∃ z : Int, some (vI z) = r ∧ (0 ≤ z ∧ z ≤ 1) ∧ (z = 0 ∨ (H r0 3 ≠ -1 ∧ 0 ≤ a1 ∧ a1 ≤ 23))
set_option maxHeartbeats 4000000 in
theorem s_280 {kt : Nat → Option mc_E} {T : wq_T} {H : wq_H} {r0 : Nat} {a1 : Int} (hW : WT T H) (g0 : T.2.2.2 r0 = some 42) (i1 : (-2147483648) ≤ a1 ∧ a1 ≤ 2147483647) : wpc kt 2 280 [.ref r0, vI a1] T H (q_280 r0 a1 T H) := by
  refine wp_enter e280 (Nat.le_of_ble_eq_true rfl) rfl ?_
  show wp _ _ 280 0 [(0, .ref r0), (1, vI a1)] [] _ H _
  refine wp_of e280 c280_0 (rw_aload_n (pc' := 1) (v := .ref r0) rfl rfl rfl ?_)
  refine wp_of e280 c280_1 (rw_iload_n (pc' := 2) (z := a1) rfl rfl ?_)
  refine wp_of e280 c280_2 (xc_V (pc' := 5) (r := r0) (as := [vI a1]) (st := []) (lm_9_373) rfl rfl (Nat.le_of_ble_eq_true rfl) hW g0 sh_42 (by decide) rfl (by decide) (s_218 hW g0 ⟨by omega, by omega⟩) (fun R213915 T213916 H213917 p213918 => ?_))
  obtain ⟨e213919, e213921, z213923, e213920, b213924, p213922⟩ := p213918
  subst e213919
  subst e213920
  subst e213921
  show wp _ _ 280 5 [(0, .ref r0), (1, vI a1)] [vI z213923] _ H _
  refine wp_of e280 c280_5 (rw_if_eq (p1 := 21) (p2 := 8) (by decide) rfl ⟨by omega, by omega⟩ (fun c213925 => ?_) (fun c213925 => ?_))
  · refine wp_of e280 c280_21 (rw_iconst (pc' := 22) rfl ?_)
    exact wp_zreturn e280 c280_22 rfl (by omega) ⟨rfl, rfl, 0, rfl, ⟨by omega, by omega⟩, by omega⟩
  · refine wp_of e280 c280_8 (rw_aload_n (pc' := 9) (v := .ref r0) rfl rfl rfl ?_)
    refine wp_of e280 c280_9 (xg_R (pc' := 12) lf_9_17 hW g0 sh_42 (by decide) (by decide) ty_42_20 rfl rfl (fun r213926 q213927 g213928 => ?_))
    refine wp_of e280 c280_12 (rw_iload_n (pc' := 13) (z := a1) rfl rfl ?_)
    refine wp_of e280 c280_13 (xa_I (so := 0) (pc' := 14) hW g213928 sh_44 (by decide) (ty_44 _) (by omega) (by omega) rfl (fun b213929 b213930 => ?_))
    refine wp_of e280 c280_14 (rw_if_le (p1 := 21) (p2 := 17) (by decide) rfl ⟨by omega, by omega⟩ (fun c213931 => ?_) (fun c213931 => ?_))
    · refine wp_of e280 c280_21 (rw_iconst (pc' := 22) rfl ?_)
      exact wp_zreturn e280 c280_22 rfl (by omega) ⟨rfl, rfl, 0, rfl, ⟨by omega, by omega⟩, by omega⟩
    · refine wp_of e280 c280_17 (rw_iconst (pc' := 18) rfl ?_)
      refine wp_of e280 c280_18 (rw_goto (p1 := 22) (by decide) ?_)
      exact wp_zreturn e280 c280_22 rfl (by omega) ⟨rfl, rfl, 1, rfl, ⟨by omega, by omega⟩, by omega⟩
/-! StrikeAwakeModel.lost(I)I -/
theorem e281 : wq_en 281 = some (9, 2, false, some FieldType.int) := rfl
theorem cg281_0 : mc_cd 281 0 = some (.aload_n 0, 1) ∧ mc_cd 281 1 = some (.iload_n 1, 1) ∧ mc_cd 281 2 = some (.invokevirtual 54, 3) ∧ mc_cd 281 5 = some (.pop, 1) ∧ mc_cd 281 6 = some (.sipush (-1000), 3) ∧ mc_cd 281 9 = some (.ireturn, 1) := by decide +kernel
theorem c281_0 : mc_cd 281 0 = some (.aload_n 0, 1) := cg281_0.1
theorem c281_1 : mc_cd 281 1 = some (.iload_n 1, 1) := cg281_0.2.1
theorem c281_2 : mc_cd 281 2 = some (.invokevirtual 54, 3) := cg281_0.2.2.1
theorem c281_5 : mc_cd 281 5 = some (.pop, 1) := cg281_0.2.2.2.1
theorem c281_6 : mc_cd 281 6 = some (.sipush (-1000), 3) := cg281_0.2.2.2.2.1
theorem c281_9 : mc_cd 281 9 = some (.ireturn, 1) := cg281_0.2.2.2.2.2
abbrev q_281 (r0 : Nat) (a1 : Int) (T : wq_T) (H : wq_H) : Option Value → wq_T → wq_H → Prop := fun r T' H' => T = T' ∧ WT T H' ∧ wfr [(42, 1), (42, 2)] T H H' ∧ ∃ z : Int, some (vI z) = r ∧ ((-2147483648) ≤ z ∧ z ≤ 2147483647)
set_option maxHeartbeats 4000000 in
theorem s_281 {kt : Nat → Option mc_E} {T : wq_T} {H : wq_H} {r0 : Nat} {a1 : Int} (hW : WT T H) (g0 : T.2.2.2 r0 = some 42) (i1 : (-2147483648) ≤ a1 ∧ a1 ≤ 2147483647) : wpc kt 2 281 [.ref r0, vI a1] T H (q_281 r0 a1 T H) := by
  refine wp_enter e281 (Nat.le_of_ble_eq_true rfl) rfl ?_
  have f0 : wfr [(42, 1), (42, 2)] T H H := wfr.rf
  show wp _ _ 281 0 [(0, .ref r0), (1, vI a1)] [] _ H _
  refine wp_of e281 c281_0 (rw_aload_n (pc' := 1) (v := .ref r0) rfl rfl rfl ?_)
  refine wp_of e281 c281_1 (rw_iload_n (pc' := 2) (z := a1) rfl rfl ?_)
  refine wp_of e281 c281_2 (xc_V (pc' := 5) (r := r0) (as := [vI a1]) (st := []) (lm_9_54) rfl rfl (Nat.le_of_ble_eq_true rfl) hW g0 sh_42 (by decide) rfl (by decide) (s_170 hW g0 ⟨by omega, by omega⟩) (fun R213943 T213944 H213945 p213946 => ?_))
  obtain ⟨e213947, w213949, f213950, z213951, e213948, b213952⟩ := p213946
  subst e213947
  subst e213948
  have f213953 := f0.tr f213950 rfl
  show wp _ _ 281 5 [(0, .ref r0), (1, vI a1)] [vI z213951] _ H213945 _
  refine wp_of e281 c281_5 (rw_pop (pc' := 6) rfl rfl ?_)
  refine wp_of e281 c281_6 (rw_sipush (pc' := 9) (z := -1000) rfl (by decide) ?_)
  exact wp_ireturn e281 c281_9 rfl ⟨rfl, w213949, f213953, -1000, rfl, ⟨by omega, by omega⟩⟩
end
