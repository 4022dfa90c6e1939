/-! methods (own work, written by wip/gen2/sx.py) -/
/-! StrikeAwake.having(II)I -/
theorem e98 : wq_en 98 = some (0, 4, false, some FieldType.int) := rfl
theorem cg98_0 : mc_cd 98 0 = some (.aload_n 0, 1) ∧ mc_cd 98 1 = some (.aload_n 0, 1) ∧ mc_cd 98 2 = some (.iload_n 1, 1) ∧ mc_cd 98 3 = some (.iload_n 2, 1) ∧ mc_cd 98 4 = some (.invokevirtual 118, 3) ∧ mc_cd 98 7 = some (.invokevirtual 174, 3) ∧ mc_cd 98 10 = some (.istore_n 3, 1) ∧ mc_cd 98 11 = some (.iload_n 3, 1) := by decide +kernel
theorem c98_0 : mc_cd 98 0 = some (.aload_n 0, 1) := cg98_0.1
theorem c98_1 : mc_cd 98 1 = some (.aload_n 0, 1) := cg98_0.2.1
theorem c98_2 : mc_cd 98 2 = some (.iload_n 1, 1) := cg98_0.2.2.1
theorem c98_3 : mc_cd 98 3 = some (.iload_n 2, 1) := cg98_0.2.2.2.1
theorem c98_4 : mc_cd 98 4 = some (.invokevirtual 118, 3) := cg98_0.2.2.2.2.1
theorem c98_7 : mc_cd 98 7 = some (.invokevirtual 174, 3) := cg98_0.2.2.2.2.2.1
theorem c98_10 : mc_cd 98 10 = some (.istore_n 3, 1) := cg98_0.2.2.2.2.2.2.1
theorem c98_11 : mc_cd 98 11 = some (.iload_n 3, 1) := cg98_0.2.2.2.2.2.2.2
theorem cg98_12 : mc_cd 98 12 = some (.ifCond .eq 9, 3) ∧ mc_cd 98 15 = some (.aload_n 0, 1) ∧ mc_cd 98 16 = some (.iload_n 3, 1) ∧ mc_cd 98 17 = some (.invokevirtual 70, 3) ∧ mc_cd 98 20 = some (.ireturn, 1) ∧ mc_cd 98 21 = some (.aload_n 0, 1) ∧ mc_cd 98 22 = some (.aload_n 0, 1) ∧ mc_cd 98 23 = some (.getfield 30, 3) := by decide +kernel
theorem c98_12 : mc_cd 98 12 = some (.ifCond .eq 9, 3) := cg98_12.1
theorem c98_15 : mc_cd 98 15 = some (.aload_n 0, 1) := cg98_12.2.1
theorem c98_16 : mc_cd 98 16 = some (.iload_n 3, 1) := cg98_12.2.2.1
theorem c98_17 : mc_cd 98 17 = some (.invokevirtual 70, 3) := cg98_12.2.2.2.1
theorem c98_20 : mc_cd 98 20 = some (.ireturn, 1) := cg98_12.2.2.2.2.1
theorem c98_21 : mc_cd 98 21 = some (.aload_n 0, 1) := cg98_12.2.2.2.2.2.1
theorem c98_22 : mc_cd 98 22 = some (.aload_n 0, 1) := cg98_12.2.2.2.2.2.2.1
theorem c98_23 : mc_cd 98 23 = some (.getfield 30, 3) := cg98_12.2.2.2.2.2.2.2
theorem cg98_26 : mc_cd 98 26 = some (.getfield 190, 3) ∧ mc_cd 98 29 = some (.iload_n 1, 1) ∧ mc_cd 98 30 = some (.aaload, 1) ∧ mc_cd 98 31 = some (.iload_n 2, 1) ∧ mc_cd 98 32 = some (.iaload, 1) ∧ mc_cd 98 33 = some (.invokevirtual 99, 3) ∧ mc_cd 98 36 = some (.ireturn, 1) := by decide +kernel
theorem c98_26 : mc_cd 98 26 = some (.getfield 190, 3) := cg98_26.1
theorem c98_29 : mc_cd 98 29 = some (.iload_n 1, 1) := cg98_26.2.1
theorem c98_30 : mc_cd 98 30 = some (.aaload, 1) := cg98_26.2.2.1
theorem c98_31 : mc_cd 98 31 = some (.iload_n 2, 1) := cg98_26.2.2.2.1
theorem c98_32 : mc_cd 98 32 = some (.iaload, 1) := cg98_26.2.2.2.2.1
theorem c98_33 : mc_cd 98 33 = some (.invokevirtual 99, 3) := cg98_26.2.2.2.2.2.1
theorem c98_36 : mc_cd 98 36 = some (.ireturn, 1) := cg98_26.2.2.2.2.2.2
abbrev q_98 (r0 : Nat) (a1 : Int) (a2 : Int) (T : wq_T) (H : wq_H) : Option Value → wq_T → wq_H → Prop := fun r T' H' => T = T' ∧ WT T H' ∧ wfr [(12, 5), (12, 6), (12, 7), (12, 8), (12, 9), (1, 10), (6, 5), (8, 999), (10, 999), (15, 999), (9, 999), (18, 999), (19, 999), (7, 999), (11, 999), (17, 999), (13, 999)] T H H' ∧ ∃ z : Int, some (vI z) = r ∧ ((-2147483648) ≤ z ∧ z ≤ 2147483647)
set_option maxHeartbeats 4000000 in
theorem s_98 {kt : Nat → Option mc_E} {T : wq_T} {H : wq_H} {r0 : Nat} {a1 : Int} {a2 : Int} (hW : WT T H) (g0 : T.2.2.2 r0 = some 1) (i1 : (-2147483648) ≤ a1 ∧ a1 ≤ 2147483647) (i2 : (-2147483648) ≤ a2 ∧ a2 ≤ 2147483647) : wpc kt 6 98 [.ref r0, vI a1, vI a2] T H (q_98 r0 a1 a2 T H) := by
  refine wp_enter e98 (Nat.le_of_ble_eq_true rfl) rfl ?_
  have f0 : wfr [(12, 5), (12, 6), (12, 7), (12, 8), (12, 9), (1, 10), (6, 5), (8, 999), (10, 999), (15, 999), (9, 999), (18, 999), (19, 999), (7, 999), (11, 999), (17, 999), (13, 999)] T H H := wfr.rf
  show wp _ _ 98 0 [(0, .ref r0), (1, vI a1), (2, vI a2)] [] _ H _
  refine wp_of e98 c98_0 (rw_aload_n (pc' := 1) (v := .ref r0) rfl rfl rfl ?_)
  refine wp_of e98 c98_1 (rw_aload_n (pc' := 2) (v := .ref r0) rfl rfl rfl ?_)
  refine wp_of e98 c98_2 (rw_iload_n (pc' := 3) (z := a1) rfl rfl ?_)
  refine wp_of e98 c98_3 (rw_iload_n (pc' := 4) (z := a2) rfl rfl ?_)
  refine wp_of e98 c98_4 (xc_V (pc' := 7) (r := r0) (as := [vI a1, vI a2]) (st := [.ref r0]) (lm_0_118) rfl rfl (Nat.le_of_ble_eq_true rfl) hW g0 sh_1 (by decide) rfl (by decide) (s_57 hW g0 ⟨by omega, by omega⟩ ⟨by omega, by omega⟩) (fun R28196 T28197 H28198 p28199 => ?_))
  obtain ⟨e28200, e28202, z28204, e28201, b28205, p28203⟩ := p28199
  subst e28200
  subst e28201
  subst e28202
  show wp _ _ 98 7 [(0, .ref r0), (1, vI a1), (2, vI a2)] [vI z28204, .ref r0] _ H _
  refine wp_of e98 c98_7 (xc_V (pc' := 10) (r := r0) (as := [vI z28204]) (st := []) (lm_0_174) rfl rfl (Nat.le_of_ble_eq_true rfl) hW g0 sh_1 (by decide) rfl (by decide) (s_83 hW g0 ⟨by omega, by omega⟩) (fun R28206 T28207 H28208 p28209 => ?_))
  obtain ⟨e28210, w28212, f28213, z28215, e28211, b28216, p28214⟩ := p28209
  subst e28210
  subst e28211
  have f28217 := f0.tr f28213 rfl
  show wp _ _ 98 10 [(0, .ref r0), (1, vI a1), (2, vI a2)] [vI z28215] _ H28208 _
  refine wp_of e98 c98_10 (rw_istore_n (pc' := 11) (z := z28215) (L' := [(3, vI z28215), (0, .ref r0), (1, vI a1), (2, vI a2)]) rfl rfl rfl ?_)
  refine wp_of e98 c98_11 (rw_iload_n (pc' := 12) (z := z28215) rfl rfl ?_)
  refine wp_of e98 c98_12 (rw_if_eq (p1 := 21) (p2 := 15) (by decide) rfl ⟨by omega, by omega⟩ (fun c28218 => ?_) (fun c28218 => ?_))
  · refine wp_of e98 c98_21 (rw_aload_n (pc' := 22) (v := .ref r0) rfl rfl rfl ?_)
    refine wp_of e98 c98_22 (rw_aload_n (pc' := 23) (v := .ref r0) rfl rfl rfl ?_)
    refine wp_of e98 c98_23 (xg_R (pc' := 26) lf_0_30 w28212 g0 sh_1 (by decide) (by decide) ty_1_3 rfl rfl (fun r28219 q28220 g28221 => ?_))
    refine wp_of e98 c98_26 (xg_R (pc' := 29) lf_0_190 w28212 g28221 sh_12 (by decide) (by decide) ty_12_1 rfl rfl (fun r28222 q28223 g28224 => ?_))
    refine wp_of e98 c98_29 (rw_iload_n (pc' := 30) (z := a1) rfl rfl ?_)
    refine wp_of e98 c98_30 (xa_R (pc' := 31) (by decide) w28212 g28224 sh_14 (by decide) (ty_14 _) (by omega) (by omega) rfl (fun r28225 q28226 g28227 => ?_))
    refine wp_of e98 c98_31 (rw_iload_n (pc' := 32) (z := a2) rfl rfl ?_)
    refine wp_of e98 c98_32 (xa_I (so := 0) (pc' := 33) w28212 g28227 sh_15 (by decide) (ty_15 _) (by omega) (by omega) rfl (fun b28228 b28229 => ?_))
    refine wp_of e98 c98_33 (xc_V (pc' := 36) (r := r0) (as := [vI (H28208 r28225 (a2.toNat))]) (st := []) (lm_0_99) rfl rfl (Nat.le_of_ble_eq_true rfl) w28212 g0 sh_1 (by decide) rfl (by decide) (s_51 w28212 g0 ⟨by omega, by omega⟩) (fun R28230 T28231 H28232 p28233 => ?_))
    obtain ⟨e28234, w28236, f28237, z28238, e28235, b28239⟩ := p28233
    subst e28234
    subst e28235
    have f28240 := f28217.tr f28237 rfl
    show wp _ _ 98 36 [(3, vI z28215), (0, .ref r0), (1, vI a1), (2, vI a2)] [vI z28238] _ H28232 _
    exact wp_ireturn e98 c98_36 rfl ⟨rfl, w28236, f28240, z28238, rfl, ⟨by omega, by omega⟩⟩
  · refine wp_of e98 c98_15 (rw_aload_n (pc' := 16) (v := .ref r0) rfl rfl rfl ?_)
    refine wp_of e98 c98_16 (rw_iload_n (pc' := 17) (z := z28215) rfl rfl ?_)
    refine wp_of e98 c98_17 (xc_V (pc' := 20) (r := r0) (as := [vI z28215]) (st := []) (lm_0_70) rfl rfl (Nat.le_of_ble_eq_true rfl) w28212 g0 sh_1 (by decide) rfl (by decide) (s_12 w28212 g0 ⟨by omega, by omega⟩) (fun R28241 T28242 H28243 p28244 => ?_))
    obtain ⟨e28245, w28247, f28248, z28249, e28246, b28250⟩ := p28244
    subst e28245
    subst e28246
    have f28251 := f28217.tr f28248 rfl
    show wp _ _ 98 20 [(3, vI z28215), (0, .ref r0), (1, vI a1), (2, vI a2)] [vI z28249] _ H28243 _
    exact wp_ireturn e98 c98_20 rfl ⟨rfl, w28247, f28251, z28249, rfl, ⟨by omega, by omega⟩⟩
/-! StrikeAwake$Census.countAwake(LStrikeAwake$Parish;II)I -/
theorem e100 : wq_en 100 = some (4, 7, false, some FieldType.int) := rfl
theorem cg100_0 : mc_cd 100 0 = some (.aload_n 1, 1) ∧ mc_cd 100 1 = some (.getfield 78, 3) ∧ mc_cd 100 4 = some (.iload_n 2, 1) ∧ mc_cd 100 5 = some (.aaload, 1) ∧ mc_cd 100 6 = some (.astore 4, 2) ∧ mc_cd 100 8 = some (.iconst 0, 1) ∧ mc_cd 100 9 = some (.istore 5, 2) ∧ mc_cd 100 11 = some (.iconst 0, 1) := by decide +kernel
theorem c100_0 : mc_cd 100 0 = some (.aload_n 1, 1) := cg100_0.1
theorem c100_1 : mc_cd 100 1 = some (.getfield 78, 3) := cg100_0.2.1
theorem c100_4 : mc_cd 100 4 = some (.iload_n 2, 1) := cg100_0.2.2.1
theorem c100_5 : mc_cd 100 5 = some (.aaload, 1) := cg100_0.2.2.2.1
theorem c100_6 : mc_cd 100 6 = some (.astore 4, 2) := cg100_0.2.2.2.2.1
theorem c100_8 : mc_cd 100 8 = some (.iconst 0, 1) := cg100_0.2.2.2.2.2.1
theorem c100_9 : mc_cd 100 9 = some (.istore 5, 2) := cg100_0.2.2.2.2.2.2.1
theorem c100_11 : mc_cd 100 11 = some (.iconst 0, 1) := cg100_0.2.2.2.2.2.2.2
theorem cg100_12 : mc_cd 100 12 = some (.istore 6, 2) ∧ mc_cd 100 14 = some (.iload 6, 2) ∧ mc_cd 100 16 = some (.aload 4, 2) ∧ mc_cd 100 18 = some (.getfield 116, 3) ∧ mc_cd 100 21 = some (.if_icmp .ge 38, 3) ∧ mc_cd 100 24 = some (.aload 4, 2) ∧ mc_cd 100 26 = some (.getfield 119, 3) ∧ mc_cd 100 29 = some (.iload 6, 2) := by decide +kernel
theorem c100_12 : mc_cd 100 12 = some (.istore 6, 2) := cg100_12.1
theorem c100_14 : mc_cd 100 14 = some (.iload 6, 2) := cg100_12.2.1
theorem c100_16 : mc_cd 100 16 = some (.aload 4, 2) := cg100_12.2.2.1
theorem c100_18 : mc_cd 100 18 = some (.getfield 116, 3) := cg100_12.2.2.2.1
theorem c100_21 : mc_cd 100 21 = some (.if_icmp .ge 38, 3) := cg100_12.2.2.2.2.1
theorem c100_24 : mc_cd 100 24 = some (.aload 4, 2) := cg100_12.2.2.2.2.2.1
theorem c100_26 : mc_cd 100 26 = some (.getfield 119, 3) := cg100_12.2.2.2.2.2.2.1
theorem c100_29 : mc_cd 100 29 = some (.iload 6, 2) := cg100_12.2.2.2.2.2.2.2
theorem cg100_31 : mc_cd 100 31 = some (.iaload, 1) ∧ mc_cd 100 32 = some (.iload_n 3, 1) ∧ mc_cd 100 33 = some (.invokestatic 122, 3) ∧ mc_cd 100 36 = some (.ifCond .eq 17, 3) ∧ mc_cd 100 39 = some (.iload 5, 2) ∧ mc_cd 100 41 = some (.aload_n 0, 1) ∧ mc_cd 100 42 = some (.getfield 17, 3) ∧ mc_cd 100 45 = some (.iload_n 2, 1) := by decide +kernel
theorem c100_31 : mc_cd 100 31 = some (.iaload, 1) := cg100_31.1
theorem c100_32 : mc_cd 100 32 = some (.iload_n 3, 1) := cg100_31.2.1
theorem c100_33 : mc_cd 100 33 = some (.invokestatic 122, 3) := cg100_31.2.2.1
theorem c100_36 : mc_cd 100 36 = some (.ifCond .eq 17, 3) := cg100_31.2.2.2.1
theorem c100_39 : mc_cd 100 39 = some (.iload 5, 2) := cg100_31.2.2.2.2.1
theorem c100_41 : mc_cd 100 41 = some (.aload_n 0, 1) := cg100_31.2.2.2.2.2.1
theorem c100_42 : mc_cd 100 42 = some (.getfield 17, 3) := cg100_31.2.2.2.2.2.2.1
theorem c100_45 : mc_cd 100 45 = some (.iload_n 2, 1) := cg100_31.2.2.2.2.2.2.2
theorem cg100_46 : mc_cd 100 46 = some (.aaload, 1) ∧ mc_cd 100 47 = some (.iload 6, 2) ∧ mc_cd 100 49 = some (.iaload, 1) ∧ mc_cd 100 50 = some (.iadd, 1) ∧ mc_cd 100 51 = some (.istore 5, 2) ∧ mc_cd 100 53 = some (.iinc 6 1, 3) ∧ mc_cd 100 56 = some (.goto (-42), 3) ∧ mc_cd 100 59 = some (.iload 5, 2) := by decide +kernel
theorem c100_46 : mc_cd 100 46 = some (.aaload, 1) := cg100_46.1
theorem c100_47 : mc_cd 100 47 = some (.iload 6, 2) := cg100_46.2.1
theorem c100_49 : mc_cd 100 49 = some (.iaload, 1) := cg100_46.2.2.1
theorem c100_50 : mc_cd 100 50 = some (.iadd, 1) := cg100_46.2.2.2.1
theorem c100_51 : mc_cd 100 51 = some (.istore 5, 2) := cg100_46.2.2.2.2.1
theorem c100_53 : mc_cd 100 53 = some (.iinc 6 1, 3) := cg100_46.2.2.2.2.2.1
theorem c100_56 : mc_cd 100 56 = some (.goto (-42), 3) := cg100_46.2.2.2.2.2.2.1
theorem c100_59 : mc_cd 100 59 = some (.iload 5, 2) := cg100_46.2.2.2.2.2.2.2
theorem c100_61 : mc_cd 100 61 = some (.ireturn, 1) := by decide +kernel
abbrev q_100 (r0 : Nat) (r1 : Nat) (a2 : Int) (a3 : Int) (T : wq_T) (H : wq_H) : Option Value → wq_T → wq_H → Prop := fun r T' H' => T = T' ∧ H = H' ∧ ∃ z : Int, some (vI z) = r ∧ ((-2147483648) ≤ z ∧ z ≤ 2147483647)
set_option maxHeartbeats 4000000 in
theorem s_100 {kt : Nat → Option mc_E} {T : wq_T} {H : wq_H} {r0 : Nat} {r1 : Nat} {a2 : Int} {a3 : Int} (hW : WT T H) (g0 : T.2.2.2 r0 = some 12) (g1 : T.2.2.2 r1 = some 27) (i2 : 0 ≤ a2 ∧ a2 ≤ 5) (i3 : (-2147483648) ≤ a3 ∧ a3 ≤ 2147483647) : wpc kt 2 100 [.ref r0, .ref r1, vI a2, vI a3] T H (q_100 r0 r1 a2 a3 T H) := by
  refine wp_enter e100 (Nat.le_of_ble_eq_true rfl) rfl ?_
  show wp _ _ 100 0 [(0, .ref r0), (1, .ref r1), (2, vI a2), (3, vI a3)] [] _ H _
  refine wp_of e100 c100_0 (rw_aload_n (pc' := 1) (v := .ref r1) rfl rfl rfl ?_)
  refine wp_of e100 c100_1 (xg_R (pc' := 4) lf_4_78 hW g1 sh_27 (by decide) (by decide) ty_27_0 rfl rfl (fun r28509 q28510 g28511 => ?_))
  refine wp_of e100 c100_4 (rw_iload_n (pc' := 5) (z := a2) rfl rfl ?_)
  refine wp_of e100 c100_5 (xa_R (pc' := 6) (by decide) hW g28511 sh_28 (by decide) (ty_28 _) (by omega) (by omega) rfl (fun r28512 q28513 g28514 => ?_))
  refine wp_of e100 c100_6 (rw_astore (pc' := 8) (v := .ref r28512) (L' := [(4, .ref r28512), (0, .ref r0), (1, .ref r1), (2, vI a2), (3, vI a3)]) rfl rfl rfl rfl ?_)
  refine wp_of e100 c100_8 (rw_iconst (pc' := 9) rfl ?_)
  refine wp_of e100 c100_9 (rw_istore (pc' := 11) (z := 0) (L' := [(5, vI 0), (4, .ref r28512), (0, .ref r0), (1, .ref r1), (2, vI a2), (3, vI a3)]) rfl rfl rfl ?_)
  refine wp_of e100 c100_11 (rw_iconst (pc' := 12) rfl ?_)
  refine wp_of e100 c100_12 (rw_istore (pc' := 14) (z := 0) (L' := [(6, vI 0), (5, vI 0), (4, .ref r28512), (0, .ref r0), (1, .ref r1), (2, vI a2), (3, vI a3)]) rfl rfl rfl ?_)
  have lp28737 : ∀ (n28738 : Nat) (v28740 : Int) (v28741 : Int), (0 ≤ v28740 ∧ v28740 ≤ 40) → ((-2147483648) ≤ v28741 ∧ v28741 ≤ 2147483647) → (40 - v28740).toNat = n28738 → wp kt 1 100 14 [(6, vI v28740), (5, vI v28741), (4, .ref r28512), (0, .ref r0), (2, vI a2), (3, vI a3)] [] T H (q_100 r0 r1 a2 a3 T H) := by
    intro n28738
    induction n28738 using Nat.strongRecOn with
    | _ n28738 ih28739 =>
      intro v28740 v28741 b28744 b28745 m28746
      refine wp_of e100 c100_14 (rw_iload (pc' := 16) (z := v28740) rfl rfl ?_)
      refine wp_of e100 c100_16 (rw_aload (pc' := 18) (v := .ref r28512) rfl rfl rfl ?_)
      refine wp_of e100 c100_18 (xg_I (pc' := 21) lf_4_116 hW g28514 sh_35 (by decide) (by decide) ty_35_15 rfl rfl (fun b28747 b28748 => ?_))
      refine wp_of e100 c100_21 (rw_icmp_ge (p1 := 59) (p2 := 24) (by decide) rfl ⟨by omega, by omega⟩ ⟨by omega, by omega⟩ (fun c28749 => ?_) (fun c28749 => ?_))
      · refine wp_of e100 c100_59 (rw_iload (pc' := 61) (z := v28741) rfl rfl ?_)
        exact wp_ireturn e100 c100_61 rfl ⟨rfl, rfl, v28741, rfl, ⟨by omega, by omega⟩⟩
      · refine wp_of e100 c100_24 (rw_aload (pc' := 26) (v := .ref r28512) rfl rfl rfl ?_)
        refine wp_of e100 c100_26 (xg_R (pc' := 29) lf_4_119 hW g28514 sh_35 (by decide) (by decide) ty_35_3 rfl rfl (fun r28750 q28751 g28752 => ?_))
        refine wp_of e100 c100_29 (rw_iload (pc' := 31) (z := v28740) rfl rfl ?_)
        refine wp_of e100 c100_31 (xa_I (so := 0) (pc' := 32) hW g28752 sh_39 (by decide) (ty_39 _) (by omega) (by omega) rfl (fun b28753 b28754 => ?_))
        refine wp_of e100 c100_32 (rw_iload_n (pc' := 33) (z := a3) rfl rfl ?_)
        refine wp_of e100 c100_33 (xc_S (pc' := 36) (as := [vI (H r28750 (v28740.toNat)), vI a3]) (st := []) (lm_4_122) rfl rfl (Nat.le_of_ble_eq_true rfl) rfl (by decide) (s_36 hW ⟨by omega, by omega⟩ ⟨by omega, by omega⟩) (fun R28755 T28756 H28757 p28758 => ?_))
        obtain ⟨e28759, e28761, z28762, e28760, b28763⟩ := p28758
        subst e28759
        subst e28760
        subst e28761
        show wp _ _ 100 36 [(6, vI v28740), (5, vI v28741), (4, .ref r28512), (0, .ref r0), (2, vI a2), (3, vI a3)] [vI z28762] _ H _
        refine wp_of e100 c100_36 (rw_if_eq (p1 := 53) (p2 := 39) (by decide) rfl ⟨by omega, by omega⟩ (fun c28764 => ?_) (fun c28764 => ?_))
        · refine wp_of e100 c100_53 (rw_iinc (pc' := 56) (z := v28740) (L' := [(6, vI (v28740 + 1)), (5, vI v28741), (4, .ref r28512), (0, .ref r0), (2, vI a2), (3, vI a3)]) rfl rfl rfl rfl ?_)
          refine wp_of e100 c100_56 (rw_goto (p1 := 14) (by decide) ?_)
          exact wp_lc (ks := [6, 5, 4, 0, 2, 3]) (wl_c rfl (wl_c rfl (wl_c rfl (wl_c rfl (wl_c rfl (wl_c rfl wl_n)))))) rfl (by decide) (ih28739 _ (by omega) (v28740 + 1) v28741 ⟨by omega, by omega⟩ ⟨by omega, by omega⟩ rfl)
        · refine wp_of e100 c100_39 (rw_iload (pc' := 41) (z := v28741) rfl rfl ?_)
          refine wp_of e100 c100_41 (rw_aload_n (pc' := 42) (v := .ref r0) rfl rfl rfl ?_)
          refine wp_of e100 c100_42 (xg_R (pc' := 45) lf_4_17 hW g0 sh_12 (by decide) (by decide) ty_12_1 rfl rfl (fun r28765 q28766 g28767 => ?_))
          refine wp_of e100 c100_45 (rw_iload_n (pc' := 46) (z := a2) rfl rfl ?_)
          refine wp_of e100 c100_46 (xa_R (pc' := 47) (by decide) hW g28767 sh_14 (by decide) (ty_14 _) (by omega) (by omega) rfl (fun r28768 q28769 g28770 => ?_))
          refine wp_of e100 c100_47 (rw_iload (pc' := 49) (z := v28740) rfl rfl ?_)
          refine wp_of e100 c100_49 (xa_I (so := 0) (pc' := 50) hW g28770 sh_15 (by decide) (ty_15 _) (by omega) (by omega) rfl (fun b28771 b28772 => ?_))
          refine wp_of e100 c100_50 (rw_iaddw (pc' := 51) rfl ?_)
          obtain ⟨v28773, e28774⟩ : ∃ x : Int, x = wq_w (v28741 + (H r28768 (v28740.toNat))) := ⟨_, rfl⟩
          rw [← e28774]
          have b28775 : -2147483648 ≤ v28773 ∧ v28773 ≤ 2147483647 := by
            rw [e28774]
            exact wI_w _
          refine wp_of e100 c100_51 (rw_istore (pc' := 53) (z := v28773) (L' := [(5, vI v28773), (6, vI v28740), (4, .ref r28512), (0, .ref r0), (2, vI a2), (3, vI a3)]) rfl rfl rfl ?_)
          refine wp_of e100 c100_53 (rw_iinc (pc' := 56) (z := v28740) (L' := [(6, vI (v28740 + 1)), (5, vI v28773), (4, .ref r28512), (0, .ref r0), (2, vI a2), (3, vI a3)]) rfl rfl rfl rfl ?_)
          refine wp_of e100 c100_56 (rw_goto (p1 := 14) (by decide) ?_)
          exact wp_lc (ks := [6, 5, 4, 0, 2, 3]) (wl_c rfl (wl_c rfl (wl_c rfl (wl_c rfl (wl_c rfl (wl_c rfl wl_n)))))) rfl (by decide) (ih28739 _ (by omega) (v28740 + 1) v28773 ⟨by omega, by omega⟩ ⟨by omega, by omega⟩ rfl)
  exact wp_lc (ks := [6, 5, 4, 0, 1, 2, 3]) (wl_c rfl (wl_c rfl (wl_c rfl (wl_c rfl (wl_c rfl (wl_c rfl wl_n)))))) rfl (by decide) (lp28737 _ 0 0 ⟨by omega, by omega⟩ ⟨by omega, by omega⟩ rfl)
/-! StrikeAwake.times(II)I -/
theorem e99 : wq_en 99 = some (0, 4, false, some FieldType.int) := rfl
theorem cg99_0 : mc_cd 99 0 = some (.aload_n 0, 1) ∧ mc_cd 99 1 = some (.aload_n 0, 1) ∧ mc_cd 99 2 = some (.iload_n 1, 1) ∧ mc_cd 99 3 = some (.invokevirtual 105, 3) ∧ mc_cd 99 6 = some (.ifCond .eq 15, 3) ∧ mc_cd 99 9 = some (.aload_n 0, 1) ∧ mc_cd 99 10 = some (.iload_n 2, 1) ∧ mc_cd 99 11 = some (.invokevirtual 132, 3) := by decide +kernel
theorem c99_0 : mc_cd 99 0 = some (.aload_n 0, 1) := cg99_0.1
theorem c99_1 : mc_cd 99 1 = some (.aload_n 0, 1) := cg99_0.2.1
theorem c99_2 : mc_cd 99 2 = some (.iload_n 1, 1) := cg99_0.2.2.1
theorem c99_3 : mc_cd 99 3 = some (.invokevirtual 105, 3) := cg99_0.2.2.2.1
theorem c99_6 : mc_cd 99 6 = some (.ifCond .eq 15, 3) := cg99_0.2.2.2.2.1
theorem c99_9 : mc_cd 99 9 = some (.aload_n 0, 1) := cg99_0.2.2.2.2.2.1
theorem c99_10 : mc_cd 99 10 = some (.iload_n 2, 1) := cg99_0.2.2.2.2.2.2.1
theorem c99_11 : mc_cd 99 11 = some (.invokevirtual 132, 3) := cg99_0.2.2.2.2.2.2.2
theorem cg99_14 : mc_cd 99 14 = some (.ifCond .eq 7, 3) ∧ mc_cd 99 17 = some (.iconst 1, 1) ∧ mc_cd 99 18 = some (.goto 4, 3) ∧ mc_cd 99 21 = some (.iconst 0, 1) ∧ mc_cd 99 22 = some (.invokevirtual 174, 3) ∧ mc_cd 99 25 = some (.istore_n 3, 1) ∧ mc_cd 99 26 = some (.iload_n 3, 1) ∧ mc_cd 99 27 = some (.ifCond .eq 9, 3) := by decide +kernel
theorem c99_14 : mc_cd 99 14 = some (.ifCond .eq 7, 3) := cg99_14.1
theorem c99_17 : mc_cd 99 17 = some (.iconst 1, 1) := cg99_14.2.1
theorem c99_18 : mc_cd 99 18 = some (.goto 4, 3) := cg99_14.2.2.1
theorem c99_21 : mc_cd 99 21 = some (.iconst 0, 1) := cg99_14.2.2.2.1
theorem c99_22 : mc_cd 99 22 = some (.invokevirtual 174, 3) := cg99_14.2.2.2.2.1
theorem c99_25 : mc_cd 99 25 = some (.istore_n 3, 1) := cg99_14.2.2.2.2.2.1
theorem c99_26 : mc_cd 99 26 = some (.iload_n 3, 1) := cg99_14.2.2.2.2.2.2.1
theorem c99_27 : mc_cd 99 27 = some (.ifCond .eq 9, 3) := cg99_14.2.2.2.2.2.2.2
theorem cg99_30 : mc_cd 99 30 = some (.aload_n 0, 1) ∧ mc_cd 99 31 = some (.iload_n 3, 1) ∧ mc_cd 99 32 = some (.invokevirtual 70, 3) ∧ mc_cd 99 35 = some (.ireturn, 1) ∧ mc_cd 99 36 = some (.aload_n 0, 1) ∧ mc_cd 99 37 = some (.aload_n 0, 1) ∧ mc_cd 99 38 = some (.getfield 30, 3) ∧ mc_cd 99 41 = some (.aload_n 0, 1) := by decide +kernel
theorem c99_30 : mc_cd 99 30 = some (.aload_n 0, 1) := cg99_30.1
theorem c99_31 : mc_cd 99 31 = some (.iload_n 3, 1) := cg99_30.2.1
theorem c99_32 : mc_cd 99 32 = some (.invokevirtual 70, 3) := cg99_30.2.2.1
theorem c99_35 : mc_cd 99 35 = some (.ireturn, 1) := cg99_30.2.2.2.1
theorem c99_36 : mc_cd 99 36 = some (.aload_n 0, 1) := cg99_30.2.2.2.2.1
theorem c99_37 : mc_cd 99 37 = some (.aload_n 0, 1) := cg99_30.2.2.2.2.2.1
theorem c99_38 : mc_cd 99 38 = some (.getfield 30, 3) := cg99_30.2.2.2.2.2.2.1
theorem c99_41 : mc_cd 99 41 = some (.aload_n 0, 1) := cg99_30.2.2.2.2.2.2.2
theorem cg99_42 : mc_cd 99 42 = some (.getfield 51, 3) ∧ mc_cd 99 45 = some (.iload_n 1, 1) ∧ mc_cd 99 46 = some (.iload_n 2, 1) ∧ mc_cd 99 47 = some (.invokevirtual 194, 3) ∧ mc_cd 99 50 = some (.invokevirtual 99, 3) ∧ mc_cd 99 53 = some (.ireturn, 1) := by decide +kernel
theorem c99_42 : mc_cd 99 42 = some (.getfield 51, 3) := cg99_42.1
theorem c99_45 : mc_cd 99 45 = some (.iload_n 1, 1) := cg99_42.2.1
theorem c99_46 : mc_cd 99 46 = some (.iload_n 2, 1) := cg99_42.2.2.1
theorem c99_47 : mc_cd 99 47 = some (.invokevirtual 194, 3) := cg99_42.2.2.2.1
theorem c99_50 : mc_cd 99 50 = some (.invokevirtual 99, 3) := cg99_42.2.2.2.2.1
theorem c99_53 : mc_cd 99 53 = some (.ireturn, 1) := cg99_42.2.2.2.2.2
abbrev q_99 (r0 : Nat) (a1 : Int) (a2 : Int) (T : wq_T) (H : wq_H) : Option Value → wq_T → wq_H → Prop := fun r T' H' => T = T' ∧ WT T H' ∧ wfr [(12, 5), (12, 6), (12, 7), (12, 8), (12, 9), (1, 10), (6, 5), (8, 999), (10, 999), (15, 999), (9, 999), (18, 999), (19, 999), (7, 999), (11, 999), (17, 999), (13, 999)] T H H' ∧ ∃ z : Int, some (vI z) = r ∧ ((-2147483648) ≤ z ∧ z ≤ 2147483647)
set_option maxHeartbeats 4000000 in
theorem s_99 {kt : Nat → Option mc_E} {T : wq_T} {H : wq_H} {r0 : Nat} {a1 : Int} {a2 : Int} (hW : WT T H) (g0 : T.2.2.2 r0 = some 1) (i1 : (-2147483648) ≤ a1 ∧ a1 ≤ 2147483647) (i2 : (-2147483648) ≤ a2 ∧ a2 ≤ 2147483647) : wpc kt 6 99 [.ref r0, vI a1, vI a2] T H (q_99 r0 a1 a2 T H) := by
  refine wp_enter e99 (Nat.le_of_ble_eq_true rfl) rfl ?_
  have f0 : wfr [(12, 5), (12, 6), (12, 7), (12, 8), (12, 9), (1, 10), (6, 5), (8, 999), (10, 999), (15, 999), (9, 999), (18, 999), (19, 999), (7, 999), (11, 999), (17, 999), (13, 999)] T H H := wfr.rf
  show wp _ _ 99 0 [(0, .ref r0), (1, vI a1), (2, vI a2)] [] _ H _
  refine wp_of e99 c99_0 (rw_aload_n (pc' := 1) (v := .ref r0) rfl rfl rfl ?_)
  refine wp_of e99 c99_1 (rw_aload_n (pc' := 2) (v := .ref r0) rfl rfl rfl ?_)
  refine wp_of e99 c99_2 (rw_iload_n (pc' := 3) (z := a1) rfl rfl ?_)
  refine wp_of e99 c99_3 (xc_V (pc' := 6) (r := r0) (as := [vI a1]) (st := [.ref r0]) (lm_0_105) rfl rfl (Nat.le_of_ble_eq_true rfl) hW g0 sh_1 (by decide) rfl (by decide) (s_55 hW g0 ⟨by omega, by omega⟩) (fun R28896 T28897 H28898 p28899 => ?_))
  obtain ⟨e28900, e28902, z28904, e28901, b28905, p28903⟩ := p28899
  subst e28900
  subst e28901
  subst e28902
  show wp _ _ 99 6 [(0, .ref r0), (1, vI a1), (2, vI a2)] [vI z28904, .ref r0] _ H _
  refine wp_of e99 c99_6 (rw_if_eq (p1 := 21) (p2 := 9) (by decide) rfl ⟨by omega, by omega⟩ (fun c28906 => ?_) (fun c28906 => ?_))
  · refine wp_of e99 c99_21 (rw_iconst (pc' := 22) rfl ?_)
    refine wp_of e99 c99_22 (xc_V (pc' := 25) (r := r0) (as := [vI 0]) (st := []) (lm_0_174) rfl rfl (Nat.le_of_ble_eq_true rfl) hW g0 sh_1 (by decide) rfl (by decide) (s_83 hW g0 ⟨by omega, by omega⟩) (fun R28907 T28908 H28909 p28910 => ?_))
    obtain ⟨e28911, w28913, f28914, z28916, e28912, b28917, p28915⟩ := p28910
    subst e28911
    subst e28912
    have f28918 := f0.tr f28914 rfl
    show wp _ _ 99 25 [(0, .ref r0), (1, vI a1), (2, vI a2)] [vI z28916] _ H28909 _
    refine wp_of e99 c99_25 (rw_istore_n (pc' := 26) (z := z28916) (L' := [(3, vI z28916), (0, .ref r0), (1, vI a1), (2, vI a2)]) rfl rfl rfl ?_)
    refine wp_of e99 c99_26 (rw_iload_n (pc' := 27) (z := z28916) rfl rfl ?_)
    refine wp_of e99 c99_27 (rw_if_eq (p1 := 36) (p2 := 30) (by decide) rfl ⟨by omega, by omega⟩ (fun c28919 => ?_) (fun c28919 => ?_))
    · exfalso
      omega
    · refine wp_of e99 c99_30 (rw_aload_n (pc' := 31) (v := .ref r0) rfl rfl rfl ?_)
      refine wp_of e99 c99_31 (rw_iload_n (pc' := 32) (z := z28916) rfl rfl ?_)
      refine wp_of e99 c99_32 (xc_V (pc' := 35) (r := r0) (as := [vI z28916]) (st := []) (lm_0_70) rfl rfl (Nat.le_of_ble_eq_true rfl) w28913 g0 sh_1 (by decide) rfl (by decide) (s_12 w28913 g0 ⟨by omega, by omega⟩) (fun R28920 T28921 H28922 p28923 => ?_))
      obtain ⟨e28924, w28926, f28927, z28928, e28925, b28929⟩ := p28923
      subst e28924
      subst e28925
      have f28930 := f28918.tr f28927 rfl
      show wp _ _ 99 35 [(3, vI z28916), (0, .ref r0), (1, vI a1), (2, vI a2)] [vI z28928] _ H28922 _
      exact wp_ireturn e99 c99_35 rfl ⟨rfl, w28926, f28930, z28928, rfl, ⟨by omega, by omega⟩⟩
  · refine wp_of e99 c99_9 (rw_aload_n (pc' := 10) (v := .ref r0) rfl rfl rfl ?_)
    refine wp_of e99 c99_10 (rw_iload_n (pc' := 11) (z := a2) rfl rfl ?_)
    refine wp_of e99 c99_11 (xc_V (pc' := 14) (r := r0) (as := [vI a2]) (st := [.ref r0]) (lm_0_132) rfl rfl (Nat.le_of_ble_eq_true rfl) hW g0 sh_1 (by decide) rfl (by decide) (s_60 hW g0 ⟨by omega, by omega⟩) (fun R28931 T28932 H28933 p28934 => ?_))
    obtain ⟨e28935, e28937, z28939, e28936, b28940, p28938⟩ := p28934
    subst e28935
    subst e28936
    subst e28937
    show wp _ _ 99 14 [(0, .ref r0), (1, vI a1), (2, vI a2)] [vI z28939, .ref r0] _ H _
    refine wp_of e99 c99_14 (rw_if_eq (p1 := 21) (p2 := 17) (by decide) rfl ⟨by omega, by omega⟩ (fun c28941 => ?_) (fun c28941 => ?_))
    · refine wp_of e99 c99_21 (rw_iconst (pc' := 22) rfl ?_)
      refine wp_of e99 c99_22 (xc_V (pc' := 25) (r := r0) (as := [vI 0]) (st := []) (lm_0_174) rfl rfl (Nat.le_of_ble_eq_true rfl) hW g0 sh_1 (by decide) rfl (by decide) (s_83 hW g0 ⟨by omega, by omega⟩) (fun R28942 T28943 H28944 p28945 => ?_))
      obtain ⟨e28946, w28948, f28949, z28951, e28947, b28952, p28950⟩ := p28945
      subst e28946
      subst e28947
      have f28953 := f0.tr f28949 rfl
      show wp _ _ 99 25 [(0, .ref r0), (1, vI a1), (2, vI a2)] [vI z28951] _ H28944 _
      refine wp_of e99 c99_25 (rw_istore_n (pc' := 26) (z := z28951) (L' := [(3, vI z28951), (0, .ref r0), (1, vI a1), (2, vI a2)]) rfl rfl rfl ?_)
      refine wp_of e99 c99_26 (rw_iload_n (pc' := 27) (z := z28951) rfl rfl ?_)
      refine wp_of e99 c99_27 (rw_if_eq (p1 := 36) (p2 := 30) (by decide) rfl ⟨by omega, by omega⟩ (fun c28954 => ?_) (fun c28954 => ?_))
      · exfalso
        omega
      · refine wp_of e99 c99_30 (rw_aload_n (pc' := 31) (v := .ref r0) rfl rfl rfl ?_)
        refine wp_of e99 c99_31 (rw_iload_n (pc' := 32) (z := z28951) rfl rfl ?_)
        refine wp_of e99 c99_32 (xc_V (pc' := 35) (r := r0) (as := [vI z28951]) (st := []) (lm_0_70) rfl rfl (Nat.le_of_ble_eq_true rfl) w28948 g0 sh_1 (by decide) rfl (by decide) (s_12 w28948 g0 ⟨by omega, by omega⟩) (fun R28955 T28956 H28957 p28958 => ?_))
        obtain ⟨e28959, w28961, f28962, z28963, e28960, b28964⟩ := p28958
        subst e28959
        subst e28960
        have f28965 := f28953.tr f28962 rfl
        show wp _ _ 99 35 [(3, vI z28951), (0, .ref r0), (1, vI a1), (2, vI a2)] [vI z28963] _ H28957 _
        exact wp_ireturn e99 c99_35 rfl ⟨rfl, w28961, f28965, z28963, rfl, ⟨by omega, by omega⟩⟩
    · refine wp_of e99 c99_17 (rw_iconst (pc' := 18) rfl ?_)
      refine wp_of e99 c99_18 (rw_goto (p1 := 22) (by decide) ?_)
      refine wp_of e99 c99_22 (xc_V (pc' := 25) (r := r0) (as := [vI 1]) (st := []) (lm_0_174) rfl rfl (Nat.le_of_ble_eq_true rfl) hW g0 sh_1 (by decide) rfl (by decide) (s_83 hW g0 ⟨by omega, by omega⟩) (fun R28966 T28967 H28968 p28969 => ?_))
      obtain ⟨e28970, w28972, f28973, z28975, e28971, b28976, p28974⟩ := p28969
      subst e28970
      subst e28971
      have f28977 := f0.tr f28973 rfl
      show wp _ _ 99 25 [(0, .ref r0), (1, vI a1), (2, vI a2)] [vI z28975] _ H28968 _
      refine wp_of e99 c99_25 (rw_istore_n (pc' := 26) (z := z28975) (L' := [(3, vI z28975), (0, .ref r0), (1, vI a1), (2, vI a2)]) rfl rfl rfl ?_)
      refine wp_of e99 c99_26 (rw_iload_n (pc' := 27) (z := z28975) rfl rfl ?_)
      refine wp_of e99 c99_27 (rw_if_eq (p1 := 36) (p2 := 30) (by decide) rfl ⟨by omega, by omega⟩ (fun c28978 => ?_) (fun c28978 => ?_))
      · refine wp_of e99 c99_36 (rw_aload_n (pc' := 37) (v := .ref r0) rfl rfl rfl ?_)
        refine wp_of e99 c99_37 (rw_aload_n (pc' := 38) (v := .ref r0) rfl rfl rfl ?_)
        refine wp_of e99 c99_38 (xg_R (pc' := 41) lf_0_30 w28972 g0 sh_1 (by decide) (by decide) ty_1_3 rfl rfl (fun r28979 q28980 g28981 => ?_))
        refine wp_of e99 c99_41 (rw_aload_n (pc' := 42) (v := .ref r0) rfl rfl rfl ?_)
        refine wp_of e99 c99_42 (xg_R (pc' := 45) lf_0_51 w28972 g0 sh_1 (by decide) (by decide) ty_1_6 rfl rfl (fun r28982 q28983 g28984 => ?_))
        refine wp_of e99 c99_45 (rw_iload_n (pc' := 46) (z := a1) rfl rfl ?_)
        refine wp_of e99 c99_46 (rw_iload_n (pc' := 47) (z := a2) rfl rfl ?_)
        refine wp_of e99 c99_47 (xc_V (pc' := 50) (r := r28979) (as := [.ref r28982, vI a1, vI a2]) (st := [.ref r0]) (lm_0_194) rfl rfl (Nat.le_of_ble_eq_true rfl) w28972 g28981 sh_12 (by decide) rfl (by decide) (s_100 w28972 g28981 g28984 ⟨by omega, by omega⟩ ⟨by omega, by omega⟩) (fun R28985 T28986 H28987 p28988 => ?_))
        obtain ⟨e28989, e28991, z28992, e28990, b28993⟩ := p28988
        subst e28989
        subst e28990
        subst e28991
        show wp _ _ 99 50 [(3, vI z28975), (0, .ref r0), (1, vI a1), (2, vI a2)] [vI z28992, .ref r0] _ H28968 _
        refine wp_of e99 c99_50 (xc_V (pc' := 53) (r := r0) (as := [vI z28992]) (st := []) (lm_0_99) rfl rfl (Nat.le_of_ble_eq_true rfl) w28972 g0 sh_1 (by decide) rfl (by decide) (s_51 w28972 g0 ⟨by omega, by omega⟩) (fun R28994 T28995 H28996 p28997 => ?_))
        obtain ⟨e28998, w29000, f29001, z29002, e28999, b29003⟩ := p28997
        subst e28998
        subst e28999
        have f29004 := f28977.tr f29001 rfl
        show wp _ _ 99 53 [(3, vI z28975), (0, .ref r0), (1, vI a1), (2, vI a2)] [vI z29002] _ H28996 _
        exact wp_ireturn e99 c99_53 rfl ⟨rfl, w29000, f29004, z29002, rfl, ⟨by omega, by omega⟩⟩
      · refine wp_of e99 c99_30 (rw_aload_n (pc' := 31) (v := .ref r0) rfl rfl rfl ?_)
        refine wp_of e99 c99_31 (rw_iload_n (pc' := 32) (z := z28975) rfl rfl ?_)
        refine wp_of e99 c99_32 (xc_V (pc' := 35) (r := r0) (as := [vI z28975]) (st := []) (lm_0_70) rfl rfl (Nat.le_of_ble_eq_true rfl) w28972 g0 sh_1 (by decide) rfl (by decide) (s_12 w28972 g0 ⟨by omega, by omega⟩) (fun R29005 T29006 H29007 p29008 => ?_))
        obtain ⟨e29009, w29011, f29012, z29013, e29010, b29014⟩ := p29008
        subst e29009
        subst e29010
        have f29015 := f28977.tr f29012 rfl
        show wp _ _ 99 35 [(3, vI z28975), (0, .ref r0), (1, vI a1), (2, vI a2)] [vI z29013] _ H29007 _
        exact wp_ireturn e99 c99_35 rfl ⟨rfl, w29011, f29015, z29013, rfl, ⟨by omega, by omega⟩⟩
/-! StrikeAwake.barOfSome(Z)I -/
theorem e102 : wq_en 102 = some (0, 3, false, some FieldType.int) := rfl
theorem cg102_0 : mc_cd 102 0 = some (.aload_n 0, 1) ∧ mc_cd 102 1 = some (.iload_n 1, 1) ∧ mc_cd 102 2 = some (.invokevirtual 174, 3) ∧ mc_cd 102 5 = some (.istore_n 2, 1) ∧ mc_cd 102 6 = some (.iload_n 2, 1) ∧ mc_cd 102 7 = some (.ifCond .ne 18, 3) ∧ mc_cd 102 10 = some (.aload_n 0, 1) ∧ mc_cd 102 11 = some (.getfield 30, 3) := by decide +kernel
theorem c102_0 : mc_cd 102 0 = some (.aload_n 0, 1) := cg102_0.1
theorem c102_1 : mc_cd 102 1 = some (.iload_n 1, 1) := cg102_0.2.1
theorem c102_2 : mc_cd 102 2 = some (.invokevirtual 174, 3) := cg102_0.2.2.1
theorem c102_5 : mc_cd 102 5 = some (.istore_n 2, 1) := cg102_0.2.2.2.1
theorem c102_6 : mc_cd 102 6 = some (.iload_n 2, 1) := cg102_0.2.2.2.2.1
theorem c102_7 : mc_cd 102 7 = some (.ifCond .ne 18, 3) := cg102_0.2.2.2.2.2.1
theorem c102_10 : mc_cd 102 10 = some (.aload_n 0, 1) := cg102_0.2.2.2.2.2.2.1
theorem c102_11 : mc_cd 102 11 = some (.getfield 30, 3) := cg102_0.2.2.2.2.2.2.2
theorem cg102_14 : mc_cd 102 14 = some (.getfield 177, 3) ∧ mc_cd 102 17 = some (.ifCond .ne 8, 3) ∧ mc_cd 102 20 = some (.bipush 6, 2) ∧ mc_cd 102 22 = some (.goto 4, 3) ∧ mc_cd 102 25 = some (.iload_n 2, 1) ∧ mc_cd 102 26 = some (.ireturn, 1) := by decide +kernel
theorem c102_14 : mc_cd 102 14 = some (.getfield 177, 3) := cg102_14.1
theorem c102_17 : mc_cd 102 17 = some (.ifCond .ne 8, 3) := cg102_14.2.1
theorem c102_20 : mc_cd 102 20 = some (.bipush 6, 2) := cg102_14.2.2.1
theorem c102_22 : mc_cd 102 22 = some (.goto 4, 3) := cg102_14.2.2.2.1
theorem c102_25 : mc_cd 102 25 = some (.iload_n 2, 1) := cg102_14.2.2.2.2.1
theorem c102_26 : mc_cd 102 26 = some (.ireturn, 1) := cg102_14.2.2.2.2.2
abbrev q_102 (r0 : Nat) (a1 : Int) (T : wq_T) (H : wq_H) : Option Value → wq_T → wq_H → Prop := fun r T' H' => T = T' ∧ WT T H' ∧ wfr [(12, 5), (12, 6), (12, 7), (12, 8), (12, 9), (6, 5), (8, 999), (10, 999), (15, 999), (9, 999), (18, 999), (19, 999), (7, 999), (11, 999), (17, 999), (13, 999)] T H H' ∧ ∃ z : Int, some (vI z) = r ∧ (0 ≤ z ∧ z ≤ 6) ∧ (z ≠ 0 ∨ a1 = 1)
set_option maxHeartbeats 4000000 in
theorem s_102 {kt : Nat → Option mc_E} {T : wq_T} {H : wq_H} {r0 : Nat} {a1 : Int} (hW : WT T H) (g0 : T.2.2.2 r0 = some 1) (i1 : 0 ≤ a1 ∧ a1 ≤ 1) : wpc kt 6 102 [.ref r0, vI a1] T H (q_102 r0 a1 T H) := by
  refine wp_enter e102 (Nat.le_of_ble_eq_true rfl) rfl ?_
  have f0 : wfr [(12, 5), (12, 6), (12, 7), (12, 8), (12, 9), (6, 5), (8, 999), (10, 999), (15, 999), (9, 999), (18, 999), (19, 999), (7, 999), (11, 999), (17, 999), (13, 999)] T H H := wfr.rf
  show wp _ _ 102 0 [(0, .ref r0), (1, vI a1)] [] _ H _
  refine wp_of e102 c102_0 (rw_aload_n (pc' := 1) (v := .ref r0) rfl rfl rfl ?_)
  refine wp_of e102 c102_1 (rw_iload_n (pc' := 2) (z := a1) rfl rfl ?_)
  refine wp_of e102 c102_2 (xc_V (pc' := 5) (r := r0) (as := [vI a1]) (st := []) (lm_0_174) rfl rfl (Nat.le_of_ble_eq_true rfl) hW g0 sh_1 (by decide) rfl (by decide) (s_83 hW g0 ⟨by omega, by omega⟩) (fun R29035 T29036 H29037 p29038 => ?_))
  obtain ⟨e29039, w29041, f29042, z29044, e29040, b29045, p29043⟩ := p29038
  subst e29039
  subst e29040
  have f29046 := f0.tr f29042 rfl
  show wp _ _ 102 5 [(0, .ref r0), (1, vI a1)] [vI z29044] _ H29037 _
  refine wp_of e102 c102_5 (rw_istore_n (pc' := 6) (z := z29044) (L' := [(2, vI z29044), (0, .ref r0), (1, vI a1)]) rfl rfl rfl ?_)
  refine wp_of e102 c102_6 (rw_iload_n (pc' := 7) (z := z29044) rfl rfl ?_)
  refine wp_of e102 c102_7 (rw_if_ne (p1 := 25) (p2 := 10) (by decide) rfl ⟨by omega, by omega⟩ (fun c29047 => ?_) (fun c29047 => ?_))
  · refine wp_of e102 c102_25 (rw_iload_n (pc' := 26) (z := z29044) rfl rfl ?_)
    exact wp_ireturn e102 c102_26 rfl ⟨rfl, w29041, f29046, z29044, rfl, ⟨by omega, by omega⟩, by omega⟩
  · refine wp_of e102 c102_10 (rw_aload_n (pc' := 11) (v := .ref r0) rfl rfl rfl ?_)
    refine wp_of e102 c102_11 (xg_R (pc' := 14) lf_0_30 w29041 g0 sh_1 (by decide) (by decide) ty_1_3 rfl rfl (fun r29048 q29049 g29050 => ?_))
    refine wp_of e102 c102_14 (xg_I (pc' := 17) lf_0_177 w29041 g29050 sh_12 (by decide) (by decide) ty_12_5 rfl rfl (fun b29051 b29052 => ?_))
    refine wp_of e102 c102_17 (rw_if_ne (p1 := 25) (p2 := 20) (by decide) rfl ⟨by omega, by omega⟩ (fun c29053 => ?_) (fun c29053 => ?_))
    · refine wp_of e102 c102_25 (rw_iload_n (pc' := 26) (z := z29044) rfl rfl ?_)
      exact wp_ireturn e102 c102_26 rfl ⟨rfl, w29041, f29046, z29044, rfl, ⟨by omega, by omega⟩, by omega⟩
    · refine wp_of e102 c102_20 (rw_bipush (pc' := 22) (z := 6) rfl (by decide) ?_)
      refine wp_of e102 c102_22 (rw_goto (p1 := 26) (by decide) ?_)
      exact wp_ireturn e102 c102_26 rfl ⟨rfl, w29041, f29046, 6, rfl, ⟨by omega, by omega⟩, by omega⟩
/-! StrikeAwake$Census.sureness(LStrikeAwake$Parish;II)I -/
theorem e103 : wq_en 103 = some (4, 5, false, some FieldType.int) := rfl
theorem cg103_0 : mc_cd 103 0 = some (.aload_n 0, 1) ∧ mc_cd 103 1 = some (.aload_n 1, 1) ∧ mc_cd 103 2 = some (.iload_n 2, 1) ∧ mc_cd 103 3 = some (.iload_n 3, 1) ∧ mc_cd 103 4 = some (.invokevirtual 126, 3) ∧ mc_cd 103 7 = some (.istore 4, 2) ∧ mc_cd 103 9 = some (.iload 4, 2) ∧ mc_cd 103 11 = some (.ifCond .ne 5, 3) := by decide +kernel
theorem c103_0 : mc_cd 103 0 = some (.aload_n 0, 1) := cg103_0.1
theorem c103_1 : mc_cd 103 1 = some (.aload_n 1, 1) := cg103_0.2.1
theorem c103_2 : mc_cd 103 2 = some (.iload_n 2, 1) := cg103_0.2.2.1
theorem c103_3 : mc_cd 103 3 = some (.iload_n 3, 1) := cg103_0.2.2.2.1
theorem c103_4 : mc_cd 103 4 = some (.invokevirtual 126, 3) := cg103_0.2.2.2.2.1
theorem c103_7 : mc_cd 103 7 = some (.istore 4, 2) := cg103_0.2.2.2.2.2.1
theorem c103_9 : mc_cd 103 9 = some (.iload 4, 2) := cg103_0.2.2.2.2.2.2.1
theorem c103_11 : mc_cd 103 11 = some (.ifCond .ne 5, 3) := cg103_0.2.2.2.2.2.2.2
theorem cg103_14 : mc_cd 103 14 = some (.iconst 0, 1) ∧ mc_cd 103 15 = some (.ireturn, 1) ∧ mc_cd 103 16 = some (.iload 4, 2) ∧ mc_cd 103 18 = some (.aload_n 0, 1) ∧ mc_cd 103 19 = some (.getfield 62, 3) ∧ mc_cd 103 22 = some (.if_icmp .ne 7, 3) ∧ mc_cd 103 25 = some (.iconst 2, 1) ∧ mc_cd 103 26 = some (.goto 4, 3) := by decide +kernel
theorem c103_14 : mc_cd 103 14 = some (.iconst 0, 1) := cg103_14.1
theorem c103_15 : mc_cd 103 15 = some (.ireturn, 1) := cg103_14.2.1
theorem c103_16 : mc_cd 103 16 = some (.iload 4, 2) := cg103_14.2.2.1
theorem c103_18 : mc_cd 103 18 = some (.aload_n 0, 1) := cg103_14.2.2.2.1
theorem c103_19 : mc_cd 103 19 = some (.getfield 62, 3) := cg103_14.2.2.2.2.1
theorem c103_22 : mc_cd 103 22 = some (.if_icmp .ne 7, 3) := cg103_14.2.2.2.2.2.1
theorem c103_25 : mc_cd 103 25 = some (.iconst 2, 1) := cg103_14.2.2.2.2.2.2.1
theorem c103_26 : mc_cd 103 26 = some (.goto 4, 3) := cg103_14.2.2.2.2.2.2.2
theorem cg103_29 : mc_cd 103 29 = some (.iconst 1, 1) ∧ mc_cd 103 30 = some (.ireturn, 1) := by decide +kernel
theorem c103_29 : mc_cd 103 29 = some (.iconst 1, 1) := cg103_29.1
theorem c103_30 : mc_cd 103 30 = some (.ireturn, 1) := cg103_29.2
abbrev q_103 (r0 : Nat) (r1 : Nat) (a2 : Int) (a3 : Int) (T : wq_T) (H : wq_H) : Option Value → wq_T → wq_H → Prop := fun r T' H' => T = T' ∧ H = H' ∧ ∃ z : Int, some (vI z) = r ∧ (0 ≤ z ∧ z ≤ 2)
set_option maxHeartbeats 4000000 in
theorem s_103 {kt : Nat → Option mc_E} {T : wq_T} {H : wq_H} {r0 : Nat} {r1 : Nat} {a2 : Int} {a3 : Int} (hW : WT T H) (g0 : T.2.2.2 r0 = some 12) (g1 : T.2.2.2 r1 = some 27) (i2 : 0 ≤ a2 ∧ a2 ≤ 5) (i3 : (-2147483648) ≤ a3 ∧ a3 ≤ 2147483647) : wpc kt 3 103 [.ref r0, .ref r1, vI a2, vI a3] T H (q_103 r0 r1 a2 a3 T H) := by
  refine wp_enter e103 (Nat.le_of_ble_eq_true rfl) rfl ?_
  show wp _ _ 103 0 [(0, .ref r0), (1, .ref r1), (2, vI a2), (3, vI a3)] [] _ H _
  refine wp_of e103 c103_0 (rw_aload_n (pc' := 1) (v := .ref r0) rfl rfl rfl ?_)
  refine wp_of e103 c103_1 (rw_aload_n (pc' := 2) (v := .ref r1) rfl rfl rfl ?_)
  refine wp_of e103 c103_2 (rw_iload_n (pc' := 3) (z := a2) rfl rfl ?_)
  refine wp_of e103 c103_3 (rw_iload_n (pc' := 4) (z := a3) rfl rfl ?_)
  refine wp_of e103 c103_4 (xc_V (pc' := 7) (r := r0) (as := [.ref r1, vI a2, vI a3]) (st := []) (lm_4_126) rfl rfl (Nat.le_of_ble_eq_true rfl) hW g0 sh_12 (by decide) rfl (by decide) (s_100 hW g0 g1 ⟨by omega, by omega⟩ ⟨by omega, by omega⟩) (fun R29067 T29068 H29069 p29070 => ?_))
  obtain ⟨e29071, e29073, z29074, e29072, b29075⟩ := p29070
  subst e29071
  subst e29072
  subst e29073
  show wp _ _ 103 7 [(0, .ref r0), (1, .ref r1), (2, vI a2), (3, vI a3)] [vI z29074] _ H _
  refine wp_of e103 c103_7 (rw_istore (pc' := 9) (z := z29074) (L' := [(4, vI z29074), (0, .ref r0), (1, .ref r1), (2, vI a2), (3, vI a3)]) rfl rfl rfl ?_)
  refine wp_of e103 c103_9 (rw_iload (pc' := 11) (z := z29074) rfl rfl ?_)
  refine wp_of e103 c103_11 (rw_if_ne (p1 := 16) (p2 := 14) (by decide) rfl ⟨by omega, by omega⟩ (fun c29076 => ?_) (fun c29076 => ?_))
  · refine wp_of e103 c103_16 (rw_iload (pc' := 18) (z := z29074) rfl rfl ?_)
    refine wp_of e103 c103_18 (rw_aload_n (pc' := 19) (v := .ref r0) rfl rfl rfl ?_)
    refine wp_of e103 c103_19 (xg_I (pc' := 22) lf_4_62 hW g0 sh_12 (by decide) (by decide) ty_12_5 rfl rfl (fun b29077 b29078 => ?_))
    refine wp_of e103 c103_22 (rw_icmp_ne (p1 := 29) (p2 := 25) (by decide) rfl ⟨by omega, by omega⟩ ⟨by omega, by omega⟩ (fun c29079 => ?_) (fun c29079 => ?_))
    · refine wp_of e103 c103_29 (rw_iconst (pc' := 30) rfl ?_)
      exact wp_ireturn e103 c103_30 rfl ⟨rfl, rfl, 1, rfl, ⟨by omega, by omega⟩⟩
    · refine wp_of e103 c103_25 (rw_iconst (pc' := 26) rfl ?_)
      refine wp_of e103 c103_26 (rw_goto (p1 := 30) (by decide) ?_)
      exact wp_ireturn e103 c103_30 rfl ⟨rfl, rfl, 2, rfl, ⟨by omega, by omega⟩⟩
  · refine wp_of e103 c103_14 (rw_iconst (pc' := 15) rfl ?_)
    exact wp_ireturn e103 c103_15 rfl ⟨rfl, rfl, 0, rfl, ⟨by omega, by omega⟩⟩
/-! StrikeAwake.sure(II)I -/
theorem e101 : wq_en 101 = some (0, 4, false, some FieldType.int) := rfl
theorem cg101_0 : mc_cd 101 0 = some (.aload_n 0, 1) ∧ mc_cd 101 1 = some (.aload_n 0, 1) ∧ mc_cd 101 2 = some (.iload_n 1, 1) ∧ mc_cd 101 3 = some (.invokevirtual 105, 3) ∧ mc_cd 101 6 = some (.ifCond .eq 15, 3) ∧ mc_cd 101 9 = some (.aload_n 0, 1) ∧ mc_cd 101 10 = some (.iload_n 2, 1) ∧ mc_cd 101 11 = some (.invokevirtual 132, 3) := by decide +kernel
theorem c101_0 : mc_cd 101 0 = some (.aload_n 0, 1) := cg101_0.1
theorem c101_1 : mc_cd 101 1 = some (.aload_n 0, 1) := cg101_0.2.1
theorem c101_2 : mc_cd 101 2 = some (.iload_n 1, 1) := cg101_0.2.2.1
theorem c101_3 : mc_cd 101 3 = some (.invokevirtual 105, 3) := cg101_0.2.2.2.1
theorem c101_6 : mc_cd 101 6 = some (.ifCond .eq 15, 3) := cg101_0.2.2.2.2.1
theorem c101_9 : mc_cd 101 9 = some (.aload_n 0, 1) := cg101_0.2.2.2.2.2.1
theorem c101_10 : mc_cd 101 10 = some (.iload_n 2, 1) := cg101_0.2.2.2.2.2.2.1
theorem c101_11 : mc_cd 101 11 = some (.invokevirtual 132, 3) := cg101_0.2.2.2.2.2.2.2
theorem cg101_14 : mc_cd 101 14 = some (.ifCond .eq 7, 3) ∧ mc_cd 101 17 = some (.iconst 1, 1) ∧ mc_cd 101 18 = some (.goto 4, 3) ∧ mc_cd 101 21 = some (.iconst 0, 1) ∧ mc_cd 101 22 = some (.invokevirtual 198, 3) ∧ mc_cd 101 25 = some (.istore_n 3, 1) ∧ mc_cd 101 26 = some (.iload_n 3, 1) ∧ mc_cd 101 27 = some (.ifCond .eq 9, 3) := by decide +kernel
theorem c101_14 : mc_cd 101 14 = some (.ifCond .eq 7, 3) := cg101_14.1
theorem c101_17 : mc_cd 101 17 = some (.iconst 1, 1) := cg101_14.2.1
theorem c101_18 : mc_cd 101 18 = some (.goto 4, 3) := cg101_14.2.2.1
theorem c101_21 : mc_cd 101 21 = some (.iconst 0, 1) := cg101_14.2.2.2.1
theorem c101_22 : mc_cd 101 22 = some (.invokevirtual 198, 3) := cg101_14.2.2.2.2.1
theorem c101_25 : mc_cd 101 25 = some (.istore_n 3, 1) := cg101_14.2.2.2.2.2.1
theorem c101_26 : mc_cd 101 26 = some (.iload_n 3, 1) := cg101_14.2.2.2.2.2.2.1
theorem c101_27 : mc_cd 101 27 = some (.ifCond .eq 9, 3) := cg101_14.2.2.2.2.2.2.2
theorem cg101_30 : mc_cd 101 30 = some (.aload_n 0, 1) ∧ mc_cd 101 31 = some (.iload_n 3, 1) ∧ mc_cd 101 32 = some (.invokevirtual 70, 3) ∧ mc_cd 101 35 = some (.ireturn, 1) ∧ mc_cd 101 36 = some (.aload_n 0, 1) ∧ mc_cd 101 37 = some (.aload_n 0, 1) ∧ mc_cd 101 38 = some (.getfield 30, 3) ∧ mc_cd 101 41 = some (.aload_n 0, 1) := by decide +kernel
theorem c101_30 : mc_cd 101 30 = some (.aload_n 0, 1) := cg101_30.1
theorem c101_31 : mc_cd 101 31 = some (.iload_n 3, 1) := cg101_30.2.1
theorem c101_32 : mc_cd 101 32 = some (.invokevirtual 70, 3) := cg101_30.2.2.1
theorem c101_35 : mc_cd 101 35 = some (.ireturn, 1) := cg101_30.2.2.2.1
theorem c101_36 : mc_cd 101 36 = some (.aload_n 0, 1) := cg101_30.2.2.2.2.1
theorem c101_37 : mc_cd 101 37 = some (.aload_n 0, 1) := cg101_30.2.2.2.2.2.1
theorem c101_38 : mc_cd 101 38 = some (.getfield 30, 3) := cg101_30.2.2.2.2.2.2.1
theorem c101_41 : mc_cd 101 41 = some (.aload_n 0, 1) := cg101_30.2.2.2.2.2.2.2
theorem cg101_42 : mc_cd 101 42 = some (.getfield 51, 3) ∧ mc_cd 101 45 = some (.iload_n 1, 1) ∧ mc_cd 101 46 = some (.iload_n 2, 1) ∧ mc_cd 101 47 = some (.invokevirtual 201, 3) ∧ mc_cd 101 50 = some (.invokevirtual 99, 3) ∧ mc_cd 101 53 = some (.ireturn, 1) := by decide +kernel
theorem c101_42 : mc_cd 101 42 = some (.getfield 51, 3) := cg101_42.1
theorem c101_45 : mc_cd 101 45 = some (.iload_n 1, 1) := cg101_42.2.1
theorem c101_46 : mc_cd 101 46 = some (.iload_n 2, 1) := cg101_42.2.2.1
theorem c101_47 : mc_cd 101 47 = some (.invokevirtual 201, 3) := cg101_42.2.2.2.1
theorem c101_50 : mc_cd 101 50 = some (.invokevirtual 99, 3) := cg101_42.2.2.2.2.1
theorem c101_53 : mc_cd 101 53 = some (.ireturn, 1) := cg101_42.2.2.2.2.2
abbrev q_101 (r0 : Nat) (a1 : Int) (a2 : Int) (T : wq_T) (H : wq_H) : Option Value → wq_T → wq_H → Prop := fun r T' H' => T = T' ∧ WT T H' ∧ wfr [(12, 5), (12, 6), (12, 7), (12, 8), (12, 9), (1, 10), (6, 5), (8, 999), (10, 999), (15, 999), (9, 999), (18, 999), (19, 999), (7, 999), (11, 999), (17, 999), (13, 999)] T H H' ∧ ∃ z : Int, some (vI z) = r ∧ ((-2147483648) ≤ z ∧ z ≤ 2147483647)
set_option maxHeartbeats 4000000 in
theorem s_101 {kt : Nat → Option mc_E} {T : wq_T} {H : wq_H} {r0 : Nat} {a1 : Int} {a2 : Int} (hW : WT T H) (g0 : T.2.2.2 r0 = some 1) (i1 : (-2147483648) ≤ a1 ∧ a1 ≤ 2147483647) (i2 : (-2147483648) ≤ a2 ∧ a2 ≤ 2147483647) : wpc kt 7 101 [.ref r0, vI a1, vI a2] T H (q_101 r0 a1 a2 T H) := by
  refine wp_enter e101 (Nat.le_of_ble_eq_true rfl) rfl ?_
  have f0 : wfr [(12, 5), (12, 6), (12, 7), (12, 8), (12, 9), (1, 10), (6, 5), (8, 999), (10, 999), (15, 999), (9, 999), (18, 999), (19, 999), (7, 999), (11, 999), (17, 999), (13, 999)] T H H := wfr.rf
  show wp _ _ 101 0 [(0, .ref r0), (1, vI a1), (2, vI a2)] [] _ H _
  refine wp_of e101 c101_0 (rw_aload_n (pc' := 1) (v := .ref r0) rfl rfl rfl ?_)
  refine wp_of e101 c101_1 (rw_aload_n (pc' := 2) (v := .ref r0) rfl rfl rfl ?_)
  refine wp_of e101 c101_2 (rw_iload_n (pc' := 3) (z := a1) rfl rfl ?_)
  refine wp_of e101 c101_3 (xc_V (pc' := 6) (r := r0) (as := [vI a1]) (st := [.ref r0]) (lm_0_105) rfl rfl (Nat.le_of_ble_eq_true rfl) hW g0 sh_1 (by decide) rfl (by decide) (s_55 hW g0 ⟨by omega, by omega⟩) (fun R29200 T29201 H29202 p29203 => ?_))
  obtain ⟨e29204, e29206, z29208, e29205, b29209, p29207⟩ := p29203
  subst e29204
  subst e29205
  subst e29206
  show wp _ _ 101 6 [(0, .ref r0), (1, vI a1), (2, vI a2)] [vI z29208, .ref r0] _ H _
  refine wp_of e101 c101_6 (rw_if_eq (p1 := 21) (p2 := 9) (by decide) rfl ⟨by omega, by omega⟩ (fun c29210 => ?_) (fun c29210 => ?_))
  · refine wp_of e101 c101_21 (rw_iconst (pc' := 22) rfl ?_)
    refine wp_of e101 c101_22 (xc_V (pc' := 25) (r := r0) (as := [vI 0]) (st := []) (lm_0_198) rfl rfl (Nat.le_of_ble_eq_true rfl) hW g0 sh_1 (by decide) rfl (by decide) (s_102 hW g0 ⟨by omega, by omega⟩) (fun R29211 T29212 H29213 p29214 => ?_))
    obtain ⟨e29215, w29217, f29218, z29220, e29216, b29221, p29219⟩ := p29214
    subst e29215
    subst e29216
    have f29222 := f0.tr f29218 rfl
    show wp _ _ 101 25 [(0, .ref r0), (1, vI a1), (2, vI a2)] [vI z29220] _ H29213 _
    refine wp_of e101 c101_25 (rw_istore_n (pc' := 26) (z := z29220) (L' := [(3, vI z29220), (0, .ref r0), (1, vI a1), (2, vI a2)]) rfl rfl rfl ?_)
    refine wp_of e101 c101_26 (rw_iload_n (pc' := 27) (z := z29220) rfl rfl ?_)
    refine wp_of e101 c101_27 (rw_if_eq (p1 := 36) (p2 := 30) (by decide) rfl ⟨by omega, by omega⟩ (fun c29223 => ?_) (fun c29223 => ?_))
    · exfalso
      omega
    · refine wp_of e101 c101_30 (rw_aload_n (pc' := 31) (v := .ref r0) rfl rfl rfl ?_)
      refine wp_of e101 c101_31 (rw_iload_n (pc' := 32) (z := z29220) rfl rfl ?_)
      refine wp_of e101 c101_32 (xc_V (pc' := 35) (r := r0) (as := [vI z29220]) (st := []) (lm_0_70) rfl rfl (Nat.le_of_ble_eq_true rfl) w29217 g0 sh_1 (by decide) rfl (by decide) (s_12 w29217 g0 ⟨by omega, by omega⟩) (fun R29224 T29225 H29226 p29227 => ?_))
      obtain ⟨e29228, w29230, f29231, z29232, e29229, b29233⟩ := p29227
      subst e29228
      subst e29229
      have f29234 := f29222.tr f29231 rfl
      show wp _ _ 101 35 [(3, vI z29220), (0, .ref r0), (1, vI a1), (2, vI a2)] [vI z29232] _ H29226 _
      exact wp_ireturn e101 c101_35 rfl ⟨rfl, w29230, f29234, z29232, rfl, ⟨by omega, by omega⟩⟩
  · refine wp_of e101 c101_9 (rw_aload_n (pc' := 10) (v := .ref r0) rfl rfl rfl ?_)
    refine wp_of e101 c101_10 (rw_iload_n (pc' := 11) (z := a2) rfl rfl ?_)
    refine wp_of e101 c101_11 (xc_V (pc' := 14) (r := r0) (as := [vI a2]) (st := [.ref r0]) (lm_0_132) rfl rfl (Nat.le_of_ble_eq_true rfl) hW g0 sh_1 (by decide) rfl (by decide) (s_60 hW g0 ⟨by omega, by omega⟩) (fun R29235 T29236 H29237 p29238 => ?_))
    obtain ⟨e29239, e29241, z29243, e29240, b29244, p29242⟩ := p29238
    subst e29239
    subst e29240
    subst e29241
    show wp _ _ 101 14 [(0, .ref r0), (1, vI a1), (2, vI a2)] [vI z29243, .ref r0] _ H _
    refine wp_of e101 c101_14 (rw_if_eq (p1 := 21) (p2 := 17) (by decide) rfl ⟨by omega, by omega⟩ (fun c29245 => ?_) (fun c29245 => ?_))
    · refine wp_of e101 c101_21 (rw_iconst (pc' := 22) rfl ?_)
      refine wp_of e101 c101_22 (xc_V (pc' := 25) (r := r0) (as := [vI 0]) (st := []) (lm_0_198) rfl rfl (Nat.le_of_ble_eq_true rfl) hW g0 sh_1 (by decide) rfl (by decide) (s_102 hW g0 ⟨by omega, by omega⟩) (fun R29246 T29247 H29248 p29249 => ?_))
      obtain ⟨e29250, w29252, f29253, z29255, e29251, b29256, p29254⟩ := p29249
      subst e29250
      subst e29251
      have f29257 := f0.tr f29253 rfl
      show wp _ _ 101 25 [(0, .ref r0), (1, vI a1), (2, vI a2)] [vI z29255] _ H29248 _
      refine wp_of e101 c101_25 (rw_istore_n (pc' := 26) (z := z29255) (L' := [(3, vI z29255), (0, .ref r0), (1, vI a1), (2, vI a2)]) rfl rfl rfl ?_)
      refine wp_of e101 c101_26 (rw_iload_n (pc' := 27) (z := z29255) rfl rfl ?_)
      refine wp_of e101 c101_27 (rw_if_eq (p1 := 36) (p2 := 30) (by decide) rfl ⟨by omega, by omega⟩ (fun c29258 => ?_) (fun c29258 => ?_))
      · exfalso
        omega
      · refine wp_of e101 c101_30 (rw_aload_n (pc' := 31) (v := .ref r0) rfl rfl rfl ?_)
        refine wp_of e101 c101_31 (rw_iload_n (pc' := 32) (z := z29255) rfl rfl ?_)
        refine wp_of e101 c101_32 (xc_V (pc' := 35) (r := r0) (as := [vI z29255]) (st := []) (lm_0_70) rfl rfl (Nat.le_of_ble_eq_true rfl) w29252 g0 sh_1 (by decide) rfl (by decide) (s_12 w29252 g0 ⟨by omega, by omega⟩) (fun R29259 T29260 H29261 p29262 => ?_))
        obtain ⟨e29263, w29265, f29266, z29267, e29264, b29268⟩ := p29262
        subst e29263
        subst e29264
        have f29269 := f29257.tr f29266 rfl
        show wp _ _ 101 35 [(3, vI z29255), (0, .ref r0), (1, vI a1), (2, vI a2)] [vI z29267] _ H29261 _
        exact wp_ireturn e101 c101_35 rfl ⟨rfl, w29265, f29269, z29267, rfl, ⟨by omega, by omega⟩⟩
    · refine wp_of e101 c101_17 (rw_iconst (pc' := 18) rfl ?_)
      refine wp_of e101 c101_18 (rw_goto (p1 := 22) (by decide) ?_)
      refine wp_of e101 c101_22 (xc_V (pc' := 25) (r := r0) (as := [vI 1]) (st := []) (lm_0_198) rfl rfl (Nat.le_of_ble_eq_true rfl) hW g0 sh_1 (by decide) rfl (by decide) (s_102 hW g0 ⟨by omega, by omega⟩) (fun R29270 T29271 H29272 p29273 => ?_))
      obtain ⟨e29274, w29276, f29277, z29279, e29275, b29280, p29278⟩ := p29273
      subst e29274
      subst e29275
      have f29281 := f0.tr f29277 rfl
      show wp _ _ 101 25 [(0, .ref r0), (1, vI a1), (2, vI a2)] [vI z29279] _ H29272 _
      refine wp_of e101 c101_25 (rw_istore_n (pc' := 26) (z := z29279) (L' := [(3, vI z29279), (0, .ref r0), (1, vI a1), (2, vI a2)]) rfl rfl rfl ?_)
      refine wp_of e101 c101_26 (rw_iload_n (pc' := 27) (z := z29279) rfl rfl ?_)
      refine wp_of e101 c101_27 (rw_if_eq (p1 := 36) (p2 := 30) (by decide) rfl ⟨by omega, by omega⟩ (fun c29282 => ?_) (fun c29282 => ?_))
      · refine wp_of e101 c101_36 (rw_aload_n (pc' := 37) (v := .ref r0) rfl rfl rfl ?_)
        refine wp_of e101 c101_37 (rw_aload_n (pc' := 38) (v := .ref r0) rfl rfl rfl ?_)
        refine wp_of e101 c101_38 (xg_R (pc' := 41) lf_0_30 w29276 g0 sh_1 (by decide) (by decide) ty_1_3 rfl rfl (fun r29283 q29284 g29285 => ?_))
        refine wp_of e101 c101_41 (rw_aload_n (pc' := 42) (v := .ref r0) rfl rfl rfl ?_)
        refine wp_of e101 c101_42 (xg_R (pc' := 45) lf_0_51 w29276 g0 sh_1 (by decide) (by decide) ty_1_6 rfl rfl (fun r29286 q29287 g29288 => ?_))
        refine wp_of e101 c101_45 (rw_iload_n (pc' := 46) (z := a1) rfl rfl ?_)
        refine wp_of e101 c101_46 (rw_iload_n (pc' := 47) (z := a2) rfl rfl ?_)
        refine wp_of e101 c101_47 (xc_V (pc' := 50) (r := r29283) (as := [.ref r29286, vI a1, vI a2]) (st := [.ref r0]) (lm_0_201) rfl rfl (Nat.le_of_ble_eq_true rfl) w29276 g29285 sh_12 (by decide) rfl (by decide) (s_103 w29276 g29285 g29288 ⟨by omega, by omega⟩ ⟨by omega, by omega⟩) (fun R29289 T29290 H29291 p29292 => ?_))
        obtain ⟨e29293, e29295, z29296, e29294, b29297⟩ := p29292
        subst e29293
        subst e29294
        subst e29295
        show wp _ _ 101 50 [(3, vI z29279), (0, .ref r0), (1, vI a1), (2, vI a2)] [vI z29296, .ref r0] _ H29272 _
        refine wp_of e101 c101_50 (xc_V (pc' := 53) (r := r0) (as := [vI z29296]) (st := []) (lm_0_99) rfl rfl (Nat.le_of_ble_eq_true rfl) w29276 g0 sh_1 (by decide) rfl (by decide) (s_51 w29276 g0 ⟨by omega, by omega⟩) (fun R29298 T29299 H29300 p29301 => ?_))
        obtain ⟨e29302, w29304, f29305, z29306, e29303, b29307⟩ := p29301
        subst e29302
        subst e29303
        have f29308 := f29281.tr f29305 rfl
        show wp _ _ 101 53 [(3, vI z29279), (0, .ref r0), (1, vI a1), (2, vI a2)] [vI z29306] _ H29300 _
        exact wp_ireturn e101 c101_53 rfl ⟨rfl, w29304, f29308, z29306, rfl, ⟨by omega, by omega⟩⟩
      · refine wp_of e101 c101_30 (rw_aload_n (pc' := 31) (v := .ref r0) rfl rfl rfl ?_)
        refine wp_of e101 c101_31 (rw_iload_n (pc' := 32) (z := z29279) rfl rfl ?_)
        refine wp_of e101 c101_32 (xc_V (pc' := 35) (r := r0) (as := [vI z29279]) (st := []) (lm_0_70) rfl rfl (Nat.le_of_ble_eq_true rfl) w29276 g0 sh_1 (by decide) rfl (by decide) (s_12 w29276 g0 ⟨by omega, by omega⟩) (fun R29309 T29310 H29311 p29312 => ?_))
        obtain ⟨e29313, w29315, f29316, z29317, e29314, b29318⟩ := p29312
        subst e29313
        subst e29314
        have f29319 := f29281.tr f29316 rfl
        show wp _ _ 101 35 [(3, vI z29279), (0, .ref r0), (1, vI a1), (2, vI a2)] [vI z29317] _ H29311 _
        exact wp_ireturn e101 c101_35 rfl ⟨rfl, w29315, f29319, z29317, rfl, ⟨by omega, by omega⟩⟩
/-! StrikeAwake.surely(IZ)I -/
theorem e104 : wq_en 104 = some (0, 7, false, some FieldType.int) := rfl
theorem cg104_0 : mc_cd 104 0 = some (.aload_n 0, 1) ∧ mc_cd 104 1 = some (.aload_n 0, 1) ∧ mc_cd 104 2 = some (.iload_n 1, 1) ∧ mc_cd 104 3 = some (.invokevirtual 132, 3) ∧ mc_cd 104 6 = some (.invokevirtual 198, 3) ∧ mc_cd 104 9 = some (.istore_n 3, 1) ∧ mc_cd 104 10 = some (.iload_n 3, 1) ∧ mc_cd 104 11 = some (.ifCond .eq 9, 3) := by decide +kernel
theorem c104_0 : mc_cd 104 0 = some (.aload_n 0, 1) := cg104_0.1
theorem c104_1 : mc_cd 104 1 = some (.aload_n 0, 1) := cg104_0.2.1
theorem c104_2 : mc_cd 104 2 = some (.iload_n 1, 1) := cg104_0.2.2.1
theorem c104_3 : mc_cd 104 3 = some (.invokevirtual 132, 3) := cg104_0.2.2.2.1
theorem c104_6 : mc_cd 104 6 = some (.invokevirtual 198, 3) := cg104_0.2.2.2.2.1
theorem c104_9 : mc_cd 104 9 = some (.istore_n 3, 1) := cg104_0.2.2.2.2.2.1
theorem c104_10 : mc_cd 104 10 = some (.iload_n 3, 1) := cg104_0.2.2.2.2.2.2.1
theorem c104_11 : mc_cd 104 11 = some (.ifCond .eq 9, 3) := cg104_0.2.2.2.2.2.2.2
theorem cg104_14 : mc_cd 104 14 = some (.aload_n 0, 1) ∧ mc_cd 104 15 = some (.iload_n 3, 1) ∧ mc_cd 104 16 = some (.invokevirtual 70, 3) ∧ mc_cd 104 19 = some (.ireturn, 1) ∧ mc_cd 104 20 = some (.iload_n 2, 1) ∧ mc_cd 104 21 = some (.ifCond .eq 7, 3) ∧ mc_cd 104 24 = some (.iconst 2, 1) ∧ mc_cd 104 25 = some (.goto 4, 3) := by decide +kernel
theorem c104_14 : mc_cd 104 14 = some (.aload_n 0, 1) := cg104_14.1
theorem c104_15 : mc_cd 104 15 = some (.iload_n 3, 1) := cg104_14.2.1
theorem c104_16 : mc_cd 104 16 = some (.invokevirtual 70, 3) := cg104_14.2.2.1
theorem c104_19 : mc_cd 104 19 = some (.ireturn, 1) := cg104_14.2.2.2.1
theorem c104_20 : mc_cd 104 20 = some (.iload_n 2, 1) := cg104_14.2.2.2.2.1
theorem c104_21 : mc_cd 104 21 = some (.ifCond .eq 7, 3) := cg104_14.2.2.2.2.2.1
theorem c104_24 : mc_cd 104 24 = some (.iconst 2, 1) := cg104_14.2.2.2.2.2.2.1
theorem c104_25 : mc_cd 104 25 = some (.goto 4, 3) := cg104_14.2.2.2.2.2.2.2
theorem cg104_28 : mc_cd 104 28 = some (.iconst 0, 1) ∧ mc_cd 104 29 = some (.istore 4, 2) ∧ mc_cd 104 31 = some (.iconst 0, 1) ∧ mc_cd 104 32 = some (.istore 5, 2) ∧ mc_cd 104 34 = some (.iconst 0, 1) ∧ mc_cd 104 35 = some (.istore 6, 2) ∧ mc_cd 104 37 = some (.iload 6, 2) ∧ mc_cd 104 39 = some (.aload_n 0, 1) := by decide +kernel
theorem c104_28 : mc_cd 104 28 = some (.iconst 0, 1) := cg104_28.1
theorem c104_29 : mc_cd 104 29 = some (.istore 4, 2) := cg104_28.2.1
theorem c104_31 : mc_cd 104 31 = some (.iconst 0, 1) := cg104_28.2.2.1
theorem c104_32 : mc_cd 104 32 = some (.istore 5, 2) := cg104_28.2.2.2.1
theorem c104_34 : mc_cd 104 34 = some (.iconst 0, 1) := cg104_28.2.2.2.2.1
theorem c104_35 : mc_cd 104 35 = some (.istore 6, 2) := cg104_28.2.2.2.2.2.1
theorem c104_37 : mc_cd 104 37 = some (.iload 6, 2) := cg104_28.2.2.2.2.2.2.1
theorem c104_39 : mc_cd 104 39 = some (.aload_n 0, 1) := cg104_28.2.2.2.2.2.2.2
theorem cg104_40 : mc_cd 104 40 = some (.getfield 51, 3) ∧ mc_cd 104 43 = some (.getfield 96, 3) ∧ mc_cd 104 46 = some (.if_icmp .ge 37, 3) ∧ mc_cd 104 49 = some (.aload_n 0, 1) ∧ mc_cd 104 50 = some (.getfield 30, 3) ∧ mc_cd 104 53 = some (.aload_n 0, 1) ∧ mc_cd 104 54 = some (.getfield 51, 3) ∧ mc_cd 104 57 = some (.iload 6, 2) := by decide +kernel
theorem c104_40 : mc_cd 104 40 = some (.getfield 51, 3) := cg104_40.1
theorem c104_43 : mc_cd 104 43 = some (.getfield 96, 3) := cg104_40.2.1
theorem c104_46 : mc_cd 104 46 = some (.if_icmp .ge 37, 3) := cg104_40.2.2.1
theorem c104_49 : mc_cd 104 49 = some (.aload_n 0, 1) := cg104_40.2.2.2.1
theorem c104_50 : mc_cd 104 50 = some (.getfield 30, 3) := cg104_40.2.2.2.2.1
theorem c104_53 : mc_cd 104 53 = some (.aload_n 0, 1) := cg104_40.2.2.2.2.2.1
theorem c104_54 : mc_cd 104 54 = some (.getfield 51, 3) := cg104_40.2.2.2.2.2.2.1
theorem c104_57 : mc_cd 104 57 = some (.iload 6, 2) := cg104_40.2.2.2.2.2.2.2
theorem cg104_59 : mc_cd 104 59 = some (.iload_n 1, 1) ∧ mc_cd 104 60 = some (.invokevirtual 201, 3) ∧ mc_cd 104 63 = some (.iload 4, 2) ∧ mc_cd 104 65 = some (.if_icmp .ne 12, 3) ∧ mc_cd 104 68 = some (.iload 5, 2) ∧ mc_cd 104 70 = some (.iconst 1, 1) ∧ mc_cd 104 71 = some (.iload 6, 2) ∧ mc_cd 104 73 = some (.ishl, 1) := by decide +kernel
theorem c104_59 : mc_cd 104 59 = some (.iload_n 1, 1) := cg104_59.1
theorem c104_60 : mc_cd 104 60 = some (.invokevirtual 201, 3) := cg104_59.2.1
theorem c104_63 : mc_cd 104 63 = some (.iload 4, 2) := cg104_59.2.2.1
theorem c104_65 : mc_cd 104 65 = some (.if_icmp .ne 12, 3) := cg104_59.2.2.2.1
theorem c104_68 : mc_cd 104 68 = some (.iload 5, 2) := cg104_59.2.2.2.2.1
theorem c104_70 : mc_cd 104 70 = some (.iconst 1, 1) := cg104_59.2.2.2.2.2.1
theorem c104_71 : mc_cd 104 71 = some (.iload 6, 2) := cg104_59.2.2.2.2.2.2.1
theorem c104_73 : mc_cd 104 73 = some (.ishl, 1) := cg104_59.2.2.2.2.2.2.2
theorem cg104_74 : mc_cd 104 74 = some (.ior, 1) ∧ mc_cd 104 75 = some (.istore 5, 2) ∧ mc_cd 104 77 = some (.iinc 6 1, 3) ∧ mc_cd 104 80 = some (.goto (-43), 3) ∧ mc_cd 104 83 = some (.aload_n 0, 1) ∧ mc_cd 104 84 = some (.iload 5, 2) ∧ mc_cd 104 86 = some (.invokevirtual 99, 3) ∧ mc_cd 104 89 = some (.ireturn, 1) := by decide +kernel
theorem c104_74 : mc_cd 104 74 = some (.ior, 1) := cg104_74.1
theorem c104_75 : mc_cd 104 75 = some (.istore 5, 2) := cg104_74.2.1
theorem c104_77 : mc_cd 104 77 = some (.iinc 6 1, 3) := cg104_74.2.2.1
theorem c104_80 : mc_cd 104 80 = some (.goto (-43), 3) := cg104_74.2.2.2.1
theorem c104_83 : mc_cd 104 83 = some (.aload_n 0, 1) := cg104_74.2.2.2.2.1
theorem c104_84 : mc_cd 104 84 = some (.iload 5, 2) := cg104_74.2.2.2.2.2.1
theorem c104_86 : mc_cd 104 86 = some (.invokevirtual 99, 3) := cg104_74.2.2.2.2.2.2.1
theorem c104_89 : mc_cd 104 89 = some (.ireturn, 1) := cg104_74.2.2.2.2.2.2.2
abbrev q_104 (r0 : Nat) (a1 : Int) (a2 : Int) (T : wq_T) (H : wq_H) : Option Value → wq_T → wq_H → Prop := fun r T' H' => T = T' ∧ WT T H' ∧ wfr [(12, 5), (12, 6), (12, 7), (12, 8), (12, 9), (1, 10), (6, 5), (8, 999), (10, 999), (15, 999), (9, 999), (18, 999), (19, 999), (7, 999), (11, 999), (17, 999), (13, 999)] T H H' ∧ ∃ z : Int, some (vI z) = r ∧ ((-2147483648) ≤ z ∧ z ≤ 2147483647)
set_option maxHeartbeats 4000000 in
theorem s_104 {kt : Nat → Option mc_E} {T : wq_T} {H : wq_H} {r0 : Nat} {a1 : Int} {a2 : Int} (hW : WT T H) (g0 : T.2.2.2 r0 = some 1) (i1 : (-2147483648) ≤ a1 ∧ a1 ≤ 2147483647) (i2 : 0 ≤ a2 ∧ a2 ≤ 1) : wpc kt 7 104 [.ref r0, vI a1, vI a2] T H (q_104 r0 a1 a2 T H) := by
  refine wp_enter e104 (Nat.le_of_ble_eq_true rfl) rfl ?_
  have f0 : wfr [(12, 5), (12, 6), (12, 7), (12, 8), (12, 9), (1, 10), (6, 5), (8, 999), (10, 999), (15, 999), (9, 999), (18, 999), (19, 999), (7, 999), (11, 999), (17, 999), (13, 999)] T H H := wfr.rf
  show wp _ _ 104 0 [(0, .ref r0), (1, vI a1), (2, vI a2)] [] _ H _
  refine wp_of e104 c104_0 (rw_aload_n (pc' := 1) (v := .ref r0) rfl rfl rfl ?_)
  refine wp_of e104 c104_1 (rw_aload_n (pc' := 2) (v := .ref r0) rfl rfl rfl ?_)
  refine wp_of e104 c104_2 (rw_iload_n (pc' := 3) (z := a1) rfl rfl ?_)
  refine wp_of e104 c104_3 (xc_V (pc' := 6) (r := r0) (as := [vI a1]) (st := [.ref r0]) (lm_0_132) rfl rfl (Nat.le_of_ble_eq_true rfl) hW g0 sh_1 (by decide) rfl (by decide) (s_60 hW g0 ⟨by omega, by omega⟩) (fun R29747 T29748 H29749 p29750 => ?_))
  obtain ⟨e29751, e29753, z29755, e29752, b29756, p29754⟩ := p29750
  subst e29751
  subst e29752
  subst e29753
  show wp _ _ 104 6 [(0, .ref r0), (1, vI a1), (2, vI a2)] [vI z29755, .ref r0] _ H _
  refine wp_of e104 c104_6 (xc_V (pc' := 9) (r := r0) (as := [vI z29755]) (st := []) (lm_0_198) rfl rfl (Nat.le_of_ble_eq_true rfl) hW g0 sh_1 (by decide) rfl (by decide) (s_102 hW g0 ⟨by omega, by omega⟩) (fun R29757 T29758 H29759 p29760 => ?_))
  obtain ⟨e29761, w29763, f29764, z29766, e29762, b29767, p29765⟩ := p29760
  subst e29761
  subst e29762
  have f29768 := f0.tr f29764 rfl
  show wp _ _ 104 9 [(0, .ref r0), (1, vI a1), (2, vI a2)] [vI z29766] _ H29759 _
  refine wp_of e104 c104_9 (rw_istore_n (pc' := 10) (z := z29766) (L' := [(3, vI z29766), (0, .ref r0), (1, vI a1), (2, vI a2)]) rfl rfl rfl ?_)
  refine wp_of e104 c104_10 (rw_iload_n (pc' := 11) (z := z29766) rfl rfl ?_)
  refine wp_of e104 c104_11 (rw_if_eq (p1 := 20) (p2 := 14) (by decide) rfl ⟨by omega, by omega⟩ (fun c29769 => ?_) (fun c29769 => ?_))
  · refine wp_of e104 c104_20 (rw_iload_n (pc' := 21) (z := a2) rfl rfl ?_)
    refine wp_of e104 c104_21 (rw_if_eq (p1 := 28) (p2 := 24) (by decide) rfl ⟨by omega, by omega⟩ (fun c29770 => ?_) (fun c29770 => ?_))
    · refine wp_of e104 c104_28 (rw_iconst (pc' := 29) rfl ?_)
      refine wp_of e104 c104_29 (rw_istore (pc' := 31) (z := 0) (L' := [(4, vI 0), (3, vI z29766), (0, .ref r0), (1, vI a1), (2, vI a2)]) rfl rfl rfl ?_)
      refine wp_of e104 c104_31 (rw_iconst (pc' := 32) rfl ?_)
      refine wp_of e104 c104_32 (rw_istore (pc' := 34) (z := 0) (L' := [(5, vI 0), (4, vI 0), (3, vI z29766), (0, .ref r0), (1, vI a1), (2, vI a2)]) rfl rfl rfl ?_)
      refine wp_of e104 c104_34 (rw_iconst (pc' := 35) rfl ?_)
      refine wp_of e104 c104_35 (rw_istore (pc' := 37) (z := 0) (L' := [(6, vI 0), (5, vI 0), (4, vI 0), (3, vI z29766), (0, .ref r0), (1, vI a1), (2, vI a2)]) rfl rfl rfl ?_)
      have lp29932 : ∀ (n29933 : Nat) (v29935 : Int) (v29936 : Int), (0 ≤ v29935 ∧ v29935 ≤ 6) → (0 ≤ v29936 ∧ v29936 ≤ 16777215) → (6 - v29935).toNat = n29933 → wp kt 6 104 37 [(6, vI v29935), (5, vI v29936), (4, vI 0), (0, .ref r0), (1, vI a1)] [] T H29759 (q_104 r0 a1 a2 T H) := by
        intro n29933
        induction n29933 using Nat.strongRecOn with
        | _ n29933 ih29934 =>
          intro v29935 v29936 b29939 b29940 m29941
          refine wp_of e104 c104_37 (rw_iload (pc' := 39) (z := v29935) rfl rfl ?_)
          refine wp_of e104 c104_39 (rw_aload_n (pc' := 40) (v := .ref r0) rfl rfl rfl ?_)
          refine wp_of e104 c104_40 (xg_R (pc' := 43) lf_0_51 w29763 g0 sh_1 (by decide) (by decide) ty_1_6 rfl rfl (fun r29942 q29943 g29944 => ?_))
          refine wp_of e104 c104_43 (xg_I (pc' := 46) lf_0_96 w29763 g29944 sh_27 (by decide) (by decide) ty_27_10 rfl rfl (fun b29945 b29946 => ?_))
          refine wp_of e104 c104_46 (rw_icmp_ge (p1 := 83) (p2 := 49) (by decide) rfl ⟨by omega, by omega⟩ ⟨by omega, by omega⟩ (fun c29947 => ?_) (fun c29947 => ?_))
          · refine wp_of e104 c104_83 (rw_aload_n (pc' := 84) (v := .ref r0) rfl rfl rfl ?_)
            refine wp_of e104 c104_84 (rw_iload (pc' := 86) (z := v29936) rfl rfl ?_)
            refine wp_of e104 c104_86 (xc_V (pc' := 89) (r := r0) (as := [vI v29936]) (st := []) (lm_0_99) rfl rfl (Nat.le_of_ble_eq_true rfl) w29763 g0 sh_1 (by decide) rfl (by decide) (s_51 w29763 g0 ⟨by omega, by omega⟩) (fun R29948 T29949 H29950 p29951 => ?_))
            obtain ⟨e29952, w29954, f29955, z29956, e29953, b29957⟩ := p29951
            subst e29952
            subst e29953
            have f29958 := f29768.tr f29955 rfl
            show wp _ _ 104 89 [(6, vI v29935), (5, vI v29936), (4, vI 0), (0, .ref r0), (1, vI a1)] [vI z29956] _ H29950 _
            exact wp_ireturn e104 c104_89 rfl ⟨rfl, w29954, f29958, z29956, rfl, ⟨by omega, by omega⟩⟩
          · refine wp_of e104 c104_49 (rw_aload_n (pc' := 50) (v := .ref r0) rfl rfl rfl ?_)
            refine wp_of e104 c104_50 (xg_R (pc' := 53) lf_0_30 w29763 g0 sh_1 (by decide) (by decide) ty_1_3 rfl rfl (fun r29959 q29960 g29961 => ?_))
            refine wp_of e104 c104_53 (rw_aload_n (pc' := 54) (v := .ref r0) rfl rfl rfl ?_)
            refine wp_of e104 c104_54 (xg_K (pc' := 57) lf_0_51 w29763 g0 sh_1 (by decide) (by decide) rfl q29943 rfl ?_)
            refine wp_of e104 c104_57 (rw_iload (pc' := 59) (z := v29935) rfl rfl ?_)
            refine wp_of e104 c104_59 (rw_iload_n (pc' := 60) (z := a1) rfl rfl ?_)
            refine wp_of e104 c104_60 (xc_V (pc' := 63) (r := r29959) (as := [.ref r29942, vI v29935, vI a1]) (st := []) (lm_0_201) rfl rfl (Nat.le_of_ble_eq_true rfl) w29763 g29961 sh_12 (by decide) rfl (by decide) (s_103 w29763 g29961 g29944 ⟨by omega, by omega⟩ ⟨by omega, by omega⟩) (fun R29962 T29963 H29964 p29965 => ?_))
            obtain ⟨e29966, e29968, z29969, e29967, b29970⟩ := p29965
            subst e29966
            subst e29967
            subst e29968
            show wp _ _ 104 63 [(6, vI v29935), (5, vI v29936), (4, vI 0), (0, .ref r0), (1, vI a1)] [vI z29969] _ H29759 _
            refine wp_of e104 c104_63 (rw_iload (pc' := 65) (z := 0) rfl rfl ?_)
            refine wp_of e104 c104_65 (rw_icmp_ne (p1 := 77) (p2 := 68) (by decide) rfl ⟨by omega, by omega⟩ ⟨by omega, by omega⟩ (fun c29971 => ?_) (fun c29971 => ?_))
            · refine wp_of e104 c104_77 (rw_iinc (pc' := 80) (z := v29935) (L' := [(6, vI (v29935 + 1)), (5, vI v29936), (4, vI 0), (0, .ref r0), (1, vI a1)]) rfl rfl rfl rfl ?_)
              refine wp_of e104 c104_80 (rw_goto (p1 := 37) (by decide) ?_)
              exact wp_lc (ks := [6, 5, 4, 0, 1]) (wl_c rfl (wl_c rfl (wl_c rfl (wl_c rfl (wl_c rfl wl_n))))) rfl (by decide) (ih29934 _ (by omega) (v29935 + 1) v29936 ⟨by omega, by omega⟩ ⟨by omega, by omega⟩ rfl)
            · refine wp_of e104 c104_68 (rw_iload (pc' := 70) (z := v29936) rfl rfl ?_)
              refine wp_of e104 c104_70 (rw_iconst (pc' := 71) rfl ?_)
              refine wp_of e104 c104_71 (rw_iload (pc' := 73) (z := v29935) rfl rfl ?_)
              refine wp_of e104 c104_73 (rw_ishl (pc' := 74) rfl ?_)
              obtain ⟨v29972, e29973⟩ : ∃ x : Int, x = wq_shl 1 v29935 := ⟨_, rfl⟩
              rw [← e29973]
              have b29974 : 1 ≤ v29972 ∧ v29972 ≤ 64 := by
                rw [e29973]
                exact wq_shl1_6 ⟨by omega, by omega⟩
              refine wp_of e104 c104_74 (rw_ior (pc' := 75) rfl ?_)
              obtain ⟨v29975, e29976⟩ : ∃ x : Int, x = wq_or v29936 v29972 := ⟨_, rfl⟩
              rw [← e29976]
              have b29977 : 0 ≤ v29975 ∧ v29975 ≤ 16777215 := by
                rw [e29976]
                exact wq_or_24 ⟨by omega, by omega⟩ ⟨by omega, by omega⟩
              refine wp_of e104 c104_75 (rw_istore (pc' := 77) (z := v29975) (L' := [(5, vI v29975), (6, vI v29935), (4, vI 0), (0, .ref r0), (1, vI a1)]) rfl rfl rfl ?_)
              refine wp_of e104 c104_77 (rw_iinc (pc' := 80) (z := v29935) (L' := [(6, vI (v29935 + 1)), (5, vI v29975), (4, vI 0), (0, .ref r0), (1, vI a1)]) rfl rfl rfl rfl ?_)
              refine wp_of e104 c104_80 (rw_goto (p1 := 37) (by decide) ?_)
              exact wp_lc (ks := [6, 5, 4, 0, 1]) (wl_c rfl (wl_c rfl (wl_c rfl (wl_c rfl (wl_c rfl wl_n))))) rfl (by decide) (ih29934 _ (by omega) (v29935 + 1) v29975 ⟨by omega, by omega⟩ ⟨by omega, by omega⟩ rfl)
      exact wp_lc (ks := [6, 5, 4, 3, 0, 1, 2]) (wl_c rfl (wl_c rfl (wl_c rfl (wl_c rfl (wl_c rfl wl_n))))) rfl (by decide) (lp29932 _ 0 0 ⟨by omega, by omega⟩ ⟨by omega, by omega⟩ rfl)
    · refine wp_of e104 c104_24 (rw_iconst (pc' := 25) rfl ?_)
      refine wp_of e104 c104_25 (rw_goto (p1 := 29) (by decide) ?_)
      refine wp_of e104 c104_29 (rw_istore (pc' := 31) (z := 2) (L' := [(4, vI 2), (3, vI z29766), (0, .ref r0), (1, vI a1), (2, vI a2)]) rfl rfl rfl ?_)
      refine wp_of e104 c104_31 (rw_iconst (pc' := 32) rfl ?_)
      refine wp_of e104 c104_32 (rw_istore (pc' := 34) (z := 0) (L' := [(5, vI 0), (4, vI 2), (3, vI z29766), (0, .ref r0), (1, vI a1), (2, vI a2)]) rfl rfl rfl ?_)
      refine wp_of e104 c104_34 (rw_iconst (pc' := 35) rfl ?_)
      refine wp_of e104 c104_35 (rw_istore (pc' := 37) (z := 0) (L' := [(6, vI 0), (5, vI 0), (4, vI 2), (3, vI z29766), (0, .ref r0), (1, vI a1), (2, vI a2)]) rfl rfl rfl ?_)
      have lp30139 : ∀ (n30140 : Nat) (v30142 : Int) (v30143 : Int), (0 ≤ v30142 ∧ v30142 ≤ 6) → (0 ≤ v30143 ∧ v30143 ≤ 16777215) → (6 - v30142).toNat = n30140 → wp kt 6 104 37 [(6, vI v30142), (5, vI v30143), (4, vI 2), (0, .ref r0), (1, vI a1)] [] T H29759 (q_104 r0 a1 a2 T H) := by
        intro n30140
        induction n30140 using Nat.strongRecOn with
        | _ n30140 ih30141 =>
          intro v30142 v30143 b30146 b30147 m30148
          refine wp_of e104 c104_37 (rw_iload (pc' := 39) (z := v30142) rfl rfl ?_)
          refine wp_of e104 c104_39 (rw_aload_n (pc' := 40) (v := .ref r0) rfl rfl rfl ?_)
          refine wp_of e104 c104_40 (xg_R (pc' := 43) lf_0_51 w29763 g0 sh_1 (by decide) (by decide) ty_1_6 rfl rfl (fun r30149 q30150 g30151 => ?_))
          refine wp_of e104 c104_43 (xg_I (pc' := 46) lf_0_96 w29763 g30151 sh_27 (by decide) (by decide) ty_27_10 rfl rfl (fun b30152 b30153 => ?_))
          refine wp_of e104 c104_46 (rw_icmp_ge (p1 := 83) (p2 := 49) (by decide) rfl ⟨by omega, by omega⟩ ⟨by omega, by omega⟩ (fun c30154 => ?_) (fun c30154 => ?_))
          · refine wp_of e104 c104_83 (rw_aload_n (pc' := 84) (v := .ref r0) rfl rfl rfl ?_)
            refine wp_of e104 c104_84 (rw_iload (pc' := 86) (z := v30143) rfl rfl ?_)
            refine wp_of e104 c104_86 (xc_V (pc' := 89) (r := r0) (as := [vI v30143]) (st := []) (lm_0_99) rfl rfl (Nat.le_of_ble_eq_true rfl) w29763 g0 sh_1 (by decide) rfl (by decide) (s_51 w29763 g0 ⟨by omega, by omega⟩) (fun R30155 T30156 H30157 p30158 => ?_))
            obtain ⟨e30159, w30161, f30162, z30163, e30160, b30164⟩ := p30158
            subst e30159
            subst e30160
            have f30165 := f29768.tr f30162 rfl
            show wp _ _ 104 89 [(6, vI v30142), (5, vI v30143), (4, vI 2), (0, .ref r0), (1, vI a1)] [vI z30163] _ H30157 _
            exact wp_ireturn e104 c104_89 rfl ⟨rfl, w30161, f30165, z30163, rfl, ⟨by omega, by omega⟩⟩
          · refine wp_of e104 c104_49 (rw_aload_n (pc' := 50) (v := .ref r0) rfl rfl rfl ?_)
            refine wp_of e104 c104_50 (xg_R (pc' := 53) lf_0_30 w29763 g0 sh_1 (by decide) (by decide) ty_1_3 rfl rfl (fun r30166 q30167 g30168 => ?_))
            refine wp_of e104 c104_53 (rw_aload_n (pc' := 54) (v := .ref r0) rfl rfl rfl ?_)
            refine wp_of e104 c104_54 (xg_K (pc' := 57) lf_0_51 w29763 g0 sh_1 (by decide) (by decide) rfl q30150 rfl ?_)
            refine wp_of e104 c104_57 (rw_iload (pc' := 59) (z := v30142) rfl rfl ?_)
            refine wp_of e104 c104_59 (rw_iload_n (pc' := 60) (z := a1) rfl rfl ?_)
            refine wp_of e104 c104_60 (xc_V (pc' := 63) (r := r30166) (as := [.ref r30149, vI v30142, vI a1]) (st := []) (lm_0_201) rfl rfl (Nat.le_of_ble_eq_true rfl) w29763 g30168 sh_12 (by decide) rfl (by decide) (s_103 w29763 g30168 g30151 ⟨by omega, by omega⟩ ⟨by omega, by omega⟩) (fun R30169 T30170 H30171 p30172 => ?_))
            obtain ⟨e30173, e30175, z30176, e30174, b30177⟩ := p30172
            subst e30173
            subst e30174
            subst e30175
            show wp _ _ 104 63 [(6, vI v30142), (5, vI v30143), (4, vI 2), (0, .ref r0), (1, vI a1)] [vI z30176] _ H29759 _
            refine wp_of e104 c104_63 (rw_iload (pc' := 65) (z := 2) rfl rfl ?_)
            refine wp_of e104 c104_65 (rw_icmp_ne (p1 := 77) (p2 := 68) (by decide) rfl ⟨by omega, by omega⟩ ⟨by omega, by omega⟩ (fun c30178 => ?_) (fun c30178 => ?_))
            · refine wp_of e104 c104_77 (rw_iinc (pc' := 80) (z := v30142) (L' := [(6, vI (v30142 + 1)), (5, vI v30143), (4, vI 2), (0, .ref r0), (1, vI a1)]) rfl rfl rfl rfl ?_)
              refine wp_of e104 c104_80 (rw_goto (p1 := 37) (by decide) ?_)
              exact wp_lc (ks := [6, 5, 4, 0, 1]) (wl_c rfl (wl_c rfl (wl_c rfl (wl_c rfl (wl_c rfl wl_n))))) rfl (by decide) (ih30141 _ (by omega) (v30142 + 1) v30143 ⟨by omega, by omega⟩ ⟨by omega, by omega⟩ rfl)
            · refine wp_of e104 c104_68 (rw_iload (pc' := 70) (z := v30143) rfl rfl ?_)
              refine wp_of e104 c104_70 (rw_iconst (pc' := 71) rfl ?_)
              refine wp_of e104 c104_71 (rw_iload (pc' := 73) (z := v30142) rfl rfl ?_)
              refine wp_of e104 c104_73 (rw_ishl (pc' := 74) rfl ?_)
              obtain ⟨v30179, e30180⟩ : ∃ x : Int, x = wq_shl 1 v30142 := ⟨_, rfl⟩
              rw [← e30180]
              have b30181 : 1 ≤ v30179 ∧ v30179 ≤ 64 := by
                rw [e30180]
                exact wq_shl1_6 ⟨by omega, by omega⟩
              refine wp_of e104 c104_74 (rw_ior (pc' := 75) rfl ?_)
              obtain ⟨v30182, e30183⟩ : ∃ x : Int, x = wq_or v30143 v30179 := ⟨_, rfl⟩
              rw [← e30183]
              have b30184 : 0 ≤ v30182 ∧ v30182 ≤ 16777215 := by
                rw [e30183]
                exact wq_or_24 ⟨by omega, by omega⟩ ⟨by omega, by omega⟩
              refine wp_of e104 c104_75 (rw_istore (pc' := 77) (z := v30182) (L' := [(5, vI v30182), (6, vI v30142), (4, vI 2), (0, .ref r0), (1, vI a1)]) rfl rfl rfl ?_)
              refine wp_of e104 c104_77 (rw_iinc (pc' := 80) (z := v30142) (L' := [(6, vI (v30142 + 1)), (5, vI v30182), (4, vI 2), (0, .ref r0), (1, vI a1)]) rfl rfl rfl rfl ?_)
              refine wp_of e104 c104_80 (rw_goto (p1 := 37) (by decide) ?_)
              exact wp_lc (ks := [6, 5, 4, 0, 1]) (wl_c rfl (wl_c rfl (wl_c rfl (wl_c rfl (wl_c rfl wl_n))))) rfl (by decide) (ih30141 _ (by omega) (v30142 + 1) v30182 ⟨by omega, by omega⟩ ⟨by omega, by omega⟩ rfl)
      exact wp_lc (ks := [6, 5, 4, 3, 0, 1, 2]) (wl_c rfl (wl_c rfl (wl_c rfl (wl_c rfl (wl_c rfl wl_n))))) rfl (by decide) (lp30139 _ 0 0 ⟨by omega, by omega⟩ ⟨by omega, by omega⟩ rfl)
  · refine wp_of e104 c104_14 (rw_aload_n (pc' := 15) (v := .ref r0) rfl rfl rfl ?_)
    refine wp_of e104 c104_15 (rw_iload_n (pc' := 16) (z := z29766) rfl rfl ?_)
    refine wp_of e104 c104_16 (xc_V (pc' := 19) (r := r0) (as := [vI z29766]) (st := []) (lm_0_70) rfl rfl (Nat.le_of_ble_eq_true rfl) w29763 g0 sh_1 (by decide) rfl (by decide) (s_12 w29763 g0 ⟨by omega, by omega⟩) (fun R30185 T30186 H30187 p30188 => ?_))
    obtain ⟨e30189, w30191, f30192, z30193, e30190, b30194⟩ := p30188
    subst e30189
    subst e30190
    have f30195 := f29768.tr f30192 rfl
    show wp _ _ 104 19 [(3, vI z29766), (0, .ref r0), (1, vI a1), (2, vI a2)] [vI z30193] _ H30187 _
    exact wp_ireturn e104 c104_19 rfl ⟨rfl, w30191, f30195, z30193, rfl, ⟨by omega, by omega⟩⟩
/-! StrikeAwake$Census.hundredthsAwake(LStrikeAwake$Parish;II)I -/
theorem e106 : wq_en 106 = some (4, 8, false, some FieldType.int) := rfl
theorem cg106_0 : mc_cd 106 0 = some (.aload_n 1, 1) ∧ mc_cd 106 1 = some (.getfield 78, 3) ∧ mc_cd 106 4 = some (.iload_n 2, 1) ∧ mc_cd 106 5 = some (.aaload, 1) ∧ mc_cd 106 6 = some (.astore 4, 2) ∧ mc_cd 106 8 = some (.lconst 0, 1) ∧ mc_cd 106 9 = some (.lstore 5, 2) ∧ mc_cd 106 11 = some (.iconst 0, 1) := by decide +kernel
theorem c106_0 : mc_cd 106 0 = some (.aload_n 1, 1) := cg106_0.1
theorem c106_1 : mc_cd 106 1 = some (.getfield 78, 3) := cg106_0.2.1
theorem c106_4 : mc_cd 106 4 = some (.iload_n 2, 1) := cg106_0.2.2.1
theorem c106_5 : mc_cd 106 5 = some (.aaload, 1) := cg106_0.2.2.2.1
theorem c106_6 : mc_cd 106 6 = some (.astore 4, 2) := cg106_0.2.2.2.2.1
theorem c106_8 : mc_cd 106 8 = some (.lconst 0, 1) := cg106_0.2.2.2.2.2.1
theorem c106_9 : mc_cd 106 9 = some (.lstore 5, 2) := cg106_0.2.2.2.2.2.2.1
theorem c106_11 : mc_cd 106 11 = some (.iconst 0, 1) := cg106_0.2.2.2.2.2.2.2
theorem cg106_12 : mc_cd 106 12 = some (.istore 7, 2) ∧ mc_cd 106 14 = some (.iload 7, 2) ∧ mc_cd 106 16 = some (.aload 4, 2) ∧ mc_cd 106 18 = some (.getfield 116, 3) ∧ mc_cd 106 21 = some (.if_icmp .ge 38, 3) ∧ mc_cd 106 24 = some (.aload 4, 2) ∧ mc_cd 106 26 = some (.getfield 119, 3) ∧ mc_cd 106 29 = some (.iload 7, 2) := by decide +kernel
theorem c106_12 : mc_cd 106 12 = some (.istore 7, 2) := cg106_12.1
theorem c106_14 : mc_cd 106 14 = some (.iload 7, 2) := cg106_12.2.1
theorem c106_16 : mc_cd 106 16 = some (.aload 4, 2) := cg106_12.2.2.1
theorem c106_18 : mc_cd 106 18 = some (.getfield 116, 3) := cg106_12.2.2.2.1
theorem c106_21 : mc_cd 106 21 = some (.if_icmp .ge 38, 3) := cg106_12.2.2.2.2.1
theorem c106_24 : mc_cd 106 24 = some (.aload 4, 2) := cg106_12.2.2.2.2.2.1
theorem c106_26 : mc_cd 106 26 = some (.getfield 119, 3) := cg106_12.2.2.2.2.2.2.1
theorem c106_29 : mc_cd 106 29 = some (.iload 7, 2) := cg106_12.2.2.2.2.2.2.2
theorem cg106_31 : mc_cd 106 31 = some (.iaload, 1) ∧ mc_cd 106 32 = some (.iload_n 3, 1) ∧ mc_cd 106 33 = some (.invokestatic 122, 3) ∧ mc_cd 106 36 = some (.ifCond .eq 17, 3) ∧ mc_cd 106 39 = some (.lload 5, 2) ∧ mc_cd 106 41 = some (.aload_n 0, 1) ∧ mc_cd 106 42 = some (.getfield 22, 3) ∧ mc_cd 106 45 = some (.iload_n 2, 1) := by decide +kernel
theorem c106_31 : mc_cd 106 31 = some (.iaload, 1) := cg106_31.1
theorem c106_32 : mc_cd 106 32 = some (.iload_n 3, 1) := cg106_31.2.1
theorem c106_33 : mc_cd 106 33 = some (.invokestatic 122, 3) := cg106_31.2.2.1
theorem c106_36 : mc_cd 106 36 = some (.ifCond .eq 17, 3) := cg106_31.2.2.2.1
theorem c106_39 : mc_cd 106 39 = some (.lload 5, 2) := cg106_31.2.2.2.2.1
theorem c106_41 : mc_cd 106 41 = some (.aload_n 0, 1) := cg106_31.2.2.2.2.2.1
theorem c106_42 : mc_cd 106 42 = some (.getfield 22, 3) := cg106_31.2.2.2.2.2.2.1
theorem c106_45 : mc_cd 106 45 = some (.iload_n 2, 1) := cg106_31.2.2.2.2.2.2.2
theorem cg106_46 : mc_cd 106 46 = some (.aaload, 1) ∧ mc_cd 106 47 = some (.iload 7, 2) ∧ mc_cd 106 49 = some (.laload, 1) ∧ mc_cd 106 50 = some (.ladd, 1) ∧ mc_cd 106 51 = some (.lstore 5, 2) ∧ mc_cd 106 53 = some (.iinc 7 1, 3) ∧ mc_cd 106 56 = some (.goto (-42), 3) ∧ mc_cd 106 59 = some (.aload_n 0, 1) := by decide +kernel
theorem c106_46 : mc_cd 106 46 = some (.aaload, 1) := cg106_46.1
theorem c106_47 : mc_cd 106 47 = some (.iload 7, 2) := cg106_46.2.1
theorem c106_49 : mc_cd 106 49 = some (.laload, 1) := cg106_46.2.2.1
theorem c106_50 : mc_cd 106 50 = some (.ladd, 1) := cg106_46.2.2.2.1
theorem c106_51 : mc_cd 106 51 = some (.lstore 5, 2) := cg106_46.2.2.2.2.1
theorem c106_53 : mc_cd 106 53 = some (.iinc 7 1, 3) := cg106_46.2.2.2.2.2.1
theorem c106_56 : mc_cd 106 56 = some (.goto (-42), 3) := cg106_46.2.2.2.2.2.2.1
theorem c106_59 : mc_cd 106 59 = some (.aload_n 0, 1) := cg106_46.2.2.2.2.2.2.2
theorem cg106_60 : mc_cd 106 60 = some (.getfield 66, 3) ∧ mc_cd 106 63 = some (.lconst 0, 1) ∧ mc_cd 106 64 = some (.lcmp, 1) ∧ mc_cd 106 65 = some (.ifCond .le 18, 3) ∧ mc_cd 106 68 = some (.lload 5, 2) ∧ mc_cd 106 70 = some (.ldc2_w 130, 3) ∧ mc_cd 106 73 = some (.lmul, 1) ∧ mc_cd 106 74 = some (.aload_n 0, 1) := by decide +kernel
theorem c106_60 : mc_cd 106 60 = some (.getfield 66, 3) := cg106_60.1
theorem c106_63 : mc_cd 106 63 = some (.lconst 0, 1) := cg106_60.2.1
theorem c106_64 : mc_cd 106 64 = some (.lcmp, 1) := cg106_60.2.2.1
theorem c106_65 : mc_cd 106 65 = some (.ifCond .le 18, 3) := cg106_60.2.2.2.1
theorem c106_68 : mc_cd 106 68 = some (.lload 5, 2) := cg106_60.2.2.2.2.1
theorem c106_70 : mc_cd 106 70 = some (.ldc2_w 130, 3) := cg106_60.2.2.2.2.2.1
theorem c106_73 : mc_cd 106 73 = some (.lmul, 1) := cg106_60.2.2.2.2.2.2.1
theorem c106_74 : mc_cd 106 74 = some (.aload_n 0, 1) := cg106_60.2.2.2.2.2.2.2
theorem cg106_75 : mc_cd 106 75 = some (.getfield 66, 3) ∧ mc_cd 106 78 = some (.ldiv, 1) ∧ mc_cd 106 79 = some (.l2i, 1) ∧ mc_cd 106 80 = some (.goto 4, 3) ∧ mc_cd 106 83 = some (.iconst 0, 1) ∧ mc_cd 106 84 = some (.ireturn, 1) := by decide +kernel
theorem c106_75 : mc_cd 106 75 = some (.getfield 66, 3) := cg106_75.1
theorem c106_78 : mc_cd 106 78 = some (.ldiv, 1) := cg106_75.2.1
theorem c106_79 : mc_cd 106 79 = some (.l2i, 1) := cg106_75.2.2.1
theorem c106_80 : mc_cd 106 80 = some (.goto 4, 3) := cg106_75.2.2.2.1
theorem c106_83 : mc_cd 106 83 = some (.iconst 0, 1) := cg106_75.2.2.2.2.1
theorem c106_84 : mc_cd 106 84 = some (.ireturn, 1) := cg106_75.2.2.2.2.2
abbrev q_106 (r0 : Nat) (r1 : Nat) (a2 : Int) (a3 : Int) (T : wq_T) (H : wq_H) : Option Value → wq_T → wq_H → Prop := fun r T' H' => T = T' ∧ H = H' ∧ ∃ z : Int, some (vI z) = r ∧ ((-2147483648) ≤ z ∧ z ≤ 2147483647)
set_option maxHeartbeats 4000000 in
theorem s_106 {kt : Nat → Option mc_E} {T : wq_T} {H : wq_H} {r0 : Nat} {r1 : Nat} {a2 : Int} {a3 : Int} (hW : WT T H) (g0 : T.2.2.2 r0 = some 12) (g1 : T.2.2.2 r1 = some 27) (i2 : 0 ≤ a2 ∧ a2 ≤ 5) (i3 : (-2147483648) ≤ a3 ∧ a3 ≤ 2147483647) : wpc kt 2 106 [.ref r0, .ref r1, vI a2, vI a3] T H (q_106 r0 r1 a2 a3 T H) := by
  refine wp_enter e106 (Nat.le_of_ble_eq_true rfl) rfl ?_
  show wp _ _ 106 0 [(0, .ref r0), (1, .ref r1), (2, vI a2), (3, vI a3)] [] _ H _
  refine wp_of e106 c106_0 (rw_aload_n (pc' := 1) (v := .ref r1) rfl rfl rfl ?_)
  refine wp_of e106 c106_1 (xg_R (pc' := 4) lf_4_78 hW g1 sh_27 (by decide) (by decide) ty_27_0 rfl rfl (fun r30465 q30466 g30467 => ?_))
  refine wp_of e106 c106_4 (rw_iload_n (pc' := 5) (z := a2) rfl rfl ?_)
  refine wp_of e106 c106_5 (xa_R (pc' := 6) (by decide) hW g30467 sh_28 (by decide) (ty_28 _) (by omega) (by omega) rfl (fun r30468 q30469 g30470 => ?_))
  refine wp_of e106 c106_6 (rw_astore (pc' := 8) (v := .ref r30468) (L' := [(4, .ref r30468), (0, .ref r0), (1, .ref r1), (2, vI a2), (3, vI a3)]) rfl rfl rfl rfl ?_)
  refine wp_of e106 c106_8 (rw_lconst (pc' := 9) (z := 0) rfl rfl ?_)
  refine wp_of e106 c106_9 (rw_lstore (pc' := 11) (z := 0) (L' := [(5, vL 0), (4, .ref r30468), (0, .ref r0), (1, .ref r1), (2, vI a2), (3, vI a3)]) rfl rfl rfl ?_)
  refine wp_of e106 c106_11 (rw_iconst (pc' := 12) rfl ?_)
  refine wp_of e106 c106_12 (rw_istore (pc' := 14) (z := 0) (L' := [(7, vI 0), (5, vL 0), (4, .ref r30468), (0, .ref r0), (1, .ref r1), (2, vI a2), (3, vI a3)]) rfl rfl rfl ?_)
  have lp30693 : ∀ (n30694 : Nat) (v30696 : Int) (v30697 : Int), (0 ≤ v30696 ∧ v30696 ≤ 40) → ((-9223372036854775808) ≤ v30697 ∧ v30697 ≤ 9223372036854775807) → (40 - v30696).toNat = n30694 → wp kt 1 106 14 [(7, vI v30696), (5, vL v30697), (4, .ref r30468), (0, .ref r0), (2, vI a2), (3, vI a3)] [] T H (q_106 r0 r1 a2 a3 T H) := by
    intro n30694
    induction n30694 using Nat.strongRecOn with
    | _ n30694 ih30695 =>
      intro v30696 v30697 b30700 b30701 m30702
      refine wp_of e106 c106_14 (rw_iload (pc' := 16) (z := v30696) rfl rfl ?_)
      refine wp_of e106 c106_16 (rw_aload (pc' := 18) (v := .ref r30468) rfl rfl rfl ?_)
      refine wp_of e106 c106_18 (xg_I (pc' := 21) lf_4_116 hW g30470 sh_35 (by decide) (by decide) ty_35_15 rfl rfl (fun b30703 b30704 => ?_))
      refine wp_of e106 c106_21 (rw_icmp_ge (p1 := 59) (p2 := 24) (by decide) rfl ⟨by omega, by omega⟩ ⟨by omega, by omega⟩ (fun c30705 => ?_) (fun c30705 => ?_))
      · refine wp_of e106 c106_59 (rw_aload_n (pc' := 60) (v := .ref r0) rfl rfl rfl ?_)
        refine wp_of e106 c106_60 (xg_L (pc' := 63) lf_4_66 hW g0 sh_12 (by decide) (by decide) ty_12_6 rfl rfl (fun b30706 b30707 => ?_))
        refine wp_of e106 c106_63 (rw_lconst (pc' := 64) (z := 0) rfl rfl ?_)
        refine wp_of e106 c106_64 (rw_lcmp (pc' := 65) rfl ⟨by omega, by omega⟩ ⟨by omega, by omega⟩ ?_)
        have b30708 := wq_cmp_b (H r0 6) 0
        refine wp_of e106 c106_65 (rw_if_le (p1 := 83) (p2 := 68) (by decide) rfl ⟨by omega, by omega⟩ (fun c30709 => ?_) (fun c30709 => ?_))
        · refine wp_of e106 c106_83 (rw_iconst (pc' := 84) rfl ?_)
          exact wp_ireturn e106 c106_84 rfl ⟨rfl, rfl, 0, rfl, ⟨by omega, by omega⟩⟩
        · refine wp_of e106 c106_68 (rw_lload (pc' := 70) (z := v30697) rfl rfl ?_)
          refine wp_of e106 c106_70 (rw_ldc2 (pc' := 73) (z := 100) rfl rfl rfl ?_)
          refine wp_of e106 c106_73 (rw_lmulw (pc' := 74) rfl ?_)
          obtain ⟨v30710, e30711⟩ : ∃ x : Int, x = wl_w (v30697 * 100) := ⟨_, rfl⟩
          rw [← e30711]
          have b30712 : -9223372036854775808 ≤ v30710 ∧ v30710 ≤ 9223372036854775807 := by
            rw [e30711]
            exact wL_w _
          refine wp_of e106 c106_74 (rw_aload_n (pc' := 75) (v := .ref r0) rfl rfl rfl ?_)
          refine wp_of e106 c106_75 (xg_L (pc' := 78) lf_4_66 hW g0 sh_12 (by decide) (by decide) ty_12_6 rfl rfl (fun b30713 b30714 => ?_))
          refine wp_of e106 c106_78 (rw_ldiv (pc' := 79) rfl ⟨by omega, by omega⟩ (by omega) ?_)
          obtain ⟨v30715, e30716⟩ : ∃ x : Int, x = wl_div v30710 (H r0 6) := ⟨_, rfl⟩
          rw [← e30716]
          have b30717 : -9223372036854775808 ≤ v30715 ∧ v30715 ≤ 9223372036854775807 := by
            rw [e30716]
            exact wL_div _ _
          refine wp_of e106 c106_79 (rw_l2i (pc' := 80) rfl ?_)
          obtain ⟨v30718, e30719⟩ : ∃ x : Int, x = wq_w v30715 := ⟨_, rfl⟩
          rw [← e30719]
          have b30720 : -2147483648 ≤ v30718 ∧ v30718 ≤ 2147483647 := by
            rw [e30719]
            exact wI_w _
          have b30721 : (-2147483648 ≤ v30715 ∧ v30715 ≤ 2147483647) → v30718 = v30715 := by
            rw [e30719]
            exact fun h => wq_w_id h
          refine wp_of e106 c106_80 (rw_goto (p1 := 84) (by decide) ?_)
          exact wp_ireturn e106 c106_84 rfl ⟨rfl, rfl, v30718, rfl, ⟨by omega, by omega⟩⟩
      · refine wp_of e106 c106_24 (rw_aload (pc' := 26) (v := .ref r30468) rfl rfl rfl ?_)
        refine wp_of e106 c106_26 (xg_R (pc' := 29) lf_4_119 hW g30470 sh_35 (by decide) (by decide) ty_35_3 rfl rfl (fun r30722 q30723 g30724 => ?_))
        refine wp_of e106 c106_29 (rw_iload (pc' := 31) (z := v30696) rfl rfl ?_)
        refine wp_of e106 c106_31 (xa_I (so := 0) (pc' := 32) hW g30724 sh_39 (by decide) (ty_39 _) (by omega) (by omega) rfl (fun b30725 b30726 => ?_))
        refine wp_of e106 c106_32 (rw_iload_n (pc' := 33) (z := a3) rfl rfl ?_)
        refine wp_of e106 c106_33 (xc_S (pc' := 36) (as := [vI (H r30722 (v30696.toNat)), vI a3]) (st := []) (lm_4_122) rfl rfl (Nat.le_of_ble_eq_true rfl) rfl (by decide) (s_36 hW ⟨by omega, by omega⟩ ⟨by omega, by omega⟩) (fun R30727 T30728 H30729 p30730 => ?_))
        obtain ⟨e30731, e30733, z30734, e30732, b30735⟩ := p30730
        subst e30731
        subst e30732
        subst e30733
        show wp _ _ 106 36 [(7, vI v30696), (5, vL v30697), (4, .ref r30468), (0, .ref r0), (2, vI a2), (3, vI a3)] [vI z30734] _ H _
        refine wp_of e106 c106_36 (rw_if_eq (p1 := 53) (p2 := 39) (by decide) rfl ⟨by omega, by omega⟩ (fun c30736 => ?_) (fun c30736 => ?_))
        · refine wp_of e106 c106_53 (rw_iinc (pc' := 56) (z := v30696) (L' := [(7, vI (v30696 + 1)), (5, vL v30697), (4, .ref r30468), (0, .ref r0), (2, vI a2), (3, vI a3)]) rfl rfl rfl rfl ?_)
          refine wp_of e106 c106_56 (rw_goto (p1 := 14) (by decide) ?_)
          exact wp_lc (ks := [7, 5, 4, 0, 2, 3]) (wl_c rfl (wl_c rfl (wl_c rfl (wl_c rfl (wl_c rfl (wl_c rfl wl_n)))))) rfl (by decide) (ih30695 _ (by omega) (v30696 + 1) v30697 ⟨by omega, by omega⟩ ⟨by omega, by omega⟩ rfl)
        · refine wp_of e106 c106_39 (rw_lload (pc' := 41) (z := v30697) rfl rfl ?_)
          refine wp_of e106 c106_41 (rw_aload_n (pc' := 42) (v := .ref r0) rfl rfl rfl ?_)
          refine wp_of e106 c106_42 (xg_R (pc' := 45) lf_4_22 hW g0 sh_12 (by decide) (by decide) ty_12_2 rfl rfl (fun r30737 q30738 g30739 => ?_))
          refine wp_of e106 c106_45 (rw_iload_n (pc' := 46) (z := a2) rfl rfl ?_)
          refine wp_of e106 c106_46 (xa_R (pc' := 47) (by decide) hW g30739 sh_16 (by decide) (ty_16 _) (by omega) (by omega) rfl (fun r30740 q30741 g30742 => ?_))
          refine wp_of e106 c106_47 (rw_iload (pc' := 49) (z := v30696) rfl rfl ?_)
          refine wp_of e106 c106_49 (xa_L (pc' := 50) hW g30742 sh_17 (by decide) (ty_17 _) (by omega) (by omega) rfl (fun b30743 b30744 => ?_))
          refine wp_of e106 c106_50 (rw_laddw (pc' := 51) rfl ?_)
          obtain ⟨v30745, e30746⟩ : ∃ x : Int, x = wl_w (v30697 + (H r30740 (v30696.toNat))) := ⟨_, rfl⟩
          rw [← e30746]
          have b30747 : -9223372036854775808 ≤ v30745 ∧ v30745 ≤ 9223372036854775807 := by
            rw [e30746]
            exact wL_w _
          refine wp_of e106 c106_51 (rw_lstore (pc' := 53) (z := v30745) (L' := [(5, vL v30745), (7, vI v30696), (4, .ref r30468), (0, .ref r0), (2, vI a2), (3, vI a3)]) rfl rfl rfl ?_)
          refine wp_of e106 c106_53 (rw_iinc (pc' := 56) (z := v30696) (L' := [(7, vI (v30696 + 1)), (5, vL v30745), (4, .ref r30468), (0, .ref r0), (2, vI a2), (3, vI a3)]) rfl rfl rfl rfl ?_)
          refine wp_of e106 c106_56 (rw_goto (p1 := 14) (by decide) ?_)
          exact wp_lc (ks := [7, 5, 4, 0, 2, 3]) (wl_c rfl (wl_c rfl (wl_c rfl (wl_c rfl (wl_c rfl (wl_c rfl wl_n)))))) rfl (by decide) (ih30695 _ (by omega) (v30696 + 1) v30745 ⟨by omega, by omega⟩ ⟨by omega, by omega⟩ rfl)
  exact wp_lc (ks := [7, 5, 4, 0, 1, 2, 3]) (wl_c rfl (wl_c rfl (wl_c rfl (wl_c rfl (wl_c rfl (wl_c rfl wl_n)))))) rfl (by decide) (lp30693 _ 0 0 ⟨by omega, by omega⟩ ⟨by omega, by omega⟩ rfl)
/-! StrikeAwake.chance(II)I -/
theorem e105 : wq_en 105 = some (0, 4, false, some FieldType.int) := rfl
theorem cg105_0 : mc_cd 105 0 = some (.aload_n 0, 1) ∧ mc_cd 105 1 = some (.aload_n 0, 1) ∧ mc_cd 105 2 = some (.iload_n 1, 1) ∧ mc_cd 105 3 = some (.invokevirtual 105, 3) ∧ mc_cd 105 6 = some (.ifCond .eq 15, 3) ∧ mc_cd 105 9 = some (.aload_n 0, 1) ∧ mc_cd 105 10 = some (.iload_n 2, 1) ∧ mc_cd 105 11 = some (.invokevirtual 132, 3) := by decide +kernel
theorem c105_0 : mc_cd 105 0 = some (.aload_n 0, 1) := cg105_0.1
theorem c105_1 : mc_cd 105 1 = some (.aload_n 0, 1) := cg105_0.2.1
theorem c105_2 : mc_cd 105 2 = some (.iload_n 1, 1) := cg105_0.2.2.1
theorem c105_3 : mc_cd 105 3 = some (.invokevirtual 105, 3) := cg105_0.2.2.2.1
theorem c105_6 : mc_cd 105 6 = some (.ifCond .eq 15, 3) := cg105_0.2.2.2.2.1
theorem c105_9 : mc_cd 105 9 = some (.aload_n 0, 1) := cg105_0.2.2.2.2.2.1
theorem c105_10 : mc_cd 105 10 = some (.iload_n 2, 1) := cg105_0.2.2.2.2.2.2.1
theorem c105_11 : mc_cd 105 11 = some (.invokevirtual 132, 3) := cg105_0.2.2.2.2.2.2.2
theorem cg105_14 : mc_cd 105 14 = some (.ifCond .eq 7, 3) ∧ mc_cd 105 17 = some (.iconst 1, 1) ∧ mc_cd 105 18 = some (.goto 4, 3) ∧ mc_cd 105 21 = some (.iconst 0, 1) ∧ mc_cd 105 22 = some (.invokevirtual 198, 3) ∧ mc_cd 105 25 = some (.istore_n 3, 1) ∧ mc_cd 105 26 = some (.iload_n 3, 1) ∧ mc_cd 105 27 = some (.ifCond .eq 9, 3) := by decide +kernel
theorem c105_14 : mc_cd 105 14 = some (.ifCond .eq 7, 3) := cg105_14.1
theorem c105_17 : mc_cd 105 17 = some (.iconst 1, 1) := cg105_14.2.1
theorem c105_18 : mc_cd 105 18 = some (.goto 4, 3) := cg105_14.2.2.1
theorem c105_21 : mc_cd 105 21 = some (.iconst 0, 1) := cg105_14.2.2.2.1
theorem c105_22 : mc_cd 105 22 = some (.invokevirtual 198, 3) := cg105_14.2.2.2.2.1
theorem c105_25 : mc_cd 105 25 = some (.istore_n 3, 1) := cg105_14.2.2.2.2.2.1
theorem c105_26 : mc_cd 105 26 = some (.iload_n 3, 1) := cg105_14.2.2.2.2.2.2.1
theorem c105_27 : mc_cd 105 27 = some (.ifCond .eq 9, 3) := cg105_14.2.2.2.2.2.2.2
theorem cg105_30 : mc_cd 105 30 = some (.aload_n 0, 1) ∧ mc_cd 105 31 = some (.iload_n 3, 1) ∧ mc_cd 105 32 = some (.invokevirtual 70, 3) ∧ mc_cd 105 35 = some (.ireturn, 1) ∧ mc_cd 105 36 = some (.aload_n 0, 1) ∧ mc_cd 105 37 = some (.aload_n 0, 1) ∧ mc_cd 105 38 = some (.getfield 30, 3) ∧ mc_cd 105 41 = some (.aload_n 0, 1) := by decide +kernel
theorem c105_30 : mc_cd 105 30 = some (.aload_n 0, 1) := cg105_30.1
theorem c105_31 : mc_cd 105 31 = some (.iload_n 3, 1) := cg105_30.2.1
theorem c105_32 : mc_cd 105 32 = some (.invokevirtual 70, 3) := cg105_30.2.2.1
theorem c105_35 : mc_cd 105 35 = some (.ireturn, 1) := cg105_30.2.2.2.1
theorem c105_36 : mc_cd 105 36 = some (.aload_n 0, 1) := cg105_30.2.2.2.2.1
theorem c105_37 : mc_cd 105 37 = some (.aload_n 0, 1) := cg105_30.2.2.2.2.2.1
theorem c105_38 : mc_cd 105 38 = some (.getfield 30, 3) := cg105_30.2.2.2.2.2.2.1
theorem c105_41 : mc_cd 105 41 = some (.aload_n 0, 1) := cg105_30.2.2.2.2.2.2.2
theorem cg105_42 : mc_cd 105 42 = some (.getfield 51, 3) ∧ mc_cd 105 45 = some (.iload_n 1, 1) ∧ mc_cd 105 46 = some (.iload_n 2, 1) ∧ mc_cd 105 47 = some (.invokevirtual 204, 3) ∧ mc_cd 105 50 = some (.invokevirtual 99, 3) ∧ mc_cd 105 53 = some (.ireturn, 1) := by decide +kernel
theorem c105_42 : mc_cd 105 42 = some (.getfield 51, 3) := cg105_42.1
theorem c105_45 : mc_cd 105 45 = some (.iload_n 1, 1) := cg105_42.2.1
theorem c105_46 : mc_cd 105 46 = some (.iload_n 2, 1) := cg105_42.2.2.1
theorem c105_47 : mc_cd 105 47 = some (.invokevirtual 204, 3) := cg105_42.2.2.2.1
theorem c105_50 : mc_cd 105 50 = some (.invokevirtual 99, 3) := cg105_42.2.2.2.2.1
theorem c105_53 : mc_cd 105 53 = some (.ireturn, 1) := cg105_42.2.2.2.2.2
abbrev q_105 (r0 : Nat) (a1 : Int) (a2 : Int) (T : wq_T) (H : wq_H) : Option Value → wq_T → wq_H → Prop := fun r T' H' => T = T' ∧ WT T H' ∧ wfr [(12, 5), (12, 6), (12, 7), (12, 8), (12, 9), (1, 10), (6, 5), (8, 999), (10, 999), (15, 999), (9, 999), (18, 999), (19, 999), (7, 999), (11, 999), (17, 999), (13, 999)] T H H' ∧ ∃ z : Int, some (vI z) = r ∧ ((-2147483648) ≤ z ∧ z ≤ 2147483647)
set_option maxHeartbeats 4000000 in
theorem s_105 {kt : Nat → Option mc_E} {T : wq_T} {H : wq_H} {r0 : Nat} {a1 : Int} {a2 : Int} (hW : WT T H) (g0 : T.2.2.2 r0 = some 1) (i1 : (-2147483648) ≤ a1 ∧ a1 ≤ 2147483647) (i2 : (-2147483648) ≤ a2 ∧ a2 ≤ 2147483647) : wpc kt 7 105 [.ref r0, vI a1, vI a2] T H (q_105 r0 a1 a2 T H) := by
  refine wp_enter e105 (Nat.le_of_ble_eq_true rfl) rfl ?_
  have f0 : wfr [(12, 5), (12, 6), (12, 7), (12, 8), (12, 9), (1, 10), (6, 5), (8, 999), (10, 999), (15, 999), (9, 999), (18, 999), (19, 999), (7, 999), (11, 999), (17, 999), (13, 999)] T H H := wfr.rf
  show wp _ _ 105 0 [(0, .ref r0), (1, vI a1), (2, vI a2)] [] _ H _
  refine wp_of e105 c105_0 (rw_aload_n (pc' := 1) (v := .ref r0) rfl rfl rfl ?_)
  refine wp_of e105 c105_1 (rw_aload_n (pc' := 2) (v := .ref r0) rfl rfl rfl ?_)
  refine wp_of e105 c105_2 (rw_iload_n (pc' := 3) (z := a1) rfl rfl ?_)
  refine wp_of e105 c105_3 (xc_V (pc' := 6) (r := r0) (as := [vI a1]) (st := [.ref r0]) (lm_0_105) rfl rfl (Nat.le_of_ble_eq_true rfl) hW g0 sh_1 (by decide) rfl (by decide) (s_55 hW g0 ⟨by omega, by omega⟩) (fun R30868 T30869 H30870 p30871 => ?_))
  obtain ⟨e30872, e30874, z30876, e30873, b30877, p30875⟩ := p30871
  subst e30872
  subst e30873
  subst e30874
  show wp _ _ 105 6 [(0, .ref r0), (1, vI a1), (2, vI a2)] [vI z30876, .ref r0] _ H _
  refine wp_of e105 c105_6 (rw_if_eq (p1 := 21) (p2 := 9) (by decide) rfl ⟨by omega, by omega⟩ (fun c30878 => ?_) (fun c30878 => ?_))
  · refine wp_of e105 c105_21 (rw_iconst (pc' := 22) rfl ?_)
    refine wp_of e105 c105_22 (xc_V (pc' := 25) (r := r0) (as := [vI 0]) (st := []) (lm_0_198) rfl rfl (Nat.le_of_ble_eq_true rfl) hW g0 sh_1 (by decide) rfl (by decide) (s_102 hW g0 ⟨by omega, by omega⟩) (fun R30879 T30880 H30881 p30882 => ?_))
    obtain ⟨e30883, w30885, f30886, z30888, e30884, b30889, p30887⟩ := p30882
    subst e30883
    subst e30884
    have f30890 := f0.tr f30886 rfl
    show wp _ _ 105 25 [(0, .ref r0), (1, vI a1), (2, vI a2)] [vI z30888] _ H30881 _
    refine wp_of e105 c105_25 (rw_istore_n (pc' := 26) (z := z30888) (L' := [(3, vI z30888), (0, .ref r0), (1, vI a1), (2, vI a2)]) rfl rfl rfl ?_)
    refine wp_of e105 c105_26 (rw_iload_n (pc' := 27) (z := z30888) rfl rfl ?_)
    refine wp_of e105 c105_27 (rw_if_eq (p1 := 36) (p2 := 30) (by decide) rfl ⟨by omega, by omega⟩ (fun c30891 => ?_) (fun c30891 => ?_))
    · exfalso
      omega
    · refine wp_of e105 c105_30 (rw_aload_n (pc' := 31) (v := .ref r0) rfl rfl rfl ?_)
      refine wp_of e105 c105_31 (rw_iload_n (pc' := 32) (z := z30888) rfl rfl ?_)
      refine wp_of e105 c105_32 (xc_V (pc' := 35) (r := r0) (as := [vI z30888]) (st := []) (lm_0_70) rfl rfl (Nat.le_of_ble_eq_true rfl) w30885 g0 sh_1 (by decide) rfl (by decide) (s_12 w30885 g0 ⟨by omega, by omega⟩) (fun R30892 T30893 H30894 p30895 => ?_))
      obtain ⟨e30896, w30898, f30899, z30900, e30897, b30901⟩ := p30895
      subst e30896
      subst e30897
      have f30902 := f30890.tr f30899 rfl
      show wp _ _ 105 35 [(3, vI z30888), (0, .ref r0), (1, vI a1), (2, vI a2)] [vI z30900] _ H30894 _
      exact wp_ireturn e105 c105_35 rfl ⟨rfl, w30898, f30902, z30900, rfl, ⟨by omega, by omega⟩⟩
  · refine wp_of e105 c105_9 (rw_aload_n (pc' := 10) (v := .ref r0) rfl rfl rfl ?_)
    refine wp_of e105 c105_10 (rw_iload_n (pc' := 11) (z := a2) rfl rfl ?_)
    refine wp_of e105 c105_11 (xc_V (pc' := 14) (r := r0) (as := [vI a2]) (st := [.ref r0]) (lm_0_132) rfl rfl (Nat.le_of_ble_eq_true rfl) hW g0 sh_1 (by decide) rfl (by decide) (s_60 hW g0 ⟨by omega, by omega⟩) (fun R30903 T30904 H30905 p30906 => ?_))
    obtain ⟨e30907, e30909, z30911, e30908, b30912, p30910⟩ := p30906
    subst e30907
    subst e30908
    subst e30909
    show wp _ _ 105 14 [(0, .ref r0), (1, vI a1), (2, vI a2)] [vI z30911, .ref r0] _ H _
    refine wp_of e105 c105_14 (rw_if_eq (p1 := 21) (p2 := 17) (by decide) rfl ⟨by omega, by omega⟩ (fun c30913 => ?_) (fun c30913 => ?_))
    · refine wp_of e105 c105_21 (rw_iconst (pc' := 22) rfl ?_)
      refine wp_of e105 c105_22 (xc_V (pc' := 25) (r := r0) (as := [vI 0]) (st := []) (lm_0_198) rfl rfl (Nat.le_of_ble_eq_true rfl) hW g0 sh_1 (by decide) rfl (by decide) (s_102 hW g0 ⟨by omega, by omega⟩) (fun R30914 T30915 H30916 p30917 => ?_))
      obtain ⟨e30918, w30920, f30921, z30923, e30919, b30924, p30922⟩ := p30917
      subst e30918
      subst e30919
      have f30925 := f0.tr f30921 rfl
      show wp _ _ 105 25 [(0, .ref r0), (1, vI a1), (2, vI a2)] [vI z30923] _ H30916 _
      refine wp_of e105 c105_25 (rw_istore_n (pc' := 26) (z := z30923) (L' := [(3, vI z30923), (0, .ref r0), (1, vI a1), (2, vI a2)]) rfl rfl rfl ?_)
      refine wp_of e105 c105_26 (rw_iload_n (pc' := 27) (z := z30923) rfl rfl ?_)
      refine wp_of e105 c105_27 (rw_if_eq (p1 := 36) (p2 := 30) (by decide) rfl ⟨by omega, by omega⟩ (fun c30926 => ?_) (fun c30926 => ?_))
      · exfalso
        omega
      · refine wp_of e105 c105_30 (rw_aload_n (pc' := 31) (v := .ref r0) rfl rfl rfl ?_)
        refine wp_of e105 c105_31 (rw_iload_n (pc' := 32) (z := z30923) rfl rfl ?_)
        refine wp_of e105 c105_32 (xc_V (pc' := 35) (r := r0) (as := [vI z30923]) (st := []) (lm_0_70) rfl rfl (Nat.le_of_ble_eq_true rfl) w30920 g0 sh_1 (by decide) rfl (by decide) (s_12 w30920 g0 ⟨by omega, by omega⟩) (fun R30927 T30928 H30929 p30930 => ?_))
        obtain ⟨e30931, w30933, f30934, z30935, e30932, b30936⟩ := p30930
        subst e30931
        subst e30932
        have f30937 := f30925.tr f30934 rfl
        show wp _ _ 105 35 [(3, vI z30923), (0, .ref r0), (1, vI a1), (2, vI a2)] [vI z30935] _ H30929 _
        exact wp_ireturn e105 c105_35 rfl ⟨rfl, w30933, f30937, z30935, rfl, ⟨by omega, by omega⟩⟩
    · refine wp_of e105 c105_17 (rw_iconst (pc' := 18) rfl ?_)
      refine wp_of e105 c105_18 (rw_goto (p1 := 22) (by decide) ?_)
      refine wp_of e105 c105_22 (xc_V (pc' := 25) (r := r0) (as := [vI 1]) (st := []) (lm_0_198) rfl rfl (Nat.le_of_ble_eq_true rfl) hW g0 sh_1 (by decide) rfl (by decide) (s_102 hW g0 ⟨by omega, by omega⟩) (fun R30938 T30939 H30940 p30941 => ?_))
      obtain ⟨e30942, w30944, f30945, z30947, e30943, b30948, p30946⟩ := p30941
      subst e30942
      subst e30943
      have f30949 := f0.tr f30945 rfl
      show wp _ _ 105 25 [(0, .ref r0), (1, vI a1), (2, vI a2)] [vI z30947] _ H30940 _
      refine wp_of e105 c105_25 (rw_istore_n (pc' := 26) (z := z30947) (L' := [(3, vI z30947), (0, .ref r0), (1, vI a1), (2, vI a2)]) rfl rfl rfl ?_)
      refine wp_of e105 c105_26 (rw_iload_n (pc' := 27) (z := z30947) rfl rfl ?_)
      refine wp_of e105 c105_27 (rw_if_eq (p1 := 36) (p2 := 30) (by decide) rfl ⟨by omega, by omega⟩ (fun c30950 => ?_) (fun c30950 => ?_))
      · refine wp_of e105 c105_36 (rw_aload_n (pc' := 37) (v := .ref r0) rfl rfl rfl ?_)
        refine wp_of e105 c105_37 (rw_aload_n (pc' := 38) (v := .ref r0) rfl rfl rfl ?_)
        refine wp_of e105 c105_38 (xg_R (pc' := 41) lf_0_30 w30944 g0 sh_1 (by decide) (by decide) ty_1_3 rfl rfl (fun r30951 q30952 g30953 => ?_))
        refine wp_of e105 c105_41 (rw_aload_n (pc' := 42) (v := .ref r0) rfl rfl rfl ?_)
        refine wp_of e105 c105_42 (xg_R (pc' := 45) lf_0_51 w30944 g0 sh_1 (by decide) (by decide) ty_1_6 rfl rfl (fun r30954 q30955 g30956 => ?_))
        refine wp_of e105 c105_45 (rw_iload_n (pc' := 46) (z := a1) rfl rfl ?_)
        refine wp_of e105 c105_46 (rw_iload_n (pc' := 47) (z := a2) rfl rfl ?_)
        refine wp_of e105 c105_47 (xc_V (pc' := 50) (r := r30951) (as := [.ref r30954, vI a1, vI a2]) (st := [.ref r0]) (lm_0_204) rfl rfl (Nat.le_of_ble_eq_true rfl) w30944 g30953 sh_12 (by decide) rfl (by decide) (s_106 w30944 g30953 g30956 ⟨by omega, by omega⟩ ⟨by omega, by omega⟩) (fun R30957 T30958 H30959 p30960 => ?_))
        obtain ⟨e30961, e30963, z30964, e30962, b30965⟩ := p30960
        subst e30961
        subst e30962
        subst e30963
        show wp _ _ 105 50 [(3, vI z30947), (0, .ref r0), (1, vI a1), (2, vI a2)] [vI z30964, .ref r0] _ H30940 _
        refine wp_of e105 c105_50 (xc_V (pc' := 53) (r := r0) (as := [vI z30964]) (st := []) (lm_0_99) rfl rfl (Nat.le_of_ble_eq_true rfl) w30944 g0 sh_1 (by decide) rfl (by decide) (s_51 w30944 g0 ⟨by omega, by omega⟩) (fun R30966 T30967 H30968 p30969 => ?_))
        obtain ⟨e30970, w30972, f30973, z30974, e30971, b30975⟩ := p30969
        subst e30970
        subst e30971
        have f30976 := f30949.tr f30973 rfl
        show wp _ _ 105 53 [(3, vI z30947), (0, .ref r0), (1, vI a1), (2, vI a2)] [vI z30974] _ H30968 _
        exact wp_ireturn e105 c105_53 rfl ⟨rfl, w30972, f30976, z30974, rfl, ⟨by omega, by omega⟩⟩
      · refine wp_of e105 c105_30 (rw_aload_n (pc' := 31) (v := .ref r0) rfl rfl rfl ?_)
        refine wp_of e105 c105_31 (rw_iload_n (pc' := 32) (z := z30947) rfl rfl ?_)
        refine wp_of e105 c105_32 (xc_V (pc' := 35) (r := r0) (as := [vI z30947]) (st := []) (lm_0_70) rfl rfl (Nat.le_of_ble_eq_true rfl) w30944 g0 sh_1 (by decide) rfl (by decide) (s_12 w30944 g0 ⟨by omega, by omega⟩) (fun R30977 T30978 H30979 p30980 => ?_))
        obtain ⟨e30981, w30983, f30984, z30985, e30982, b30986⟩ := p30980
        subst e30981
        subst e30982
        have f30987 := f30949.tr f30984 rfl
        show wp _ _ 105 35 [(3, vI z30947), (0, .ref r0), (1, vI a1), (2, vI a2)] [vI z30985] _ H30979 _
        exact wp_ireturn e105 c105_35 rfl ⟨rfl, w30983, f30987, z30985, rfl, ⟨by omega, by omega⟩⟩
/-! StrikeAwake.likeliest(I)I -/
theorem e107 : wq_en 107 = some (0, 3, false, some FieldType.int) := rfl
theorem cg107_0 : mc_cd 107 0 = some (.aload_n 0, 1) ∧ mc_cd 107 1 = some (.aload_n 0, 1) ∧ mc_cd 107 2 = some (.iload_n 1, 1) ∧ mc_cd 107 3 = some (.invokevirtual 105, 3) ∧ mc_cd 107 6 = some (.invokevirtual 198, 3) ∧ mc_cd 107 9 = some (.istore_n 2, 1) ∧ mc_cd 107 10 = some (.iload_n 2, 1) ∧ mc_cd 107 11 = some (.ifCond .eq 9, 3) := by decide +kernel
theorem c107_0 : mc_cd 107 0 = some (.aload_n 0, 1) := cg107_0.1
theorem c107_1 : mc_cd 107 1 = some (.aload_n 0, 1) := cg107_0.2.1
theorem c107_2 : mc_cd 107 2 = some (.iload_n 1, 1) := cg107_0.2.2.1
theorem c107_3 : mc_cd 107 3 = some (.invokevirtual 105, 3) := cg107_0.2.2.2.1
theorem c107_6 : mc_cd 107 6 = some (.invokevirtual 198, 3) := cg107_0.2.2.2.2.1
theorem c107_9 : mc_cd 107 9 = some (.istore_n 2, 1) := cg107_0.2.2.2.2.2.1
theorem c107_10 : mc_cd 107 10 = some (.iload_n 2, 1) := cg107_0.2.2.2.2.2.2.1
theorem c107_11 : mc_cd 107 11 = some (.ifCond .eq 9, 3) := cg107_0.2.2.2.2.2.2.2
theorem cg107_14 : mc_cd 107 14 = some (.aload_n 0, 1) ∧ mc_cd 107 15 = some (.iload_n 2, 1) ∧ mc_cd 107 16 = some (.invokevirtual 70, 3) ∧ mc_cd 107 19 = some (.ireturn, 1) ∧ mc_cd 107 20 = some (.aload_n 0, 1) ∧ mc_cd 107 21 = some (.aload_n 0, 1) ∧ mc_cd 107 22 = some (.getfield 51, 3) ∧ mc_cd 107 25 = some (.aload_n 0, 1) := by decide +kernel
theorem c107_14 : mc_cd 107 14 = some (.aload_n 0, 1) := cg107_14.1
theorem c107_15 : mc_cd 107 15 = some (.iload_n 2, 1) := cg107_14.2.1
theorem c107_16 : mc_cd 107 16 = some (.invokevirtual 70, 3) := cg107_14.2.2.1
theorem c107_19 : mc_cd 107 19 = some (.ireturn, 1) := cg107_14.2.2.2.1
theorem c107_20 : mc_cd 107 20 = some (.aload_n 0, 1) := cg107_14.2.2.2.2.1
theorem c107_21 : mc_cd 107 21 = some (.aload_n 0, 1) := cg107_14.2.2.2.2.2.1
theorem c107_22 : mc_cd 107 22 = some (.getfield 51, 3) := cg107_14.2.2.2.2.2.2.1
theorem c107_25 : mc_cd 107 25 = some (.aload_n 0, 1) := cg107_14.2.2.2.2.2.2.2
theorem cg107_26 : mc_cd 107 26 = some (.getfield 30, 3) ∧ mc_cd 107 29 = some (.getfield 207, 3) ∧ mc_cd 107 32 = some (.iload_n 1, 1) ∧ mc_cd 107 33 = some (.invokevirtual 183, 3) ∧ mc_cd 107 36 = some (.invokevirtual 99, 3) ∧ mc_cd 107 39 = some (.ireturn, 1) := by decide +kernel
theorem c107_26 : mc_cd 107 26 = some (.getfield 30, 3) := cg107_26.1
theorem c107_29 : mc_cd 107 29 = some (.getfield 207, 3) := cg107_26.2.1
theorem c107_32 : mc_cd 107 32 = some (.iload_n 1, 1) := cg107_26.2.2.1
theorem c107_33 : mc_cd 107 33 = some (.invokevirtual 183, 3) := cg107_26.2.2.2.1
theorem c107_36 : mc_cd 107 36 = some (.invokevirtual 99, 3) := cg107_26.2.2.2.2.1
theorem c107_39 : mc_cd 107 39 = some (.ireturn, 1) := cg107_26.2.2.2.2.2
abbrev q_107 (r0 : Nat) (a1 : Int) (T : wq_T) (H : wq_H) : Option Value → wq_T → wq_H → Prop := fun r T' H' => T = T' ∧ WT T H' ∧ wfr [(12, 5), (12, 6), (12, 7), (12, 8), (12, 9), (1, 10), (6, 5), (8, 999), (10, 999), (15, 999), (9, 999), (18, 999), (19, 999), (7, 999), (11, 999), (17, 999), (13, 999)] T H H' ∧ ∃ z : Int, some (vI z) = r ∧ ((-2147483648) ≤ z ∧ z ≤ 2147483647)
set_option maxHeartbeats 4000000 in
theorem s_107 {kt : Nat → Option mc_E} {T : wq_T} {H : wq_H} {r0 : Nat} {a1 : Int} (hW : WT T H) (g0 : T.2.2.2 r0 = some 1) (i1 : (-2147483648) ≤ a1 ∧ a1 ≤ 2147483647) : wpc kt 7 107 [.ref r0, vI a1] T H (q_107 r0 a1 T H) := by
  refine wp_enter e107 (Nat.le_of_ble_eq_true rfl) rfl ?_
  have f0 : wfr [(12, 5), (12, 6), (12, 7), (12, 8), (12, 9), (1, 10), (6, 5), (8, 999), (10, 999), (15, 999), (9, 999), (18, 999), (19, 999), (7, 999), (11, 999), (17, 999), (13, 999)] T H H := wfr.rf
  show wp _ _ 107 0 [(0, .ref r0), (1, vI a1)] [] _ H _
  refine wp_of e107 c107_0 (rw_aload_n (pc' := 1) (v := .ref r0) rfl rfl rfl ?_)
  refine wp_of e107 c107_1 (rw_aload_n (pc' := 2) (v := .ref r0) rfl rfl rfl ?_)
  refine wp_of e107 c107_2 (rw_iload_n (pc' := 3) (z := a1) rfl rfl ?_)
  refine wp_of e107 c107_3 (xc_V (pc' := 6) (r := r0) (as := [vI a1]) (st := [.ref r0]) (lm_0_105) rfl rfl (Nat.le_of_ble_eq_true rfl) hW g0 sh_1 (by decide) rfl (by decide) (s_55 hW g0 ⟨by omega, by omega⟩) (fun R31050 T31051 H31052 p31053 => ?_))
  obtain ⟨e31054, e31056, z31058, e31055, b31059, p31057⟩ := p31053
  subst e31054
  subst e31055
  subst e31056
  show wp _ _ 107 6 [(0, .ref r0), (1, vI a1)] [vI z31058, .ref r0] _ H _
  refine wp_of e107 c107_6 (xc_V (pc' := 9) (r := r0) (as := [vI z31058]) (st := []) (lm_0_198) rfl rfl (Nat.le_of_ble_eq_true rfl) hW g0 sh_1 (by decide) rfl (by decide) (s_102 hW g0 ⟨by omega, by omega⟩) (fun R31060 T31061 H31062 p31063 => ?_))
  obtain ⟨e31064, w31066, f31067, z31069, e31065, b31070, p31068⟩ := p31063
  subst e31064
  subst e31065
  have f31071 := f0.tr f31067 rfl
  show wp _ _ 107 9 [(0, .ref r0), (1, vI a1)] [vI z31069] _ H31062 _
  refine wp_of e107 c107_9 (rw_istore_n (pc' := 10) (z := z31069) (L' := [(2, vI z31069), (0, .ref r0), (1, vI a1)]) rfl rfl rfl ?_)
  refine wp_of e107 c107_10 (rw_iload_n (pc' := 11) (z := z31069) rfl rfl ?_)
  refine wp_of e107 c107_11 (rw_if_eq (p1 := 20) (p2 := 14) (by decide) rfl ⟨by omega, by omega⟩ (fun c31072 => ?_) (fun c31072 => ?_))
  · refine wp_of e107 c107_20 (rw_aload_n (pc' := 21) (v := .ref r0) rfl rfl rfl ?_)
    refine wp_of e107 c107_21 (rw_aload_n (pc' := 22) (v := .ref r0) rfl rfl rfl ?_)
    refine wp_of e107 c107_22 (xg_R (pc' := 25) lf_0_51 w31066 g0 sh_1 (by decide) (by decide) ty_1_6 rfl rfl (fun r31073 q31074 g31075 => ?_))
    refine wp_of e107 c107_25 (rw_aload_n (pc' := 26) (v := .ref r0) rfl rfl rfl ?_)
    refine wp_of e107 c107_26 (xg_R (pc' := 29) lf_0_30 w31066 g0 sh_1 (by decide) (by decide) ty_1_3 rfl rfl (fun r31076 q31077 g31078 => ?_))
    refine wp_of e107 c107_29 (xg_I (pc' := 32) lf_0_207 w31066 g31078 sh_12 (by decide) (by decide) ty_12_7 rfl rfl (fun b31079 b31080 => ?_))
    refine wp_of e107 c107_32 (rw_iload_n (pc' := 33) (z := a1) rfl rfl ?_)
    refine wp_of e107 c107_33 (xc_V (pc' := 36) (r := r31073) (as := [vI (H31062 r31076 7), vI a1]) (st := [.ref r0]) (lm_0_183) rfl rfl (Nat.le_of_ble_eq_true rfl) w31066 g31075 sh_27 (by decide) rfl (by decide) (s_96 w31066 g31075 ⟨by omega, by omega⟩ ⟨by omega, by omega⟩) (fun R31081 T31082 H31083 p31084 => ?_))
    obtain ⟨e31085, e31087, z31088, e31086, b31089⟩ := p31084
    subst e31085
    subst e31086
    subst e31087
    show wp _ _ 107 36 [(2, vI z31069), (0, .ref r0), (1, vI a1)] [vI z31088, .ref r0] _ H31062 _
    refine wp_of e107 c107_36 (xc_V (pc' := 39) (r := r0) (as := [vI z31088]) (st := []) (lm_0_99) rfl rfl (Nat.le_of_ble_eq_true rfl) w31066 g0 sh_1 (by decide) rfl (by decide) (s_51 w31066 g0 ⟨by omega, by omega⟩) (fun R31090 T31091 H31092 p31093 => ?_))
    obtain ⟨e31094, w31096, f31097, z31098, e31095, b31099⟩ := p31093
    subst e31094
    subst e31095
    have f31100 := f31071.tr f31097 rfl
    show wp _ _ 107 39 [(2, vI z31069), (0, .ref r0), (1, vI a1)] [vI z31098] _ H31092 _
    exact wp_ireturn e107 c107_39 rfl ⟨rfl, w31096, f31100, z31098, rfl, ⟨by omega, by omega⟩⟩
  · refine wp_of e107 c107_14 (rw_aload_n (pc' := 15) (v := .ref r0) rfl rfl rfl ?_)
    refine wp_of e107 c107_15 (rw_iload_n (pc' := 16) (z := z31069) rfl rfl ?_)
    refine wp_of e107 c107_16 (xc_V (pc' := 19) (r := r0) (as := [vI z31069]) (st := []) (lm_0_70) rfl rfl (Nat.le_of_ble_eq_true rfl) w31066 g0 sh_1 (by decide) rfl (by decide) (s_12 w31066 g0 ⟨by omega, by omega⟩) (fun R31101 T31102 H31103 p31104 => ?_))
    obtain ⟨e31105, w31107, f31108, z31109, e31106, b31110⟩ := p31104
    subst e31105
    subst e31106
    have f31111 := f31071.tr f31108 rfl
    show wp _ _ 107 19 [(2, vI z31069), (0, .ref r0), (1, vI a1)] [vI z31109] _ H31103 _
    exact wp_ireturn e107 c107_19 rfl ⟨rfl, w31107, f31111, z31109, rfl, ⟨by omega, by omega⟩⟩
/-! StrikeAwake.greatest()J -/
theorem e108 : wq_en 108 = some (0, 2, false, some FieldType.long) := rfl
theorem cg108_0 : mc_cd 108 0 = some (.aload_n 0, 1) ∧ mc_cd 108 1 = some (.aload_n 0, 1) ∧ mc_cd 108 2 = some (.getfield 58, 3) ∧ mc_cd 108 5 = some (.invokevirtual 198, 3) ∧ mc_cd 108 8 = some (.istore_n 1, 1) ∧ mc_cd 108 9 = some (.iload_n 1, 1) ∧ mc_cd 108 10 = some (.ifCond .eq 10, 3) ∧ mc_cd 108 13 = some (.aload_n 0, 1) := by decide +kernel
theorem c108_0 : mc_cd 108 0 = some (.aload_n 0, 1) := cg108_0.1
theorem c108_1 : mc_cd 108 1 = some (.aload_n 0, 1) := cg108_0.2.1
theorem c108_2 : mc_cd 108 2 = some (.getfield 58, 3) := cg108_0.2.2.1
theorem c108_5 : mc_cd 108 5 = some (.invokevirtual 198, 3) := cg108_0.2.2.2.1
theorem c108_8 : mc_cd 108 8 = some (.istore_n 1, 1) := cg108_0.2.2.2.2.1
theorem c108_9 : mc_cd 108 9 = some (.iload_n 1, 1) := cg108_0.2.2.2.2.2.1
theorem c108_10 : mc_cd 108 10 = some (.ifCond .eq 10, 3) := cg108_0.2.2.2.2.2.2.1
theorem c108_13 : mc_cd 108 13 = some (.aload_n 0, 1) := cg108_0.2.2.2.2.2.2.2
theorem cg108_14 : mc_cd 108 14 = some (.iload_n 1, 1) ∧ mc_cd 108 15 = some (.invokevirtual 70, 3) ∧ mc_cd 108 18 = some (.i2l, 1) ∧ mc_cd 108 19 = some (.lreturn, 1) ∧ mc_cd 108 20 = some (.aload_n 0, 1) ∧ mc_cd 108 21 = some (.iconst 0, 1) ∧ mc_cd 108 22 = some (.putfield 102, 3) ∧ mc_cd 108 25 = some (.aload_n 0, 1) := by decide +kernel
theorem c108_14 : mc_cd 108 14 = some (.iload_n 1, 1) := cg108_14.1
theorem c108_15 : mc_cd 108 15 = some (.invokevirtual 70, 3) := cg108_14.2.1
theorem c108_18 : mc_cd 108 18 = some (.i2l, 1) := cg108_14.2.2.1
theorem c108_19 : mc_cd 108 19 = some (.lreturn, 1) := cg108_14.2.2.2.1
theorem c108_20 : mc_cd 108 20 = some (.aload_n 0, 1) := cg108_14.2.2.2.2.1
theorem c108_21 : mc_cd 108 21 = some (.iconst 0, 1) := cg108_14.2.2.2.2.2.1
theorem c108_22 : mc_cd 108 22 = some (.putfield 102, 3) := cg108_14.2.2.2.2.2.2.1
theorem c108_25 : mc_cd 108 25 = some (.aload_n 0, 1) := cg108_14.2.2.2.2.2.2.2
theorem cg108_26 : mc_cd 108 26 = some (.getfield 30, 3) ∧ mc_cd 108 29 = some (.getfield 210, 3) ∧ mc_cd 108 32 = some (.lreturn, 1) := by decide +kernel
theorem c108_26 : mc_cd 108 26 = some (.getfield 30, 3) := cg108_26.1
theorem c108_29 : mc_cd 108 29 = some (.getfield 210, 3) := cg108_26.2.1
theorem c108_32 : mc_cd 108 32 = some (.lreturn, 1) := cg108_26.2.2
abbrev q_108 (r0 : Nat) (T : wq_T) (H : wq_H) : Option Value → wq_T → wq_H → Prop := fun r T' H' => T = T' ∧ WT T H' ∧ wfr [(12, 5), (12, 6), (12, 7), (12, 8), (12, 9), (1, 10), (6, 5), (8, 999), (10, 999), (15, 999), (9, 999), (18, 999), (19, 999), (7, 999), (11, 999), (17, 999), (13, 999)] T H H' ∧ ∃ z : Int, some (vL z) = r ∧ ((-9223372036854775808) ≤ z ∧ z ≤ 9223372036854775807)
set_option maxHeartbeats 4000000 in
theorem s_108 {kt : Nat → Option mc_E} {T : wq_T} {H : wq_H} {r0 : Nat} (hW : WT T H) (g0 : T.2.2.2 r0 = some 1) : wpc kt 7 108 [.ref r0] T H (q_108 r0 T H) := by
  refine wp_enter e108 (Nat.le_of_ble_eq_true rfl) rfl ?_
  have f0 : wfr [(12, 5), (12, 6), (12, 7), (12, 8), (12, 9), (1, 10), (6, 5), (8, 999), (10, 999), (15, 999), (9, 999), (18, 999), (19, 999), (7, 999), (11, 999), (17, 999), (13, 999)] T H H := wfr.rf
  show wp _ _ 108 0 [(0, .ref r0)] [] _ H _
  refine wp_of e108 c108_0 (rw_aload_n (pc' := 1) (v := .ref r0) rfl rfl rfl ?_)
  refine wp_of e108 c108_1 (rw_aload_n (pc' := 2) (v := .ref r0) rfl rfl rfl ?_)
  refine wp_of e108 c108_2 (xg_I (pc' := 5) lf_0_58 hW g0 sh_1 (by decide) (by decide) ty_1_8 rfl rfl (fun b31148 b31149 => ?_))
  refine wp_of e108 c108_5 (xc_V (pc' := 8) (r := r0) (as := [vI (H r0 8)]) (st := []) (lm_0_198) rfl rfl (Nat.le_of_ble_eq_true rfl) hW g0 sh_1 (by decide) rfl (by decide) (s_102 hW g0 ⟨by omega, by omega⟩) (fun R31150 T31151 H31152 p31153 => ?_))
  obtain ⟨e31154, w31156, f31157, z31159, e31155, b31160, p31158⟩ := p31153
  subst e31154
  subst e31155
  have f31161 := f0.tr f31157 rfl
  show wp _ _ 108 8 [(0, .ref r0)] [vI z31159] _ H31152 _
  refine wp_of e108 c108_8 (rw_istore_n (pc' := 9) (z := z31159) (L' := [(1, vI z31159), (0, .ref r0)]) rfl rfl rfl ?_)
  refine wp_of e108 c108_9 (rw_iload_n (pc' := 10) (z := z31159) rfl rfl ?_)
  refine wp_of e108 c108_10 (rw_if_eq (p1 := 20) (p2 := 13) (by decide) rfl ⟨by omega, by omega⟩ (fun c31162 => ?_) (fun c31162 => ?_))
  · refine wp_of e108 c108_20 (rw_aload_n (pc' := 21) (v := .ref r0) rfl rfl rfl ?_)
    refine wp_of e108 c108_21 (rw_iconst (pc' := 22) rfl ?_)
    refine wp_of e108 c108_22 (xp_I (pc' := 25) lf_0_102 w31156 g0 sh_1 (by decide) (by decide) ty_1_10 rfl rfl (by omega) (by omega) ⟨by omega, by omega⟩ rfl (fun H31163 e31164 w31165 => ?_))
    have f31166 := f31161.put' e31164 g0 rfl
    have k31167 : H31163 r0 10 = 0 := wq_u_s e31164
    refine wp_of e108 c108_25 (rw_aload_n (pc' := 26) (v := .ref r0) rfl rfl rfl ?_)
    refine wp_of e108 c108_26 (xg_R (pc' := 29) lf_0_30 w31165 g0 sh_1 (by decide) (by decide) ty_1_3 rfl rfl (fun r31168 q31169 g31170 => ?_))
    refine wp_of e108 c108_29 (xg_L (pc' := 32) lf_0_210 w31165 g31170 sh_12 (by decide) (by decide) ty_12_8 rfl rfl (fun b31171 b31172 => ?_))
    exact wp_lreturn e108 c108_32 rfl ⟨rfl, w31165, f31166, H31163 r31168 8, rfl, ⟨by omega, by omega⟩⟩
  · refine wp_of e108 c108_13 (rw_aload_n (pc' := 14) (v := .ref r0) rfl rfl rfl ?_)
    refine wp_of e108 c108_14 (rw_iload_n (pc' := 15) (z := z31159) rfl rfl ?_)
    refine wp_of e108 c108_15 (xc_V (pc' := 18) (r := r0) (as := [vI z31159]) (st := []) (lm_0_70) rfl rfl (Nat.le_of_ble_eq_true rfl) w31156 g0 sh_1 (by decide) rfl (by decide) (s_12 w31156 g0 ⟨by omega, by omega⟩) (fun R31173 T31174 H31175 p31176 => ?_))
    obtain ⟨e31177, w31179, f31180, z31181, e31178, b31182⟩ := p31176
    subst e31177
    subst e31178
    have f31183 := f31161.tr f31180 rfl
    show wp _ _ 108 18 [(1, vI z31159), (0, .ref r0)] [vI z31181] _ H31175 _
    refine wp_of e108 c108_18 (rw_i2l (pc' := 19) rfl ⟨by omega, by omega⟩ ?_)
    exact wp_lreturn e108 c108_19 rfl ⟨rfl, w31179, f31183, z31181, rfl, ⟨by omega, by omega⟩⟩
/-! StrikeAwake$Census.awakeHours(LStrikeAwake$Parish;II)I -/
theorem e111 : wq_en 111 = some (4, 4, false, some FieldType.int) := rfl
theorem cg111_0 : mc_cd 111 0 = some (.aload_n 0, 1) ∧ mc_cd 111 1 = some (.iload_n 1, 1) ∧ mc_cd 111 2 = some (.iload_n 2, 1) ∧ mc_cd 111 3 = some (.invokevirtual 135, 3) ∧ mc_cd 111 6 = some (.istore_n 3, 1) ∧ mc_cd 111 7 = some (.iload_n 3, 1) ∧ mc_cd 111 8 = some (.ifCond .ge 7, 3) ∧ mc_cd 111 11 = some (.iconst 0, 1) := by decide +kernel
theorem c111_0 : mc_cd 111 0 = some (.aload_n 0, 1) := cg111_0.1
theorem c111_1 : mc_cd 111 1 = some (.iload_n 1, 1) := cg111_0.2.1
theorem c111_2 : mc_cd 111 2 = some (.iload_n 2, 1) := cg111_0.2.2.1
theorem c111_3 : mc_cd 111 3 = some (.invokevirtual 135, 3) := cg111_0.2.2.2.1
theorem c111_6 : mc_cd 111 6 = some (.istore_n 3, 1) := cg111_0.2.2.2.2.1
theorem c111_7 : mc_cd 111 7 = some (.iload_n 3, 1) := cg111_0.2.2.2.2.2.1
theorem c111_8 : mc_cd 111 8 = some (.ifCond .ge 7, 3) := cg111_0.2.2.2.2.2.2.1
theorem c111_11 : mc_cd 111 11 = some (.iconst 0, 1) := cg111_0.2.2.2.2.2.2.2
theorem cg111_12 : mc_cd 111 12 = some (.goto 14, 3) ∧ mc_cd 111 15 = some (.aload_n 0, 1) ∧ mc_cd 111 16 = some (.getfield 78, 3) ∧ mc_cd 111 19 = some (.iload_n 2, 1) ∧ mc_cd 111 20 = some (.aaload, 1) ∧ mc_cd 111 21 = some (.getfield 119, 3) ∧ mc_cd 111 24 = some (.iload_n 3, 1) ∧ mc_cd 111 25 = some (.iaload, 1) := by decide +kernel
theorem c111_12 : mc_cd 111 12 = some (.goto 14, 3) := cg111_12.1
theorem c111_15 : mc_cd 111 15 = some (.aload_n 0, 1) := cg111_12.2.1
theorem c111_16 : mc_cd 111 16 = some (.getfield 78, 3) := cg111_12.2.2.1
theorem c111_19 : mc_cd 111 19 = some (.iload_n 2, 1) := cg111_12.2.2.2.1
theorem c111_20 : mc_cd 111 20 = some (.aaload, 1) := cg111_12.2.2.2.2.1
theorem c111_21 : mc_cd 111 21 = some (.getfield 119, 3) := cg111_12.2.2.2.2.2.1
theorem c111_24 : mc_cd 111 24 = some (.iload_n 3, 1) := cg111_12.2.2.2.2.2.2.1
theorem c111_25 : mc_cd 111 25 = some (.iaload, 1) := cg111_12.2.2.2.2.2.2.2
theorem c111_26 : mc_cd 111 26 = some (.ireturn, 1) := by decide +kernel
abbrev q_111 (r0 : Nat) (a1 : Int) (a2 : Int) (T : wq_T) (H : wq_H) : Option Value → wq_T → wq_H → Prop := fun r T' H' => T = T' ∧ H = H' ∧ ∃ z : Int, some (vI z) = r ∧ ((-2147483648) ≤ z ∧ z ≤ 2147483647)
set_option maxHeartbeats 4000000 in
theorem s_111 {kt : Nat → Option mc_E} {T : wq_T} {H : wq_H} {r0 : Nat} {a1 : Int} {a2 : Int} (hW : WT T H) (g0 : T.2.2.2 r0 = some 27) (i1 : 0 ≤ a1 ∧ a1 ≤ 19999) (i2 : 0 ≤ a2 ∧ a2 ≤ 5) : wpc kt 2 111 [.ref r0, vI a1, vI a2] T H (q_111 r0 a1 a2 T H) := by
  refine wp_enter e111 (Nat.le_of_ble_eq_true rfl) rfl ?_
  show wp _ _ 111 0 [(0, .ref r0), (1, vI a1), (2, vI a2)] [] _ H _
  refine wp_of e111 c111_0 (rw_aload_n (pc' := 1) (v := .ref r0) rfl rfl rfl ?_)
  refine wp_of e111 c111_1 (rw_iload_n (pc' := 2) (z := a1) rfl rfl ?_)
  refine wp_of e111 c111_2 (rw_iload_n (pc' := 3) (z := a2) rfl rfl ?_)
  refine wp_of e111 c111_3 (xc_V (pc' := 6) (r := r0) (as := [vI a1, vI a2]) (st := []) (lm_4_135) rfl rfl (Nat.le_of_ble_eq_true rfl) hW g0 sh_27 (by decide) rfl (by decide) (s_96 hW g0 ⟨by omega, by omega⟩ ⟨by omega, by omega⟩) (fun R31205 T31206 H31207 p31208 => ?_))
  obtain ⟨e31209, e31211, z31212, e31210, b31213⟩ := p31208
  subst e31209
  subst e31210
  subst e31211
  show wp _ _ 111 6 [(0, .ref r0), (1, vI a1), (2, vI a2)] [vI z31212] _ H _
  refine wp_of e111 c111_6 (rw_istore_n (pc' := 7) (z := z31212) (L' := [(3, vI z31212), (0, .ref r0), (1, vI a1), (2, vI a2)]) rfl rfl rfl ?_)
  refine wp_of e111 c111_7 (rw_iload_n (pc' := 8) (z := z31212) rfl rfl ?_)
  refine wp_of e111 c111_8 (rw_if_ge (p1 := 15) (p2 := 11) (by decide) rfl ⟨by omega, by omega⟩ (fun c31214 => ?_) (fun c31214 => ?_))
  · refine wp_of e111 c111_15 (rw_aload_n (pc' := 16) (v := .ref r0) rfl rfl rfl ?_)
    refine wp_of e111 c111_16 (xg_R (pc' := 19) lf_4_78 hW g0 sh_27 (by decide) (by decide) ty_27_0 rfl rfl (fun r31215 q31216 g31217 => ?_))
    refine wp_of e111 c111_19 (rw_iload_n (pc' := 20) (z := a2) rfl rfl ?_)
    refine wp_of e111 c111_20 (xa_R (pc' := 21) (by decide) hW g31217 sh_28 (by decide) (ty_28 _) (by omega) (by omega) rfl (fun r31218 q31219 g31220 => ?_))
    refine wp_of e111 c111_21 (xg_R (pc' := 24) lf_4_119 hW g31220 sh_35 (by decide) (by decide) ty_35_3 rfl rfl (fun r31221 q31222 g31223 => ?_))
    refine wp_of e111 c111_24 (rw_iload_n (pc' := 25) (z := z31212) rfl rfl ?_)
    refine wp_of e111 c111_25 (xa_I (so := 0) (pc' := 26) hW g31223 sh_39 (by decide) (ty_39 _) (by omega) (by omega) rfl (fun b31224 b31225 => ?_))
    exact wp_ireturn e111 c111_26 rfl ⟨rfl, rfl, H r31221 (z31212.toNat), rfl, ⟨by omega, by omega⟩⟩
  · refine wp_of e111 c111_11 (rw_iconst (pc' := 12) rfl ?_)
    refine wp_of e111 c111_12 (rw_goto (p1 := 26) (by decide) ?_)
    exact wp_ireturn e111 c111_26 rfl ⟨rfl, rfl, 0, rfl, ⟨by omega, by omega⟩⟩
/-! StrikeAwake$Census.bothAwake(LStrikeAwake$Parish;II)I -/
theorem e110 : wq_en 110 = some (4, 6, false, some FieldType.int) := rfl
theorem cg110_0 : mc_cd 110 0 = some (.iconst 0, 1) ∧ mc_cd 110 1 = some (.istore 4, 2) ∧ mc_cd 110 3 = some (.iconst 0, 1) ∧ mc_cd 110 4 = some (.istore 5, 2) ∧ mc_cd 110 6 = some (.iload 5, 2) ∧ mc_cd 110 8 = some (.i2l, 1) ∧ mc_cd 110 9 = some (.aload_n 1, 1) ∧ mc_cd 110 10 = some (.getfield 45, 3) := by decide +kernel
theorem c110_0 : mc_cd 110 0 = some (.iconst 0, 1) := cg110_0.1
theorem c110_1 : mc_cd 110 1 = some (.istore 4, 2) := cg110_0.2.1
theorem c110_3 : mc_cd 110 3 = some (.iconst 0, 1) := cg110_0.2.2.1
theorem c110_4 : mc_cd 110 4 = some (.istore 5, 2) := cg110_0.2.2.2.1
theorem c110_6 : mc_cd 110 6 = some (.iload 5, 2) := cg110_0.2.2.2.2.1
theorem c110_8 : mc_cd 110 8 = some (.i2l, 1) := cg110_0.2.2.2.2.2.1
theorem c110_9 : mc_cd 110 9 = some (.aload_n 1, 1) := cg110_0.2.2.2.2.2.2.1
theorem c110_10 : mc_cd 110 10 = some (.getfield 45, 3) := cg110_0.2.2.2.2.2.2.2
theorem cg110_13 : mc_cd 110 13 = some (.lcmp, 1) ∧ mc_cd 110 14 = some (.ifCond .ge 46, 3) ∧ mc_cd 110 17 = some (.iload 5, 2) ∧ mc_cd 110 19 = some (.sipush 20000, 3) ∧ mc_cd 110 22 = some (.if_icmp .ge 38, 3) ∧ mc_cd 110 25 = some (.aload_n 0, 1) ∧ mc_cd 110 26 = some (.iload 5, 2) ∧ mc_cd 110 28 = some (.invokevirtual 113, 3) := by decide +kernel
theorem c110_13 : mc_cd 110 13 = some (.lcmp, 1) := cg110_13.1
theorem c110_14 : mc_cd 110 14 = some (.ifCond .ge 46, 3) := cg110_13.2.1
theorem c110_17 : mc_cd 110 17 = some (.iload 5, 2) := cg110_13.2.2.1
theorem c110_19 : mc_cd 110 19 = some (.sipush 20000, 3) := cg110_13.2.2.2.1
theorem c110_22 : mc_cd 110 22 = some (.if_icmp .ge 38, 3) := cg110_13.2.2.2.2.1
theorem c110_25 : mc_cd 110 25 = some (.aload_n 0, 1) := cg110_13.2.2.2.2.2.1
theorem c110_26 : mc_cd 110 26 = some (.iload 5, 2) := cg110_13.2.2.2.2.2.2.1
theorem c110_28 : mc_cd 110 28 = some (.invokevirtual 113, 3) := cg110_13.2.2.2.2.2.2.2
theorem cg110_31 : mc_cd 110 31 = some (.ifCond .eq 23, 3) ∧ mc_cd 110 34 = some (.iload 4, 2) ∧ mc_cd 110 36 = some (.aload_n 1, 1) ∧ mc_cd 110 37 = some (.iload 5, 2) ∧ mc_cd 110 39 = some (.iload_n 2, 1) ∧ mc_cd 110 40 = some (.invokestatic 132, 3) ∧ mc_cd 110 43 = some (.aload_n 1, 1) ∧ mc_cd 110 44 = some (.iload 5, 2) := by decide +kernel
theorem c110_31 : mc_cd 110 31 = some (.ifCond .eq 23, 3) := cg110_31.1
theorem c110_34 : mc_cd 110 34 = some (.iload 4, 2) := cg110_31.2.1
theorem c110_36 : mc_cd 110 36 = some (.aload_n 1, 1) := cg110_31.2.2.1
theorem c110_37 : mc_cd 110 37 = some (.iload 5, 2) := cg110_31.2.2.2.1
theorem c110_39 : mc_cd 110 39 = some (.iload_n 2, 1) := cg110_31.2.2.2.2.1
theorem c110_40 : mc_cd 110 40 = some (.invokestatic 132, 3) := cg110_31.2.2.2.2.2.1
theorem c110_43 : mc_cd 110 43 = some (.aload_n 1, 1) := cg110_31.2.2.2.2.2.2.1
theorem c110_44 : mc_cd 110 44 = some (.iload 5, 2) := cg110_31.2.2.2.2.2.2.2
theorem cg110_46 : mc_cd 110 46 = some (.iload_n 3, 1) ∧ mc_cd 110 47 = some (.invokestatic 132, 3) ∧ mc_cd 110 50 = some (.iand, 1) ∧ mc_cd 110 51 = some (.ior, 1) ∧ mc_cd 110 52 = some (.istore 4, 2) ∧ mc_cd 110 54 = some (.iinc 5 1, 3) ∧ mc_cd 110 57 = some (.goto (-51), 3) ∧ mc_cd 110 60 = some (.iload 4, 2) := by decide +kernel
theorem c110_46 : mc_cd 110 46 = some (.iload_n 3, 1) := cg110_46.1
theorem c110_47 : mc_cd 110 47 = some (.invokestatic 132, 3) := cg110_46.2.1
theorem c110_50 : mc_cd 110 50 = some (.iand, 1) := cg110_46.2.2.1
theorem c110_51 : mc_cd 110 51 = some (.ior, 1) := cg110_46.2.2.2.1
theorem c110_52 : mc_cd 110 52 = some (.istore 4, 2) := cg110_46.2.2.2.2.1
theorem c110_54 : mc_cd 110 54 = some (.iinc 5 1, 3) := cg110_46.2.2.2.2.2.1
theorem c110_57 : mc_cd 110 57 = some (.goto (-51), 3) := cg110_46.2.2.2.2.2.2.1
theorem c110_60 : mc_cd 110 60 = some (.iload 4, 2) := cg110_46.2.2.2.2.2.2.2
theorem c110_62 : mc_cd 110 62 = some (.ireturn, 1) := by decide +kernel
abbrev q_110 (r0 : Nat) (r1 : Nat) (a2 : Int) (a3 : Int) (T : wq_T) (H : wq_H) : Option Value → wq_T → wq_H → Prop := fun r T' H' => T = T' ∧ H = H' ∧ ∃ z : Int, some (vI z) = r ∧ ((-2147483648) ≤ z ∧ z ≤ 2147483647)
set_option maxHeartbeats 4000000 in
theorem s_110 {kt : Nat → Option mc_E} {T : wq_T} {H : wq_H} {r0 : Nat} {r1 : Nat} {a2 : Int} {a3 : Int} (hW : WT T H) (g0 : T.2.2.2 r0 = some 12) (g1 : T.2.2.2 r1 = some 27) (i2 : 0 ≤ a2 ∧ a2 ≤ 5) (i3 : 0 ≤ a3 ∧ a3 ≤ 5) : wpc kt 3 110 [.ref r0, .ref r1, vI a2, vI a3] T H (q_110 r0 r1 a2 a3 T H) := by
  refine wp_enter e110 (Nat.le_of_ble_eq_true rfl) rfl ?_
  show wp _ _ 110 0 [(0, .ref r0), (1, .ref r1), (2, vI a2), (3, vI a3)] [] _ H _
  refine wp_of e110 c110_0 (rw_iconst (pc' := 1) rfl ?_)
  refine wp_of e110 c110_1 (rw_istore (pc' := 3) (z := 0) (L' := [(4, vI 0), (0, .ref r0), (1, .ref r1), (2, vI a2), (3, vI a3)]) rfl rfl rfl ?_)
  refine wp_of e110 c110_3 (rw_iconst (pc' := 4) rfl ?_)
  refine wp_of e110 c110_4 (rw_istore (pc' := 6) (z := 0) (L' := [(5, vI 0), (4, vI 0), (0, .ref r0), (1, .ref r1), (2, vI a2), (3, vI a3)]) rfl rfl rfl ?_)
  have lp31856 : ∀ (n31857 : Nat) (v31859 : Int) (v31860 : Int), (0 ≤ v31859 ∧ v31859 ≤ 20000) → ((-2147483648) ≤ v31860 ∧ v31860 ≤ 2147483647) → (20000 - v31859).toNat = n31857 → wp kt 2 110 6 [(5, vI v31859), (4, vI v31860), (0, .ref r0), (1, .ref r1), (2, vI a2), (3, vI a3)] [] T H (q_110 r0 r1 a2 a3 T H) := by
    intro n31857
    induction n31857 using Nat.strongRecOn with
    | _ n31857 ih31858 =>
      intro v31859 v31860 b31863 b31864 m31865
      refine wp_of e110 c110_6 (rw_iload (pc' := 8) (z := v31859) rfl rfl ?_)
      refine wp_of e110 c110_8 (rw_i2l (pc' := 9) rfl ⟨by omega, by omega⟩ ?_)
      refine wp_of e110 c110_9 (rw_aload_n (pc' := 10) (v := .ref r1) rfl rfl rfl ?_)
      refine wp_of e110 c110_10 (xg_L (pc' := 13) lf_4_45 hW g1 sh_27 (by decide) (by decide) ty_27_18 rfl rfl (fun b31866 b31867 => ?_))
      refine wp_of e110 c110_13 (rw_lcmp (pc' := 14) rfl ⟨by omega, by omega⟩ ⟨by omega, by omega⟩ ?_)
      have b31868 := wq_cmp_b v31859 (H r1 18)
      refine wp_of e110 c110_14 (rw_if_ge (p1 := 60) (p2 := 17) (by decide) rfl ⟨by omega, by omega⟩ (fun c31869 => ?_) (fun c31869 => ?_))
      · refine wp_of e110 c110_60 (rw_iload (pc' := 62) (z := v31860) rfl rfl ?_)
        exact wp_ireturn e110 c110_62 rfl ⟨rfl, rfl, v31860, rfl, ⟨by omega, by omega⟩⟩
      · refine wp_of e110 c110_17 (rw_iload (pc' := 19) (z := v31859) rfl rfl ?_)
        refine wp_of e110 c110_19 (rw_sipush (pc' := 22) (z := 20000) rfl (by decide) ?_)
        refine wp_of e110 c110_22 (rw_icmp_ge (p1 := 60) (p2 := 25) (by decide) rfl ⟨by omega, by omega⟩ ⟨by omega, by omega⟩ (fun c31870 => ?_) (fun c31870 => ?_))
        · refine wp_of e110 c110_60 (rw_iload (pc' := 62) (z := v31860) rfl rfl ?_)
          exact wp_ireturn e110 c110_62 rfl ⟨rfl, rfl, v31860, rfl, ⟨by omega, by omega⟩⟩
        · refine wp_of e110 c110_25 (rw_aload_n (pc' := 26) (v := .ref r0) rfl rfl rfl ?_)
          refine wp_of e110 c110_26 (rw_iload (pc' := 28) (z := v31859) rfl rfl ?_)
          refine wp_of e110 c110_28 (xc_V (pc' := 31) (r := r0) (as := [vI v31859]) (st := []) (lm_4_113) rfl rfl (Nat.le_of_ble_eq_true rfl) hW g0 sh_12 (by decide) rfl (by decide) (s_95 hW g0 ⟨by omega, by omega⟩) (fun R31871 T31872 H31873 p31874 => ?_))
          obtain ⟨e31875, e31877, z31878, e31876, b31879⟩ := p31874
          subst e31875
          subst e31876
          subst e31877
          show wp _ _ 110 31 [(5, vI v31859), (4, vI v31860), (0, .ref r0), (1, .ref r1), (2, vI a2), (3, vI a3)] [vI z31878] _ H _
          refine wp_of e110 c110_31 (rw_if_eq (p1 := 54) (p2 := 34) (by decide) rfl ⟨by omega, by omega⟩ (fun c31880 => ?_) (fun c31880 => ?_))
          · refine wp_of e110 c110_54 (rw_iinc (pc' := 57) (z := v31859) (L' := [(5, vI (v31859 + 1)), (4, vI v31860), (0, .ref r0), (1, .ref r1), (2, vI a2), (3, vI a3)]) rfl rfl rfl rfl ?_)
            refine wp_of e110 c110_57 (rw_goto (p1 := 6) (by decide) ?_)
            exact wp_lc (ks := [5, 4, 0, 1, 2, 3]) (wl_c rfl (wl_c rfl (wl_c rfl (wl_c rfl (wl_c rfl (wl_c rfl wl_n)))))) rfl (by decide) (ih31858 _ (by omega) (v31859 + 1) v31860 ⟨by omega, by omega⟩ ⟨by omega, by omega⟩ rfl)
          · refine wp_of e110 c110_34 (rw_iload (pc' := 36) (z := v31860) rfl rfl ?_)
            refine wp_of e110 c110_36 (rw_aload_n (pc' := 37) (v := .ref r1) rfl rfl rfl ?_)
            refine wp_of e110 c110_37 (rw_iload (pc' := 39) (z := v31859) rfl rfl ?_)
            refine wp_of e110 c110_39 (rw_iload_n (pc' := 40) (z := a2) rfl rfl ?_)
            refine wp_of e110 c110_40 (xc_S (pc' := 43) (as := [.ref r1, vI v31859, vI a2]) (st := [vI v31860]) (lm_4_132) rfl rfl (Nat.le_of_ble_eq_true rfl) rfl (by decide) (s_111 hW g1 ⟨by omega, by omega⟩ ⟨by omega, by omega⟩) (fun R31881 T31882 H31883 p31884 => ?_))
            obtain ⟨e31885, e31887, z31888, e31886, b31889⟩ := p31884
            subst e31885
            subst e31886
            subst e31887
            show wp _ _ 110 43 [(5, vI v31859), (4, vI v31860), (0, .ref r0), (1, .ref r1), (2, vI a2), (3, vI a3)] [vI z31888, vI v31860] _ H _
            refine wp_of e110 c110_43 (rw_aload_n (pc' := 44) (v := .ref r1) rfl rfl rfl ?_)
            refine wp_of e110 c110_44 (rw_iload (pc' := 46) (z := v31859) rfl rfl ?_)
            refine wp_of e110 c110_46 (rw_iload_n (pc' := 47) (z := a3) rfl rfl ?_)
            refine wp_of e110 c110_47 (xc_S (pc' := 50) (as := [.ref r1, vI v31859, vI a3]) (st := [vI z31888, vI v31860]) (lm_4_132) rfl rfl (Nat.le_of_ble_eq_true rfl) rfl (by decide) (s_111 hW g1 ⟨by omega, by omega⟩ ⟨by omega, by omega⟩) (fun R31890 T31891 H31892 p31893 => ?_))
            obtain ⟨e31894, e31896, z31897, e31895, b31898⟩ := p31893
            subst e31894
            subst e31895
            subst e31896
            show wp _ _ 110 50 [(5, vI v31859), (4, vI v31860), (0, .ref r0), (1, .ref r1), (2, vI a2), (3, vI a3)] [vI z31897, vI z31888, vI v31860] _ H _
            refine wp_of e110 c110_50 (rw_iand (pc' := 51) rfl ?_)
            obtain ⟨v31899, e31900⟩ : ∃ x : Int, x = wq_and z31888 z31897 := ⟨_, rfl⟩
            rw [← e31900]
            have b31901 : -2147483648 ≤ v31899 ∧ v31899 ≤ 2147483647 := by
              rw [e31900]
              exact wI_and _ _
            refine wp_of e110 c110_51 (rw_ior (pc' := 52) rfl ?_)
            obtain ⟨v31902, e31903⟩ : ∃ x : Int, x = wq_or v31860 v31899 := ⟨_, rfl⟩
            rw [← e31903]
            have b31904 : -2147483648 ≤ v31902 ∧ v31902 ≤ 2147483647 := by
              rw [e31903]
              exact wI_or _ _
            refine wp_of e110 c110_52 (rw_istore (pc' := 54) (z := v31902) (L' := [(4, vI v31902), (5, vI v31859), (0, .ref r0), (1, .ref r1), (2, vI a2), (3, vI a3)]) rfl rfl rfl ?_)
            refine wp_of e110 c110_54 (rw_iinc (pc' := 57) (z := v31859) (L' := [(5, vI (v31859 + 1)), (4, vI v31902), (0, .ref r0), (1, .ref r1), (2, vI a2), (3, vI a3)]) rfl rfl rfl rfl ?_)
            refine wp_of e110 c110_57 (rw_goto (p1 := 6) (by decide) ?_)
            exact wp_lc (ks := [5, 4, 0, 1, 2, 3]) (wl_c rfl (wl_c rfl (wl_c rfl (wl_c rfl (wl_c rfl (wl_c rfl wl_n)))))) rfl (by decide) (ih31858 _ (by omega) (v31859 + 1) v31902 ⟨by omega, by omega⟩ ⟨by omega, by omega⟩ rfl)
  exact wp_lc (ks := [5, 4, 0, 1, 2, 3]) (wl_c rfl (wl_c rfl (wl_c rfl (wl_c rfl (wl_c rfl (wl_c rfl wl_n)))))) rfl (by decide) (lp31856 _ 0 0 ⟨by omega, by omega⟩ ⟨by omega, by omega⟩ rfl)
/-! StrikeAwake.together(II)I -/
theorem e109 : wq_en 109 = some (0, 4, false, some FieldType.int) := rfl
theorem cg109_0 : mc_cd 109 0 = some (.aload_n 0, 1) ∧ mc_cd 109 1 = some (.aload_n 0, 1) ∧ mc_cd 109 2 = some (.iload_n 1, 1) ∧ mc_cd 109 3 = some (.invokevirtual 105, 3) ∧ mc_cd 109 6 = some (.ifCond .eq 20, 3) ∧ mc_cd 109 9 = some (.aload_n 0, 1) ∧ mc_cd 109 10 = some (.iload_n 2, 1) ∧ mc_cd 109 11 = some (.invokevirtual 105, 3) := by decide +kernel
theorem c109_0 : mc_cd 109 0 = some (.aload_n 0, 1) := cg109_0.1
theorem c109_1 : mc_cd 109 1 = some (.aload_n 0, 1) := cg109_0.2.1
theorem c109_2 : mc_cd 109 2 = some (.iload_n 1, 1) := cg109_0.2.2.1
theorem c109_3 : mc_cd 109 3 = some (.invokevirtual 105, 3) := cg109_0.2.2.2.1
theorem c109_6 : mc_cd 109 6 = some (.ifCond .eq 20, 3) := cg109_0.2.2.2.2.1
theorem c109_9 : mc_cd 109 9 = some (.aload_n 0, 1) := cg109_0.2.2.2.2.2.1
theorem c109_10 : mc_cd 109 10 = some (.iload_n 2, 1) := cg109_0.2.2.2.2.2.2.1
theorem c109_11 : mc_cd 109 11 = some (.invokevirtual 105, 3) := cg109_0.2.2.2.2.2.2.2
theorem cg109_14 : mc_cd 109 14 = some (.ifCond .eq 12, 3) ∧ mc_cd 109 17 = some (.iload_n 1, 1) ∧ mc_cd 109 18 = some (.iload_n 2, 1) ∧ mc_cd 109 19 = some (.if_icmp .eq 7, 3) ∧ mc_cd 109 22 = some (.iconst 1, 1) ∧ mc_cd 109 23 = some (.goto 4, 3) ∧ mc_cd 109 26 = some (.iconst 0, 1) ∧ mc_cd 109 27 = some (.invokevirtual 174, 3) := by decide +kernel
theorem c109_14 : mc_cd 109 14 = some (.ifCond .eq 12, 3) := cg109_14.1
theorem c109_17 : mc_cd 109 17 = some (.iload_n 1, 1) := cg109_14.2.1
theorem c109_18 : mc_cd 109 18 = some (.iload_n 2, 1) := cg109_14.2.2.1
theorem c109_19 : mc_cd 109 19 = some (.if_icmp .eq 7, 3) := cg109_14.2.2.2.1
theorem c109_22 : mc_cd 109 22 = some (.iconst 1, 1) := cg109_14.2.2.2.2.1
theorem c109_23 : mc_cd 109 23 = some (.goto 4, 3) := cg109_14.2.2.2.2.2.1
theorem c109_26 : mc_cd 109 26 = some (.iconst 0, 1) := cg109_14.2.2.2.2.2.2.1
theorem c109_27 : mc_cd 109 27 = some (.invokevirtual 174, 3) := cg109_14.2.2.2.2.2.2.2
theorem cg109_30 : mc_cd 109 30 = some (.istore_n 3, 1) ∧ mc_cd 109 31 = some (.iload_n 3, 1) ∧ mc_cd 109 32 = some (.ifCond .eq 9, 3) ∧ mc_cd 109 35 = some (.aload_n 0, 1) ∧ mc_cd 109 36 = some (.iload_n 3, 1) ∧ mc_cd 109 37 = some (.invokevirtual 70, 3) ∧ mc_cd 109 40 = some (.ireturn, 1) ∧ mc_cd 109 41 = some (.aload_n 0, 1) := by decide +kernel
theorem c109_30 : mc_cd 109 30 = some (.istore_n 3, 1) := cg109_30.1
theorem c109_31 : mc_cd 109 31 = some (.iload_n 3, 1) := cg109_30.2.1
theorem c109_32 : mc_cd 109 32 = some (.ifCond .eq 9, 3) := cg109_30.2.2.1
theorem c109_35 : mc_cd 109 35 = some (.aload_n 0, 1) := cg109_30.2.2.2.1
theorem c109_36 : mc_cd 109 36 = some (.iload_n 3, 1) := cg109_30.2.2.2.2.1
theorem c109_37 : mc_cd 109 37 = some (.invokevirtual 70, 3) := cg109_30.2.2.2.2.2.1
theorem c109_40 : mc_cd 109 40 = some (.ireturn, 1) := cg109_30.2.2.2.2.2.2.1
theorem c109_41 : mc_cd 109 41 = some (.aload_n 0, 1) := cg109_30.2.2.2.2.2.2.2
theorem cg109_42 : mc_cd 109 42 = some (.aload_n 0, 1) ∧ mc_cd 109 43 = some (.getfield 30, 3) ∧ mc_cd 109 46 = some (.aload_n 0, 1) ∧ mc_cd 109 47 = some (.getfield 51, 3) ∧ mc_cd 109 50 = some (.iload_n 1, 1) ∧ mc_cd 109 51 = some (.iload_n 2, 1) ∧ mc_cd 109 52 = some (.invokevirtual 213, 3) ∧ mc_cd 109 55 = some (.invokevirtual 99, 3) := by decide +kernel
theorem c109_42 : mc_cd 109 42 = some (.aload_n 0, 1) := cg109_42.1
theorem c109_43 : mc_cd 109 43 = some (.getfield 30, 3) := cg109_42.2.1
theorem c109_46 : mc_cd 109 46 = some (.aload_n 0, 1) := cg109_42.2.2.1
theorem c109_47 : mc_cd 109 47 = some (.getfield 51, 3) := cg109_42.2.2.2.1
theorem c109_50 : mc_cd 109 50 = some (.iload_n 1, 1) := cg109_42.2.2.2.2.1
theorem c109_51 : mc_cd 109 51 = some (.iload_n 2, 1) := cg109_42.2.2.2.2.2.1
theorem c109_52 : mc_cd 109 52 = some (.invokevirtual 213, 3) := cg109_42.2.2.2.2.2.2.1
theorem c109_55 : mc_cd 109 55 = some (.invokevirtual 99, 3) := cg109_42.2.2.2.2.2.2.2
theorem c109_58 : mc_cd 109 58 = some (.ireturn, 1) := by decide +kernel
abbrev q_109 (r0 : Nat) (a1 : Int) (a2 : Int) (T : wq_T) (H : wq_H) : Option Value → wq_T → wq_H → Prop := fun r T' H' => T = T' ∧ WT T H' ∧ wfr [(12, 5), (12, 6), (12, 7), (12, 8), (12, 9), (1, 10), (6, 5), (8, 999), (10, 999), (15, 999), (9, 999), (18, 999), (19, 999), (7, 999), (11, 999), (17, 999), (13, 999)] T H H' ∧ ∃ z : Int, some (vI z) = r ∧ ((-2147483648) ≤ z ∧ z ≤ 2147483647)
set_option maxHeartbeats 4000000 in
theorem s_109 {kt : Nat → Option mc_E} {T : wq_T} {H : wq_H} {r0 : Nat} {a1 : Int} {a2 : Int} (hW : WT T H) (g0 : T.2.2.2 r0 = some 1) (i1 : (-2147483648) ≤ a1 ∧ a1 ≤ 2147483647) (i2 : (-2147483648) ≤ a2 ∧ a2 ≤ 2147483647) : wpc kt 6 109 [.ref r0, vI a1, vI a2] T H (q_109 r0 a1 a2 T H) := by
  refine wp_enter e109 (Nat.le_of_ble_eq_true rfl) rfl ?_
  have f0 : wfr [(12, 5), (12, 6), (12, 7), (12, 8), (12, 9), (1, 10), (6, 5), (8, 999), (10, 999), (15, 999), (9, 999), (18, 999), (19, 999), (7, 999), (11, 999), (17, 999), (13, 999)] T H H := wfr.rf
  show wp _ _ 109 0 [(0, .ref r0), (1, vI a1), (2, vI a2)] [] _ H _
  refine wp_of e109 c109_0 (rw_aload_n (pc' := 1) (v := .ref r0) rfl rfl rfl ?_)
  refine wp_of e109 c109_1 (rw_aload_n (pc' := 2) (v := .ref r0) rfl rfl rfl ?_)
  refine wp_of e109 c109_2 (rw_iload_n (pc' := 3) (z := a1) rfl rfl ?_)
  refine wp_of e109 c109_3 (xc_V (pc' := 6) (r := r0) (as := [vI a1]) (st := [.ref r0]) (lm_0_105) rfl rfl (Nat.le_of_ble_eq_true rfl) hW g0 sh_1 (by decide) rfl (by decide) (s_55 hW g0 ⟨by omega, by omega⟩) (fun R32050 T32051 H32052 p32053 => ?_))
  obtain ⟨e32054, e32056, z32058, e32055, b32059, p32057⟩ := p32053
  subst e32054
  subst e32055
  subst e32056
  show wp _ _ 109 6 [(0, .ref r0), (1, vI a1), (2, vI a2)] [vI z32058, .ref r0] _ H _
  refine wp_of e109 c109_6 (rw_if_eq (p1 := 26) (p2 := 9) (by decide) rfl ⟨by omega, by omega⟩ (fun c32060 => ?_) (fun c32060 => ?_))
  · refine wp_of e109 c109_26 (rw_iconst (pc' := 27) rfl ?_)
    refine wp_of e109 c109_27 (xc_V (pc' := 30) (r := r0) (as := [vI 0]) (st := []) (lm_0_174) rfl rfl (Nat.le_of_ble_eq_true rfl) hW g0 sh_1 (by decide) rfl (by decide) (s_83 hW g0 ⟨by omega, by omega⟩) (fun R32061 T32062 H32063 p32064 => ?_))
    obtain ⟨e32065, w32067, f32068, z32070, e32066, b32071, p32069⟩ := p32064
    subst e32065
    subst e32066
    have f32072 := f0.tr f32068 rfl
    show wp _ _ 109 30 [(0, .ref r0), (1, vI a1), (2, vI a2)] [vI z32070] _ H32063 _
    refine wp_of e109 c109_30 (rw_istore_n (pc' := 31) (z := z32070) (L' := [(3, vI z32070), (0, .ref r0), (1, vI a1), (2, vI a2)]) rfl rfl rfl ?_)
    refine wp_of e109 c109_31 (rw_iload_n (pc' := 32) (z := z32070) rfl rfl ?_)
    refine wp_of e109 c109_32 (rw_if_eq (p1 := 41) (p2 := 35) (by decide) rfl ⟨by omega, by omega⟩ (fun c32073 => ?_) (fun c32073 => ?_))
    · exfalso
      omega
    · refine wp_of e109 c109_35 (rw_aload_n (pc' := 36) (v := .ref r0) rfl rfl rfl ?_)
      refine wp_of e109 c109_36 (rw_iload_n (pc' := 37) (z := z32070) rfl rfl ?_)
      refine wp_of e109 c109_37 (xc_V (pc' := 40) (r := r0) (as := [vI z32070]) (st := []) (lm_0_70) rfl rfl (Nat.le_of_ble_eq_true rfl) w32067 g0 sh_1 (by decide) rfl (by decide) (s_12 w32067 g0 ⟨by omega, by omega⟩) (fun R32074 T32075 H32076 p32077 => ?_))
      obtain ⟨e32078, w32080, f32081, z32082, e32079, b32083⟩ := p32077
      subst e32078
      subst e32079
      have f32084 := f32072.tr f32081 rfl
      show wp _ _ 109 40 [(3, vI z32070), (0, .ref r0), (1, vI a1), (2, vI a2)] [vI z32082] _ H32076 _
      exact wp_ireturn e109 c109_40 rfl ⟨rfl, w32080, f32084, z32082, rfl, ⟨by omega, by omega⟩⟩
  · refine wp_of e109 c109_9 (rw_aload_n (pc' := 10) (v := .ref r0) rfl rfl rfl ?_)
    refine wp_of e109 c109_10 (rw_iload_n (pc' := 11) (z := a2) rfl rfl ?_)
    refine wp_of e109 c109_11 (xc_V (pc' := 14) (r := r0) (as := [vI a2]) (st := [.ref r0]) (lm_0_105) rfl rfl (Nat.le_of_ble_eq_true rfl) hW g0 sh_1 (by decide) rfl (by decide) (s_55 hW g0 ⟨by omega, by omega⟩) (fun R32085 T32086 H32087 p32088 => ?_))
    obtain ⟨e32089, e32091, z32093, e32090, b32094, p32092⟩ := p32088
    subst e32089
    subst e32090
    subst e32091
    show wp _ _ 109 14 [(0, .ref r0), (1, vI a1), (2, vI a2)] [vI z32093, .ref r0] _ H _
    refine wp_of e109 c109_14 (rw_if_eq (p1 := 26) (p2 := 17) (by decide) rfl ⟨by omega, by omega⟩ (fun c32095 => ?_) (fun c32095 => ?_))
    · refine wp_of e109 c109_26 (rw_iconst (pc' := 27) rfl ?_)
      refine wp_of e109 c109_27 (xc_V (pc' := 30) (r := r0) (as := [vI 0]) (st := []) (lm_0_174) rfl rfl (Nat.le_of_ble_eq_true rfl) hW g0 sh_1 (by decide) rfl (by decide) (s_83 hW g0 ⟨by omega, by omega⟩) (fun R32096 T32097 H32098 p32099 => ?_))
      obtain ⟨e32100, w32102, f32103, z32105, e32101, b32106, p32104⟩ := p32099
      subst e32100
      subst e32101
      have f32107 := f0.tr f32103 rfl
      show wp _ _ 109 30 [(0, .ref r0), (1, vI a1), (2, vI a2)] [vI z32105] _ H32098 _
      refine wp_of e109 c109_30 (rw_istore_n (pc' := 31) (z := z32105) (L' := [(3, vI z32105), (0, .ref r0), (1, vI a1), (2, vI a2)]) rfl rfl rfl ?_)
      refine wp_of e109 c109_31 (rw_iload_n (pc' := 32) (z := z32105) rfl rfl ?_)
      refine wp_of e109 c109_32 (rw_if_eq (p1 := 41) (p2 := 35) (by decide) rfl ⟨by omega, by omega⟩ (fun c32108 => ?_) (fun c32108 => ?_))
      · exfalso
        omega
      · refine wp_of e109 c109_35 (rw_aload_n (pc' := 36) (v := .ref r0) rfl rfl rfl ?_)
        refine wp_of e109 c109_36 (rw_iload_n (pc' := 37) (z := z32105) rfl rfl ?_)
        refine wp_of e109 c109_37 (xc_V (pc' := 40) (r := r0) (as := [vI z32105]) (st := []) (lm_0_70) rfl rfl (Nat.le_of_ble_eq_true rfl) w32102 g0 sh_1 (by decide) rfl (by decide) (s_12 w32102 g0 ⟨by omega, by omega⟩) (fun R32109 T32110 H32111 p32112 => ?_))
        obtain ⟨e32113, w32115, f32116, z32117, e32114, b32118⟩ := p32112
        subst e32113
        subst e32114
        have f32119 := f32107.tr f32116 rfl
        show wp _ _ 109 40 [(3, vI z32105), (0, .ref r0), (1, vI a1), (2, vI a2)] [vI z32117] _ H32111 _
        exact wp_ireturn e109 c109_40 rfl ⟨rfl, w32115, f32119, z32117, rfl, ⟨by omega, by omega⟩⟩
    · refine wp_of e109 c109_17 (rw_iload_n (pc' := 18) (z := a1) rfl rfl ?_)
      refine wp_of e109 c109_18 (rw_iload_n (pc' := 19) (z := a2) rfl rfl ?_)
      refine wp_of e109 c109_19 (rw_icmp_eq (p1 := 26) (p2 := 22) (by decide) rfl ⟨by omega, by omega⟩ ⟨by omega, by omega⟩ (fun c32120 => ?_) (fun c32120 => ?_))
      · refine wp_of e109 c109_26 (rw_iconst (pc' := 27) rfl ?_)
        refine wp_of e109 c109_27 (xc_V (pc' := 30) (r := r0) (as := [vI 0]) (st := []) (lm_0_174) rfl rfl (Nat.le_of_ble_eq_true rfl) hW g0 sh_1 (by decide) rfl (by decide) (s_83 hW g0 ⟨by omega, by omega⟩) (fun R32121 T32122 H32123 p32124 => ?_))
        obtain ⟨e32125, w32127, f32128, z32130, e32126, b32131, p32129⟩ := p32124
        subst e32125
        subst e32126
        have f32132 := f0.tr f32128 rfl
        show wp _ _ 109 30 [(0, .ref r0), (1, vI a1), (2, vI a2)] [vI z32130] _ H32123 _
        refine wp_of e109 c109_30 (rw_istore_n (pc' := 31) (z := z32130) (L' := [(3, vI z32130), (0, .ref r0), (1, vI a1), (2, vI a2)]) rfl rfl rfl ?_)
        refine wp_of e109 c109_31 (rw_iload_n (pc' := 32) (z := z32130) rfl rfl ?_)
        refine wp_of e109 c109_32 (rw_if_eq (p1 := 41) (p2 := 35) (by decide) rfl ⟨by omega, by omega⟩ (fun c32133 => ?_) (fun c32133 => ?_))
        · exfalso
          omega
        · refine wp_of e109 c109_35 (rw_aload_n (pc' := 36) (v := .ref r0) rfl rfl rfl ?_)
          refine wp_of e109 c109_36 (rw_iload_n (pc' := 37) (z := z32130) rfl rfl ?_)
          refine wp_of e109 c109_37 (xc_V (pc' := 40) (r := r0) (as := [vI z32130]) (st := []) (lm_0_70) rfl rfl (Nat.le_of_ble_eq_true rfl) w32127 g0 sh_1 (by decide) rfl (by decide) (s_12 w32127 g0 ⟨by omega, by omega⟩) (fun R32134 T32135 H32136 p32137 => ?_))
          obtain ⟨e32138, w32140, f32141, z32142, e32139, b32143⟩ := p32137
          subst e32138
          subst e32139
          have f32144 := f32132.tr f32141 rfl
          show wp _ _ 109 40 [(3, vI z32130), (0, .ref r0), (1, vI a1), (2, vI a2)] [vI z32142] _ H32136 _
          exact wp_ireturn e109 c109_40 rfl ⟨rfl, w32140, f32144, z32142, rfl, ⟨by omega, by omega⟩⟩
      · refine wp_of e109 c109_22 (rw_iconst (pc' := 23) rfl ?_)
        refine wp_of e109 c109_23 (rw_goto (p1 := 27) (by decide) ?_)
        refine wp_of e109 c109_27 (xc_V (pc' := 30) (r := r0) (as := [vI 1]) (st := []) (lm_0_174) rfl rfl (Nat.le_of_ble_eq_true rfl) hW g0 sh_1 (by decide) rfl (by decide) (s_83 hW g0 ⟨by omega, by omega⟩) (fun R32145 T32146 H32147 p32148 => ?_))
        obtain ⟨e32149, w32151, f32152, z32154, e32150, b32155, p32153⟩ := p32148
        subst e32149
        subst e32150
        have f32156 := f0.tr f32152 rfl
        show wp _ _ 109 30 [(0, .ref r0), (1, vI a1), (2, vI a2)] [vI z32154] _ H32147 _
        refine wp_of e109 c109_30 (rw_istore_n (pc' := 31) (z := z32154) (L' := [(3, vI z32154), (0, .ref r0), (1, vI a1), (2, vI a2)]) rfl rfl rfl ?_)
        refine wp_of e109 c109_31 (rw_iload_n (pc' := 32) (z := z32154) rfl rfl ?_)
        refine wp_of e109 c109_32 (rw_if_eq (p1 := 41) (p2 := 35) (by decide) rfl ⟨by omega, by omega⟩ (fun c32157 => ?_) (fun c32157 => ?_))
        · refine wp_of e109 c109_41 (rw_aload_n (pc' := 42) (v := .ref r0) rfl rfl rfl ?_)
          refine wp_of e109 c109_42 (rw_aload_n (pc' := 43) (v := .ref r0) rfl rfl rfl ?_)
          refine wp_of e109 c109_43 (xg_R (pc' := 46) lf_0_30 w32151 g0 sh_1 (by decide) (by decide) ty_1_3 rfl rfl (fun r32158 q32159 g32160 => ?_))
          refine wp_of e109 c109_46 (rw_aload_n (pc' := 47) (v := .ref r0) rfl rfl rfl ?_)
          refine wp_of e109 c109_47 (xg_R (pc' := 50) lf_0_51 w32151 g0 sh_1 (by decide) (by decide) ty_1_6 rfl rfl (fun r32161 q32162 g32163 => ?_))
          refine wp_of e109 c109_50 (rw_iload_n (pc' := 51) (z := a1) rfl rfl ?_)
          refine wp_of e109 c109_51 (rw_iload_n (pc' := 52) (z := a2) rfl rfl ?_)
          refine wp_of e109 c109_52 (xc_V (pc' := 55) (r := r32158) (as := [.ref r32161, vI a1, vI a2]) (st := [.ref r0]) (lm_0_213) rfl rfl (Nat.le_of_ble_eq_true rfl) w32151 g32160 sh_12 (by decide) rfl (by decide) (s_110 w32151 g32160 g32163 ⟨by omega, by omega⟩ ⟨by omega, by omega⟩) (fun R32164 T32165 H32166 p32167 => ?_))
          obtain ⟨e32168, e32170, z32171, e32169, b32172⟩ := p32167
          subst e32168
          subst e32169
          subst e32170
          show wp _ _ 109 55 [(3, vI z32154), (0, .ref r0), (1, vI a1), (2, vI a2)] [vI z32171, .ref r0] _ H32147 _
          refine wp_of e109 c109_55 (xc_V (pc' := 58) (r := r0) (as := [vI z32171]) (st := []) (lm_0_99) rfl rfl (Nat.le_of_ble_eq_true rfl) w32151 g0 sh_1 (by decide) rfl (by decide) (s_51 w32151 g0 ⟨by omega, by omega⟩) (fun R32173 T32174 H32175 p32176 => ?_))
          obtain ⟨e32177, w32179, f32180, z32181, e32178, b32182⟩ := p32176
          subst e32177
          subst e32178
          have f32183 := f32156.tr f32180 rfl
          show wp _ _ 109 58 [(3, vI z32154), (0, .ref r0), (1, vI a1), (2, vI a2)] [vI z32181] _ H32175 _
          exact wp_ireturn e109 c109_58 rfl ⟨rfl, w32179, f32183, z32181, rfl, ⟨by omega, by omega⟩⟩
        · refine wp_of e109 c109_35 (rw_aload_n (pc' := 36) (v := .ref r0) rfl rfl rfl ?_)
          refine wp_of e109 c109_36 (rw_iload_n (pc' := 37) (z := z32154) rfl rfl ?_)
          refine wp_of e109 c109_37 (xc_V (pc' := 40) (r := r0) (as := [vI z32154]) (st := []) (lm_0_70) rfl rfl (Nat.le_of_ble_eq_true rfl) w32151 g0 sh_1 (by decide) rfl (by decide) (s_12 w32151 g0 ⟨by omega, by omega⟩) (fun R32184 T32185 H32186 p32187 => ?_))
          obtain ⟨e32188, w32190, f32191, z32192, e32189, b32193⟩ := p32187
          subst e32188
          subst e32189
          have f32194 := f32156.tr f32191 rfl
          show wp _ _ 109 40 [(3, vI z32154), (0, .ref r0), (1, vI a1), (2, vI a2)] [vI z32192] _ H32186 _
          exact wp_ireturn e109 c109_40 rfl ⟨rfl, w32190, f32194, z32192, rfl, ⟨by omega, by omega⟩⟩
/-! StrikeAwake$Census.spansHeld(LStrikeAwake$Parish;I)J -/
theorem e113 : wq_en 113 = some (4, 6, false, some FieldType.long) := rfl
theorem cg113_0 : mc_cd 113 0 = some (.lconst 0, 1) ∧ mc_cd 113 1 = some (.lstore_n 3, 1) ∧ mc_cd 113 2 = some (.iconst 0, 1) ∧ mc_cd 113 3 = some (.istore 5, 2) ∧ mc_cd 113 5 = some (.iload 5, 2) ∧ mc_cd 113 7 = some (.aload_n 1, 1) ∧ mc_cd 113 8 = some (.getfield 78, 3) ∧ mc_cd 113 11 = some (.iload_n 2, 1) := by decide +kernel
theorem c113_0 : mc_cd 113 0 = some (.lconst 0, 1) := cg113_0.1
theorem c113_1 : mc_cd 113 1 = some (.lstore_n 3, 1) := cg113_0.2.1
theorem c113_2 : mc_cd 113 2 = some (.iconst 0, 1) := cg113_0.2.2.1
theorem c113_3 : mc_cd 113 3 = some (.istore 5, 2) := cg113_0.2.2.2.1
theorem c113_5 : mc_cd 113 5 = some (.iload 5, 2) := cg113_0.2.2.2.2.1
theorem c113_7 : mc_cd 113 7 = some (.aload_n 1, 1) := cg113_0.2.2.2.2.2.1
theorem c113_8 : mc_cd 113 8 = some (.getfield 78, 3) := cg113_0.2.2.2.2.2.2.1
theorem c113_11 : mc_cd 113 11 = some (.iload_n 2, 1) := cg113_0.2.2.2.2.2.2.2
theorem cg113_12 : mc_cd 113 12 = some (.aaload, 1) ∧ mc_cd 113 13 = some (.getfield 116, 3) ∧ mc_cd 113 16 = some (.if_icmp .ge 28, 3) ∧ mc_cd 113 19 = some (.aload_n 0, 1) ∧ mc_cd 113 20 = some (.getfield 17, 3) ∧ mc_cd 113 23 = some (.iload_n 2, 1) ∧ mc_cd 113 24 = some (.aaload, 1) ∧ mc_cd 113 25 = some (.iload 5, 2) := by decide +kernel
theorem c113_12 : mc_cd 113 12 = some (.aaload, 1) := cg113_12.1
theorem c113_13 : mc_cd 113 13 = some (.getfield 116, 3) := cg113_12.2.1
theorem c113_16 : mc_cd 113 16 = some (.if_icmp .ge 28, 3) := cg113_12.2.2.1
theorem c113_19 : mc_cd 113 19 = some (.aload_n 0, 1) := cg113_12.2.2.2.1
theorem c113_20 : mc_cd 113 20 = some (.getfield 17, 3) := cg113_12.2.2.2.2.1
theorem c113_23 : mc_cd 113 23 = some (.iload_n 2, 1) := cg113_12.2.2.2.2.2.1
theorem c113_24 : mc_cd 113 24 = some (.aaload, 1) := cg113_12.2.2.2.2.2.2.1
theorem c113_25 : mc_cd 113 25 = some (.iload 5, 2) := cg113_12.2.2.2.2.2.2.2
theorem cg113_27 : mc_cd 113 27 = some (.iaload, 1) ∧ mc_cd 113 28 = some (.ifCond .le 10, 3) ∧ mc_cd 113 31 = some (.lload_n 3, 1) ∧ mc_cd 113 32 = some (.lconst 1, 1) ∧ mc_cd 113 33 = some (.iload 5, 2) ∧ mc_cd 113 35 = some (.lshl, 1) ∧ mc_cd 113 36 = some (.lor, 1) ∧ mc_cd 113 37 = some (.lstore_n 3, 1) := by decide +kernel
theorem c113_27 : mc_cd 113 27 = some (.iaload, 1) := cg113_27.1
theorem c113_28 : mc_cd 113 28 = some (.ifCond .le 10, 3) := cg113_27.2.1
theorem c113_31 : mc_cd 113 31 = some (.lload_n 3, 1) := cg113_27.2.2.1
theorem c113_32 : mc_cd 113 32 = some (.lconst 1, 1) := cg113_27.2.2.2.1
theorem c113_33 : mc_cd 113 33 = some (.iload 5, 2) := cg113_27.2.2.2.2.1
theorem c113_35 : mc_cd 113 35 = some (.lshl, 1) := cg113_27.2.2.2.2.2.1
theorem c113_36 : mc_cd 113 36 = some (.lor, 1) := cg113_27.2.2.2.2.2.2.1
theorem c113_37 : mc_cd 113 37 = some (.lstore_n 3, 1) := cg113_27.2.2.2.2.2.2.2
theorem cg113_38 : mc_cd 113 38 = some (.iinc 5 1, 3) ∧ mc_cd 113 41 = some (.goto (-36), 3) ∧ mc_cd 113 44 = some (.lload_n 3, 1) ∧ mc_cd 113 45 = some (.lreturn, 1) := by decide +kernel
theorem c113_38 : mc_cd 113 38 = some (.iinc 5 1, 3) := cg113_38.1
theorem c113_41 : mc_cd 113 41 = some (.goto (-36), 3) := cg113_38.2.1
theorem c113_44 : mc_cd 113 44 = some (.lload_n 3, 1) := cg113_38.2.2.1
theorem c113_45 : mc_cd 113 45 = some (.lreturn, 1) := cg113_38.2.2.2
abbrev q_113 (r0 : Nat) (r1 : Nat) (a2 : Int) (T : wq_T) (H : wq_H) : Option Value → wq_T → wq_H → Prop := fun r T' H' => T = T' ∧ H = H' ∧ ∃ z : Int, some (vL z) = r ∧ ((-9223372036854775808) ≤ z ∧ z ≤ 9223372036854775807)
set_option maxHeartbeats 4000000 in
theorem s_113 {kt : Nat → Option mc_E} {T : wq_T} {H : wq_H} {r0 : Nat} {r1 : Nat} {a2 : Int} (hW : WT T H) (g0 : T.2.2.2 r0 = some 12) (g1 : T.2.2.2 r1 = some 27) (i2 : 0 ≤ a2 ∧ a2 ≤ 5) : wpc kt 1 113 [.ref r0, .ref r1, vI a2] T H (q_113 r0 r1 a2 T H) := by
  refine wp_enter e113 (Nat.le_of_ble_eq_true rfl) rfl ?_
  show wp _ _ 113 0 [(0, .ref r0), (1, .ref r1), (2, vI a2)] [] _ H _
  refine wp_of e113 c113_0 (rw_lconst (pc' := 1) (z := 0) rfl rfl ?_)
  refine wp_of e113 c113_1 (rw_lstore_n (pc' := 2) (z := 0) (L' := [(3, vL 0), (0, .ref r0), (1, .ref r1), (2, vI a2)]) rfl rfl rfl ?_)
  refine wp_of e113 c113_2 (rw_iconst (pc' := 3) rfl ?_)
  refine wp_of e113 c113_3 (rw_istore (pc' := 5) (z := 0) (L' := [(5, vI 0), (3, vL 0), (0, .ref r0), (1, .ref r1), (2, vI a2)]) rfl rfl rfl ?_)
  have lp32570 : ∀ (n32571 : Nat) (v32573 : Int) (v32574 : Int), (0 ≤ v32573 ∧ v32573 ≤ 40) → ((-9223372036854775808) ≤ v32574 ∧ v32574 ≤ 9223372036854775807) → (40 - v32573).toNat = n32571 → wp kt 0 113 5 [(5, vI v32573), (3, vL v32574), (0, .ref r0), (1, .ref r1), (2, vI a2)] [] T H (q_113 r0 r1 a2 T H) := by
    intro n32571
    induction n32571 using Nat.strongRecOn with
    | _ n32571 ih32572 =>
      intro v32573 v32574 b32577 b32578 m32579
      refine wp_of e113 c113_5 (rw_iload (pc' := 7) (z := v32573) rfl rfl ?_)
      refine wp_of e113 c113_7 (rw_aload_n (pc' := 8) (v := .ref r1) rfl rfl rfl ?_)
      refine wp_of e113 c113_8 (xg_R (pc' := 11) lf_4_78 hW g1 sh_27 (by decide) (by decide) ty_27_0 rfl rfl (fun r32580 q32581 g32582 => ?_))
      refine wp_of e113 c113_11 (rw_iload_n (pc' := 12) (z := a2) rfl rfl ?_)
      refine wp_of e113 c113_12 (xa_R (pc' := 13) (by decide) hW g32582 sh_28 (by decide) (ty_28 _) (by omega) (by omega) rfl (fun r32583 q32584 g32585 => ?_))
      refine wp_of e113 c113_13 (xg_I (pc' := 16) lf_4_116 hW g32585 sh_35 (by decide) (by decide) ty_35_15 rfl rfl (fun b32586 b32587 => ?_))
      refine wp_of e113 c113_16 (rw_icmp_ge (p1 := 44) (p2 := 19) (by decide) rfl ⟨by omega, by omega⟩ ⟨by omega, by omega⟩ (fun c32588 => ?_) (fun c32588 => ?_))
      · refine wp_of e113 c113_44 (rw_lload_n (pc' := 45) (z := v32574) rfl rfl ?_)
        exact wp_lreturn e113 c113_45 rfl ⟨rfl, rfl, v32574, rfl, ⟨by omega, by omega⟩⟩
      · refine wp_of e113 c113_19 (rw_aload_n (pc' := 20) (v := .ref r0) rfl rfl rfl ?_)
        refine wp_of e113 c113_20 (xg_R (pc' := 23) lf_4_17 hW g0 sh_12 (by decide) (by decide) ty_12_1 rfl rfl (fun r32589 q32590 g32591 => ?_))
        refine wp_of e113 c113_23 (rw_iload_n (pc' := 24) (z := a2) rfl rfl ?_)
        refine wp_of e113 c113_24 (xa_R (pc' := 25) (by decide) hW g32591 sh_14 (by decide) (ty_14 _) (by omega) (by omega) rfl (fun r32592 q32593 g32594 => ?_))
        refine wp_of e113 c113_25 (rw_iload (pc' := 27) (z := v32573) rfl rfl ?_)
        refine wp_of e113 c113_27 (xa_I (so := 0) (pc' := 28) hW g32594 sh_15 (by decide) (ty_15 _) (by omega) (by omega) rfl (fun b32595 b32596 => ?_))
        refine wp_of e113 c113_28 (rw_if_le (p1 := 38) (p2 := 31) (by decide) rfl ⟨by omega, by omega⟩ (fun c32597 => ?_) (fun c32597 => ?_))
        · refine wp_of e113 c113_38 (rw_iinc (pc' := 41) (z := v32573) (L' := [(5, vI (v32573 + 1)), (3, vL v32574), (0, .ref r0), (1, .ref r1), (2, vI a2)]) rfl rfl rfl rfl ?_)
          refine wp_of e113 c113_41 (rw_goto (p1 := 5) (by decide) ?_)
          exact wp_lc (ks := [5, 3, 0, 1, 2]) (wl_c rfl (wl_c rfl (wl_c rfl (wl_c rfl (wl_c rfl wl_n))))) rfl (by decide) (ih32572 _ (by omega) (v32573 + 1) v32574 ⟨by omega, by omega⟩ ⟨by omega, by omega⟩ rfl)
        · refine wp_of e113 c113_31 (rw_lload_n (pc' := 32) (z := v32574) rfl rfl ?_)
          refine wp_of e113 c113_32 (rw_lconst (pc' := 33) (z := 1) rfl rfl ?_)
          refine wp_of e113 c113_33 (rw_iload (pc' := 35) (z := v32573) rfl rfl ?_)
          refine wp_of e113 c113_35 (rw_lshl (pc' := 36) rfl ?_)
          obtain ⟨v32598, e32599⟩ : ∃ x : Int, x = wl_shl 1 v32573 := ⟨_, rfl⟩
          rw [← e32599]
          have b32600 : -9223372036854775808 ≤ v32598 ∧ v32598 ≤ 9223372036854775807 := by
            rw [e32599]
            exact wL_shl _ _
          refine wp_of e113 c113_36 (rw_lor (pc' := 37) rfl ?_)
          obtain ⟨v32601, e32602⟩ : ∃ x : Int, x = wl_or v32574 v32598 := ⟨_, rfl⟩
          rw [← e32602]
          have b32603 : -9223372036854775808 ≤ v32601 ∧ v32601 ≤ 9223372036854775807 := by
            rw [e32602]
            exact wL_or _ _
          refine wp_of e113 c113_37 (rw_lstore_n (pc' := 38) (z := v32601) (L' := [(3, vL v32601), (5, vI v32573), (0, .ref r0), (1, .ref r1), (2, vI a2)]) rfl rfl rfl ?_)
          refine wp_of e113 c113_38 (rw_iinc (pc' := 41) (z := v32573) (L' := [(5, vI (v32573 + 1)), (3, vL v32601), (0, .ref r0), (1, .ref r1), (2, vI a2)]) rfl rfl rfl rfl ?_)
          refine wp_of e113 c113_41 (rw_goto (p1 := 5) (by decide) ?_)
          exact wp_lc (ks := [5, 3, 0, 1, 2]) (wl_c rfl (wl_c rfl (wl_c rfl (wl_c rfl (wl_c rfl wl_n))))) rfl (by decide) (ih32572 _ (by omega) (v32573 + 1) v32601 ⟨by omega, by omega⟩ ⟨by omega, by omega⟩ rfl)
  exact wp_lc (ks := [5, 3, 0, 1, 2]) (wl_c rfl (wl_c rfl (wl_c rfl (wl_c rfl (wl_c rfl wl_n))))) rfl (by decide) (lp32570 _ 0 0 ⟨by omega, by omega⟩ ⟨by omega, by omega⟩ rfl)
/-! StrikeAwake.possible(I)J -/
theorem e112 : wq_en 112 = some (0, 3, false, some FieldType.long) := rfl
theorem cg112_0 : mc_cd 112 0 = some (.aload_n 0, 1) ∧ mc_cd 112 1 = some (.aload_n 0, 1) ∧ mc_cd 112 2 = some (.iload_n 1, 1) ∧ mc_cd 112 3 = some (.invokevirtual 105, 3) ∧ mc_cd 112 6 = some (.invokevirtual 174, 3) ∧ mc_cd 112 9 = some (.istore_n 2, 1) ∧ mc_cd 112 10 = some (.iload_n 2, 1) ∧ mc_cd 112 11 = some (.ifCond .eq 10, 3) := by decide +kernel
theorem c112_0 : mc_cd 112 0 = some (.aload_n 0, 1) := cg112_0.1
theorem c112_1 : mc_cd 112 1 = some (.aload_n 0, 1) := cg112_0.2.1
theorem c112_2 : mc_cd 112 2 = some (.iload_n 1, 1) := cg112_0.2.2.1
theorem c112_3 : mc_cd 112 3 = some (.invokevirtual 105, 3) := cg112_0.2.2.2.1
theorem c112_6 : mc_cd 112 6 = some (.invokevirtual 174, 3) := cg112_0.2.2.2.2.1
theorem c112_9 : mc_cd 112 9 = some (.istore_n 2, 1) := cg112_0.2.2.2.2.2.1
theorem c112_10 : mc_cd 112 10 = some (.iload_n 2, 1) := cg112_0.2.2.2.2.2.2.1
theorem c112_11 : mc_cd 112 11 = some (.ifCond .eq 10, 3) := cg112_0.2.2.2.2.2.2.2
theorem cg112_14 : mc_cd 112 14 = some (.aload_n 0, 1) ∧ mc_cd 112 15 = some (.iload_n 2, 1) ∧ mc_cd 112 16 = some (.invokevirtual 70, 3) ∧ mc_cd 112 19 = some (.i2l, 1) ∧ mc_cd 112 20 = some (.lreturn, 1) ∧ mc_cd 112 21 = some (.aload_n 0, 1) ∧ mc_cd 112 22 = some (.iconst 0, 1) ∧ mc_cd 112 23 = some (.putfield 102, 3) := by decide +kernel
theorem c112_14 : mc_cd 112 14 = some (.aload_n 0, 1) := cg112_14.1
theorem c112_15 : mc_cd 112 15 = some (.iload_n 2, 1) := cg112_14.2.1
theorem c112_16 : mc_cd 112 16 = some (.invokevirtual 70, 3) := cg112_14.2.2.1
theorem c112_19 : mc_cd 112 19 = some (.i2l, 1) := cg112_14.2.2.2.1
theorem c112_20 : mc_cd 112 20 = some (.lreturn, 1) := cg112_14.2.2.2.2.1
theorem c112_21 : mc_cd 112 21 = some (.aload_n 0, 1) := cg112_14.2.2.2.2.2.1
theorem c112_22 : mc_cd 112 22 = some (.iconst 0, 1) := cg112_14.2.2.2.2.2.2.1
theorem c112_23 : mc_cd 112 23 = some (.putfield 102, 3) := cg112_14.2.2.2.2.2.2.2
theorem cg112_26 : mc_cd 112 26 = some (.aload_n 0, 1) ∧ mc_cd 112 27 = some (.getfield 30, 3) ∧ mc_cd 112 30 = some (.aload_n 0, 1) ∧ mc_cd 112 31 = some (.getfield 51, 3) ∧ mc_cd 112 34 = some (.iload_n 1, 1) ∧ mc_cd 112 35 = some (.invokevirtual 216, 3) ∧ mc_cd 112 38 = some (.lreturn, 1) := by decide +kernel
theorem c112_26 : mc_cd 112 26 = some (.aload_n 0, 1) := cg112_26.1
theorem c112_27 : mc_cd 112 27 = some (.getfield 30, 3) := cg112_26.2.1
theorem c112_30 : mc_cd 112 30 = some (.aload_n 0, 1) := cg112_26.2.2.1
theorem c112_31 : mc_cd 112 31 = some (.getfield 51, 3) := cg112_26.2.2.2.1
theorem c112_34 : mc_cd 112 34 = some (.iload_n 1, 1) := cg112_26.2.2.2.2.1
theorem c112_35 : mc_cd 112 35 = some (.invokevirtual 216, 3) := cg112_26.2.2.2.2.2.1
theorem c112_38 : mc_cd 112 38 = some (.lreturn, 1) := cg112_26.2.2.2.2.2.2
abbrev q_112 (r0 : Nat) (a1 : Int) (T : wq_T) (H : wq_H) : Option Value → wq_T → wq_H → Prop := fun r T' H' => T = T' ∧ WT T H' ∧ wfr [(12, 5), (12, 6), (12, 7), (12, 8), (12, 9), (1, 10), (6, 5), (8, 999), (10, 999), (15, 999), (9, 999), (18, 999), (19, 999), (7, 999), (11, 999), (17, 999), (13, 999)] T H H' ∧ ∃ z : Int, some (vL z) = r ∧ ((-9223372036854775808) ≤ z ∧ z ≤ 9223372036854775807)
set_option maxHeartbeats 4000000 in
theorem s_112 {kt : Nat → Option mc_E} {T : wq_T} {H : wq_H} {r0 : Nat} {a1 : Int} (hW : WT T H) (g0 : T.2.2.2 r0 = some 1) (i1 : (-2147483648) ≤ a1 ∧ a1 ≤ 2147483647) : wpc kt 6 112 [.ref r0, vI a1] T H (q_112 r0 a1 T H) := by
  refine wp_enter e112 (Nat.le_of_ble_eq_true rfl) rfl ?_
  have f0 : wfr [(12, 5), (12, 6), (12, 7), (12, 8), (12, 9), (1, 10), (6, 5), (8, 999), (10, 999), (15, 999), (9, 999), (18, 999), (19, 999), (7, 999), (11, 999), (17, 999), (13, 999)] T H H := wfr.rf
  show wp _ _ 112 0 [(0, .ref r0), (1, vI a1)] [] _ H _
  refine wp_of e112 c112_0 (rw_aload_n (pc' := 1) (v := .ref r0) rfl rfl rfl ?_)
  refine wp_of e112 c112_1 (rw_aload_n (pc' := 2) (v := .ref r0) rfl rfl rfl ?_)
  refine wp_of e112 c112_2 (rw_iload_n (pc' := 3) (z := a1) rfl rfl ?_)
  refine wp_of e112 c112_3 (xc_V (pc' := 6) (r := r0) (as := [vI a1]) (st := [.ref r0]) (lm_0_105) rfl rfl (Nat.le_of_ble_eq_true rfl) hW g0 sh_1 (by decide) rfl (by decide) (s_55 hW g0 ⟨by omega, by omega⟩) (fun R32658 T32659 H32660 p32661 => ?_))
  obtain ⟨e32662, e32664, z32666, e32663, b32667, p32665⟩ := p32661
  subst e32662
  subst e32663
  subst e32664
  show wp _ _ 112 6 [(0, .ref r0), (1, vI a1)] [vI z32666, .ref r0] _ H _
  refine wp_of e112 c112_6 (xc_V (pc' := 9) (r := r0) (as := [vI z32666]) (st := []) (lm_0_174) rfl rfl (Nat.le_of_ble_eq_true rfl) hW g0 sh_1 (by decide) rfl (by decide) (s_83 hW g0 ⟨by omega, by omega⟩) (fun R32668 T32669 H32670 p32671 => ?_))
  obtain ⟨e32672, w32674, f32675, z32677, e32673, b32678, p32676⟩ := p32671
  subst e32672
  subst e32673
  have f32679 := f0.tr f32675 rfl
  show wp _ _ 112 9 [(0, .ref r0), (1, vI a1)] [vI z32677] _ H32670 _
  refine wp_of e112 c112_9 (rw_istore_n (pc' := 10) (z := z32677) (L' := [(2, vI z32677), (0, .ref r0), (1, vI a1)]) rfl rfl rfl ?_)
  refine wp_of e112 c112_10 (rw_iload_n (pc' := 11) (z := z32677) rfl rfl ?_)
  refine wp_of e112 c112_11 (rw_if_eq (p1 := 21) (p2 := 14) (by decide) rfl ⟨by omega, by omega⟩ (fun c32680 => ?_) (fun c32680 => ?_))
  · refine wp_of e112 c112_21 (rw_aload_n (pc' := 22) (v := .ref r0) rfl rfl rfl ?_)
    refine wp_of e112 c112_22 (rw_iconst (pc' := 23) rfl ?_)
    refine wp_of e112 c112_23 (xp_I (pc' := 26) lf_0_102 w32674 g0 sh_1 (by decide) (by decide) ty_1_10 rfl rfl (by omega) (by omega) ⟨by omega, by omega⟩ rfl (fun H32681 e32682 w32683 => ?_))
    have f32684 := f32679.put' e32682 g0 rfl
    have k32685 : H32681 r0 10 = 0 := wq_u_s e32682
    refine wp_of e112 c112_26 (rw_aload_n (pc' := 27) (v := .ref r0) rfl rfl rfl ?_)
    refine wp_of e112 c112_27 (xg_R (pc' := 30) lf_0_30 w32683 g0 sh_1 (by decide) (by decide) ty_1_3 rfl rfl (fun r32686 q32687 g32688 => ?_))
    refine wp_of e112 c112_30 (rw_aload_n (pc' := 31) (v := .ref r0) rfl rfl rfl ?_)
    refine wp_of e112 c112_31 (xg_R (pc' := 34) lf_0_51 w32683 g0 sh_1 (by decide) (by decide) ty_1_6 rfl rfl (fun r32689 q32690 g32691 => ?_))
    refine wp_of e112 c112_34 (rw_iload_n (pc' := 35) (z := a1) rfl rfl ?_)
    refine wp_of e112 c112_35 (xc_V (pc' := 38) (r := r32686) (as := [.ref r32689, vI a1]) (st := []) (lm_0_216) rfl rfl (Nat.le_of_ble_eq_true rfl) w32683 g32688 sh_12 (by decide) rfl (by decide) (s_113 w32683 g32688 g32691 ⟨by omega, by omega⟩) (fun R32692 T32693 H32694 p32695 => ?_))
    obtain ⟨e32696, e32698, z32699, e32697, b32700⟩ := p32695
    subst e32696
    subst e32697
    subst e32698
    show wp _ _ 112 38 [(2, vI z32677), (0, .ref r0), (1, vI a1)] [vL z32699] _ H32681 _
    exact wp_lreturn e112 c112_38 rfl ⟨rfl, w32683, f32684, z32699, rfl, ⟨by omega, by omega⟩⟩
  · refine wp_of e112 c112_14 (rw_aload_n (pc' := 15) (v := .ref r0) rfl rfl rfl ?_)
    refine wp_of e112 c112_15 (rw_iload_n (pc' := 16) (z := z32677) rfl rfl ?_)
    refine wp_of e112 c112_16 (xc_V (pc' := 19) (r := r0) (as := [vI z32677]) (st := []) (lm_0_70) rfl rfl (Nat.le_of_ble_eq_true rfl) w32674 g0 sh_1 (by decide) rfl (by decide) (s_12 w32674 g0 ⟨by omega, by omega⟩) (fun R32701 T32702 H32703 p32704 => ?_))
    obtain ⟨e32705, w32707, f32708, z32709, e32706, b32710⟩ := p32704
    subst e32705
    subst e32706
    have f32711 := f32679.tr f32708 rfl
    show wp _ _ 112 19 [(2, vI z32677), (0, .ref r0), (1, vI a1)] [vI z32709] _ H32703 _
    refine wp_of e112 c112_19 (rw_i2l (pc' := 20) rfl ⟨by omega, by omega⟩ ?_)
    exact wp_lreturn e112 c112_20 rfl ⟨rfl, w32707, f32711, z32709, rfl, ⟨by omega, by omega⟩⟩
/-! StrikeAwake$Census.peopleAwake(LStrikeAwake$Parish;II)I -/
theorem e116 : wq_en 116 = some (4, 5, false, some FieldType.int) := rfl
theorem cg116_0 : mc_cd 116 0 = some (.iconst 0, 1) ∧ mc_cd 116 1 = some (.istore_n 3, 1) ∧ mc_cd 116 2 = some (.iconst 0, 1) ∧ mc_cd 116 3 = some (.istore 4, 2) ∧ mc_cd 116 5 = some (.iload 4, 2) ∧ mc_cd 116 7 = some (.aload_n 0, 1) ∧ mc_cd 116 8 = some (.getfield 75, 3) ∧ mc_cd 116 11 = some (.if_icmp .ge 30, 3) := by decide +kernel
theorem c116_0 : mc_cd 116 0 = some (.iconst 0, 1) := cg116_0.1
theorem c116_1 : mc_cd 116 1 = some (.istore_n 3, 1) := cg116_0.2.1
theorem c116_2 : mc_cd 116 2 = some (.iconst 0, 1) := cg116_0.2.2.1
theorem c116_3 : mc_cd 116 3 = some (.istore 4, 2) := cg116_0.2.2.2.1
theorem c116_5 : mc_cd 116 5 = some (.iload 4, 2) := cg116_0.2.2.2.2.1
theorem c116_7 : mc_cd 116 7 = some (.aload_n 0, 1) := cg116_0.2.2.2.2.2.1
theorem c116_8 : mc_cd 116 8 = some (.getfield 75, 3) := cg116_0.2.2.2.2.2.2.1
theorem c116_11 : mc_cd 116 11 = some (.if_icmp .ge 30, 3) := cg116_0.2.2.2.2.2.2.2
theorem cg116_14 : mc_cd 116 14 = some (.aload_n 0, 1) ∧ mc_cd 116 15 = some (.iload_n 1, 1) ∧ mc_cd 116 16 = some (.iload 4, 2) ∧ mc_cd 116 18 = some (.invokestatic 132, 3) ∧ mc_cd 116 21 = some (.iload_n 2, 1) ∧ mc_cd 116 22 = some (.invokestatic 122, 3) ∧ mc_cd 116 25 = some (.ifCond .eq 10, 3) ∧ mc_cd 116 28 = some (.iload_n 3, 1) := by decide +kernel
theorem c116_14 : mc_cd 116 14 = some (.aload_n 0, 1) := cg116_14.1
theorem c116_15 : mc_cd 116 15 = some (.iload_n 1, 1) := cg116_14.2.1
theorem c116_16 : mc_cd 116 16 = some (.iload 4, 2) := cg116_14.2.2.1
theorem c116_18 : mc_cd 116 18 = some (.invokestatic 132, 3) := cg116_14.2.2.2.1
theorem c116_21 : mc_cd 116 21 = some (.iload_n 2, 1) := cg116_14.2.2.2.2.1
theorem c116_22 : mc_cd 116 22 = some (.invokestatic 122, 3) := cg116_14.2.2.2.2.2.1
theorem c116_25 : mc_cd 116 25 = some (.ifCond .eq 10, 3) := cg116_14.2.2.2.2.2.2.1
theorem c116_28 : mc_cd 116 28 = some (.iload_n 3, 1) := cg116_14.2.2.2.2.2.2.2
theorem cg116_29 : mc_cd 116 29 = some (.iconst 1, 1) ∧ mc_cd 116 30 = some (.iload 4, 2) ∧ mc_cd 116 32 = some (.ishl, 1) ∧ mc_cd 116 33 = some (.ior, 1) ∧ mc_cd 116 34 = some (.istore_n 3, 1) ∧ mc_cd 116 35 = some (.iinc 4 1, 3) ∧ mc_cd 116 38 = some (.goto (-33), 3) ∧ mc_cd 116 41 = some (.iload_n 3, 1) := by decide +kernel
theorem c116_29 : mc_cd 116 29 = some (.iconst 1, 1) := cg116_29.1
theorem c116_30 : mc_cd 116 30 = some (.iload 4, 2) := cg116_29.2.1
theorem c116_32 : mc_cd 116 32 = some (.ishl, 1) := cg116_29.2.2.1
theorem c116_33 : mc_cd 116 33 = some (.ior, 1) := cg116_29.2.2.2.1
theorem c116_34 : mc_cd 116 34 = some (.istore_n 3, 1) := cg116_29.2.2.2.2.1
theorem c116_35 : mc_cd 116 35 = some (.iinc 4 1, 3) := cg116_29.2.2.2.2.2.1
theorem c116_38 : mc_cd 116 38 = some (.goto (-33), 3) := cg116_29.2.2.2.2.2.2.1
theorem c116_41 : mc_cd 116 41 = some (.iload_n 3, 1) := cg116_29.2.2.2.2.2.2.2
theorem c116_42 : mc_cd 116 42 = some (.ireturn, 1) := by decide +kernel
abbrev q_116 (r0 : Nat) (a1 : Int) (a2 : Int) (T : wq_T) (H : wq_H) : Option Value → wq_T → wq_H → Prop := fun r T' H' => T = T' ∧ H = H' ∧ ∃ z : Int, some (vI z) = r ∧ ((-2147483648) ≤ z ∧ z ≤ 2147483647)
set_option maxHeartbeats 4000000 in
theorem s_116 {kt : Nat → Option mc_E} {T : wq_T} {H : wq_H} {r0 : Nat} {a1 : Int} {a2 : Int} (hW : WT T H) (g0 : T.2.2.2 r0 = some 27) (i1 : 0 ≤ a1 ∧ a1 ≤ 19999) (i2 : (-2147483648) ≤ a2 ∧ a2 ≤ 2147483647) : wpc kt 3 116 [.ref r0, vI a1, vI a2] T H (q_116 r0 a1 a2 T H) := by
  refine wp_enter e116 (Nat.le_of_ble_eq_true rfl) rfl ?_
  show wp _ _ 116 0 [(0, .ref r0), (1, vI a1), (2, vI a2)] [] _ H _
  refine wp_of e116 c116_0 (rw_iconst (pc' := 1) rfl ?_)
  refine wp_of e116 c116_1 (rw_istore_n (pc' := 2) (z := 0) (L' := [(3, vI 0), (0, .ref r0), (1, vI a1), (2, vI a2)]) rfl rfl rfl ?_)
  refine wp_of e116 c116_2 (rw_iconst (pc' := 3) rfl ?_)
  refine wp_of e116 c116_3 (rw_istore (pc' := 5) (z := 0) (L' := [(4, vI 0), (3, vI 0), (0, .ref r0), (1, vI a1), (2, vI a2)]) rfl rfl rfl ?_)
  have lp33103 : ∀ (n33104 : Nat) (v33106 : Int) (v33107 : Int), (0 ≤ v33106 ∧ v33106 ≤ 6) → (0 ≤ v33107 ∧ v33107 ≤ 16777215) → (6 - v33106).toNat = n33104 → wp kt 2 116 5 [(4, vI v33106), (3, vI v33107), (0, .ref r0), (1, vI a1), (2, vI a2)] [] T H (q_116 r0 a1 a2 T H) := by
    intro n33104
    induction n33104 using Nat.strongRecOn with
    | _ n33104 ih33105 =>
      intro v33106 v33107 b33110 b33111 m33112
      refine wp_of e116 c116_5 (rw_iload (pc' := 7) (z := v33106) rfl rfl ?_)
      refine wp_of e116 c116_7 (rw_aload_n (pc' := 8) (v := .ref r0) rfl rfl rfl ?_)
      refine wp_of e116 c116_8 (xg_I (pc' := 11) lf_4_75 hW g0 sh_27 (by decide) (by decide) ty_27_10 rfl rfl (fun b33113 b33114 => ?_))
      refine wp_of e116 c116_11 (rw_icmp_ge (p1 := 41) (p2 := 14) (by decide) rfl ⟨by omega, by omega⟩ ⟨by omega, by omega⟩ (fun c33115 => ?_) (fun c33115 => ?_))
      · refine wp_of e116 c116_41 (rw_iload_n (pc' := 42) (z := v33107) rfl rfl ?_)
        exact wp_ireturn e116 c116_42 rfl ⟨rfl, rfl, v33107, rfl, ⟨by omega, by omega⟩⟩
      · refine wp_of e116 c116_14 (rw_aload_n (pc' := 15) (v := .ref r0) rfl rfl rfl ?_)
        refine wp_of e116 c116_15 (rw_iload_n (pc' := 16) (z := a1) rfl rfl ?_)
        refine wp_of e116 c116_16 (rw_iload (pc' := 18) (z := v33106) rfl rfl ?_)
        refine wp_of e116 c116_18 (xc_S (pc' := 21) (as := [.ref r0, vI a1, vI v33106]) (st := []) (lm_4_132) rfl rfl (Nat.le_of_ble_eq_true rfl) rfl (by decide) (s_111 hW g0 ⟨by omega, by omega⟩ ⟨by omega, by omega⟩) (fun R33116 T33117 H33118 p33119 => ?_))
        obtain ⟨e33120, e33122, z33123, e33121, b33124⟩ := p33119
        subst e33120
        subst e33121
        subst e33122
        show wp _ _ 116 21 [(4, vI v33106), (3, vI v33107), (0, .ref r0), (1, vI a1), (2, vI a2)] [vI z33123] _ H _
        refine wp_of e116 c116_21 (rw_iload_n (pc' := 22) (z := a2) rfl rfl ?_)
        refine wp_of e116 c116_22 (xc_S (pc' := 25) (as := [vI z33123, vI a2]) (st := []) (lm_4_122) rfl rfl (Nat.le_of_ble_eq_true rfl) rfl (by decide) (s_36 hW ⟨by omega, by omega⟩ ⟨by omega, by omega⟩) (fun R33125 T33126 H33127 p33128 => ?_))
        obtain ⟨e33129, e33131, z33132, e33130, b33133⟩ := p33128
        subst e33129
        subst e33130
        subst e33131
        show wp _ _ 116 25 [(4, vI v33106), (3, vI v33107), (0, .ref r0), (1, vI a1), (2, vI a2)] [vI z33132] _ H _
        refine wp_of e116 c116_25 (rw_if_eq (p1 := 35) (p2 := 28) (by decide) rfl ⟨by omega, by omega⟩ (fun c33134 => ?_) (fun c33134 => ?_))
        · refine wp_of e116 c116_35 (rw_iinc (pc' := 38) (z := v33106) (L' := [(4, vI (v33106 + 1)), (3, vI v33107), (0, .ref r0), (1, vI a1), (2, vI a2)]) rfl rfl rfl rfl ?_)
          refine wp_of e116 c116_38 (rw_goto (p1 := 5) (by decide) ?_)
          exact wp_lc (ks := [4, 3, 0, 1, 2]) (wl_c rfl (wl_c rfl (wl_c rfl (wl_c rfl (wl_c rfl wl_n))))) rfl (by decide) (ih33105 _ (by omega) (v33106 + 1) v33107 ⟨by omega, by omega⟩ ⟨by omega, by omega⟩ rfl)
        · refine wp_of e116 c116_28 (rw_iload_n (pc' := 29) (z := v33107) rfl rfl ?_)
          refine wp_of e116 c116_29 (rw_iconst (pc' := 30) rfl ?_)
          refine wp_of e116 c116_30 (rw_iload (pc' := 32) (z := v33106) rfl rfl ?_)
          refine wp_of e116 c116_32 (rw_ishl (pc' := 33) rfl ?_)
          obtain ⟨v33135, e33136⟩ : ∃ x : Int, x = wq_shl 1 v33106 := ⟨_, rfl⟩
          rw [← e33136]
          have b33137 : 1 ≤ v33135 ∧ v33135 ≤ 64 := by
            rw [e33136]
            exact wq_shl1_6 ⟨by omega, by omega⟩
          refine wp_of e116 c116_33 (rw_ior (pc' := 34) rfl ?_)
          obtain ⟨v33138, e33139⟩ : ∃ x : Int, x = wq_or v33107 v33135 := ⟨_, rfl⟩
          rw [← e33139]
          have b33140 : 0 ≤ v33138 ∧ v33138 ≤ 16777215 := by
            rw [e33139]
            exact wq_or_24 ⟨by omega, by omega⟩ ⟨by omega, by omega⟩
          refine wp_of e116 c116_34 (rw_istore_n (pc' := 35) (z := v33138) (L' := [(3, vI v33138), (4, vI v33106), (0, .ref r0), (1, vI a1), (2, vI a2)]) rfl rfl rfl ?_)
          refine wp_of e116 c116_35 (rw_iinc (pc' := 38) (z := v33106) (L' := [(4, vI (v33106 + 1)), (3, vI v33138), (0, .ref r0), (1, vI a1), (2, vI a2)]) rfl rfl rfl rfl ?_)
          refine wp_of e116 c116_38 (rw_goto (p1 := 5) (by decide) ?_)
          exact wp_lc (ks := [4, 3, 0, 1, 2]) (wl_c rfl (wl_c rfl (wl_c rfl (wl_c rfl (wl_c rfl wl_n))))) rfl (by decide) (ih33105 _ (by omega) (v33106 + 1) v33138 ⟨by omega, by omega⟩ ⟨by omega, by omega⟩ rfl)
  exact wp_lc (ks := [4, 3, 0, 1, 2]) (wl_c rfl (wl_c rfl (wl_c rfl (wl_c rfl (wl_c rfl wl_n))))) rfl (by decide) (lp33103 _ 0 0 ⟨by omega, by omega⟩ ⟨by omega, by omega⟩ rfl)
