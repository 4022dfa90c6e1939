/-! what methods do (own work, written by wip/gen3/sx3.py) -/
/-! StrikeAwake$Parish.linesOf(LStrikeAwake$Reserved;)I 16 -/
abbrev uq_21_16 (r0 : Nat) (T : wq_T) (H : wq_H) : Option Value → wq_T → wq_H → Prop := fun r T' H' => T = T' ∧ H = H' ∧ ∃ z : Int, some (vI z) = r ∧ ((-2147483648) ≤ z ∧ z ≤ 2147483647) ∧ (((z = 1) ∧ (0 < H r0 7)) ∨ ((z = 0) ∧ (H r0 7 ≤ 0)))
set_option maxHeartbeats 4000000 in
theorem u_21_16 {kt : Nat → Option mc_E} {T : wq_T} {H : wq_H} {r0 : Nat} (hW : WT T H) (g0 : T.2.2.2 r0 = some 27) : wpc kt 1 21 [.ref r0, .ref 16] T H (uq_21_16 r0 T H) := by
  refine wp_enter e21 (Nat.le_of_ble_eq_true rfl) rfl ?_
  show wp _ _ 21 0 [(0, .ref r0), (1, .ref 16)] [] _ H _
  refine wp_of e21 c21_0 (rw_gs (pc' := 3) (k := 2) rfl rfl rfl rfl ?_)
  refine wp_of e21 c21_3 (rw_aload_n (pc' := 4) (v := .ref 16) rfl rfl rfl ?_)
  refine wp_of e21 c21_4 (rw_ord (pc' := 7) rfl rfl rfl (by decide) (Nat.le_of_ble_eq_true rfl) rfl ?_)
  show wp _ _ 21 7 [(0, .ref r0), (1, .ref 16)] [vI 0, .ref 2] _ H _
  have k6 : H 2 (0 : Int).toNat = 1 := (hW.2 2 _ hW.1.2.1).2.2 0 (by decide) |> fun z => by have z1 : (1 : Int) ≤ H 2 0 ∧ H 2 0 ≤ 1 := z; exact Int.le_antisymm z1.2 z1.1
  refine wp_of e21 c21_7 (rw_iaload (pc' := 8) (n := 11) (hW.sh hW.1.2.1 rfl) (by decide) (by decide) (by decide) rfl rfl ?_)
  rw [k6]
  refine wp_of e21 c21_8 (rw_tsw (p1 := 56) ⟨by omega, by omega⟩ (by decide) ?_)
  refine wp_of e21 c21_56 (rw_aload_n (pc' := 57) (v := .ref r0) rfl rfl rfl ?_)
  refine wp_of e21 c21_57 (xg_I (pc' := 60) lf_7_41 hW g0 sh_27 (by decide) (by decide) ty_27_7 rfl rfl (fun b8 b9 => ?_))
  refine wp_of e21 c21_60 (rw_if_le (p1 := 67) (p2 := 63) (by decide) rfl ⟨by omega, by omega⟩ (fun c10 => ?_) (fun c10 => ?_))
  · refine wp_of e21 c21_67 (rw_iconst (pc' := 68) rfl ?_)
    exact wp_ireturn e21 c21_68 rfl ⟨rfl, rfl, 0, rfl, ⟨by omega, by omega⟩, (Or.inr ⟨by omega, by omega⟩)⟩
  · refine wp_of e21 c21_63 (rw_iconst (pc' := 64) rfl ?_)
    refine wp_of e21 c21_64 (rw_goto (p1 := 68) (by decide) ?_)
    exact wp_ireturn e21 c21_68 rfl ⟨rfl, rfl, 1, rfl, ⟨by omega, by omega⟩, (Or.inl ⟨by omega, by omega⟩)⟩
/-! StrikeAwake$Parish.linesOf(LStrikeAwake$Reserved;)I 17 -/
abbrev uq_21_17 (r0 : Nat) (T : wq_T) (H : wq_H) : Option Value → wq_T → wq_H → Prop := fun r T' H' => T = T' ∧ H = H' ∧ ∃ z : Int, some (vI z) = r ∧ ((-2147483648) ≤ z ∧ z ≤ 2147483647) ∧ (((0 ≤ z ∧ z ≤ 6) ∧ (z = H r0 10)))
set_option maxHeartbeats 4000000 in
theorem u_21_17 {kt : Nat → Option mc_E} {T : wq_T} {H : wq_H} {r0 : Nat} (hW : WT T H) (g0 : T.2.2.2 r0 = some 27) : wpc kt 1 21 [.ref r0, .ref 17] T H (uq_21_17 r0 T H) := by
  refine wp_enter e21 (Nat.le_of_ble_eq_true rfl) rfl ?_
  show wp _ _ 21 0 [(0, .ref r0), (1, .ref 17)] [] _ H _
  refine wp_of e21 c21_0 (rw_gs (pc' := 3) (k := 2) rfl rfl rfl rfl ?_)
  refine wp_of e21 c21_3 (rw_aload_n (pc' := 4) (v := .ref 17) rfl rfl rfl ?_)
  refine wp_of e21 c21_4 (rw_ord (pc' := 7) rfl rfl rfl (by decide) (Nat.le_of_ble_eq_true rfl) rfl ?_)
  show wp _ _ 21 7 [(0, .ref r0), (1, .ref 17)] [vI 1, .ref 2] _ H _
  have k5 : H 2 (1 : Int).toNat = 2 := (hW.2 2 _ hW.1.2.1).2.2 1 (by decide) |> fun z => by have z1 : (2 : Int) ≤ H 2 1 ∧ H 2 1 ≤ 2 := z; exact Int.le_antisymm z1.2 z1.1
  refine wp_of e21 c21_7 (rw_iaload (pc' := 8) (n := 11) (hW.sh hW.1.2.1 rfl) (by decide) (by decide) (by decide) rfl rfl ?_)
  rw [k5]
  refine wp_of e21 c21_8 (rw_tsw (p1 := 69) ⟨by omega, by omega⟩ (by decide) ?_)
  refine wp_of e21 c21_69 (rw_aload_n (pc' := 70) (v := .ref r0) rfl rfl rfl ?_)
  refine wp_of e21 c21_70 (xg_I (pc' := 73) lf_7_50 hW g0 sh_27 (by decide) (by decide) ty_27_10 rfl rfl (fun b7 b8 => ?_))
  exact wp_ireturn e21 c21_73 rfl ⟨rfl, rfl, H r0 10, rfl, ⟨by omega, by omega⟩, ⟨by omega, by omega⟩⟩
/-! StrikeAwake$Parish.linesOf(LStrikeAwake$Reserved;)I 18 -/
abbrev uq_21_18 (r0 : Nat) (T : wq_T) (H : wq_H) : Option Value → wq_T → wq_H → Prop := fun r T' H' => T = T' ∧ H = H' ∧ ∃ z : Int, some (vI z) = r ∧ ((-2147483648) ≤ z ∧ z ≤ 2147483647) ∧ (((z = 1) ∧ (0 ≤ H r0 15)) ∨ ((z = 0) ∧ (H r0 15 < 0)))
set_option maxHeartbeats 4000000 in
theorem u_21_18 {kt : Nat → Option mc_E} {T : wq_T} {H : wq_H} {r0 : Nat} (hW : WT T H) (g0 : T.2.2.2 r0 = some 27) : wpc kt 1 21 [.ref r0, .ref 18] T H (uq_21_18 r0 T H) := by
  refine wp_enter e21 (Nat.le_of_ble_eq_true rfl) rfl ?_
  show wp _ _ 21 0 [(0, .ref r0), (1, .ref 18)] [] _ H _
  refine wp_of e21 c21_0 (rw_gs (pc' := 3) (k := 2) rfl rfl rfl rfl ?_)
  refine wp_of e21 c21_3 (rw_aload_n (pc' := 4) (v := .ref 18) rfl rfl rfl ?_)
  refine wp_of e21 c21_4 (rw_ord (pc' := 7) rfl rfl rfl (by decide) (Nat.le_of_ble_eq_true rfl) rfl ?_)
  show wp _ _ 21 7 [(0, .ref r0), (1, .ref 18)] [vI 2, .ref 2] _ H _
  have k6 : H 2 (2 : Int).toNat = 3 := (hW.2 2 _ hW.1.2.1).2.2 2 (by decide) |> fun z => by have z1 : (3 : Int) ≤ H 2 2 ∧ H 2 2 ≤ 3 := z; exact Int.le_antisymm z1.2 z1.1
  refine wp_of e21 c21_7 (rw_iaload (pc' := 8) (n := 11) (hW.sh hW.1.2.1 rfl) (by decide) (by decide) (by decide) rfl rfl ?_)
  rw [k6]
  refine wp_of e21 c21_8 (rw_tsw (p1 := 74) ⟨by omega, by omega⟩ (by decide) ?_)
  refine wp_of e21 c21_74 (rw_aload_n (pc' := 75) (v := .ref r0) rfl rfl rfl ?_)
  refine wp_of e21 c21_75 (xg_I (pc' := 78) lf_7_37 hW g0 sh_27 (by decide) (by decide) ty_27_15 rfl rfl (fun b8 b9 => ?_))
  refine wp_of e21 c21_78 (rw_if_lt (p1 := 85) (p2 := 81) (by decide) rfl ⟨by omega, by omega⟩ (fun c10 => ?_) (fun c10 => ?_))
  · refine wp_of e21 c21_85 (rw_iconst (pc' := 86) rfl ?_)
    exact wp_ireturn e21 c21_86 rfl ⟨rfl, rfl, 0, rfl, ⟨by omega, by omega⟩, (Or.inr ⟨by omega, by omega⟩)⟩
  · refine wp_of e21 c21_81 (rw_iconst (pc' := 82) rfl ?_)
    refine wp_of e21 c21_82 (rw_goto (p1 := 86) (by decide) ?_)
    exact wp_ireturn e21 c21_86 rfl ⟨rfl, rfl, 1, rfl, ⟨by omega, by omega⟩, (Or.inl ⟨by omega, by omega⟩)⟩
/-! StrikeAwake$Parish.linesOf(LStrikeAwake$Reserved;)I 19 -/
abbrev uq_21_19 (r0 : Nat) (T : wq_T) (H : wq_H) : Option Value → wq_T → wq_H → Prop := fun r T' H' => T = T' ∧ H = H' ∧ ∃ z : Int, some (vI z) = r ∧ ((-2147483648) ≤ z ∧ z ≤ 2147483647) ∧ (((-2147483648 ≤ z ∧ z ≤ 2147483647) ∧ (z = H r0 11)))
set_option maxHeartbeats 4000000 in
theorem u_21_19 {kt : Nat → Option mc_E} {T : wq_T} {H : wq_H} {r0 : Nat} (hW : WT T H) (g0 : T.2.2.2 r0 = some 27) : wpc kt 1 21 [.ref r0, .ref 19] T H (uq_21_19 r0 T H) := by
  refine wp_enter e21 (Nat.le_of_ble_eq_true rfl) rfl ?_
  show wp _ _ 21 0 [(0, .ref r0), (1, .ref 19)] [] _ H _
  refine wp_of e21 c21_0 (rw_gs (pc' := 3) (k := 2) rfl rfl rfl rfl ?_)
  refine wp_of e21 c21_3 (rw_aload_n (pc' := 4) (v := .ref 19) rfl rfl rfl ?_)
  refine wp_of e21 c21_4 (rw_ord (pc' := 7) rfl rfl rfl (by decide) (Nat.le_of_ble_eq_true rfl) rfl ?_)
  show wp _ _ 21 7 [(0, .ref r0), (1, .ref 19)] [vI 3, .ref 2] _ H _
  have k5 : H 2 (3 : Int).toNat = 4 := (hW.2 2 _ hW.1.2.1).2.2 3 (by decide) |> fun z => by have z1 : (4 : Int) ≤ H 2 3 ∧ H 2 3 ≤ 4 := z; exact Int.le_antisymm z1.2 z1.1
  refine wp_of e21 c21_7 (rw_iaload (pc' := 8) (n := 11) (hW.sh hW.1.2.1 rfl) (by decide) (by decide) (by decide) rfl rfl ?_)
  rw [k5]
  refine wp_of e21 c21_8 (rw_tsw (p1 := 87) ⟨by omega, by omega⟩ (by decide) ?_)
  refine wp_of e21 c21_87 (rw_aload_n (pc' := 88) (v := .ref r0) rfl rfl rfl ?_)
  refine wp_of e21 c21_88 (xg_I (pc' := 91) lf_7_53 hW g0 sh_27 (by decide) (by decide) ty_27_11 rfl rfl (fun b7 b8 => ?_))
  exact wp_ireturn e21 c21_91 rfl ⟨rfl, rfl, H r0 11, rfl, ⟨by omega, by omega⟩, ⟨by omega, by omega⟩⟩
/-! StrikeAwake$Parish.linesOf(LStrikeAwake$Reserved;)I 20 -/
abbrev uq_21_20 (r0 : Nat) (T : wq_T) (H : wq_H) : Option Value → wq_T → wq_H → Prop := fun r T' H' => T = T' ∧ H = H' ∧ ∃ z : Int, some (vI z) = r ∧ ((-2147483648) ≤ z ∧ z ≤ 2147483647) ∧ (((0 ≤ z ∧ z ≤ 3) ∧ (z = H r0 12)))
set_option maxHeartbeats 4000000 in
theorem u_21_20 {kt : Nat → Option mc_E} {T : wq_T} {H : wq_H} {r0 : Nat} (hW : WT T H) (g0 : T.2.2.2 r0 = some 27) : wpc kt 1 21 [.ref r0, .ref 20] T H (uq_21_20 r0 T H) := by
  refine wp_enter e21 (Nat.le_of_ble_eq_true rfl) rfl ?_
  show wp _ _ 21 0 [(0, .ref r0), (1, .ref 20)] [] _ H _
  refine wp_of e21 c21_0 (rw_gs (pc' := 3) (k := 2) rfl rfl rfl rfl ?_)
  refine wp_of e21 c21_3 (rw_aload_n (pc' := 4) (v := .ref 20) rfl rfl rfl ?_)
  refine wp_of e21 c21_4 (rw_ord (pc' := 7) rfl rfl rfl (by decide) (Nat.le_of_ble_eq_true rfl) rfl ?_)
  show wp _ _ 21 7 [(0, .ref r0), (1, .ref 20)] [vI 4, .ref 2] _ H _
  have k5 : H 2 (4 : Int).toNat = 5 := (hW.2 2 _ hW.1.2.1).2.2 4 (by decide) |> fun z => by have z1 : (5 : Int) ≤ H 2 4 ∧ H 2 4 ≤ 5 := z; exact Int.le_antisymm z1.2 z1.1
  refine wp_of e21 c21_7 (rw_iaload (pc' := 8) (n := 11) (hW.sh hW.1.2.1 rfl) (by decide) (by decide) (by decide) rfl rfl ?_)
  rw [k5]
  refine wp_of e21 c21_8 (rw_tsw (p1 := 92) ⟨by omega, by omega⟩ (by decide) ?_)
  refine wp_of e21 c21_92 (rw_aload_n (pc' := 93) (v := .ref r0) rfl rfl rfl ?_)
  refine wp_of e21 c21_93 (xg_I (pc' := 96) lf_7_56 hW g0 sh_27 (by decide) (by decide) ty_27_12 rfl rfl (fun b7 b8 => ?_))
  exact wp_ireturn e21 c21_96 rfl ⟨rfl, rfl, H r0 12, rfl, ⟨by omega, by omega⟩, ⟨by omega, by omega⟩⟩
/-! StrikeAwake$Parish.linesOf(LStrikeAwake$Reserved;)I 21 -/
abbrev uq_21_21 (r0 : Nat) (T : wq_T) (H : wq_H) : Option Value → wq_T → wq_H → Prop := fun r T' H' => T = T' ∧ H = H' ∧ ∃ z : Int, some (vI z) = r ∧ ((-2147483648) ≤ z ∧ z ≤ 2147483647) ∧ (((0 ≤ z ∧ z ≤ 24) ∧ (z = H r0 16)))
set_option maxHeartbeats 4000000 in
theorem u_21_21 {kt : Nat → Option mc_E} {T : wq_T} {H : wq_H} {r0 : Nat} (hW : WT T H) (g0 : T.2.2.2 r0 = some 27) : wpc kt 1 21 [.ref r0, .ref 21] T H (uq_21_21 r0 T H) := by
  refine wp_enter e21 (Nat.le_of_ble_eq_true rfl) rfl ?_
  show wp _ _ 21 0 [(0, .ref r0), (1, .ref 21)] [] _ H _
  refine wp_of e21 c21_0 (rw_gs (pc' := 3) (k := 2) rfl rfl rfl rfl ?_)
  refine wp_of e21 c21_3 (rw_aload_n (pc' := 4) (v := .ref 21) rfl rfl rfl ?_)
  refine wp_of e21 c21_4 (rw_ord (pc' := 7) rfl rfl rfl (by decide) (Nat.le_of_ble_eq_true rfl) rfl ?_)
  show wp _ _ 21 7 [(0, .ref r0), (1, .ref 21)] [vI 5, .ref 2] _ H _
  have k5 : H 2 (5 : Int).toNat = 6 := (hW.2 2 _ hW.1.2.1).2.2 5 (by decide) |> fun z => by have z1 : (6 : Int) ≤ H 2 5 ∧ H 2 5 ≤ 6 := z; exact Int.le_antisymm z1.2 z1.1
  refine wp_of e21 c21_7 (rw_iaload (pc' := 8) (n := 11) (hW.sh hW.1.2.1 rfl) (by decide) (by decide) (by decide) rfl rfl ?_)
  rw [k5]
  refine wp_of e21 c21_8 (rw_tsw (p1 := 97) ⟨by omega, by omega⟩ (by decide) ?_)
  refine wp_of e21 c21_97 (rw_aload_n (pc' := 98) (v := .ref r0) rfl rfl rfl ?_)
  refine wp_of e21 c21_98 (xg_I (pc' := 101) lf_7_65 hW g0 sh_27 (by decide) (by decide) ty_27_16 rfl rfl (fun b7 b8 => ?_))
  exact wp_ireturn e21 c21_101 rfl ⟨rfl, rfl, H r0 16, rfl, ⟨by omega, by omega⟩, ⟨by omega, by omega⟩⟩
/-! StrikeAwake$Parish.linesOf(LStrikeAwake$Reserved;)I 22 -/
abbrev uq_21_22 (r0 : Nat) (T : wq_T) (H : wq_H) : Option Value → wq_T → wq_H → Prop := fun r T' H' => T = T' ∧ H = H' ∧ ∃ z : Int, some (vI z) = r ∧ ((-2147483648) ≤ z ∧ z ≤ 2147483647) ∧ (((0 ≤ z ∧ z ≤ 4) ∧ (z = H r0 13)))
set_option maxHeartbeats 4000000 in
theorem u_21_22 {kt : Nat → Option mc_E} {T : wq_T} {H : wq_H} {r0 : Nat} (hW : WT T H) (g0 : T.2.2.2 r0 = some 27) : wpc kt 1 21 [.ref r0, .ref 22] T H (uq_21_22 r0 T H) := by
  refine wp_enter e21 (Nat.le_of_ble_eq_true rfl) rfl ?_
  show wp _ _ 21 0 [(0, .ref r0), (1, .ref 22)] [] _ H _
  refine wp_of e21 c21_0 (rw_gs (pc' := 3) (k := 2) rfl rfl rfl rfl ?_)
  refine wp_of e21 c21_3 (rw_aload_n (pc' := 4) (v := .ref 22) rfl rfl rfl ?_)
  refine wp_of e21 c21_4 (rw_ord (pc' := 7) rfl rfl rfl (by decide) (Nat.le_of_ble_eq_true rfl) rfl ?_)
  show wp _ _ 21 7 [(0, .ref r0), (1, .ref 22)] [vI 6, .ref 2] _ H _
  have k5 : H 2 (6 : Int).toNat = 7 := (hW.2 2 _ hW.1.2.1).2.2 6 (by decide) |> fun z => by have z1 : (7 : Int) ≤ H 2 6 ∧ H 2 6 ≤ 7 := z; exact Int.le_antisymm z1.2 z1.1
  refine wp_of e21 c21_7 (rw_iaload (pc' := 8) (n := 11) (hW.sh hW.1.2.1 rfl) (by decide) (by decide) (by decide) rfl rfl ?_)
  rw [k5]
  refine wp_of e21 c21_8 (rw_tsw (p1 := 102) ⟨by omega, by omega⟩ (by decide) ?_)
  refine wp_of e21 c21_102 (rw_aload_n (pc' := 103) (v := .ref r0) rfl rfl rfl ?_)
  refine wp_of e21 c21_103 (xg_I (pc' := 106) lf_7_59 hW g0 sh_27 (by decide) (by decide) ty_27_13 rfl rfl (fun b7 b8 => ?_))
  exact wp_ireturn e21 c21_106 rfl ⟨rfl, rfl, H r0 13, rfl, ⟨by omega, by omega⟩, ⟨by omega, by omega⟩⟩
/-! StrikeAwake$Parish.linesOf(LStrikeAwake$Reserved;)I 23 -/
abbrev uq_21_23 (r0 : Nat) (T : wq_T) (H : wq_H) : Option Value → wq_T → wq_H → Prop := fun r T' H' => T = T' ∧ H = H' ∧ ∃ z : Int, some (vI z) = r ∧ ((-2147483648) ≤ z ∧ z ≤ 2147483647) ∧ (((0 ≤ z ∧ z ≤ 6) ∧ (z = H r0 14)))
set_option maxHeartbeats 4000000 in
theorem u_21_23 {kt : Nat → Option mc_E} {T : wq_T} {H : wq_H} {r0 : Nat} (hW : WT T H) (g0 : T.2.2.2 r0 = some 27) : wpc kt 1 21 [.ref r0, .ref 23] T H (uq_21_23 r0 T H) := by
  refine wp_enter e21 (Nat.le_of_ble_eq_true rfl) rfl ?_
  show wp _ _ 21 0 [(0, .ref r0), (1, .ref 23)] [] _ H _
  refine wp_of e21 c21_0 (rw_gs (pc' := 3) (k := 2) rfl rfl rfl rfl ?_)
  refine wp_of e21 c21_3 (rw_aload_n (pc' := 4) (v := .ref 23) rfl rfl rfl ?_)
  refine wp_of e21 c21_4 (rw_ord (pc' := 7) rfl rfl rfl (by decide) (Nat.le_of_ble_eq_true rfl) rfl ?_)
  show wp _ _ 21 7 [(0, .ref r0), (1, .ref 23)] [vI 7, .ref 2] _ H _
  have k5 : H 2 (7 : Int).toNat = 8 := (hW.2 2 _ hW.1.2.1).2.2 7 (by decide) |> fun z => by have z1 : (8 : Int) ≤ H 2 7 ∧ H 2 7 ≤ 8 := z; exact Int.le_antisymm z1.2 z1.1
  refine wp_of e21 c21_7 (rw_iaload (pc' := 8) (n := 11) (hW.sh hW.1.2.1 rfl) (by decide) (by decide) (by decide) rfl rfl ?_)
  rw [k5]
  refine wp_of e21 c21_8 (rw_tsw (p1 := 107) ⟨by omega, by omega⟩ (by decide) ?_)
  refine wp_of e21 c21_107 (rw_aload_n (pc' := 108) (v := .ref r0) rfl rfl rfl ?_)
  refine wp_of e21 c21_108 (xg_I (pc' := 111) lf_7_62 hW g0 sh_27 (by decide) (by decide) ty_27_14 rfl rfl (fun b7 b8 => ?_))
  exact wp_ireturn e21 c21_111 rfl ⟨rfl, rfl, H r0 14, rfl, ⟨by omega, by omega⟩, ⟨by omega, by omega⟩⟩
/-! StrikeAwake$Reader.readsLaw(LStrikeAwake$Parish;)Z  -/
abbrev uq_22 (r0 : Nat) (r1 : Nat) (tk : Nat) (rb : Nat) (B : Nat → Int) (n : Int) (q : Int) (d : xD) (T : wq_T) (H : wq_H) : Option Value → wq_T → wq_H → Prop := fun r T' H' => T = T' ∧ WT T H' ∧ wfr [(27, 7), (27, 8), (27, 9), (3, 3), (3, 4), (4, 2), (4, 3), (4, 4), (4, 5), (4, 6)] T H H' ∧ ∃ z : Int, some (vI z) = r ∧ (0 ≤ z ∧ z ≤ 1) ∧ (((z = 1) ∧ ((xlaw B n q).1 = 0) ∧ (xlaw B n q = (0, q, (xN B n (xN B n (xN B n (xN B n (xN B n (xN B n q)))))))) ∧ (q ≤ (xN B n (xN B n (xN B n (xN B n (xN B n (xN B n q))))))) ∧ (H' r0 3 = H r0 3) ∧ TC T H' tk B n (xN B n (xN B n (xN B n (xN B n (xN B n (xN B n q)))))) ∧ DC T H' r1 (xdlaw B n q d)) ∨ ((z = 0) ∧ ((xlaw B n q).1 ≠ 0) ∧ ((xlaw B n q).2.2 = (xlaw B n q).2.1) ∧ (H' r0 3 = (xlaw B n q).1) ∧ (H' r0 4 = (xlaw B n q).2.1)))
set_option maxHeartbeats 4000000 in
theorem u_22 {kt : Nat → Option mc_E} {T : wq_T} {H : wq_H} {r0 : Nat} {r1 : Nat} {tk : Nat} {rb : Nat} {B : Nat → Int} {n : Int} {q : Int} {d : xD} (hW : WT T H) (g0 : T.2.2.2 r0 = some 3) (g1 : T.2.2.2 r1 = some 27) (qtk : H r0 0 = (tk : Int)) (gtk : T.2.2.2 tk = some 4) (qrb : H tk 0 = (rb : Int)) (grb : T.2.2.2 rb = some 2) (hTC_tk : TC T H tk B n q) (hDC_r1 : DC T H r1 d) : wpc kt 3 22 [.ref r0, .ref r1] T H (uq_22 r0 r1 tk rb B n q d T H) := by
  refine wp_enter e22 (Nat.le_of_ble_eq_true rfl) rfl ?_
  have f0 : wfr [(27, 7), (27, 8), (27, 9), (3, 3), (3, 4), (4, 2), (4, 3), (4, 4), (4, 5), (4, 6)] T H H := wfr.rf
  show wp _ _ 22 0 [(0, .ref r0), (1, .ref r1)] [] _ H _
  have u186 := TC_k hTC_tk
  have u187 := DC_k hDC_r1
  refine wp_of e22 c22_0 (rw_aload_n (pc' := 1) (v := .ref r0) rfl rfl rfl ?_)
  refine wp_of e22 c22_1 (rw_ldcS (pc' := 3) (k := 64) rfl rfl rfl rfl ?_)
  refine wp_of e22 c22_3 (xc_V (pc' := 6) (r := r0) (as := [.ref 64]) (st := []) (lm_1_115) rfl rfl (Nat.le_of_ble_eq_true rfl) hW g0 sh_3 (by decide) rfl (by decide) (u_23 (B := B) (n := n) (q := q) (kk := 8902227) hW g0 rfl qtk gtk qrb grb (by decide +kernel) hTC_tk) (fun R188 T189 H190 p191 => ?_))
  obtain ⟨e192, w194, f195, z196, e193, b197, p198⟩ := p191
  subst e192
  subst e193
  rcases p198 with ⟨a199, a200, a201, a202⟩ | ⟨a203, a204, a205, a206⟩
  · have f207 := f0.tr f195 rfl
    show wp _ _ 22 6 [(0, .ref r0), (1, .ref r1)] [vI z196] _ H190 _
    have u208 := TC_k a202
    refine wp_of e22 c22_6 (rw_if_eq (p1 := 19) (p2 := 9) (by decide) rfl ⟨by omega, by omega⟩ (fun c209 => ?_) (fun c209 => ?_))
    · exfalso
      omega
    · refine wp_of e22 c22_9 (rw_aload_n (pc' := 10) (v := .ref r0) rfl rfl rfl ?_)
      refine wp_of e22 c22_10 (rw_iconst (pc' := 11) rfl ?_)
      refine wp_of e22 c22_11 (rw_bipush (pc' := 13) (z := 24) rfl (by decide) ?_)
      have k210 : H190 r0 0 = H r0 0 := (f195 r0 0 _ g0 rfl)
      have q211 : H190 r0 0 = (tk : Int) := k210.trans qtk
      have k212 : H190 tk 0 = H tk 0 := (f195 tk 0 _ gtk rfl)
      have q213 : H190 tk 0 = (rb : Int) := k212.trans qrb
      refine wp_of e22 c22_13 (xc_V (pc' := 16) (r := r0) (as := [vI 1, vI 24]) (st := []) (lm_1_119) rfl rfl (Nat.le_of_ble_eq_true rfl) w194 g0 sh_3 (by decide) rfl (by decide) (u_24 (B := B) (n := n) (q := ((xN B n q))) (lo := 1) (hi := 24) w194 g0 ⟨by omega, by omega⟩ ⟨by omega, by omega⟩ q211 gtk q213 grb (by omega) (by omega) a202) (fun R214 T215 H216 p217 => ?_))
      obtain ⟨e218, w220, f221, z222, e219, b223, p224⟩ := p217
      subst e218
      subst e219
      rcases p224 with ⟨a225, a226, a227, a228, a229⟩ | ⟨a230, a231, a232, a233⟩
      · have f234 := f207.tr f221 rfl
        show wp _ _ 22 16 [(0, .ref r0), (1, .ref r1)] [vI z222] _ H216 _
        have u235 := TC_k a229
        refine wp_of e22 c22_16 (rw_goto (p1 := 20) (by decide) ?_)
        refine wp_of e22 c22_20 (rw_istore_n (pc' := 21) (z := z222) (L' := [(2, vI z222), (0, .ref r0), (1, .ref r1)]) rfl rfl rfl ?_)
        refine wp_of e22 c22_21 (rw_iload_n (pc' := 22) (z := z222) rfl rfl ?_)
        refine wp_of e22 c22_22 (rw_if_lt (p1 := 44) (p2 := 25) (by decide) rfl ⟨by omega, by omega⟩ (fun c236 => ?_) (fun c236 => ?_))
        · exfalso
          omega
        · refine wp_of e22 c22_25 (rw_aload_n (pc' := 26) (v := .ref r0) rfl rfl rfl ?_)
          refine wp_of e22 c22_26 (rw_ldcS (pc' := 28) (k := 65) rfl rfl rfl rfl ?_)
          have k237 : H216 r0 0 = H190 r0 0 := (f221 r0 0 _ g0 rfl)
          have q238 : H216 r0 0 = (tk : Int) := k237.trans q211
          have k239 : H216 tk 0 = H190 tk 0 := (f221 tk 0 _ gtk rfl)
          have q240 : H216 tk 0 = (rb : Int) := k239.trans q213
          refine wp_of e22 c22_28 (xc_V (pc' := 31) (r := r0) (as := [.ref 65]) (st := []) (lm_1_115) rfl rfl (Nat.le_of_ble_eq_true rfl) w220 g0 sh_3 (by decide) rfl (by decide) (u_23 (B := B) (n := n) (q := ((xN B n ((xN B n q))))) (kk := 72983685) w220 g0 rfl q238 gtk q240 grb (by decide +kernel) a229) (fun R241 T242 H243 p244 => ?_))
          obtain ⟨e245, w247, f248, z249, e246, b250, p251⟩ := p244
          subst e245
          subst e246
          rcases p251 with ⟨a252, a253, a254, a255⟩ | ⟨a256, a257, a258, a259⟩
          · have f260 := f234.tr f248 rfl
            show wp _ _ 22 31 [(2, vI z222), (0, .ref r0), (1, .ref r1)] [vI z249] _ H243 _
            have u261 := TC_k a255
            refine wp_of e22 c22_31 (rw_if_eq (p1 := 44) (p2 := 34) (by decide) rfl ⟨by omega, by omega⟩ (fun c262 => ?_) (fun c262 => ?_))
            · exfalso
              omega
            · refine wp_of e22 c22_34 (rw_aload_n (pc' := 35) (v := .ref r0) rfl rfl rfl ?_)
              refine wp_of e22 c22_35 (rw_iconst (pc' := 36) rfl ?_)
              refine wp_of e22 c22_36 (rw_bipush (pc' := 38) (z := 9) rfl (by decide) ?_)
              have k263 : H243 r0 0 = H216 r0 0 := (f248 r0 0 _ g0 rfl)
              have q264 : H243 r0 0 = (tk : Int) := k263.trans q238
              have k265 : H243 tk 0 = H216 tk 0 := (f248 tk 0 _ gtk rfl)
              have q266 : H243 tk 0 = (rb : Int) := k265.trans q240
              refine wp_of e22 c22_38 (xc_V (pc' := 41) (r := r0) (as := [vI 0, vI 9]) (st := []) (lm_1_119) rfl rfl (Nat.le_of_ble_eq_true rfl) w247 g0 sh_3 (by decide) rfl (by decide) (u_24 (B := B) (n := n) (q := ((xN B n ((xN B n ((xN B n q))))))) (lo := 0) (hi := 9) w247 g0 ⟨by omega, by omega⟩ ⟨by omega, by omega⟩ q264 gtk q266 grb (by omega) (by omega) a255) (fun R267 T268 H269 p270 => ?_))
              obtain ⟨e271, w273, f274, z275, e272, b276, p277⟩ := p270
              subst e271
              subst e272
              rcases p277 with ⟨a278, a279, a280, a281, a282⟩ | ⟨a283, a284, a285, a286⟩
              · have f287 := f260.tr f274 rfl
                show wp _ _ 22 41 [(2, vI z222), (0, .ref r0), (1, .ref r1)] [vI z275] _ H269 _
                have u288 := TC_k a282
                refine wp_of e22 c22_41 (rw_goto (p1 := 45) (by decide) ?_)
                refine wp_of e22 c22_45 (rw_istore_n (pc' := 46) (z := z275) (L' := [(3, vI z275), (2, vI z222), (0, .ref r0), (1, .ref r1)]) rfl rfl rfl ?_)
                refine wp_of e22 c22_46 (rw_iload_n (pc' := 47) (z := z275) rfl rfl ?_)
                refine wp_of e22 c22_47 (rw_if_lt (p1 := 68) (p2 := 50) (by decide) rfl ⟨by omega, by omega⟩ (fun c289 => ?_) (fun c289 => ?_))
                · exfalso
                  omega
                · refine wp_of e22 c22_50 (rw_aload_n (pc' := 51) (v := .ref r0) rfl rfl rfl ?_)
                  refine wp_of e22 c22_51 (rw_ldcS (pc' := 53) (k := 66) rfl rfl rfl rfl ?_)
                  have k290 : H269 r0 0 = H243 r0 0 := (f274 r0 0 _ g0 rfl)
                  have q291 : H269 r0 0 = (tk : Int) := k290.trans q264
                  have k292 : H269 tk 0 = H243 tk 0 := (f274 tk 0 _ gtk rfl)
                  have q293 : H269 tk 0 = (rb : Int) := k292.trans q266
                  refine wp_of e22 c22_53 (xc_V (pc' := 56) (r := r0) (as := [.ref 66]) (st := []) (lm_1_115) rfl rfl (Nat.le_of_ble_eq_true rfl) w273 g0 sh_3 (by decide) rfl (by decide) (u_23 (B := B) (n := n) (q := ((xN B n ((xN B n ((xN B n ((xN B n q))))))))) (kk := 15558) w273 g0 rfl q291 gtk q293 grb (by decide +kernel) a282) (fun R294 T295 H296 p297 => ?_))
                  obtain ⟨e298, w300, f301, z302, e299, b303, p304⟩ := p297
                  subst e298
                  subst e299
                  rcases p304 with ⟨a305, a306, a307, a308⟩ | ⟨a309, a310, a311, a312⟩
                  · have f313 := f287.tr f301 rfl
                    show wp _ _ 22 56 [(3, vI z275), (2, vI z222), (0, .ref r0), (1, .ref r1)] [vI z302] _ H296 _
                    have u314 := TC_k a308
                    refine wp_of e22 c22_56 (rw_if_eq (p1 := 68) (p2 := 59) (by decide) rfl ⟨by omega, by omega⟩ (fun c315 => ?_) (fun c315 => ?_))
                    · exfalso
                      omega
                    · refine wp_of e22 c22_59 (rw_aload_n (pc' := 60) (v := .ref r0) rfl rfl rfl ?_)
                      refine wp_of e22 c22_60 (rw_iconst (pc' := 61) rfl ?_)
                      refine wp_of e22 c22_61 (rw_iconst (pc' := 62) rfl ?_)
                      have k316 : H296 r0 0 = H269 r0 0 := (f301 r0 0 _ g0 rfl)
                      have q317 : H296 r0 0 = (tk : Int) := k316.trans q291
                      have k318 : H296 tk 0 = H269 tk 0 := (f301 tk 0 _ gtk rfl)
                      have q319 : H296 tk 0 = (rb : Int) := k318.trans q293
                      refine wp_of e22 c22_62 (xc_V (pc' := 65) (r := r0) (as := [vI 0, vI 3]) (st := []) (lm_1_119) rfl rfl (Nat.le_of_ble_eq_true rfl) w300 g0 sh_3 (by decide) rfl (by decide) (u_24 (B := B) (n := n) (q := ((xN B n ((xN B n ((xN B n ((xN B n ((xN B n q))))))))))) (lo := 0) (hi := 3) w300 g0 ⟨by omega, by omega⟩ ⟨by omega, by omega⟩ q317 gtk q319 grb (by omega) (by omega) a308) (fun R320 T321 H322 p323 => ?_))
                      obtain ⟨e324, w326, f327, z328, e325, b329, p330⟩ := p323
                      subst e324
                      subst e325
                      rcases p330 with ⟨a331, a332, a333, a334, a335⟩ | ⟨a336, a337, a338, a339⟩
                      · have f340 := f313.tr f327 rfl
                        show wp _ _ 22 65 [(3, vI z275), (2, vI z222), (0, .ref r0), (1, .ref r1)] [vI z328] _ H322 _
                        have u341 := TC_k a335
                        refine wp_of e22 c22_65 (rw_goto (p1 := 69) (by decide) ?_)
                        refine wp_of e22 c22_69 (rw_istore (pc' := 71) (z := z328) (L' := [(4, vI z328), (3, vI z275), (2, vI z222), (0, .ref r0), (1, .ref r1)]) rfl rfl rfl ?_)
                        refine wp_of e22 c22_71 (rw_iload (pc' := 73) (z := z328) rfl rfl ?_)
                        refine wp_of e22 c22_73 (rw_if_ge (p1 := 78) (p2 := 76) (by decide) rfl ⟨by omega, by omega⟩ (fun c342 => ?_) (fun c342 => ?_))
                        · refine wp_of e22 c22_78 (rw_aload_n (pc' := 79) (v := .ref r1) rfl rfl rfl ?_)
                          refine wp_of e22 c22_79 (rw_iload_n (pc' := 80) (z := z222) rfl rfl ?_)
                          refine wp_of e22 c22_80 (xp_I (pc' := 83) lf_1_41 w326 g1 sh_27 (by decide) (by decide) ty_27_7 rfl rfl (by omega) (by omega) ⟨by omega, by omega⟩ rfl (fun H343 e344 w345 => ?_))
                          have f346 := f340.put' e344 g1 rfl
                          have k347 : H343 r1 7 = z222 := wq_u_s e344
                          refine wp_of e22 c22_83 (rw_aload_n (pc' := 84) (v := .ref r1) rfl rfl rfl ?_)
                          refine wp_of e22 c22_84 (rw_iload_n (pc' := 85) (z := z275) rfl rfl ?_)
                          refine wp_of e22 c22_85 (xp_I (pc' := 88) lf_1_127 w345 g1 sh_27 (by decide) (by decide) ty_27_8 rfl rfl (by omega) (by omega) ⟨by omega, by omega⟩ rfl (fun H348 e349 w350 => ?_))
                          have f351 := f346.put' e349 g1 rfl
                          have k352 : H348 r1 8 = z275 := wq_u_s e349
                          refine wp_of e22 c22_88 (rw_aload_n (pc' := 89) (v := .ref r1) rfl rfl rfl ?_)
                          refine wp_of e22 c22_89 (rw_iload (pc' := 91) (z := z328) rfl rfl ?_)
                          refine wp_of e22 c22_91 (xp_I (pc' := 94) lf_1_129 w350 g1 sh_27 (by decide) (by decide) ty_27_9 rfl rfl (by omega) (by omega) ⟨by omega, by omega⟩ rfl (fun H353 e354 w355 => ?_))
                          have f356 := f351.put' e354 g1 rfl
                          have k357 : H353 r1 9 = z328 := wq_u_s e354
                          refine wp_of e22 c22_94 (rw_iconst (pc' := 95) rfl ?_)
                          have k358 : H353 r0 3 = H322 r0 3 := ((wq_u_t e354 g1 g0 rfl 3).trans ((wq_u_t e349 g1 g0 rfl 3).trans (wq_u_t e344 g1 g0 rfl 3)))
                          have k359 : H353 r1 7 = H343 r1 7 := ((wq_u_j e354 rfl).trans (wq_u_j e349 rfl))
                          have k360 : H353 r1 8 = H348 r1 8 := (wq_u_j e354 rfl)
                          have k361 : H353 r1 10 = H r1 10 := ((wq_u_j e354 rfl).trans ((wq_u_j e349 rfl).trans ((wq_u_j e344 rfl).trans ((f327 r1 10 _ g1 rfl).trans ((f301 r1 10 _ g1 rfl).trans ((f274 r1 10 _ g1 rfl).trans ((f248 r1 10 _ g1 rfl).trans ((f221 r1 10 _ g1 rfl).trans (f195 r1 10 _ g1 rfl)))))))))
                          have k362 : H353 r1 11 = H r1 11 := ((wq_u_j e354 rfl).trans ((wq_u_j e349 rfl).trans ((wq_u_j e344 rfl).trans ((f327 r1 11 _ g1 rfl).trans ((f301 r1 11 _ g1 rfl).trans ((f274 r1 11 _ g1 rfl).trans ((f248 r1 11 _ g1 rfl).trans ((f221 r1 11 _ g1 rfl).trans (f195 r1 11 _ g1 rfl)))))))))
                          have k363 : H353 r1 12 = H r1 12 := ((wq_u_j e354 rfl).trans ((wq_u_j e349 rfl).trans ((wq_u_j e344 rfl).trans ((f327 r1 12 _ g1 rfl).trans ((f301 r1 12 _ g1 rfl).trans ((f274 r1 12 _ g1 rfl).trans ((f248 r1 12 _ g1 rfl).trans ((f221 r1 12 _ g1 rfl).trans (f195 r1 12 _ g1 rfl)))))))))
                          have k364 : H353 r1 13 = H r1 13 := ((wq_u_j e354 rfl).trans ((wq_u_j e349 rfl).trans ((wq_u_j e344 rfl).trans ((f327 r1 13 _ g1 rfl).trans ((f301 r1 13 _ g1 rfl).trans ((f274 r1 13 _ g1 rfl).trans ((f248 r1 13 _ g1 rfl).trans ((f221 r1 13 _ g1 rfl).trans (f195 r1 13 _ g1 rfl)))))))))
                          have k365 : H353 r1 14 = H r1 14 := ((wq_u_j e354 rfl).trans ((wq_u_j e349 rfl).trans ((wq_u_j e344 rfl).trans ((f327 r1 14 _ g1 rfl).trans ((f301 r1 14 _ g1 rfl).trans ((f274 r1 14 _ g1 rfl).trans ((f248 r1 14 _ g1 rfl).trans ((f221 r1 14 _ g1 rfl).trans (f195 r1 14 _ g1 rfl)))))))))
                          have k366 : H353 r1 15 = H r1 15 := ((wq_u_j e354 rfl).trans ((wq_u_j e349 rfl).trans ((wq_u_j e344 rfl).trans ((f327 r1 15 _ g1 rfl).trans ((f301 r1 15 _ g1 rfl).trans ((f274 r1 15 _ g1 rfl).trans ((f248 r1 15 _ g1 rfl).trans ((f221 r1 15 _ g1 rfl).trans (f195 r1 15 _ g1 rfl)))))))))
                          have k367 : H353 r1 16 = H r1 16 := ((wq_u_j e354 rfl).trans ((wq_u_j e349 rfl).trans ((wq_u_j e344 rfl).trans ((f327 r1 16 _ g1 rfl).trans ((f301 r1 16 _ g1 rfl).trans ((f274 r1 16 _ g1 rfl).trans ((f248 r1 16 _ g1 rfl).trans ((f221 r1 16 _ g1 rfl).trans (f195 r1 16 _ g1 rfl)))))))))
                          have o368 : (xlaw B n q) = (0, q, (xN B n ((xN B n ((xN B n ((xN B n ((xN B n ((xN B n q)))))))))))) := by
                            unfold xlaw
                            repeat first | rw [xs_0 (by omega)] | rw [xs_1 (by omega)] | rw [if_pos (by omega)] | rw [if_neg (by omega)]
                            first | done | rfl | assumption | (exfalso; omega) | (refine Prod.ext ?_ (Prod.ext ?_ ?_) <;> (try dsimp only) <;> omega)
                          have o368a : ((xlaw B n q)).1 = 0 := by rw [o368]
                          have o368b : ((xlaw B n q)).2.1 = q := by rw [o368]
                          have o368c : ((xlaw B n q)).2.2 = (xN B n ((xN B n ((xN B n ((xN B n ((xN B n ((xN B n q))))))))))) := by rw [o368]
                          have _l := @xdlaw_v B n q d
                          have h369 : TC T H353 tk B n (xN B n ((xN B n ((xN B n ((xN B n ((xN B n ((xN B n q))))))))))) := (TC_fr w350 gtk ((wfr.rf (l := [(27, 9)])).put' e354 g1 rfl) rfl (TC_fr w345 gtk ((wfr.rf (l := [(27, 8)])).put' e349 g1 rfl) rfl (TC_fr w326 gtk ((wfr.rf (l := [(27, 7)])).put' e344 g1 rfl) rfl a335)))
                          exact wp_zreturn e22 c22_95 rfl (by omega) ⟨rfl, w355, f356, 1, rfl, ⟨by omega, by omega⟩, (Or.inl ⟨by omega, by omega, o368, by omega, by omega, h369, DC_cnt hW g1 hDC_r1 f356 rfl (fun i h => xdlaw_r h) ⟨by omega, by omega, by omega, by omega, by omega⟩ ⟨by omega, by omega, by omega, by omega, by omega, by omega, by omega, by omega, by omega, by omega, by omega, by omega, by omega, by omega, by omega, by omega⟩⟩)⟩
                        · exfalso
                          omega
                      · have f370 := f313.tr f327 rfl
                        show wp _ _ 22 65 [(3, vI z275), (2, vI z222), (0, .ref r0), (1, .ref r1)] [vI z328] _ H322 _
                        refine wp_of e22 c22_65 (rw_goto (p1 := 69) (by decide) ?_)
                        refine wp_of e22 c22_69 (rw_istore (pc' := 71) (z := z328) (L' := [(4, vI z328), (3, vI z275), (2, vI z222), (0, .ref r0), (1, .ref r1)]) rfl rfl rfl ?_)
                        refine wp_of e22 c22_71 (rw_iload (pc' := 73) (z := z328) rfl rfl ?_)
                        refine wp_of e22 c22_73 (rw_if_ge (p1 := 78) (p2 := 76) (by decide) rfl ⟨by omega, by omega⟩ (fun c371 => ?_) (fun c371 => ?_))
                        · exfalso
                          omega
                        · refine wp_of e22 c22_76 (rw_iconst (pc' := 77) rfl ?_)
                          have k372 : H322 r1 7 = H r1 7 := ((f327 r1 7 _ g1 rfl).trans ((f301 r1 7 _ g1 rfl).trans ((f274 r1 7 _ g1 rfl).trans ((f248 r1 7 _ g1 rfl).trans ((f221 r1 7 _ g1 rfl).trans (f195 r1 7 _ g1 rfl))))))
                          have k373 : H322 r1 8 = H r1 8 := ((f327 r1 8 _ g1 rfl).trans ((f301 r1 8 _ g1 rfl).trans ((f274 r1 8 _ g1 rfl).trans ((f248 r1 8 _ g1 rfl).trans ((f221 r1 8 _ g1 rfl).trans (f195 r1 8 _ g1 rfl))))))
                          have k374 : H322 r1 9 = H r1 9 := ((f327 r1 9 _ g1 rfl).trans ((f301 r1 9 _ g1 rfl).trans ((f274 r1 9 _ g1 rfl).trans ((f248 r1 9 _ g1 rfl).trans ((f221 r1 9 _ g1 rfl).trans (f195 r1 9 _ g1 rfl))))))
                          have k375 : H322 r1 10 = H r1 10 := ((f327 r1 10 _ g1 rfl).trans ((f301 r1 10 _ g1 rfl).trans ((f274 r1 10 _ g1 rfl).trans ((f248 r1 10 _ g1 rfl).trans ((f221 r1 10 _ g1 rfl).trans (f195 r1 10 _ g1 rfl))))))
                          have k376 : H322 r1 11 = H r1 11 := ((f327 r1 11 _ g1 rfl).trans ((f301 r1 11 _ g1 rfl).trans ((f274 r1 11 _ g1 rfl).trans ((f248 r1 11 _ g1 rfl).trans ((f221 r1 11 _ g1 rfl).trans (f195 r1 11 _ g1 rfl))))))
                          have k377 : H322 r1 12 = H r1 12 := ((f327 r1 12 _ g1 rfl).trans ((f301 r1 12 _ g1 rfl).trans ((f274 r1 12 _ g1 rfl).trans ((f248 r1 12 _ g1 rfl).trans ((f221 r1 12 _ g1 rfl).trans (f195 r1 12 _ g1 rfl))))))
                          have k378 : H322 r1 13 = H r1 13 := ((f327 r1 13 _ g1 rfl).trans ((f301 r1 13 _ g1 rfl).trans ((f274 r1 13 _ g1 rfl).trans ((f248 r1 13 _ g1 rfl).trans ((f221 r1 13 _ g1 rfl).trans (f195 r1 13 _ g1 rfl))))))
                          have k379 : H322 r1 14 = H r1 14 := ((f327 r1 14 _ g1 rfl).trans ((f301 r1 14 _ g1 rfl).trans ((f274 r1 14 _ g1 rfl).trans ((f248 r1 14 _ g1 rfl).trans ((f221 r1 14 _ g1 rfl).trans (f195 r1 14 _ g1 rfl))))))
                          have k380 : H322 r1 15 = H r1 15 := ((f327 r1 15 _ g1 rfl).trans ((f301 r1 15 _ g1 rfl).trans ((f274 r1 15 _ g1 rfl).trans ((f248 r1 15 _ g1 rfl).trans ((f221 r1 15 _ g1 rfl).trans (f195 r1 15 _ g1 rfl))))))
                          have k381 : H322 r1 16 = H r1 16 := ((f327 r1 16 _ g1 rfl).trans ((f301 r1 16 _ g1 rfl).trans ((f274 r1 16 _ g1 rfl).trans ((f248 r1 16 _ g1 rfl).trans ((f221 r1 16 _ g1 rfl).trans (f195 r1 16 _ g1 rfl))))))
                          have o382 : (xlaw B n q) = (xh B n ((xN B n ((xN B n ((xN B n ((xN B n ((xN B n q)))))))))) 0 3, ((xN B n ((xN B n ((xN B n ((xN B n ((xN B n q)))))))))), ((xN B n ((xN B n ((xN B n ((xN B n ((xN B n q))))))))))) := by
                            unfold xlaw
                            repeat first | rw [xs_0 (by omega)] | rw [xs_1 (by omega)] | rw [if_pos (by omega)] | rw [if_neg (by omega)]
                            first | done | rfl | assumption | (exfalso; omega) | (refine Prod.ext ?_ (Prod.ext ?_ ?_) <;> (try dsimp only) <;> omega)
                          have o382a : ((xlaw B n q)).1 = xh B n ((xN B n ((xN B n ((xN B n ((xN B n ((xN B n q)))))))))) 0 3 := by rw [o382]
                          have o382b : ((xlaw B n q)).2.1 = ((xN B n ((xN B n ((xN B n ((xN B n ((xN B n q)))))))))) := by rw [o382]
                          have o382c : ((xlaw B n q)).2.2 = ((xN B n ((xN B n ((xN B n ((xN B n ((xN B n q)))))))))) := by rw [o382]
                          have _l := @xdlaw_v B n q d
                          exact wp_zreturn e22 c22_77 rfl (by omega) ⟨rfl, w326, f370, 0, rfl, ⟨by omega, by omega⟩, (Or.inr ⟨by omega, by omega, by omega, by omega, by omega⟩)⟩
                  · have f383 := f287.tr f301 rfl
                    show wp _ _ 22 56 [(3, vI z275), (2, vI z222), (0, .ref r0), (1, .ref r1)] [vI z302] _ H296 _
                    refine wp_of e22 c22_56 (rw_if_eq (p1 := 68) (p2 := 59) (by decide) rfl ⟨by omega, by omega⟩ (fun c384 => ?_) (fun c384 => ?_))
                    · refine wp_of e22 c22_68 (rw_iconst (pc' := 69) rfl ?_)
                      refine wp_of e22 c22_69 (rw_istore (pc' := 71) (z := -1) (L' := [(4, vI (-1)), (3, vI z275), (2, vI z222), (0, .ref r0), (1, .ref r1)]) rfl rfl rfl ?_)
                      refine wp_of e22 c22_71 (rw_iload (pc' := 73) (z := -1) rfl rfl ?_)
                      refine wp_of e22 c22_73 (rw_if_ge (p1 := 78) (p2 := 76) (by decide) rfl ⟨by omega, by omega⟩ (fun c385 => ?_) (fun c385 => ?_))
                      · exfalso
                        omega
                      · refine wp_of e22 c22_76 (rw_iconst (pc' := 77) rfl ?_)
                        have k386 : H296 r1 7 = H r1 7 := ((f301 r1 7 _ g1 rfl).trans ((f274 r1 7 _ g1 rfl).trans ((f248 r1 7 _ g1 rfl).trans ((f221 r1 7 _ g1 rfl).trans (f195 r1 7 _ g1 rfl)))))
                        have k387 : H296 r1 8 = H r1 8 := ((f301 r1 8 _ g1 rfl).trans ((f274 r1 8 _ g1 rfl).trans ((f248 r1 8 _ g1 rfl).trans ((f221 r1 8 _ g1 rfl).trans (f195 r1 8 _ g1 rfl)))))
                        have k388 : H296 r1 9 = H r1 9 := ((f301 r1 9 _ g1 rfl).trans ((f274 r1 9 _ g1 rfl).trans ((f248 r1 9 _ g1 rfl).trans ((f221 r1 9 _ g1 rfl).trans (f195 r1 9 _ g1 rfl)))))
                        have k389 : H296 r1 10 = H r1 10 := ((f301 r1 10 _ g1 rfl).trans ((f274 r1 10 _ g1 rfl).trans ((f248 r1 10 _ g1 rfl).trans ((f221 r1 10 _ g1 rfl).trans (f195 r1 10 _ g1 rfl)))))
                        have k390 : H296 r1 11 = H r1 11 := ((f301 r1 11 _ g1 rfl).trans ((f274 r1 11 _ g1 rfl).trans ((f248 r1 11 _ g1 rfl).trans ((f221 r1 11 _ g1 rfl).trans (f195 r1 11 _ g1 rfl)))))
                        have k391 : H296 r1 12 = H r1 12 := ((f301 r1 12 _ g1 rfl).trans ((f274 r1 12 _ g1 rfl).trans ((f248 r1 12 _ g1 rfl).trans ((f221 r1 12 _ g1 rfl).trans (f195 r1 12 _ g1 rfl)))))
                        have k392 : H296 r1 13 = H r1 13 := ((f301 r1 13 _ g1 rfl).trans ((f274 r1 13 _ g1 rfl).trans ((f248 r1 13 _ g1 rfl).trans ((f221 r1 13 _ g1 rfl).trans (f195 r1 13 _ g1 rfl)))))
                        have k393 : H296 r1 14 = H r1 14 := ((f301 r1 14 _ g1 rfl).trans ((f274 r1 14 _ g1 rfl).trans ((f248 r1 14 _ g1 rfl).trans ((f221 r1 14 _ g1 rfl).trans (f195 r1 14 _ g1 rfl)))))
                        have k394 : H296 r1 15 = H r1 15 := ((f301 r1 15 _ g1 rfl).trans ((f274 r1 15 _ g1 rfl).trans ((f248 r1 15 _ g1 rfl).trans ((f221 r1 15 _ g1 rfl).trans (f195 r1 15 _ g1 rfl)))))
                        have k395 : H296 r1 16 = H r1 16 := ((f301 r1 16 _ g1 rfl).trans ((f274 r1 16 _ g1 rfl).trans ((f248 r1 16 _ g1 rfl).trans ((f221 r1 16 _ g1 rfl).trans (f195 r1 16 _ g1 rfl)))))
                        have o396 : (xlaw B n q) = (xw B n ((xN B n ((xN B n ((xN B n ((xN B n q)))))))) 15558, ((xN B n ((xN B n ((xN B n ((xN B n q)))))))), ((xN B n ((xN B n ((xN B n ((xN B n q))))))))) := by
                          unfold xlaw
                          repeat first | rw [xs_0 (by omega)] | rw [xs_1 (by omega)] | rw [if_pos (by omega)] | rw [if_neg (by omega)]
                          first | done | rfl | assumption | (exfalso; omega) | (refine Prod.ext ?_ (Prod.ext ?_ ?_) <;> (try dsimp only) <;> omega)
                        have o396a : ((xlaw B n q)).1 = xw B n ((xN B n ((xN B n ((xN B n ((xN B n q)))))))) 15558 := by rw [o396]
                        have o396b : ((xlaw B n q)).2.1 = ((xN B n ((xN B n ((xN B n ((xN B n q)))))))) := by rw [o396]
                        have o396c : ((xlaw B n q)).2.2 = ((xN B n ((xN B n ((xN B n ((xN B n q)))))))) := by rw [o396]
                        have _l := @xdlaw_v B n q d
                        exact wp_zreturn e22 c22_77 rfl (by omega) ⟨rfl, w300, f383, 0, rfl, ⟨by omega, by omega⟩, (Or.inr ⟨by omega, by omega, by omega, by omega, by omega⟩)⟩
                    · exfalso
                      omega
              · have f397 := f260.tr f274 rfl
                show wp _ _ 22 41 [(2, vI z222), (0, .ref r0), (1, .ref r1)] [vI z275] _ H269 _
                refine wp_of e22 c22_41 (rw_goto (p1 := 45) (by decide) ?_)
                refine wp_of e22 c22_45 (rw_istore_n (pc' := 46) (z := z275) (L' := [(3, vI z275), (2, vI z222), (0, .ref r0), (1, .ref r1)]) rfl rfl rfl ?_)
                refine wp_of e22 c22_46 (rw_iload_n (pc' := 47) (z := z275) rfl rfl ?_)
                refine wp_of e22 c22_47 (rw_if_lt (p1 := 68) (p2 := 50) (by decide) rfl ⟨by omega, by omega⟩ (fun c398 => ?_) (fun c398 => ?_))
                · refine wp_of e22 c22_68 (rw_iconst (pc' := 69) rfl ?_)
                  refine wp_of e22 c22_69 (rw_istore (pc' := 71) (z := -1) (L' := [(4, vI (-1)), (3, vI z275), (2, vI z222), (0, .ref r0), (1, .ref r1)]) rfl rfl rfl ?_)
                  refine wp_of e22 c22_71 (rw_iload (pc' := 73) (z := -1) rfl rfl ?_)
                  refine wp_of e22 c22_73 (rw_if_ge (p1 := 78) (p2 := 76) (by decide) rfl ⟨by omega, by omega⟩ (fun c399 => ?_) (fun c399 => ?_))
                  · exfalso
                    omega
                  · refine wp_of e22 c22_76 (rw_iconst (pc' := 77) rfl ?_)
                    have k400 : H269 r1 7 = H r1 7 := ((f274 r1 7 _ g1 rfl).trans ((f248 r1 7 _ g1 rfl).trans ((f221 r1 7 _ g1 rfl).trans (f195 r1 7 _ g1 rfl))))
                    have k401 : H269 r1 8 = H r1 8 := ((f274 r1 8 _ g1 rfl).trans ((f248 r1 8 _ g1 rfl).trans ((f221 r1 8 _ g1 rfl).trans (f195 r1 8 _ g1 rfl))))
                    have k402 : H269 r1 9 = H r1 9 := ((f274 r1 9 _ g1 rfl).trans ((f248 r1 9 _ g1 rfl).trans ((f221 r1 9 _ g1 rfl).trans (f195 r1 9 _ g1 rfl))))
                    have k403 : H269 r1 10 = H r1 10 := ((f274 r1 10 _ g1 rfl).trans ((f248 r1 10 _ g1 rfl).trans ((f221 r1 10 _ g1 rfl).trans (f195 r1 10 _ g1 rfl))))
                    have k404 : H269 r1 11 = H r1 11 := ((f274 r1 11 _ g1 rfl).trans ((f248 r1 11 _ g1 rfl).trans ((f221 r1 11 _ g1 rfl).trans (f195 r1 11 _ g1 rfl))))
                    have k405 : H269 r1 12 = H r1 12 := ((f274 r1 12 _ g1 rfl).trans ((f248 r1 12 _ g1 rfl).trans ((f221 r1 12 _ g1 rfl).trans (f195 r1 12 _ g1 rfl))))
                    have k406 : H269 r1 13 = H r1 13 := ((f274 r1 13 _ g1 rfl).trans ((f248 r1 13 _ g1 rfl).trans ((f221 r1 13 _ g1 rfl).trans (f195 r1 13 _ g1 rfl))))
                    have k407 : H269 r1 14 = H r1 14 := ((f274 r1 14 _ g1 rfl).trans ((f248 r1 14 _ g1 rfl).trans ((f221 r1 14 _ g1 rfl).trans (f195 r1 14 _ g1 rfl))))
                    have k408 : H269 r1 15 = H r1 15 := ((f274 r1 15 _ g1 rfl).trans ((f248 r1 15 _ g1 rfl).trans ((f221 r1 15 _ g1 rfl).trans (f195 r1 15 _ g1 rfl))))
                    have k409 : H269 r1 16 = H r1 16 := ((f274 r1 16 _ g1 rfl).trans ((f248 r1 16 _ g1 rfl).trans ((f221 r1 16 _ g1 rfl).trans (f195 r1 16 _ g1 rfl))))
                    have o410 : (xlaw B n q) = (xh B n ((xN B n ((xN B n ((xN B n q)))))) 0 9, ((xN B n ((xN B n ((xN B n q)))))), ((xN B n ((xN B n ((xN B n q))))))) := by
                      unfold xlaw
                      repeat first | rw [xs_0 (by omega)] | rw [xs_1 (by omega)] | rw [if_pos (by omega)] | rw [if_neg (by omega)]
                      first | done | rfl | assumption | (exfalso; omega) | (refine Prod.ext ?_ (Prod.ext ?_ ?_) <;> (try dsimp only) <;> omega)
                    have o410a : ((xlaw B n q)).1 = xh B n ((xN B n ((xN B n ((xN B n q)))))) 0 9 := by rw [o410]
                    have o410b : ((xlaw B n q)).2.1 = ((xN B n ((xN B n ((xN B n q)))))) := by rw [o410]
                    have o410c : ((xlaw B n q)).2.2 = ((xN B n ((xN B n ((xN B n q)))))) := by rw [o410]
                    have _l := @xdlaw_v B n q d
                    exact wp_zreturn e22 c22_77 rfl (by omega) ⟨rfl, w273, f397, 0, rfl, ⟨by omega, by omega⟩, (Or.inr ⟨by omega, by omega, by omega, by omega, by omega⟩)⟩
                · exfalso
                  omega
          · have f411 := f234.tr f248 rfl
            show wp _ _ 22 31 [(2, vI z222), (0, .ref r0), (1, .ref r1)] [vI z249] _ H243 _
            refine wp_of e22 c22_31 (rw_if_eq (p1 := 44) (p2 := 34) (by decide) rfl ⟨by omega, by omega⟩ (fun c412 => ?_) (fun c412 => ?_))
            · refine wp_of e22 c22_44 (rw_iconst (pc' := 45) rfl ?_)
              refine wp_of e22 c22_45 (rw_istore_n (pc' := 46) (z := -1) (L' := [(3, vI (-1)), (2, vI z222), (0, .ref r0), (1, .ref r1)]) rfl rfl rfl ?_)
              refine wp_of e22 c22_46 (rw_iload_n (pc' := 47) (z := -1) rfl rfl ?_)
              refine wp_of e22 c22_47 (rw_if_lt (p1 := 68) (p2 := 50) (by decide) rfl ⟨by omega, by omega⟩ (fun c413 => ?_) (fun c413 => ?_))
              · refine wp_of e22 c22_68 (rw_iconst (pc' := 69) rfl ?_)
                refine wp_of e22 c22_69 (rw_istore (pc' := 71) (z := -1) (L' := [(4, vI (-1)), (3, vI (-1)), (2, vI z222), (0, .ref r0), (1, .ref r1)]) rfl rfl rfl ?_)
                refine wp_of e22 c22_71 (rw_iload (pc' := 73) (z := -1) rfl rfl ?_)
                refine wp_of e22 c22_73 (rw_if_ge (p1 := 78) (p2 := 76) (by decide) rfl ⟨by omega, by omega⟩ (fun c414 => ?_) (fun c414 => ?_))
                · exfalso
                  omega
                · refine wp_of e22 c22_76 (rw_iconst (pc' := 77) rfl ?_)
                  have k415 : H243 r1 7 = H r1 7 := ((f248 r1 7 _ g1 rfl).trans ((f221 r1 7 _ g1 rfl).trans (f195 r1 7 _ g1 rfl)))
                  have k416 : H243 r1 8 = H r1 8 := ((f248 r1 8 _ g1 rfl).trans ((f221 r1 8 _ g1 rfl).trans (f195 r1 8 _ g1 rfl)))
                  have k417 : H243 r1 9 = H r1 9 := ((f248 r1 9 _ g1 rfl).trans ((f221 r1 9 _ g1 rfl).trans (f195 r1 9 _ g1 rfl)))
                  have k418 : H243 r1 10 = H r1 10 := ((f248 r1 10 _ g1 rfl).trans ((f221 r1 10 _ g1 rfl).trans (f195 r1 10 _ g1 rfl)))
                  have k419 : H243 r1 11 = H r1 11 := ((f248 r1 11 _ g1 rfl).trans ((f221 r1 11 _ g1 rfl).trans (f195 r1 11 _ g1 rfl)))
                  have k420 : H243 r1 12 = H r1 12 := ((f248 r1 12 _ g1 rfl).trans ((f221 r1 12 _ g1 rfl).trans (f195 r1 12 _ g1 rfl)))
                  have k421 : H243 r1 13 = H r1 13 := ((f248 r1 13 _ g1 rfl).trans ((f221 r1 13 _ g1 rfl).trans (f195 r1 13 _ g1 rfl)))
                  have k422 : H243 r1 14 = H r1 14 := ((f248 r1 14 _ g1 rfl).trans ((f221 r1 14 _ g1 rfl).trans (f195 r1 14 _ g1 rfl)))
                  have k423 : H243 r1 15 = H r1 15 := ((f248 r1 15 _ g1 rfl).trans ((f221 r1 15 _ g1 rfl).trans (f195 r1 15 _ g1 rfl)))
                  have k424 : H243 r1 16 = H r1 16 := ((f248 r1 16 _ g1 rfl).trans ((f221 r1 16 _ g1 rfl).trans (f195 r1 16 _ g1 rfl)))
                  have o425 : (xlaw B n q) = (xw B n ((xN B n ((xN B n q)))) 72983685, ((xN B n ((xN B n q)))), ((xN B n ((xN B n q))))) := by
                    unfold xlaw
                    repeat first | rw [xs_0 (by omega)] | rw [xs_1 (by omega)] | rw [if_pos (by omega)] | rw [if_neg (by omega)]
                    first | done | rfl | assumption | (exfalso; omega) | (refine Prod.ext ?_ (Prod.ext ?_ ?_) <;> (try dsimp only) <;> omega)
                  have o425a : ((xlaw B n q)).1 = xw B n ((xN B n ((xN B n q)))) 72983685 := by rw [o425]
                  have o425b : ((xlaw B n q)).2.1 = ((xN B n ((xN B n q)))) := by rw [o425]
                  have o425c : ((xlaw B n q)).2.2 = ((xN B n ((xN B n q)))) := by rw [o425]
                  have _l := @xdlaw_v B n q d
                  exact wp_zreturn e22 c22_77 rfl (by omega) ⟨rfl, w247, f411, 0, rfl, ⟨by omega, by omega⟩, (Or.inr ⟨by omega, by omega, by omega, by omega, by omega⟩)⟩
              · exfalso
                omega
            · exfalso
              omega
      · have f426 := f207.tr f221 rfl
        show wp _ _ 22 16 [(0, .ref r0), (1, .ref r1)] [vI z222] _ H216 _
        refine wp_of e22 c22_16 (rw_goto (p1 := 20) (by decide) ?_)
        refine wp_of e22 c22_20 (rw_istore_n (pc' := 21) (z := z222) (L' := [(2, vI z222), (0, .ref r0), (1, .ref r1)]) rfl rfl rfl ?_)
        refine wp_of e22 c22_21 (rw_iload_n (pc' := 22) (z := z222) rfl rfl ?_)
        refine wp_of e22 c22_22 (rw_if_lt (p1 := 44) (p2 := 25) (by decide) rfl ⟨by omega, by omega⟩ (fun c427 => ?_) (fun c427 => ?_))
        · refine wp_of e22 c22_44 (rw_iconst (pc' := 45) rfl ?_)
          refine wp_of e22 c22_45 (rw_istore_n (pc' := 46) (z := -1) (L' := [(3, vI (-1)), (2, vI z222), (0, .ref r0), (1, .ref r1)]) rfl rfl rfl ?_)
          refine wp_of e22 c22_46 (rw_iload_n (pc' := 47) (z := -1) rfl rfl ?_)
          refine wp_of e22 c22_47 (rw_if_lt (p1 := 68) (p2 := 50) (by decide) rfl ⟨by omega, by omega⟩ (fun c428 => ?_) (fun c428 => ?_))
          · refine wp_of e22 c22_68 (rw_iconst (pc' := 69) rfl ?_)
            refine wp_of e22 c22_69 (rw_istore (pc' := 71) (z := -1) (L' := [(4, vI (-1)), (3, vI (-1)), (2, vI z222), (0, .ref r0), (1, .ref r1)]) rfl rfl rfl ?_)
            refine wp_of e22 c22_71 (rw_iload (pc' := 73) (z := -1) rfl rfl ?_)
            refine wp_of e22 c22_73 (rw_if_ge (p1 := 78) (p2 := 76) (by decide) rfl ⟨by omega, by omega⟩ (fun c429 => ?_) (fun c429 => ?_))
            · exfalso
              omega
            · refine wp_of e22 c22_76 (rw_iconst (pc' := 77) rfl ?_)
              have k430 : H216 r1 7 = H r1 7 := ((f221 r1 7 _ g1 rfl).trans (f195 r1 7 _ g1 rfl))
              have k431 : H216 r1 8 = H r1 8 := ((f221 r1 8 _ g1 rfl).trans (f195 r1 8 _ g1 rfl))
              have k432 : H216 r1 9 = H r1 9 := ((f221 r1 9 _ g1 rfl).trans (f195 r1 9 _ g1 rfl))
              have k433 : H216 r1 10 = H r1 10 := ((f221 r1 10 _ g1 rfl).trans (f195 r1 10 _ g1 rfl))
              have k434 : H216 r1 11 = H r1 11 := ((f221 r1 11 _ g1 rfl).trans (f195 r1 11 _ g1 rfl))
              have k435 : H216 r1 12 = H r1 12 := ((f221 r1 12 _ g1 rfl).trans (f195 r1 12 _ g1 rfl))
              have k436 : H216 r1 13 = H r1 13 := ((f221 r1 13 _ g1 rfl).trans (f195 r1 13 _ g1 rfl))
              have k437 : H216 r1 14 = H r1 14 := ((f221 r1 14 _ g1 rfl).trans (f195 r1 14 _ g1 rfl))
              have k438 : H216 r1 15 = H r1 15 := ((f221 r1 15 _ g1 rfl).trans (f195 r1 15 _ g1 rfl))
              have k439 : H216 r1 16 = H r1 16 := ((f221 r1 16 _ g1 rfl).trans (f195 r1 16 _ g1 rfl))
              have o440 : (xlaw B n q) = (xh B n ((xN B n q)) 1 24, ((xN B n q)), ((xN B n q))) := by
                unfold xlaw
                repeat first | rw [xs_0 (by omega)] | rw [xs_1 (by omega)] | rw [if_pos (by omega)] | rw [if_neg (by omega)]
                first | done | rfl | assumption | (exfalso; omega) | (refine Prod.ext ?_ (Prod.ext ?_ ?_) <;> (try dsimp only) <;> omega)
              have o440a : ((xlaw B n q)).1 = xh B n ((xN B n q)) 1 24 := by rw [o440]
              have o440b : ((xlaw B n q)).2.1 = ((xN B n q)) := by rw [o440]
              have o440c : ((xlaw B n q)).2.2 = ((xN B n q)) := by rw [o440]
              have _l := @xdlaw_v B n q d
              exact wp_zreturn e22 c22_77 rfl (by omega) ⟨rfl, w220, f426, 0, rfl, ⟨by omega, by omega⟩, (Or.inr ⟨by omega, by omega, by omega, by omega, by omega⟩)⟩
          · exfalso
            omega
        · exfalso
          omega
  · have f441 := f0.tr f195 rfl
    show wp _ _ 22 6 [(0, .ref r0), (1, .ref r1)] [vI z196] _ H190 _
    refine wp_of e22 c22_6 (rw_if_eq (p1 := 19) (p2 := 9) (by decide) rfl ⟨by omega, by omega⟩ (fun c442 => ?_) (fun c442 => ?_))
    · refine wp_of e22 c22_19 (rw_iconst (pc' := 20) rfl ?_)
      refine wp_of e22 c22_20 (rw_istore_n (pc' := 21) (z := -1) (L' := [(2, vI (-1)), (0, .ref r0), (1, .ref r1)]) rfl rfl rfl ?_)
      refine wp_of e22 c22_21 (rw_iload_n (pc' := 22) (z := -1) rfl rfl ?_)
      refine wp_of e22 c22_22 (rw_if_lt (p1 := 44) (p2 := 25) (by decide) rfl ⟨by omega, by omega⟩ (fun c443 => ?_) (fun c443 => ?_))
      · refine wp_of e22 c22_44 (rw_iconst (pc' := 45) rfl ?_)
        refine wp_of e22 c22_45 (rw_istore_n (pc' := 46) (z := -1) (L' := [(3, vI (-1)), (2, vI (-1)), (0, .ref r0), (1, .ref r1)]) rfl rfl rfl ?_)
        refine wp_of e22 c22_46 (rw_iload_n (pc' := 47) (z := -1) rfl rfl ?_)
        refine wp_of e22 c22_47 (rw_if_lt (p1 := 68) (p2 := 50) (by decide) rfl ⟨by omega, by omega⟩ (fun c444 => ?_) (fun c444 => ?_))
        · refine wp_of e22 c22_68 (rw_iconst (pc' := 69) rfl ?_)
          refine wp_of e22 c22_69 (rw_istore (pc' := 71) (z := -1) (L' := [(4, vI (-1)), (3, vI (-1)), (2, vI (-1)), (0, .ref r0), (1, .ref r1)]) rfl rfl rfl ?_)
          refine wp_of e22 c22_71 (rw_iload (pc' := 73) (z := -1) rfl rfl ?_)
          refine wp_of e22 c22_73 (rw_if_ge (p1 := 78) (p2 := 76) (by decide) rfl ⟨by omega, by omega⟩ (fun c445 => ?_) (fun c445 => ?_))
          · exfalso
            omega
          · refine wp_of e22 c22_76 (rw_iconst (pc' := 77) rfl ?_)
            have k446 : H190 r1 7 = H r1 7 := (f195 r1 7 _ g1 rfl)
            have k447 : H190 r1 8 = H r1 8 := (f195 r1 8 _ g1 rfl)
            have k448 : H190 r1 9 = H r1 9 := (f195 r1 9 _ g1 rfl)
            have k449 : H190 r1 10 = H r1 10 := (f195 r1 10 _ g1 rfl)
            have k450 : H190 r1 11 = H r1 11 := (f195 r1 11 _ g1 rfl)
            have k451 : H190 r1 12 = H r1 12 := (f195 r1 12 _ g1 rfl)
            have k452 : H190 r1 13 = H r1 13 := (f195 r1 13 _ g1 rfl)
            have k453 : H190 r1 14 = H r1 14 := (f195 r1 14 _ g1 rfl)
            have k454 : H190 r1 15 = H r1 15 := (f195 r1 15 _ g1 rfl)
            have k455 : H190 r1 16 = H r1 16 := (f195 r1 16 _ g1 rfl)
            have o456 : (xlaw B n q) = (xw B n q 8902227, q, q) := by
              unfold xlaw
              repeat first | rw [xs_0 (by omega)] | rw [xs_1 (by omega)] | rw [if_pos (by omega)] | rw [if_neg (by omega)]
              first | done | rfl | assumption | (exfalso; omega) | (refine Prod.ext ?_ (Prod.ext ?_ ?_) <;> (try dsimp only) <;> omega)
            have o456a : ((xlaw B n q)).1 = xw B n q 8902227 := by rw [o456]
            have o456b : ((xlaw B n q)).2.1 = q := by rw [o456]
            have o456c : ((xlaw B n q)).2.2 = q := by rw [o456]
            have _l := @xdlaw_v B n q d
            exact wp_zreturn e22 c22_77 rfl (by omega) ⟨rfl, w194, f441, 0, rfl, ⟨by omega, by omega⟩, (Or.inr ⟨by omega, by omega, by omega, by omega, by omega⟩)⟩
        · exfalso
          omega
      · exfalso
        omega
    · exfalso
      omega
/-! StrikeAwake$Reader.readsSexton(LStrikeAwake$Parish;)Z  -/
abbrev uq_32 (r0 : Nat) (r1 : Nat) (tk : Nat) (rb : Nat) (B : Nat → Int) (n : Int) (q : Int) (d : xD) (T : wq_T) (H : wq_H) : Option Value → wq_T → wq_H → Prop := fun r T' H' => T = T' ∧ WT T H' ∧ wfr [(27, 15), (3, 3), (3, 4), (4, 2), (4, 3), (4, 4), (4, 5), (4, 6)] T H H' ∧ ∃ z : Int, some (vI z) = r ∧ (0 ≤ z ∧ z ≤ 1) ∧ (((z = 1) ∧ ((xsex B n q d).1 = 0) ∧ (xsex B n q d = (0, q, (xN B n q))) ∧ (q ≤ (xN B n q)) ∧ (H' r0 3 = H r0 3) ∧ TC T H' tk B n (xN B n q) ∧ DC T H' r1 (xdsex B n q d)) ∨ ((z = 0) ∧ ((xsex B n q d).1 ≠ 0) ∧ ((xsex B n q d).2.2 = (xsex B n q d).2.1) ∧ (H' r0 3 = (xsex B n q d).1) ∧ (H' r0 4 = (xsex B n q d).2.1)))
set_option maxHeartbeats 4000000 in
theorem u_32 {kt : Nat → Option mc_E} {T : wq_T} {H : wq_H} {r0 : Nat} {r1 : Nat} {tk : Nat} {rb : Nat} {B : Nat → Int} {n : Int} {q : Int} {d : xD} (hW : WT T H) (g0 : T.2.2.2 r0 = some 3) (g1 : T.2.2.2 r1 = some 27) (qtk : H r0 0 = (tk : Int)) (gtk : T.2.2.2 tk = some 4) (qrb : H tk 0 = (rb : Int)) (grb : T.2.2.2 rb = some 2) (hTC_tk : TC T H tk B n q) (hDC_r1 : DC T H r1 d) : wpc kt 5 32 [.ref r0, .ref r1] T H (uq_32 r0 r1 tk rb B n q d T H) := by
  refine wp_enter e32 (Nat.le_of_ble_eq_true rfl) rfl ?_
  have f0 : wfr [(27, 15), (3, 3), (3, 4), (4, 2), (4, 3), (4, 4), (4, 5), (4, 6)] T H H := wfr.rf
  show wp _ _ 32 0 [(0, .ref r0), (1, .ref r1)] [] _ H _
  have u47 := TC_k hTC_tk
  have u48 := DC_k hDC_r1
  refine wp_of e32 c32_0 (rw_aload_n (pc' := 1) (v := .ref r0) rfl rfl rfl ?_)
  refine wp_of e32 c32_1 (rw_aload_n (pc' := 2) (v := .ref r1) rfl rfl rfl ?_)
  refine wp_of e32 c32_2 (xc_V (pc' := 5) (r := r0) (as := [.ref r1]) (st := []) (lm_1_207) rfl rfl (Nat.le_of_ble_eq_true rfl) hW g0 sh_3 (by decide) rfl (by decide) (u_33 (B := B) (n := n) (q := q) (d := d) hW g0 g1 qtk gtk qrb grb hTC_tk hDC_r1) (fun R49 T50 H51 p52 => ?_))
  obtain ⟨e53, w55, f56, z57, e54, b58, p59⟩ := p52
  subst e53
  subst e54
  rcases p59 with ⟨a60, a61, a62, a63, a64⟩ | ⟨a65, a66, a67, a68⟩
  · have f69 := f0.tr f56 rfl
    show wp _ _ 32 5 [(0, .ref r0), (1, .ref r1)] [vI z57] _ H51 _
    refine wp_of e32 c32_5 (rw_istore_n (pc' := 6) (z := z57) (L' := [(2, vI z57), (0, .ref r0), (1, .ref r1)]) rfl rfl rfl ?_)
    refine wp_of e32 c32_6 (rw_iload_n (pc' := 7) (z := z57) rfl rfl ?_)
    refine wp_of e32 c32_7 (rw_if_ge (p1 := 12) (p2 := 10) (by decide) rfl ⟨by omega, by omega⟩ (fun c70 => ?_) (fun c70 => ?_))
    · refine wp_of e32 c32_12 (rw_aload_n (pc' := 13) (v := .ref r0) rfl rfl rfl ?_)
      have k71 : H51 r0 0 = H r0 0 := (f56 r0 0 _ g0 rfl)
      have q72 : H51 r0 0 = (tk : Int) := k71.trans qtk
      refine wp_of e32 c32_13 (xg_K (pc' := 16) lf_1_12 w55 g0 sh_3 (by decide) (by decide) rfl q72 rfl ?_)
      have k73 : H51 tk 0 = H tk 0 := (f56 tk 0 _ gtk rfl)
      have q74 : H51 tk 0 = (rb : Int) := k73.trans qrb
      have k75 : H51 tk 1 = H tk 1 := (f56 tk 1 _ gtk rfl)
      have k76 : H51 tk 2 = H tk 2 := (f56 tk 2 _ gtk rfl)
      have h77 : TC T H51 tk B n q := (TC_fr hW gtk f56 rfl hTC_tk)
      have h78 : TP T H51 rb B := TC_tp h77 q74
      refine wp_of e32 c32_16 (xc_V (pc' := 19) (r := tk) (as := []) (st := []) (lm_1_74) rfl rfl (Nat.le_of_ble_eq_true rfl) w55 gtk sh_4 (by decide) rfl (by decide) (u_16 (B := B) (n := n) (a := (xE B n q)) (q := (xN B n q)) w55 gtk q74 grb (by omega) (by omega) (by omega) (rfl) h78) (fun R79 T80 H81 p82 => ?_))
      obtain ⟨e83, w85, f86, e84, p87⟩ := p82
      subst e83
      subst e84
      have f89 := f69.tr f86 rfl
      show wp _ _ 32 19 [(2, vI z57), (0, .ref r0), (1, .ref r1)] [] _ H81 _
      have u90 := TC_k p87
      refine wp_of e32 c32_19 (rw_aload_n (pc' := 20) (v := .ref r1) rfl rfl rfl ?_)
      refine wp_of e32 c32_20 (rw_iload_n (pc' := 21) (z := z57) rfl rfl ?_)
      refine wp_of e32 c32_21 (xp_I (pc' := 24) lf_1_211 w85 g1 sh_27 (by decide) (by decide) ty_27_15 rfl rfl (by omega) (by omega) ⟨by omega, by omega⟩ rfl (fun H91 e92 w93 => ?_))
      have f94 := f89.put' e92 g1 rfl
      have k95 : H91 r1 15 = z57 := wq_u_s e92
      refine wp_of e32 c32_24 (rw_iconst (pc' := 25) rfl ?_)
      have k96 : H91 r0 3 = H51 r0 3 := ((wq_u_t e92 g1 g0 rfl 3).trans (f86 r0 3 _ g0 rfl))
      have k97 : H91 r1 7 = H r1 7 := ((wq_u_j e92 rfl).trans ((f86 r1 7 _ g1 rfl).trans (f56 r1 7 _ g1 rfl)))
      have k98 : H91 r1 8 = H r1 8 := ((wq_u_j e92 rfl).trans ((f86 r1 8 _ g1 rfl).trans (f56 r1 8 _ g1 rfl)))
      have k99 : H91 r1 9 = H r1 9 := ((wq_u_j e92 rfl).trans ((f86 r1 9 _ g1 rfl).trans (f56 r1 9 _ g1 rfl)))
      have k100 : H91 r1 10 = H r1 10 := ((wq_u_j e92 rfl).trans ((f86 r1 10 _ g1 rfl).trans (f56 r1 10 _ g1 rfl)))
      have k101 : H91 r1 11 = H r1 11 := ((wq_u_j e92 rfl).trans ((f86 r1 11 _ g1 rfl).trans (f56 r1 11 _ g1 rfl)))
      have k102 : H91 r1 12 = H r1 12 := ((wq_u_j e92 rfl).trans ((f86 r1 12 _ g1 rfl).trans (f56 r1 12 _ g1 rfl)))
      have k103 : H91 r1 13 = H r1 13 := ((wq_u_j e92 rfl).trans ((f86 r1 13 _ g1 rfl).trans (f56 r1 13 _ g1 rfl)))
      have k104 : H91 r1 14 = H r1 14 := ((wq_u_j e92 rfl).trans ((f86 r1 14 _ g1 rfl).trans (f56 r1 14 _ g1 rfl)))
      have k105 : H91 r1 16 = H r1 16 := ((wq_u_j e92 rfl).trans ((f86 r1 16 _ g1 rfl).trans (f56 r1 16 _ g1 rfl)))
      have o106 : (xsex B n q d) = (0, q, (xN B n q)) := by
        unfold xsex
        repeat first | rw [xs_0 (by omega)] | rw [xs_1 (by omega)] | rw [if_pos (by omega)] | rw [if_neg (by omega)]
        first | done | rfl | assumption | (exfalso; omega) | (refine Prod.ext ?_ (Prod.ext ?_ ?_) <;> (try dsimp only) <;> omega)
      have o106a : ((xsex B n q d)).1 = 0 := by rw [o106]
      have o106b : ((xsex B n q d)).2.1 = q := by rw [o106]
      have o106c : ((xsex B n q d)).2.2 = (xN B n q) := by rw [o106]
      have _l := @xdsex_v B n q d
      have _w := @xwho_e d B n q
      have _e := @xsx_e (xwho B n q d)
      have h107 : TC T H91 tk B n (xN B n q) := (TC_fr w85 gtk ((wfr.rf (l := [(27, 15)])).put' e92 g1 rfl) rfl p87)
      exact wp_zreturn e32 c32_25 rfl (by omega) ⟨rfl, w93, f94, 1, rfl, ⟨by omega, by omega⟩, (Or.inl ⟨by omega, by omega, o106, by omega, by omega, h107, DC_cnt hW g1 hDC_r1 f94 rfl (fun i h => xdsex_r h) ⟨by omega, by omega, by omega, by omega, by omega⟩ ⟨by omega, by omega, by omega, by omega, by omega, by omega, by omega, by omega, by omega, by omega, by omega, by omega, by omega, by omega, by omega, by omega⟩⟩)⟩
    · exfalso
      omega
  · have f108 := f0.tr f56 rfl
    show wp _ _ 32 5 [(0, .ref r0), (1, .ref r1)] [vI z57] _ H51 _
    refine wp_of e32 c32_5 (rw_istore_n (pc' := 6) (z := z57) (L' := [(2, vI z57), (0, .ref r0), (1, .ref r1)]) rfl rfl rfl ?_)
    refine wp_of e32 c32_6 (rw_iload_n (pc' := 7) (z := z57) rfl rfl ?_)
    refine wp_of e32 c32_7 (rw_if_ge (p1 := 12) (p2 := 10) (by decide) rfl ⟨by omega, by omega⟩ (fun c109 => ?_) (fun c109 => ?_))
    · exfalso
      omega
    · refine wp_of e32 c32_10 (rw_iconst (pc' := 11) rfl ?_)
      have k110 : H51 r1 7 = H r1 7 := (f56 r1 7 _ g1 rfl)
      have k111 : H51 r1 8 = H r1 8 := (f56 r1 8 _ g1 rfl)
      have k112 : H51 r1 9 = H r1 9 := (f56 r1 9 _ g1 rfl)
      have k113 : H51 r1 10 = H r1 10 := (f56 r1 10 _ g1 rfl)
      have k114 : H51 r1 11 = H r1 11 := (f56 r1 11 _ g1 rfl)
      have k115 : H51 r1 12 = H r1 12 := (f56 r1 12 _ g1 rfl)
      have k116 : H51 r1 13 = H r1 13 := (f56 r1 13 _ g1 rfl)
      have k117 : H51 r1 14 = H r1 14 := (f56 r1 14 _ g1 rfl)
      have k118 : H51 r1 15 = H r1 15 := (f56 r1 15 _ g1 rfl)
      have k119 : H51 r1 16 = H r1 16 := (f56 r1 16 _ g1 rfl)
      have o120 : (xsex B n q d) = (xkn B n q d, q, q) := by
        unfold xsex
        repeat first | rw [xs_0 (by omega)] | rw [xs_1 (by omega)] | rw [if_pos (by omega)] | rw [if_neg (by omega)]
        first | done | rfl | assumption | (exfalso; omega) | (refine Prod.ext ?_ (Prod.ext ?_ ?_) <;> (try dsimp only) <;> omega)
      have o120a : ((xsex B n q d)).1 = xkn B n q d := by rw [o120]
      have o120b : ((xsex B n q d)).2.1 = q := by rw [o120]
      have o120c : ((xsex B n q d)).2.2 = q := by rw [o120]
      have _l := @xdsex_v B n q d
      have _w := @xwho_e d B n q
      have _e := @xsx_e (xwho B n q d)
      exact wp_zreturn e32 c32_11 rfl (by omega) ⟨rfl, w55, f108, 0, rfl, ⟨by omega, by omega⟩, (Or.inr ⟨by omega, by omega, by omega, by omega, by omega⟩)⟩
/-! StrikeAwake.hourBits(II)I  -/
abbrev uq_31 (a0 : Int) (a1 : Int) (lo : Int) (hi : Int) (T : wq_T) (H : wq_H) : Option Value → wq_T → wq_H → Prop := fun r T' H' => T = T' ∧ H = H' ∧ ∃ z : Int, some (vI z) = r ∧ (0 ≤ z ∧ z ≤ 16777215) ∧ (((z = xhs lo hi)))
set_option maxHeartbeats 4000000 in
theorem u_31 {kt : Nat → Option mc_E} {T : wq_T} {H : wq_H} {a0 : Int} {a1 : Int} {lo : Int} {hi : Int} (hW : WT T H) (i0 : 0 ≤ a0 ∧ a0 ≤ 24) (i1 : 0 ≤ a1 ∧ a1 ≤ 36) (p0 : a0 = lo) (p1 : a1 = hi) (p2 : lo ≤ hi) : wpc kt 1 31 [vI a0, vI a1] T H (uq_31 a0 a1 lo hi T H) := by
  refine wp_enter e31 (Nat.le_of_ble_eq_true rfl) rfl ?_
  show wp _ _ 31 0 [(0, vI a0), (1, vI a1)] [] _ H _
  refine wp_of e31 c31_0 (rw_lconst (pc' := 1) (z := 1) rfl rfl ?_)
  refine wp_of e31 c31_1 (rw_iload_n (pc' := 2) (z := a1) rfl rfl ?_)
  refine wp_of e31 c31_2 (rw_lshl (pc' := 3) rfl ?_)
  obtain ⟨v11, e12⟩ : ∃ x : Int, x = wl_shl 1 a1 := ⟨_, rfl⟩
  rw [← e12]
  have b13 : -9223372036854775808 ≤ v11 ∧ v11 ≤ 9223372036854775807 := by
    rw [e12]
    exact wL_shl _ _
  refine wp_of e31 c31_3 (rw_lconst (pc' := 4) (z := 1) rfl rfl ?_)
  refine wp_of e31 c31_4 (rw_iload_n (pc' := 5) (z := a0) rfl rfl ?_)
  refine wp_of e31 c31_5 (rw_lshl (pc' := 6) rfl ?_)
  obtain ⟨v14, e15⟩ : ∃ x : Int, x = wl_shl 1 a0 := ⟨_, rfl⟩
  rw [← e15]
  have b16 : -9223372036854775808 ≤ v14 ∧ v14 ≤ 9223372036854775807 := by
    rw [e15]
    exact wL_shl _ _
  refine wp_of e31 c31_6 (rw_lsubw (pc' := 7) rfl ?_)
  obtain ⟨v17, e18⟩ : ∃ x : Int, x = wl_w (v11 - v14) := ⟨_, rfl⟩
  rw [← e18]
  have b19 : -9223372036854775808 ≤ v17 ∧ v17 ≤ 9223372036854775807 := by
    rw [e18]
    exact wL_w _
  have b20 : (-9223372036854775808 ≤ v11 - v14 ∧ v11 - v14 ≤ 9223372036854775807) → v17 = v11 - v14 := fun h => by rw [e18]; exact wl_w_id h
  refine wp_of e31 c31_7 (rw_l2i (pc' := 8) rfl ?_)
  obtain ⟨v21, e22⟩ : ∃ x : Int, x = wq_w v17 := ⟨_, rfl⟩
  rw [← e22]
  have b23 : -2147483648 ≤ v21 ∧ v21 ≤ 2147483647 := by
    rw [e22]
    exact wI_w _
  have b24 : (-2147483648 ≤ v17 ∧ v17 ≤ 2147483647) → v21 = v17 := by
    rw [e22]
    exact fun h => wq_w_id h
  refine wp_of e31 c31_8 (rw_ldc_wI (pc' := 11) (z := 16777215) rfl rfl rfl ?_)
  refine wp_of e31 c31_11 (rw_iand (pc' := 12) rfl ?_)
  obtain ⟨v25, e26⟩ : ∃ x : Int, x = wq_and v21 16777215 := ⟨_, rfl⟩
  rw [← e26]
  have b27 : 0 ≤ v25 ∧ v25 ≤ 16777215 := by
    rw [e26]
    exact wq_and_b _ (by omega) (by omega)
  exact wp_ireturn e31 c31_12 rfl ⟨rfl, rfl, v25, rfl, ⟨by omega, by omega⟩, (by subst_vars; exact hb_ok (by omega) (by omega) (by omega) (by omega))⟩
/-! StrikeAwake.hasBit(II)Z  -/
abbrev uq_36 (a0 : Int) (a1 : Int) (T : wq_T) (H : wq_H) : Option Value → wq_T → wq_H → Prop := fun r T' H' => T = T' ∧ H = H' ∧ ∃ z : Int, some (vI z) = r ∧ (0 ≤ z ∧ z ≤ 1) ∧ (((z = 1) ∧ (wq_and (wq_shr a0 a1) 1 ≠ 0)) ∨ ((z = 0) ∧ (wq_and (wq_shr a0 a1) 1 = 0)))
set_option maxHeartbeats 4000000 in
theorem u_36 {kt : Nat → Option mc_E} {T : wq_T} {H : wq_H} {a0 : Int} {a1 : Int} (hW : WT T H) (i0 : (-2147483648) ≤ a0 ∧ a0 ≤ 2147483647) (i1 : (-2147483648) ≤ a1 ∧ a1 ≤ 2147483647) : wpc kt 1 36 [vI a0, vI a1] T H (uq_36 a0 a1 T H) := by
  refine wp_enter e36 (Nat.le_of_ble_eq_true rfl) rfl ?_
  show wp _ _ 36 0 [(0, vI a0), (1, vI a1)] [] _ H _
  refine wp_of e36 c36_0 (rw_iload_n (pc' := 1) (z := a0) rfl rfl ?_)
  refine wp_of e36 c36_1 (rw_iload_n (pc' := 2) (z := a1) rfl rfl ?_)
  refine wp_of e36 c36_2 (rw_ishr (pc' := 3) rfl ?_)
  obtain ⟨v6, e7⟩ : ∃ x : Int, x = wq_shr a0 a1 := ⟨_, rfl⟩
  rw [← e7]
  have b8 : -2147483648 ≤ v6 ∧ v6 ≤ 2147483647 := by
    rw [e7]
    exact wI_shr _ _
  refine wp_of e36 c36_3 (rw_iconst (pc' := 4) rfl ?_)
  refine wp_of e36 c36_4 (rw_iand (pc' := 5) rfl ?_)
  obtain ⟨v9, e10⟩ : ∃ x : Int, x = wq_and v6 1 := ⟨_, rfl⟩
  rw [← e10]
  have b11 : 0 ≤ v9 ∧ v9 ≤ 1 := by
    rw [e10]
    exact wq_and_b _ (by omega) (by omega)
  refine wp_of e36 c36_5 (rw_if_eq (p1 := 12) (p2 := 8) (by decide) rfl ⟨by omega, by omega⟩ (fun c12 => ?_) (fun c12 => ?_))
  · refine wp_of e36 c36_12 (rw_iconst (pc' := 13) rfl ?_)
    exact wp_zreturn e36 c36_13 rfl (by omega) ⟨rfl, rfl, 0, rfl, ⟨by omega, by omega⟩, (Or.inr ⟨by omega, by subst_vars; omega⟩)⟩
  · refine wp_of e36 c36_8 (rw_iconst (pc' := 9) rfl ?_)
    refine wp_of e36 c36_9 (rw_goto (p1 := 13) (by decide) ?_)
    exact wp_zreturn e36 c36_13 rfl (by omega) ⟨rfl, rfl, 1, rfl, ⟨by omega, by omega⟩, (Or.inl ⟨by omega, by subst_vars; omega⟩)⟩
/-! StrikeAwake$Parish.listStruck()V  -/
abbrev uq_41 (r0 : Nat) (f : Nat → Int) (T : wq_T) (H : wq_H) : Option Value → wq_T → wq_H → Prop := fun r T' H' => T = T' ∧ WT T H' ∧ wfr [(27, 16), (30, 999)] T H H' ∧ none = r ∧ (((H' r0 16 = xcn f 24) ∧ ST T H' r0 f ∧ SV T H' r0 f 24))
set_option maxHeartbeats 4000000 in
theorem u_41 {kt : Nat → Option mc_E} {T : wq_T} {H : wq_H} {r0 : Nat} {f : Nat → Int} (hW : WT T H) (g0 : T.2.2.2 r0 = some 27) (hST_r0 : ST T H r0 f) : wpc kt 1 41 [.ref r0] T H (uq_41 r0 f T H) := by
  refine wp_enter e41 (Nat.le_of_ble_eq_true rfl) rfl ?_
  have f0 : wfr [(27, 16), (30, 999)] T H H := wfr.rf
  show wp _ _ 41 0 [(0, .ref r0)] [] _ H _
  have _c := @xcn_b f 24
  refine wp_of e41 c41_0 (rw_aload_n (pc' := 1) (v := .ref r0) rfl rfl rfl ?_)
  refine wp_of e41 c41_1 (rw_iconst (pc' := 2) rfl ?_)
  refine wp_of e41 c41_2 (xp_I (pc' := 5) lf_7_65 hW g0 sh_27 (by decide) (by decide) ty_27_16 rfl rfl (by omega) (by omega) ⟨by omega, by omega⟩ rfl (fun H224 e225 w226 => ?_))
  have f227 := f0.put' e225 g0 rfl
  have k228 : H224 r0 16 = 0 := wq_u_s e225
  refine wp_of e41 c41_5 (rw_iconst (pc' := 6) rfl ?_)
  refine wp_of e41 c41_6 (rw_istore_n (pc' := 7) (z := 0) (L' := [(1, vI 0), (0, .ref r0)]) rfl rfl rfl ?_)
  have lp422 : ∀ (n423 : Nat) (v425 : Int) (H426 : wq_H), WT T H426 → wfr [(27, 16), (30, 999)] T H224 H426 → (0 ≤ v425 ∧ v425 ≤ 24) → (H426 r0 16 = xcn f (v425).toNat) → (H426 r0 16 ≤ v425) → ST T H426 r0 f → SV T H426 r0 f v425 → (24 - v425).toNat = n423 → wp kt 0 41 7 [(1, vI v425), (0, .ref r0)] [] T H426 (uq_41 r0 f T H) := by
    intro n423
    induction n423 using Nat.strongRecOn with
    | _ n423 ih424 =>
      intro v425 H426 w427 f428 b429 x430 x431 h433 h434 m432
      have f435 := f227.tr f428 rfl
      refine wp_of e41 c41_7 (rw_iload_n (pc' := 8) (z := v425) rfl rfl ?_)
      refine wp_of e41 c41_8 (rw_bipush (pc' := 10) (z := 24) rfl (by decide) ?_)
      refine wp_of e41 c41_10 (rw_icmp_ge (p1 := 48) (p2 := 13) (by decide) rfl ⟨by omega, by omega⟩ ⟨by omega, by omega⟩ (fun c436 => ?_) (fun c436 => ?_))
      · have : xcn f (v425).toNat = xcn f 24 := by rw [show (v425).toNat = 24 by omega]
        have h437 : SV T H426 r0 f 24 := by rw [show (24 : Int) = v425 by omega]; exact h434
        exact wp_return e41 c41_48 rfl ⟨rfl, w427, f435, rfl, ⟨by omega, h433, h437⟩⟩
      · refine wp_of e41 c41_13 (rw_aload_n (pc' := 14) (v := .ref r0) rfl rfl rfl ?_)
        refine wp_of e41 c41_14 (xg_R (pc' := 17) lf_7_17 w427 g0 sh_27 (by decide) (by decide) ty_27_1 rfl rfl (fun r438 q439 g440 => ?_))
        refine wp_of e41 c41_17 (rw_iload_n (pc' := 18) (z := v425) rfl rfl ?_)
        refine wp_of e41 c41_18 (xa_I (so := 0) (pc' := 19) w427 g440 sh_29 (by decide) (ty_29 _) (by omega) (by omega) rfl (fun b441 b442 => ?_))
        have := ST_at h433 q439 (k := (v425.toNat)) (by omega)
        refine wp_of e41 c41_19 (rw_if_lt (p1 := 42) (p2 := 22) (by decide) rfl ⟨by omega, by omega⟩ (fun c443 => ?_) (fun c443 => ?_))
        · have := @xcn_s1 f v425 (by omega)
          have h444 : SV T H426 r0 f (v425 + 1) := SV_skip h434 (by omega) (by omega)
          refine wp_of e41 c41_42 (rw_iinc (pc' := 45) (z := v425) (L' := [(1, vI (v425 + 1)), (0, .ref r0)]) rfl rfl rfl rfl ?_)
          refine wp_of e41 c41_45 (rw_goto (p1 := 7) (by decide) ?_)
          exact wp_lc (ks := [1, 0]) (wl_c rfl (wl_c rfl wl_n)) rfl (by decide) (ih424 _ (by omega) (v425 + 1) H426 w427 f428 ⟨by omega, by omega⟩ (by omega) (by omega) h433 h444 rfl)
        · refine wp_of e41 c41_22 (rw_aload_n (pc' := 23) (v := .ref r0) rfl rfl rfl ?_)
          refine wp_of e41 c41_23 (xg_R (pc' := 26) lf_7_21 w427 g0 sh_27 (by decide) (by decide) ty_27_2 rfl rfl (fun r445 q446 g447 => ?_))
          refine wp_of e41 c41_26 (rw_aload_n (pc' := 27) (v := .ref r0) rfl rfl rfl ?_)
          refine wp_of e41 c41_27 (xg_I (pc' := 30) lf_7_65 w427 g0 sh_27 (by decide) (by decide) ty_27_16 rfl rfl (fun b448 b449 => ?_))
          refine wp_of e41 c41_30 (rw_iload_n (pc' := 31) (z := v425) rfl rfl ?_)
          refine wp_of e41 c41_31 (xs_I (pc' := 32) w427 g447 (by decide) sh_30 (by decide) (ty_30 _) (by omega) (by omega) ⟨by omega, by omega⟩ (by omega) (by omega) rfl (fun H450 e451 w452 => ?_))
          have f453 := f435.put' e451 g447 rfl
          have f454 := f428.put' e451 g447 rfl
          have h455 : SV T H450 r0 f (v425 + 1) := SV_put h434 q446 g0 g447 e451 (by omega) (by omega) (by omega) (by omega)
          refine wp_of e41 c41_32 (rw_aload_n (pc' := 33) (v := .ref r0) rfl rfl rfl ?_)
          refine wp_of e41 c41_33 (rw_dup (pc' := 34) rfl rfl ?_)
          have k456 : H450 r0 16 = H426 r0 16 := (wq_u_t e451 g447 g0 rfl 16)
          refine wp_of e41 c41_34 (xg_I (pc' := 37) lf_7_65 w452 g0 sh_27 (by decide) (by decide) ty_27_16 rfl rfl (fun b457 b458 => ?_))
          refine wp_of e41 c41_37 (rw_iconst (pc' := 38) rfl ?_)
          refine wp_of e41 c41_38 (rw_iadd (pc' := 39) rfl ?_)
          refine wp_of e41 c41_39 (xp_I (pc' := 42) lf_7_65 w452 g0 sh_27 (by decide) (by decide) ty_27_16 rfl rfl (by omega) (by omega) ⟨by omega, by omega⟩ rfl (fun H459 e460 w461 => ?_))
          have f462 := f453.put' e460 g0 rfl
          have f463 := f454.put' e460 g0 rfl
          have k464 : H459 r0 16 = (H450 r0 16) + 1 := wq_u_s e460
          have := @xcn_s1 f v425 (by omega)
          refine wp_of e41 c41_42 (rw_iinc (pc' := 45) (z := v425) (L' := [(1, vI (v425 + 1)), (0, .ref r0)]) rfl rfl rfl rfl ?_)
          refine wp_of e41 c41_45 (rw_goto (p1 := 7) (by decide) ?_)
          have h465 : ST T H459 r0 f := (ST_fr w452 g0 ((wfr.rf (l := [(27, 16)])).put' e460 g0 rfl) rfl (ST_fr w427 g0 ((wfr.rf (l := [(30, 999)])).put' e451 g447 rfl) rfl h433))
          have h466 : SV T H459 r0 f (v425 + 1) := (SV_fr w452 g0 ((wfr.rf (l := [(27, 16)])).put' e460 g0 rfl) rfl h455)
          exact wp_lc (ks := [1, 0]) (wl_c rfl (wl_c rfl wl_n)) rfl (by decide) (ih424 _ (by omega) (v425 + 1) H459 w461 f463 ⟨by omega, by omega⟩ (by omega) (by omega) h465 h466 rfl)
  have : xcn f (0 : Int).toNat = 0 := rfl
  have h467 : SV T H224 r0 f 0 := SV_0 w226 g0
  have h468 : ST T H224 r0 f := (ST_fr hW g0 ((wfr.rf (l := [(27, 16)])).put' e225 g0 rfl) rfl hST_r0)
  exact wp_lc (ks := [1, 0]) (wl_c rfl (wl_c rfl wl_n)) rfl (by decide) (lp422 _ 0 H224 w226 wfr.rf ⟨by omega, by omega⟩ (by omega) (by omega) h468 h467 rfl)
/-! StrikeAwake$Parish.setStroke(II)V  -/
abbrev uq_40 (r0 : Nat) (a1 : Int) (a2 : Int) (d : xD) (w : Int) (y : Int) (T : wq_T) (H : wq_H) : Option Value → wq_T → wq_H → Prop := fun r T' H' => T = T' ∧ WT T H' ∧ wfr [(27, 16), (29, 999), (30, 999)] T H H' ∧ none = r ∧ ((DC T H' r0 (wq_u d 13 y.toNat w)))
set_option maxHeartbeats 4000000 in
theorem u_40 {kt : Nat → Option mc_E} {T : wq_T} {H : wq_H} {r0 : Nat} {a1 : Int} {a2 : Int} {d : xD} {w : Int} {y : Int} (hW : WT T H) (g0 : T.2.2.2 r0 = some 27) (i1 : 0 ≤ a1 ∧ a1 ≤ 23) (i2 : (-2) ≤ a2 ∧ a2 ≤ 99) (p0 : (0 ≤ a2 ∧ w = a2 + 1) ∨ (a2 = -2 ∧ w = 0)) (p1 : a1 = y) (hDC_r0 : DC T H r0 d) : wpc kt 2 40 [.ref r0, vI a1, vI a2] T H (uq_40 r0 a1 a2 d w y T H) := by
  refine wp_enter e40 (Nat.le_of_ble_eq_true rfl) rfl ?_
  have f0 : wfr [(27, 16), (29, 999), (30, 999)] T H H := wfr.rf
  show wp _ _ 40 0 [(0, .ref r0), (1, vI a1), (2, vI a2)] [] _ H _
  have u28 := DC_k hDC_r0
  have h29 : DQ T H r0 d := hDC_r0.2.1
  have h30 : ST T H r0 (d 13) := hDC_r0.2.2.1
  have h31 : SV T H r0 (d 13) 24 := hDC_r0.2.2.2.1
  have h32 : DA3 T H r0 (d 0 5) (d 12) := hDC_r0.2.2.2.2.1
  have h33 : DA4 T H r0 (d 0 6) (d 14) := hDC_r0.2.2.2.2.2.1
  have h34 : DA5 T H r0 (d 0 6) (d 15) := hDC_r0.2.2.2.2.2.2.1
  have h35 : DA6 T H r0 (d 0 7) (d 16) := hDC_r0.2.2.2.2.2.2.2
  refine wp_of e40 c40_0 (rw_aload_n (pc' := 1) (v := .ref r0) rfl rfl rfl ?_)
  refine wp_of e40 c40_1 (xg_R (pc' := 4) lf_7_17 hW g0 sh_27 (by decide) (by decide) ty_27_1 rfl rfl (fun r36 q37 g38 => ?_))
  refine wp_of e40 c40_4 (rw_iload_n (pc' := 5) (z := a1) rfl rfl ?_)
  refine wp_of e40 c40_5 (rw_iload_n (pc' := 6) (z := a2) rfl rfl ?_)
  refine wp_of e40 c40_6 (xs_I (pc' := 7) hW g38 (by decide) sh_29 (by decide) (ty_29 _) (by omega) (by omega) ⟨by omega, by omega⟩ (by omega) (by omega) rfl (fun H39 e40 w41 => ?_))
  have f42 := f0.put' e40 g38 rfl
  have h43 : ST T H39 r0 (wq_u d 13 y.toNat w 13) := ST_put (w := w) h30 q37 g0 g38 e40 (by omega) (by rw [p1]; exact wq_u_eq) (fun j hj => wq_u_e2 (fun h => hj (by rw [p1]; exact h.2)))
  refine wp_of e40 c40_7 (rw_aload_n (pc' := 8) (v := .ref r0) rfl rfl rfl ?_)
  refine wp_of e40 c40_8 (xc_V (pc' := 11) (r := r0) (as := []) (st := []) (lm_7_89) rfl rfl (Nat.le_of_ble_eq_true rfl) w41 g0 sh_27 (by decide) rfl (by decide) (u_41 (f := ((wq_u d 13 y.toNat w 13))) w41 g0 h43) (fun R44 T45 H46 p47 => ?_))
  obtain ⟨e48, w50, f51, e49, p52⟩ := p47
  subst e48
  subst e49
  obtain ⟨a53, a54, a55⟩ := p52
  have f56 := f42.tr f51 rfl
  show wp _ _ 40 11 [(0, .ref r0), (1, vI a1), (2, vI a2)] [] _ H46 _
  have k57 : H46 r0 7 = H r0 7 := ((f51 r0 7 _ g0 rfl).trans (wq_u_t e40 g38 g0 rfl 7))
  have k58 : H46 r0 8 = H r0 8 := ((f51 r0 8 _ g0 rfl).trans (wq_u_t e40 g38 g0 rfl 8))
  have k59 : H46 r0 9 = H r0 9 := ((f51 r0 9 _ g0 rfl).trans (wq_u_t e40 g38 g0 rfl 9))
  have k60 : H46 r0 10 = H r0 10 := ((f51 r0 10 _ g0 rfl).trans (wq_u_t e40 g38 g0 rfl 10))
  have k61 : H46 r0 11 = H r0 11 := ((f51 r0 11 _ g0 rfl).trans (wq_u_t e40 g38 g0 rfl 11))
  have k62 : H46 r0 12 = H r0 12 := ((f51 r0 12 _ g0 rfl).trans (wq_u_t e40 g38 g0 rfl 12))
  have k63 : H46 r0 13 = H r0 13 := ((f51 r0 13 _ g0 rfl).trans (wq_u_t e40 g38 g0 rfl 13))
  have k64 : H46 r0 14 = H r0 14 := ((f51 r0 14 _ g0 rfl).trans (wq_u_t e40 g38 g0 rfl 14))
  have k65 : H46 r0 15 = H r0 15 := ((f51 r0 15 _ g0 rfl).trans (wq_u_t e40 g38 g0 rfl 15))
  have _v : wq_u d 13 y.toNat w 0 0 = d 0 0 ∧ wq_u d 13 y.toNat w 0 1 = d 0 1 ∧ wq_u d 13 y.toNat w 0 2 = d 0 2 ∧ wq_u d 13 y.toNat w 0 3 = d 0 3 ∧ wq_u d 13 y.toNat w 0 4 = d 0 4 ∧ wq_u d 13 y.toNat w 0 5 = d 0 5 ∧ wq_u d 13 y.toNat w 0 6 = d 0 6 ∧ wq_u d 13 y.toNat w 0 7 = d 0 7 ∧ wq_u d 13 y.toNat w 0 8 = d 0 8 := ⟨rfl, rfl, rfl, rfl, rfl, rfl, rfl, rfl, rfl⟩
  have _s : xsx (wq_u d 13 y.toNat w 0 8) = xsx (d 0 8) := rfl
  have h66 : DQ T H46 r0 d := (DQ_fr w41 g0 f51 rfl (DQ_fr hW g0 ((wfr.rf (l := [(29, 999)])).put' e40 g38 rfl) rfl h29))
  have h67 : DA3 T H46 r0 (d 0 5) (d 12) := (DA3_fr w41 g0 f51 rfl (DA3_fr hW g0 ((wfr.rf (l := [(29, 999)])).put' e40 g38 rfl) rfl h32))
  have h68 : DA4 T H46 r0 (d 0 6) (d 14) := (DA4_fr w41 g0 f51 rfl (DA4_fr hW g0 ((wfr.rf (l := [(29, 999)])).put' e40 g38 rfl) rfl h33))
  have h69 : DA5 T H46 r0 (d 0 6) (d 15) := (DA5_fr w41 g0 f51 rfl (DA5_fr hW g0 ((wfr.rf (l := [(29, 999)])).put' e40 g38 rfl) rfl h34))
  have h70 : DA6 T H46 r0 (d 0 7) (d 16) := (DA6_fr w41 g0 f51 rfl (DA6_fr hW g0 ((wfr.rf (l := [(29, 999)])).put' e40 g38 rfl) rfl h35))
  exact wp_return e40 c40_11 rfl ⟨rfl, w50, f56, rfl, (DC_mk ⟨by omega, by omega, by omega, by omega, by omega, by omega, by omega, by omega, by omega, by omega, by omega, by omega, by omega, by omega, by omega, by omega⟩ (DQ_cg (fun i h1 h2 => wq_u_row (by omega)) rfl rfl h66) a54 a55 h67 h68 h69 h70 ⟨rfl, rfl, rfl, rfl, rfl⟩ ⟨rfl, rfl, rfl⟩)⟩
/-! StrikeAwake$Parish.isStruck(I)Z  -/
abbrev uq_39 (r0 : Nat) (a1 : Int) (d : xD) (y : Int) (T : wq_T) (H : wq_H) : Option Value → wq_T → wq_H → Prop := fun r T' H' => T = T' ∧ H = H' ∧ ∃ z : Int, some (vI z) = r ∧ (0 ≤ z ∧ z ≤ 1) ∧ (((z = 1) ∧ (0 ≤ y ∧ y ≤ 23) ∧ (d 13 y.toNat > 0)) ∨ ((z = 0) ∧ (y < 0 ∨ 23 < y ∨ d 13 y.toNat ≤ 0)))
set_option maxHeartbeats 4000000 in
theorem u_39 {kt : Nat → Option mc_E} {T : wq_T} {H : wq_H} {r0 : Nat} {a1 : Int} {d : xD} {y : Int} (hW : WT T H) (g0 : T.2.2.2 r0 = some 27) (i1 : (-2147483648) ≤ a1 ∧ a1 ≤ 2147483647) (p0 : a1 = y) (hDC_r0 : DC T H r0 d) : wpc kt 1 39 [.ref r0, vI a1] T H (uq_39 r0 a1 d y T H) := by
  refine wp_enter e39 (Nat.le_of_ble_eq_true rfl) rfl ?_
  show wp _ _ 39 0 [(0, .ref r0), (1, vI a1)] [] _ H _
  have u10 := DC_k hDC_r0
  have h11 : ST T H r0 (d 13) := hDC_r0.2.2.1
  refine wp_of e39 c39_0 (rw_iload_n (pc' := 1) (z := a1) rfl rfl ?_)
  refine wp_of e39 c39_1 (rw_if_lt (p1 := 23) (p2 := 4) (by decide) rfl ⟨by omega, by omega⟩ (fun c12 => ?_) (fun c12 => ?_))
  · refine wp_of e39 c39_23 (rw_iconst (pc' := 24) rfl ?_)
    exact wp_zreturn e39 c39_24 rfl (by omega) ⟨rfl, rfl, 0, rfl, ⟨by omega, by omega⟩, (Or.inr ⟨by omega, by rw [← p0]; omega⟩)⟩
  · refine wp_of e39 c39_4 (rw_iload_n (pc' := 5) (z := a1) rfl rfl ?_)
    refine wp_of e39 c39_5 (rw_bipush (pc' := 7) (z := 24) rfl (by decide) ?_)
    refine wp_of e39 c39_7 (rw_icmp_ge (p1 := 23) (p2 := 10) (by decide) rfl ⟨by omega, by omega⟩ ⟨by omega, by omega⟩ (fun c13 => ?_) (fun c13 => ?_))
    · refine wp_of e39 c39_23 (rw_iconst (pc' := 24) rfl ?_)
      exact wp_zreturn e39 c39_24 rfl (by omega) ⟨rfl, rfl, 0, rfl, ⟨by omega, by omega⟩, (Or.inr ⟨by omega, by rw [← p0]; omega⟩)⟩
    · refine wp_of e39 c39_10 (rw_aload_n (pc' := 11) (v := .ref r0) rfl rfl rfl ?_)
      refine wp_of e39 c39_11 (xg_R (pc' := 14) lf_7_17 hW g0 sh_27 (by decide) (by decide) ty_27_1 rfl rfl (fun r14 q15 g16 => ?_))
      refine wp_of e39 c39_14 (rw_iload_n (pc' := 15) (z := a1) rfl rfl ?_)
      refine wp_of e39 c39_15 (xa_I (so := 0) (pc' := 16) hW g16 sh_29 (by decide) (ty_29 _) (by omega) (by omega) rfl (fun b17 b18 => ?_))
      have := ST_at h11 q15 (k := (a1.toNat)) (by omega)
      refine wp_of e39 c39_16 (rw_if_lt (p1 := 23) (p2 := 19) (by decide) rfl ⟨by omega, by omega⟩ (fun c19 => ?_) (fun c19 => ?_))
      · refine wp_of e39 c39_23 (rw_iconst (pc' := 24) rfl ?_)
        exact wp_zreturn e39 c39_24 rfl (by omega) ⟨rfl, rfl, 0, rfl, ⟨by omega, by omega⟩, (Or.inr ⟨by omega, by rw [← p0]; omega⟩)⟩
      · refine wp_of e39 c39_19 (rw_iconst (pc' := 20) rfl ?_)
        refine wp_of e39 c39_20 (rw_goto (p1 := 24) (by decide) ?_)
        exact wp_zreturn e39 c39_24 rfl (by omega) ⟨rfl, rfl, 1, rfl, ⟨by omega, by omega⟩, (Or.inl ⟨by omega, by omega, by rw [← p0]; omega⟩)⟩
/-! StrikeAwake$Reader.readsBorn(LStrikeAwake$Parish;)Z  -/
abbrev uq_37 (r0 : Nat) (r1 : Nat) (tk : Nat) (rb : Nat) (B : Nat → Int) (n : Int) (q : Int) (d : xD) (T : wq_T) (H : wq_H) : Option Value → wq_T → wq_H → Prop := fun r T' H' => T = T' ∧ WT T H' ∧ wfr [(27, 12), (3, 3), (3, 4), (4, 2), (4, 3), (4, 4), (4, 5), (4, 6), (31, 999)] T H H' ∧ ∃ z : Int, some (vI z) = r ∧ (0 ≤ z ∧ z ≤ 1) ∧ (((z = 1) ∧ ((xbo B n q).1 = 0) ∧ (xbo B n q = (0, q, (xN B n q))) ∧ (q ≤ (xN B n q)) ∧ (H' r0 3 = H r0 3) ∧ TC T H' tk B n (xN B n q) ∧ DC T H' r1 (xdbo B n q d)) ∨ ((z = 0) ∧ ((xbo B n q).1 ≠ 0) ∧ ((xbo B n q).2.2 = (xbo B n q).2.1) ∧ (H' r0 3 = (xbo B n q).1) ∧ (H' r0 4 = (xbo B n q).2.1)))
set_option maxHeartbeats 4000000 in
theorem u_37 {kt : Nat → Option mc_E} {T : wq_T} {H : wq_H} {r0 : Nat} {r1 : Nat} {tk : Nat} {rb : Nat} {B : Nat → Int} {n : Int} {q : Int} {d : xD} (hW : WT T H) (g0 : T.2.2.2 r0 = some 3) (g1 : T.2.2.2 r1 = some 27) (qtk : H r0 0 = (tk : Int)) (gtk : T.2.2.2 tk = some 4) (qrb : H tk 0 = (rb : Int)) (grb : T.2.2.2 rb = some 2) (p0 : d 0 5 ≤ 2) (hTC_tk : TC T H tk B n q) (hDC_r1 : DC T H r1 d) : wpc kt 3 37 [.ref r0, .ref r1] T H (uq_37 r0 r1 tk rb B n q d T H) := by
  refine wp_enter e37 (Nat.le_of_ble_eq_true rfl) rfl ?_
  have f0 : wfr [(27, 12), (3, 3), (3, 4), (4, 2), (4, 3), (4, 4), (4, 5), (4, 6), (31, 999)] T H H := wfr.rf
  show wp _ _ 37 0 [(0, .ref r0), (1, .ref r1)] [] _ H _
  have u50 := TC_k hTC_tk
  have u51 := DC_k hDC_r1
  have h52 : DQ T H r1 d := hDC_r1.2.1
  have h53 : ST T H r1 (d 13) := hDC_r1.2.2.1
  have h54 : SV T H r1 (d 13) 24 := hDC_r1.2.2.2.1
  have h55 : DA3 T H r1 (d 0 5) (d 12) := hDC_r1.2.2.2.2.1
  have h56 : DA4 T H r1 (d 0 6) (d 14) := hDC_r1.2.2.2.2.2.1
  have h57 : DA5 T H r1 (d 0 6) (d 15) := hDC_r1.2.2.2.2.2.2.1
  have h58 : DA6 T H r1 (d 0 7) (d 16) := hDC_r1.2.2.2.2.2.2.2
  refine wp_of e37 c37_0 (rw_aload_n (pc' := 1) (v := .ref r0) rfl rfl rfl ?_)
  refine wp_of e37 c37_1 (rw_iconst (pc' := 2) rfl ?_)
  refine wp_of e37 c37_2 (rw_bipush (pc' := 4) (z := 23) rfl (by decide) ?_)
  refine wp_of e37 c37_4 (xc_V (pc' := 7) (r := r0) (as := [vI 0, vI 23]) (st := []) (lm_1_119) rfl rfl (Nat.le_of_ble_eq_true rfl) hW g0 sh_3 (by decide) rfl (by decide) (u_24 (B := B) (n := n) (q := q) (lo := 0) (hi := 23) hW g0 ⟨by omega, by omega⟩ ⟨by omega, by omega⟩ qtk gtk qrb grb (by omega) (by omega) hTC_tk) (fun R59 T60 H61 p62 => ?_))
  obtain ⟨e63, w65, f66, z67, e64, b68, p69⟩ := p62
  subst e63
  subst e64
  rcases p69 with ⟨a70, a71, a72, a73, a74⟩ | ⟨a75, a76, a77, a78⟩
  · have f79 := f0.tr f66 rfl
    show wp _ _ 37 7 [(0, .ref r0), (1, .ref r1)] [vI z67] _ H61 _
    have u80 := TC_k a74
    refine wp_of e37 c37_7 (rw_istore_n (pc' := 8) (z := z67) (L' := [(2, vI z67), (0, .ref r0), (1, .ref r1)]) rfl rfl rfl ?_)
    refine wp_of e37 c37_8 (rw_iload_n (pc' := 9) (z := z67) rfl rfl ?_)
    refine wp_of e37 c37_9 (rw_if_ge (p1 := 14) (p2 := 12) (by decide) rfl ⟨by omega, by omega⟩ (fun c81 => ?_) (fun c81 => ?_))
    · refine wp_of e37 c37_14 (rw_aload_n (pc' := 15) (v := .ref r1) rfl rfl rfl ?_)
      refine wp_of e37 c37_15 (xg_R (pc' := 18) lf_1_224 w65 g1 sh_27 (by decide) (by decide) ty_27_3 rfl rfl (fun r82 q83 g84 => ?_))
      refine wp_of e37 c37_18 (rw_aload_n (pc' := 19) (v := .ref r1) rfl rfl rfl ?_)
      have k85 : H61 r1 12 = H r1 12 := (f66 r1 12 _ g1 rfl)
      refine wp_of e37 c37_19 (xg_I (pc' := 22) lf_1_227 w65 g1 sh_27 (by decide) (by decide) ty_27_12 rfl rfl (fun b86 b87 => ?_))
      refine wp_of e37 c37_22 (rw_iload_n (pc' := 23) (z := z67) rfl rfl ?_)
      have h88 : DA3 T H61 r1 (d 0 5) (d 12) := (DA3_fr hW g1 f66 rfl h55)
      refine wp_of e37 c37_23 (xs_I (pc' := 24) w65 g84 (by decide) sh_31 (by decide) (ty_31 _) (by omega) (by omega) ⟨by omega, by omega⟩ (by omega) (by omega) rfl (fun H89 e90 w91 => ?_))
      have f92 := f79.put' e90 g84 rfl
      have h93 : DA3 T H89 r1 (d 0 5 + 1) (xdbo B n q d 12) := DA_put h88 q83 g1 g84 (by decide) e90 (by omega) rfl ((xdbo_c (k := ((H61 r1 12).toNat)) (by omega)).1.trans (by omega)) (xdbo_c (k := ((H61 r1 12).toNat)) (by omega)).2
      refine wp_of e37 c37_24 (rw_aload_n (pc' := 25) (v := .ref r1) rfl rfl rfl ?_)
      refine wp_of e37 c37_25 (rw_dup (pc' := 26) rfl rfl ?_)
      have k94 : H89 r1 12 = H61 r1 12 := (wq_u_t e90 g84 g1 rfl 12)
      refine wp_of e37 c37_26 (xg_I (pc' := 29) lf_1_227 w91 g1 sh_27 (by decide) (by decide) ty_27_12 rfl rfl (fun b95 b96 => ?_))
      refine wp_of e37 c37_29 (rw_iconst (pc' := 30) rfl ?_)
      refine wp_of e37 c37_30 (rw_iadd (pc' := 31) rfl ?_)
      refine wp_of e37 c37_31 (xp_I (pc' := 34) lf_1_227 w91 g1 sh_27 (by decide) (by decide) ty_27_12 rfl rfl (by omega) (by omega) ⟨by omega, by omega⟩ rfl (fun H97 e98 w99 => ?_))
      have f100 := f92.put' e98 g1 rfl
      have k101 : H97 r1 12 = (H89 r1 12) + 1 := wq_u_s e98
      refine wp_of e37 c37_34 (rw_iconst (pc' := 35) rfl ?_)
      have k102 : H97 r0 3 = H61 r0 3 := ((wq_u_t e98 g1 g0 rfl 3).trans (wq_u_t e90 g84 g0 rfl 3))
      have k103 : H97 r1 7 = H r1 7 := ((wq_u_j e98 rfl).trans ((wq_u_t e90 g84 g1 rfl 7).trans (f66 r1 7 _ g1 rfl)))
      have k104 : H97 r1 8 = H r1 8 := ((wq_u_j e98 rfl).trans ((wq_u_t e90 g84 g1 rfl 8).trans (f66 r1 8 _ g1 rfl)))
      have k105 : H97 r1 9 = H r1 9 := ((wq_u_j e98 rfl).trans ((wq_u_t e90 g84 g1 rfl 9).trans (f66 r1 9 _ g1 rfl)))
      have k106 : H97 r1 10 = H r1 10 := ((wq_u_j e98 rfl).trans ((wq_u_t e90 g84 g1 rfl 10).trans (f66 r1 10 _ g1 rfl)))
      have k107 : H97 r1 11 = H r1 11 := ((wq_u_j e98 rfl).trans ((wq_u_t e90 g84 g1 rfl 11).trans (f66 r1 11 _ g1 rfl)))
      have k108 : H97 r1 13 = H r1 13 := ((wq_u_j e98 rfl).trans ((wq_u_t e90 g84 g1 rfl 13).trans (f66 r1 13 _ g1 rfl)))
      have k109 : H97 r1 14 = H r1 14 := ((wq_u_j e98 rfl).trans ((wq_u_t e90 g84 g1 rfl 14).trans (f66 r1 14 _ g1 rfl)))
      have k110 : H97 r1 15 = H r1 15 := ((wq_u_j e98 rfl).trans ((wq_u_t e90 g84 g1 rfl 15).trans (f66 r1 15 _ g1 rfl)))
      have k111 : H97 r1 16 = H r1 16 := ((wq_u_j e98 rfl).trans ((wq_u_t e90 g84 g1 rfl 16).trans (f66 r1 16 _ g1 rfl)))
      have o112 : (xbo B n q) = (0, q, (xN B n q)) := by
        unfold xbo
        repeat first | rw [xs_0 (by omega)] | rw [xs_1 (by omega)] | rw [if_pos (by omega)] | rw [if_neg (by omega)]
        first | done | rfl | assumption | (exfalso; omega) | (refine Prod.ext ?_ (Prod.ext ?_ ?_) <;> (try dsimp only) <;> omega)
      have o112a : ((xbo B n q)).1 = 0 := by rw [o112]
      have o112b : ((xbo B n q)).2.1 = q := by rw [o112]
      have o112c : ((xbo B n q)).2.2 = (xN B n q) := by rw [o112]
      have _l := @xdbo_v B n q d
      have h113 : TC T H97 tk B n (xN B n q) := (TC_fr w91 gtk ((wfr.rf (l := [(27, 12)])).put' e98 g1 rfl) rfl (TC_fr w65 gtk ((wfr.rf (l := [(31, 999)])).put' e90 g84 rfl) rfl a74))
      have h114 : DQ T H97 r1 d := (DQ_fr w91 g1 ((wfr.rf (l := [(27, 12)])).put' e98 g1 rfl) rfl (DQ_fr w65 g1 ((wfr.rf (l := [(31, 999)])).put' e90 g84 rfl) rfl (DQ_fr hW g1 f66 rfl h52)))
      have h115 : ST T H97 r1 (d 13) := (ST_fr w91 g1 ((wfr.rf (l := [(27, 12)])).put' e98 g1 rfl) rfl (ST_fr w65 g1 ((wfr.rf (l := [(31, 999)])).put' e90 g84 rfl) rfl (ST_fr hW g1 f66 rfl h53)))
      have h116 : SV T H97 r1 (d 13) 24 := (SV_fr w91 g1 ((wfr.rf (l := [(27, 12)])).put' e98 g1 rfl) rfl (SV_fr w65 g1 ((wfr.rf (l := [(31, 999)])).put' e90 g84 rfl) rfl (SV_fr hW g1 f66 rfl h54)))
      have h117 : DA3 T H97 r1 (d 0 5 + 1) (xdbo B n q d 12) := (DA3_fr w91 g1 ((wfr.rf (l := [(27, 12)])).put' e98 g1 rfl) rfl h93)
      have h118 : DA4 T H97 r1 (d 0 6) (d 14) := (DA4_fr w91 g1 ((wfr.rf (l := [(27, 12)])).put' e98 g1 rfl) rfl (DA4_fr w65 g1 ((wfr.rf (l := [(31, 999)])).put' e90 g84 rfl) rfl (DA4_fr hW g1 f66 rfl h56)))
      have h119 : DA5 T H97 r1 (d 0 6) (d 15) := (DA5_fr w91 g1 ((wfr.rf (l := [(27, 12)])).put' e98 g1 rfl) rfl (DA5_fr w65 g1 ((wfr.rf (l := [(31, 999)])).put' e90 g84 rfl) rfl (DA5_fr hW g1 f66 rfl h57)))
      have h120 : DA6 T H97 r1 (d 0 7) (d 16) := (DA6_fr w91 g1 ((wfr.rf (l := [(27, 12)])).put' e98 g1 rfl) rfl (DA6_fr w65 g1 ((wfr.rf (l := [(31, 999)])).put' e90 g84 rfl) rfl (DA6_fr hW g1 f66 rfl h58)))
      exact wp_zreturn e37 c37_35 rfl (by omega) ⟨rfl, w99, f100, 1, rfl, ⟨by omega, by omega⟩, (Or.inl ⟨by omega, by omega, o112, by omega, by omega, h113, DC_mk ⟨by omega, by omega, by omega, by omega, by omega, by omega, by omega, by omega, by omega, by omega, by omega, by omega, by omega, by omega, by omega, by omega⟩ (DQ_cg (fun i h1 h2 => xdbo_r h1 (by omega)) (by omega) (by omega) h114) h115 h116 h117 h118 h119 h120 ⟨rfl, rfl, rfl, rfl, rfl⟩ ⟨by omega, by omega, by omega⟩⟩)⟩
    · exfalso
      omega
  · have f121 := f0.tr f66 rfl
    show wp _ _ 37 7 [(0, .ref r0), (1, .ref r1)] [vI z67] _ H61 _
    refine wp_of e37 c37_7 (rw_istore_n (pc' := 8) (z := z67) (L' := [(2, vI z67), (0, .ref r0), (1, .ref r1)]) rfl rfl rfl ?_)
    refine wp_of e37 c37_8 (rw_iload_n (pc' := 9) (z := z67) rfl rfl ?_)
    refine wp_of e37 c37_9 (rw_if_ge (p1 := 14) (p2 := 12) (by decide) rfl ⟨by omega, by omega⟩ (fun c122 => ?_) (fun c122 => ?_))
    · exfalso
      omega
    · refine wp_of e37 c37_12 (rw_iconst (pc' := 13) rfl ?_)
      have k123 : H61 r1 7 = H r1 7 := (f66 r1 7 _ g1 rfl)
      have k124 : H61 r1 8 = H r1 8 := (f66 r1 8 _ g1 rfl)
      have k125 : H61 r1 9 = H r1 9 := (f66 r1 9 _ g1 rfl)
      have k126 : H61 r1 10 = H r1 10 := (f66 r1 10 _ g1 rfl)
      have k127 : H61 r1 11 = H r1 11 := (f66 r1 11 _ g1 rfl)
      have k128 : H61 r1 12 = H r1 12 := (f66 r1 12 _ g1 rfl)
      have k129 : H61 r1 13 = H r1 13 := (f66 r1 13 _ g1 rfl)
      have k130 : H61 r1 14 = H r1 14 := (f66 r1 14 _ g1 rfl)
      have k131 : H61 r1 15 = H r1 15 := (f66 r1 15 _ g1 rfl)
      have k132 : H61 r1 16 = H r1 16 := (f66 r1 16 _ g1 rfl)
      have o133 : (xbo B n q) = (xh B n q 0 23, q, q) := by
        unfold xbo
        repeat first | rw [xs_0 (by omega)] | rw [xs_1 (by omega)] | rw [if_pos (by omega)] | rw [if_neg (by omega)]
        first | done | rfl | assumption | (exfalso; omega) | (refine Prod.ext ?_ (Prod.ext ?_ ?_) <;> (try dsimp only) <;> omega)
      have o133a : ((xbo B n q)).1 = xh B n q 0 23 := by rw [o133]
      have o133b : ((xbo B n q)).2.1 = q := by rw [o133]
      have o133c : ((xbo B n q)).2.2 = q := by rw [o133]
      have _l := @xdbo_v B n q d
      exact wp_zreturn e37 c37_13 rfl (by omega) ⟨rfl, w65, f121, 0, rfl, ⟨by omega, by omega⟩, (Or.inr ⟨by omega, by omega, by omega, by omega, by omega⟩)⟩
/-! StrikeAwake$Reader.readsStruck(LStrikeAwake$Parish;)Z  -/
abbrev uq_38 (r0 : Nat) (r1 : Nat) (tk : Nat) (rb : Nat) (B : Nat → Int) (n : Int) (q : Int) (d : xD) (T : wq_T) (H : wq_H) : Option Value → wq_T → wq_H → Prop := fun r T' H' => T = T' ∧ WT T H' ∧ wfr [(27, 16), (3, 3), (3, 4), (4, 2), (4, 3), (4, 4), (4, 5), (4, 6), (29, 999), (30, 999)] T H H' ∧ ∃ z : Int, some (vI z) = r ∧ (0 ≤ z ∧ z ≤ 1) ∧ (((z = 1) ∧ ((xst B n q d).1 = 0) ∧ (xst B n q d = (0, q, (xN B n (xN B n (xN B n q))))) ∧ (q ≤ (xN B n (xN B n (xN B n q)))) ∧ (H' r0 3 = H r0 3) ∧ TC T H' tk B n (xN B n (xN B n (xN B n q))) ∧ DC T H' r1 (xdst B n q d)) ∨ ((z = 0) ∧ ((xst B n q d).1 ≠ 0) ∧ ((xst B n q d).2.2 = (xst B n q d).2.1) ∧ (H' r0 3 = (xst B n q d).1) ∧ (H' r0 4 = (xst B n q d).2.1)))
set_option maxHeartbeats 4000000 in
theorem u_38 {kt : Nat → Option mc_E} {T : wq_T} {H : wq_H} {r0 : Nat} {r1 : Nat} {tk : Nat} {rb : Nat} {B : Nat → Int} {n : Int} {q : Int} {d : xD} (hW : WT T H) (g0 : T.2.2.2 r0 = some 3) (g1 : T.2.2.2 r1 = some 27) (qtk : H r0 0 = (tk : Int)) (gtk : T.2.2.2 tk = some 4) (qrb : H tk 0 = (rb : Int)) (grb : T.2.2.2 rb = some 2) (hTC_tk : TC T H tk B n q) (hDC_r1 : DC T H r1 d) : wpc kt 3 38 [.ref r0, .ref r1] T H (uq_38 r0 r1 tk rb B n q d T H) := by
  refine wp_enter e38 (Nat.le_of_ble_eq_true rfl) rfl ?_
  have f0 : wfr [(27, 16), (3, 3), (3, 4), (4, 2), (4, 3), (4, 4), (4, 5), (4, 6), (29, 999), (30, 999)] T H H := wfr.rf
  show wp _ _ 38 0 [(0, .ref r0), (1, .ref r1)] [] _ H _
  have u222 := TC_k hTC_tk
  have u223 := DC_k hDC_r1
  have _i := TC_i hTC_tk
  have _h := @xsh_b B n q d
  have _k := @xh_b B n q 0 23
  refine wp_of e38 c38_0 (rw_aload_n (pc' := 1) (v := .ref r0) rfl rfl rfl ?_)
  refine wp_of e38 c38_1 (xg_K (pc' := 4) lf_1_12 hW g0 sh_3 (by decide) (by decide) rfl qtk rfl ?_)
  refine wp_of e38 c38_4 (xg_I (pc' := 7) lf_1_38 hW gtk sh_4 (by decide) (by decide) ty_4_3 rfl rfl (fun b224 b225 => ?_))
  refine wp_of e38 c38_7 (rw_iconst (pc' := 8) rfl ?_)
  refine wp_of e38 c38_8 (rw_icmp_ne (p1 := 31) (p2 := 11) (by decide) rfl ⟨by omega, by omega⟩ ⟨by omega, by omega⟩ (fun c226 => ?_) (fun c226 => ?_))
  · refine wp_of e38 c38_31 (rw_aload_n (pc' := 32) (v := .ref r0) rfl rfl rfl ?_)
    refine wp_of e38 c38_32 (rw_iconst (pc' := 33) rfl ?_)
    refine wp_of e38 c38_33 (rw_bipush (pc' := 35) (z := 23) rfl (by decide) ?_)
    refine wp_of e38 c38_35 (xc_V (pc' := 38) (r := r0) (as := [vI 0, vI 23]) (st := []) (lm_1_119) rfl rfl (Nat.le_of_ble_eq_true rfl) hW g0 sh_3 (by decide) rfl (by decide) (u_24 (B := B) (n := n) (q := q) (lo := 0) (hi := 23) hW g0 ⟨by omega, by omega⟩ ⟨by omega, by omega⟩ qtk gtk qrb grb (by omega) (by omega) hTC_tk) (fun R227 T228 H229 p230 => ?_))
    obtain ⟨e231, w233, f234, z235, e232, b236, p237⟩ := p230
    subst e231
    subst e232
    rcases p237 with ⟨a238, a239, a240, a241, a242⟩ | ⟨a243, a244, a245, a246⟩
    · have f247 := f0.tr f234 rfl
      show wp _ _ 38 38 [(0, .ref r0), (1, .ref r1)] [vI z235] _ H229 _
      have u248 := TC_k a242
      refine wp_of e38 c38_38 (rw_istore_n (pc' := 39) (z := z235) (L' := [(2, vI z235), (0, .ref r0), (1, .ref r1)]) rfl rfl rfl ?_)
      refine wp_of e38 c38_39 (rw_iload_n (pc' := 40) (z := z235) rfl rfl ?_)
      refine wp_of e38 c38_40 (rw_if_lt (p1 := 62) (p2 := 43) (by decide) rfl ⟨by omega, by omega⟩ (fun c249 => ?_) (fun c249 => ?_))
      · exfalso
        omega
      · refine wp_of e38 c38_43 (rw_aload_n (pc' := 44) (v := .ref r0) rfl rfl rfl ?_)
        refine wp_of e38 c38_44 (rw_ldcS (pc' := 46) (k := 70) rfl rfl rfl rfl ?_)
        have k250 : H229 r0 0 = H r0 0 := (f234 r0 0 _ g0 rfl)
        have q251 : H229 r0 0 = (tk : Int) := k250.trans qtk
        have k252 : H229 tk 0 = H tk 0 := (f234 tk 0 _ gtk rfl)
        have q253 : H229 tk 0 = (rb : Int) := k252.trans qrb
        refine wp_of e38 c38_46 (xc_V (pc' := 49) (r := r0) (as := [.ref 70]) (st := []) (lm_1_115) rfl rfl (Nat.le_of_ble_eq_true rfl) w233 g0 sh_3 (by decide) rfl (by decide) (u_23 (B := B) (n := n) (q := ((xN B n q))) (kk := 307) w233 g0 rfl q251 gtk q253 grb (by decide +kernel) a242) (fun R254 T255 H256 p257 => ?_))
        obtain ⟨e258, w260, f261, z262, e259, b263, p264⟩ := p257
        subst e258
        subst e259
        rcases p264 with ⟨a265, a266, a267, a268⟩ | ⟨a269, a270, a271, a272⟩
        · have f273 := f247.tr f261 rfl
          show wp _ _ 38 49 [(2, vI z235), (0, .ref r0), (1, .ref r1)] [vI z262] _ H256 _
          have u274 := TC_k a268
          refine wp_of e38 c38_49 (rw_if_eq (p1 := 62) (p2 := 52) (by decide) rfl ⟨by omega, by omega⟩ (fun c275 => ?_) (fun c275 => ?_))
          · exfalso
            omega
          · refine wp_of e38 c38_52 (rw_aload_n (pc' := 53) (v := .ref r0) rfl rfl rfl ?_)
            refine wp_of e38 c38_53 (rw_iconst (pc' := 54) rfl ?_)
            refine wp_of e38 c38_54 (rw_bipush (pc' := 56) (z := 99) rfl (by decide) ?_)
            have k276 : H256 r0 0 = H229 r0 0 := (f261 r0 0 _ g0 rfl)
            have q277 : H256 r0 0 = (tk : Int) := k276.trans q251
            have k278 : H256 tk 0 = H229 tk 0 := (f261 tk 0 _ gtk rfl)
            have q279 : H256 tk 0 = (rb : Int) := k278.trans q253
            refine wp_of e38 c38_56 (xc_V (pc' := 59) (r := r0) (as := [vI 0, vI 99]) (st := []) (lm_1_119) rfl rfl (Nat.le_of_ble_eq_true rfl) w260 g0 sh_3 (by decide) rfl (by decide) (u_24 (B := B) (n := n) (q := ((xN B n ((xN B n q))))) (lo := 0) (hi := 99) w260 g0 ⟨by omega, by omega⟩ ⟨by omega, by omega⟩ q277 gtk q279 grb (by omega) (by omega) a268) (fun R280 T281 H282 p283 => ?_))
            obtain ⟨e284, w286, f287, z288, e285, b289, p290⟩ := p283
            subst e284
            subst e285
            rcases p290 with ⟨a291, a292, a293, a294, a295⟩ | ⟨a296, a297, a298, a299⟩
            · have f300 := f273.tr f287 rfl
              show wp _ _ 38 59 [(2, vI z235), (0, .ref r0), (1, .ref r1)] [vI z288] _ H282 _
              have u301 := TC_k a295
              refine wp_of e38 c38_59 (rw_goto (p1 := 63) (by decide) ?_)
              refine wp_of e38 c38_63 (rw_istore_n (pc' := 64) (z := z288) (L' := [(3, vI z288), (2, vI z235), (0, .ref r0), (1, .ref r1)]) rfl rfl rfl ?_)
              refine wp_of e38 c38_64 (rw_iload_n (pc' := 65) (z := z288) rfl rfl ?_)
              refine wp_of e38 c38_65 (rw_if_ge (p1 := 70) (p2 := 68) (by decide) rfl ⟨by omega, by omega⟩ (fun c302 => ?_) (fun c302 => ?_))
              · refine wp_of e38 c38_70 (rw_aload_n (pc' := 71) (v := .ref r1) rfl rfl rfl ?_)
                refine wp_of e38 c38_71 (rw_iload_n (pc' := 72) (z := z235) rfl rfl ?_)
                refine wp_of e38 c38_72 (rw_iload_n (pc' := 73) (z := z288) rfl rfl ?_)
                have h303 : DC T H282 r1 d := (DC_fr w260 g1 f287 rfl (DC_fr w233 g1 f261 rfl (DC_fr hW g1 f234 rfl hDC_r1)))
                refine wp_of e38 c38_73 (xc_V (pc' := 76) (r := r1) (as := [vI z235, vI z288]) (st := []) (lm_1_238) rfl rfl (Nat.le_of_ble_eq_true rfl) w286 g1 sh_27 (by decide) rfl (by decide) (u_40 (d := d) (w := (xV B n (xN B n (xN B n q)) + 1)) (y := (xV B n q)) w286 g1 ⟨by omega, by omega⟩ ⟨by omega, by omega⟩ (by omega) (by omega) h303) (fun R304 T305 H306 p307 => ?_))
                obtain ⟨e308, w310, f311, e309, p312⟩ := p307
                subst e308
                subst e309
                have f314 := f300.tr f311 rfl
                show wp _ _ 38 76 [(3, vI z288), (2, vI z235), (0, .ref r0), (1, .ref r1)] [] _ H306 _
                have u315 := DC_k p312
                refine wp_of e38 c38_76 (rw_iconst (pc' := 77) rfl ?_)
                have k316 : H306 r0 3 = H282 r0 3 := (f311 r0 3 _ g0 rfl)
                have o317 : (xst B n q d) = (0, q, (xN B n ((xN B n ((xN B n q)))))) := by
                  unfold xst
                  repeat first | rw [xs_0 (by omega)] | rw [xs_1 (by omega)] | rw [if_pos (by omega)] | rw [if_neg (by omega)]
                  first | done | rfl | assumption | (exfalso; omega) | (refine Prod.ext ?_ (Prod.ext ?_ ?_) <;> (try dsimp only) <;> omega)
                have o317a : ((xst B n q d)).1 = 0 := by rw [o317]
                have o317b : ((xst B n q d)).2.1 = q := by rw [o317]
                have o317c : ((xst B n q d)).2.2 = (xN B n ((xN B n ((xN B n q))))) := by rw [o317]
                have h318 : TC T H306 tk B n (xN B n ((xN B n ((xN B n q))))) := (TC_fr w286 gtk f311 rfl a295)
                exact wp_zreturn e38 c38_77 rfl (by omega) ⟨rfl, w310, f314, 1, rfl, ⟨by omega, by omega⟩, (Or.inl ⟨by omega, by omega, o317, by omega, by omega, h318, p312⟩)⟩
              · exfalso
                omega
            · have f319 := f273.tr f287 rfl
              show wp _ _ 38 59 [(2, vI z235), (0, .ref r0), (1, .ref r1)] [vI z288] _ H282 _
              refine wp_of e38 c38_59 (rw_goto (p1 := 63) (by decide) ?_)
              refine wp_of e38 c38_63 (rw_istore_n (pc' := 64) (z := z288) (L' := [(3, vI z288), (2, vI z235), (0, .ref r0), (1, .ref r1)]) rfl rfl rfl ?_)
              refine wp_of e38 c38_64 (rw_iload_n (pc' := 65) (z := z288) rfl rfl ?_)
              refine wp_of e38 c38_65 (rw_if_ge (p1 := 70) (p2 := 68) (by decide) rfl ⟨by omega, by omega⟩ (fun c320 => ?_) (fun c320 => ?_))
              · exfalso
                omega
              · refine wp_of e38 c38_68 (rw_iconst (pc' := 69) rfl ?_)
                have k321 : H282 r1 7 = H r1 7 := ((f287 r1 7 _ g1 rfl).trans ((f261 r1 7 _ g1 rfl).trans (f234 r1 7 _ g1 rfl)))
                have k322 : H282 r1 8 = H r1 8 := ((f287 r1 8 _ g1 rfl).trans ((f261 r1 8 _ g1 rfl).trans (f234 r1 8 _ g1 rfl)))
                have k323 : H282 r1 9 = H r1 9 := ((f287 r1 9 _ g1 rfl).trans ((f261 r1 9 _ g1 rfl).trans (f234 r1 9 _ g1 rfl)))
                have k324 : H282 r1 10 = H r1 10 := ((f287 r1 10 _ g1 rfl).trans ((f261 r1 10 _ g1 rfl).trans (f234 r1 10 _ g1 rfl)))
                have k325 : H282 r1 11 = H r1 11 := ((f287 r1 11 _ g1 rfl).trans ((f261 r1 11 _ g1 rfl).trans (f234 r1 11 _ g1 rfl)))
                have k326 : H282 r1 12 = H r1 12 := ((f287 r1 12 _ g1 rfl).trans ((f261 r1 12 _ g1 rfl).trans (f234 r1 12 _ g1 rfl)))
                have k327 : H282 r1 13 = H r1 13 := ((f287 r1 13 _ g1 rfl).trans ((f261 r1 13 _ g1 rfl).trans (f234 r1 13 _ g1 rfl)))
                have k328 : H282 r1 14 = H r1 14 := ((f287 r1 14 _ g1 rfl).trans ((f261 r1 14 _ g1 rfl).trans (f234 r1 14 _ g1 rfl)))
                have k329 : H282 r1 15 = H r1 15 := ((f287 r1 15 _ g1 rfl).trans ((f261 r1 15 _ g1 rfl).trans (f234 r1 15 _ g1 rfl)))
                have k330 : H282 r1 16 = H r1 16 := ((f287 r1 16 _ g1 rfl).trans ((f261 r1 16 _ g1 rfl).trans (f234 r1 16 _ g1 rfl)))
                have o331 : (xst B n q d) = (xh B n ((xN B n ((xN B n q)))) 0 99, ((xN B n ((xN B n q)))), ((xN B n ((xN B n q))))) := by
                  unfold xst
                  repeat first | rw [xs_0 (by omega)] | rw [xs_1 (by omega)] | rw [if_pos (by omega)] | rw [if_neg (by omega)]
                  first | done | rfl | assumption | (exfalso; omega) | (refine Prod.ext ?_ (Prod.ext ?_ ?_) <;> (try dsimp only) <;> omega)
                have o331a : ((xst B n q d)).1 = xh B n ((xN B n ((xN B n q)))) 0 99 := by rw [o331]
                have o331b : ((xst B n q d)).2.1 = ((xN B n ((xN B n q)))) := by rw [o331]
                have o331c : ((xst B n q d)).2.2 = ((xN B n ((xN B n q)))) := by rw [o331]
                exact wp_zreturn e38 c38_69 rfl (by omega) ⟨rfl, w286, f319, 0, rfl, ⟨by omega, by omega⟩, (Or.inr ⟨by omega, by omega, by omega, by omega, by omega⟩)⟩
        · have f332 := f247.tr f261 rfl
          show wp _ _ 38 49 [(2, vI z235), (0, .ref r0), (1, .ref r1)] [vI z262] _ H256 _
          refine wp_of e38 c38_49 (rw_if_eq (p1 := 62) (p2 := 52) (by decide) rfl ⟨by omega, by omega⟩ (fun c333 => ?_) (fun c333 => ?_))
          · refine wp_of e38 c38_62 (rw_iconst (pc' := 63) rfl ?_)
            refine wp_of e38 c38_63 (rw_istore_n (pc' := 64) (z := -1) (L' := [(3, vI (-1)), (2, vI z235), (0, .ref r0), (1, .ref r1)]) rfl rfl rfl ?_)
            refine wp_of e38 c38_64 (rw_iload_n (pc' := 65) (z := -1) rfl rfl ?_)
            refine wp_of e38 c38_65 (rw_if_ge (p1 := 70) (p2 := 68) (by decide) rfl ⟨by omega, by omega⟩ (fun c334 => ?_) (fun c334 => ?_))
            · exfalso
              omega
            · refine wp_of e38 c38_68 (rw_iconst (pc' := 69) rfl ?_)
              have k335 : H256 r1 7 = H r1 7 := ((f261 r1 7 _ g1 rfl).trans (f234 r1 7 _ g1 rfl))
              have k336 : H256 r1 8 = H r1 8 := ((f261 r1 8 _ g1 rfl).trans (f234 r1 8 _ g1 rfl))
              have k337 : H256 r1 9 = H r1 9 := ((f261 r1 9 _ g1 rfl).trans (f234 r1 9 _ g1 rfl))
              have k338 : H256 r1 10 = H r1 10 := ((f261 r1 10 _ g1 rfl).trans (f234 r1 10 _ g1 rfl))
              have k339 : H256 r1 11 = H r1 11 := ((f261 r1 11 _ g1 rfl).trans (f234 r1 11 _ g1 rfl))
              have k340 : H256 r1 12 = H r1 12 := ((f261 r1 12 _ g1 rfl).trans (f234 r1 12 _ g1 rfl))
              have k341 : H256 r1 13 = H r1 13 := ((f261 r1 13 _ g1 rfl).trans (f234 r1 13 _ g1 rfl))
              have k342 : H256 r1 14 = H r1 14 := ((f261 r1 14 _ g1 rfl).trans (f234 r1 14 _ g1 rfl))
              have k343 : H256 r1 15 = H r1 15 := ((f261 r1 15 _ g1 rfl).trans (f234 r1 15 _ g1 rfl))
              have k344 : H256 r1 16 = H r1 16 := ((f261 r1 16 _ g1 rfl).trans (f234 r1 16 _ g1 rfl))
              have o345 : (xst B n q d) = (xw B n ((xN B n q)) 307, ((xN B n q)), ((xN B n q))) := by
                unfold xst
                repeat first | rw [xs_0 (by omega)] | rw [xs_1 (by omega)] | rw [if_pos (by omega)] | rw [if_neg (by omega)]
                first | done | rfl | assumption | (exfalso; omega) | (refine Prod.ext ?_ (Prod.ext ?_ ?_) <;> (try dsimp only) <;> omega)
              have o345a : ((xst B n q d)).1 = xw B n ((xN B n q)) 307 := by rw [o345]
              have o345b : ((xst B n q d)).2.1 = ((xN B n q)) := by rw [o345]
              have o345c : ((xst B n q d)).2.2 = ((xN B n q)) := by rw [o345]
              exact wp_zreturn e38 c38_69 rfl (by omega) ⟨rfl, w260, f332, 0, rfl, ⟨by omega, by omega⟩, (Or.inr ⟨by omega, by omega, by omega, by omega, by omega⟩)⟩
          · exfalso
            omega
    · have f346 := f0.tr f234 rfl
      show wp _ _ 38 38 [(0, .ref r0), (1, .ref r1)] [vI z235] _ H229 _
      refine wp_of e38 c38_38 (rw_istore_n (pc' := 39) (z := z235) (L' := [(2, vI z235), (0, .ref r0), (1, .ref r1)]) rfl rfl rfl ?_)
      refine wp_of e38 c38_39 (rw_iload_n (pc' := 40) (z := z235) rfl rfl ?_)
      refine wp_of e38 c38_40 (rw_if_lt (p1 := 62) (p2 := 43) (by decide) rfl ⟨by omega, by omega⟩ (fun c347 => ?_) (fun c347 => ?_))
      · refine wp_of e38 c38_62 (rw_iconst (pc' := 63) rfl ?_)
        refine wp_of e38 c38_63 (rw_istore_n (pc' := 64) (z := -1) (L' := [(3, vI (-1)), (2, vI z235), (0, .ref r0), (1, .ref r1)]) rfl rfl rfl ?_)
        refine wp_of e38 c38_64 (rw_iload_n (pc' := 65) (z := -1) rfl rfl ?_)
        refine wp_of e38 c38_65 (rw_if_ge (p1 := 70) (p2 := 68) (by decide) rfl ⟨by omega, by omega⟩ (fun c348 => ?_) (fun c348 => ?_))
        · exfalso
          omega
        · refine wp_of e38 c38_68 (rw_iconst (pc' := 69) rfl ?_)
          have k349 : H229 r1 7 = H r1 7 := (f234 r1 7 _ g1 rfl)
          have k350 : H229 r1 8 = H r1 8 := (f234 r1 8 _ g1 rfl)
          have k351 : H229 r1 9 = H r1 9 := (f234 r1 9 _ g1 rfl)
          have k352 : H229 r1 10 = H r1 10 := (f234 r1 10 _ g1 rfl)
          have k353 : H229 r1 11 = H r1 11 := (f234 r1 11 _ g1 rfl)
          have k354 : H229 r1 12 = H r1 12 := (f234 r1 12 _ g1 rfl)
          have k355 : H229 r1 13 = H r1 13 := (f234 r1 13 _ g1 rfl)
          have k356 : H229 r1 14 = H r1 14 := (f234 r1 14 _ g1 rfl)
          have k357 : H229 r1 15 = H r1 15 := (f234 r1 15 _ g1 rfl)
          have k358 : H229 r1 16 = H r1 16 := (f234 r1 16 _ g1 rfl)
          have o359 : (xst B n q d) = (xsh B n q d, q, q) := by
            unfold xst
            repeat first | rw [xs_0 (by omega)] | rw [xs_1 (by omega)] | rw [if_pos (by omega)] | rw [if_neg (by omega)]
            first | done | rfl | assumption | (exfalso; omega) | (refine Prod.ext ?_ (Prod.ext ?_ ?_) <;> (try dsimp only) <;> omega)
          have o359a : ((xst B n q d)).1 = xsh B n q d := by rw [o359]
          have o359b : ((xst B n q d)).2.1 = q := by rw [o359]
          have o359c : ((xst B n q d)).2.2 = q := by rw [o359]
          exact wp_zreturn e38 c38_69 rfl (by omega) ⟨rfl, w233, f346, 0, rfl, ⟨by omega, by omega⟩, (Or.inr ⟨by omega, by omega, by omega, by omega, by omega⟩)⟩
      · exfalso
        omega
  · refine wp_of e38 c38_11 (rw_aload_n (pc' := 12) (v := .ref r1) rfl rfl rfl ?_)
    refine wp_of e38 c38_12 (rw_aload_n (pc' := 13) (v := .ref r0) rfl rfl rfl ?_)
    refine wp_of e38 c38_13 (xg_K (pc' := 16) lf_1_12 hW g0 sh_3 (by decide) (by decide) rfl qtk rfl ?_)
    refine wp_of e38 c38_16 (xg_I (pc' := 19) lf_1_230 hW gtk sh_4 (by decide) (by decide) ty_4_5 rfl rfl (fun b360 b361 => ?_))
    refine wp_of e38 c38_19 (xc_V (pc' := 22) (r := r1) (as := [vI (H tk 5)]) (st := []) (lm_1_233) rfl rfl (Nat.le_of_ble_eq_true rfl) hW g1 sh_27 (by decide) rfl (by decide) (u_39 (d := d) (y := (xV B n q)) hW g1 ⟨by omega, by omega⟩ (by omega) hDC_r1) (fun R362 T363 H364 p365 => ?_))
    obtain ⟨e366, e368, z369, e367, b370, p371⟩ := p365
    subst e366
    subst e367
    subst e368
    rcases p371 with ⟨a372, a373, a374⟩ | ⟨a375, a376⟩
    · show wp _ _ 38 22 [(0, .ref r0), (1, .ref r1)] [vI z369] _ H _
      refine wp_of e38 c38_22 (rw_if_eq (p1 := 31) (p2 := 25) (by decide) rfl ⟨by omega, by omega⟩ (fun c377 => ?_) (fun c377 => ?_))
      · exfalso
        omega
      · refine wp_of e38 c38_25 (rw_aload_n (pc' := 26) (v := .ref r0) rfl rfl rfl ?_)
        refine wp_of e38 c38_26 (rw_iconst (pc' := 27) rfl ?_)
        refine wp_of e38 c38_27 (xc_V (pc' := 30) (r := r0) (as := [vI 3]) (st := []) (lm_1_47) rfl rfl (Nat.le_of_ble_eq_true rfl) hW g0 sh_3 (by decide) rfl (by decide) (u_20  hW g0 ⟨by omega, by omega⟩ qtk gtk) (fun R378 T379 H380 p381 => ?_))
        obtain ⟨e382, w384, f385, z386, e383, b387, p388⟩ := p381
        subst e382
        subst e383
        obtain ⟨a389, a390, a391⟩ := p388
        have f392 := f0.tr f385 rfl
        show wp _ _ 38 30 [(0, .ref r0), (1, .ref r1)] [vI z386] _ H380 _
        have k393 : H380 r1 7 = H r1 7 := (f385 r1 7 _ g1 rfl)
        have k394 : H380 r1 8 = H r1 8 := (f385 r1 8 _ g1 rfl)
        have k395 : H380 r1 9 = H r1 9 := (f385 r1 9 _ g1 rfl)
        have k396 : H380 r1 10 = H r1 10 := (f385 r1 10 _ g1 rfl)
        have k397 : H380 r1 11 = H r1 11 := (f385 r1 11 _ g1 rfl)
        have k398 : H380 r1 12 = H r1 12 := (f385 r1 12 _ g1 rfl)
        have k399 : H380 r1 13 = H r1 13 := (f385 r1 13 _ g1 rfl)
        have k400 : H380 r1 14 = H r1 14 := (f385 r1 14 _ g1 rfl)
        have k401 : H380 r1 15 = H r1 15 := (f385 r1 15 _ g1 rfl)
        have k402 : H380 r1 16 = H r1 16 := (f385 r1 16 _ g1 rfl)
        have o403 : (xst B n q d) = (xsh B n q d, q, q) := by
          unfold xst
          repeat first | rw [xs_0 (by omega)] | rw [xs_1 (by omega)] | rw [if_pos (by omega)] | rw [if_neg (by omega)]
          first | done | rfl | assumption | (exfalso; omega) | (refine Prod.ext ?_ (Prod.ext ?_ ?_) <;> (try dsimp only) <;> omega)
        have o403a : ((xst B n q d)).1 = xsh B n q d := by rw [o403]
        have o403b : ((xst B n q d)).2.1 = q := by rw [o403]
        have o403c : ((xst B n q d)).2.2 = q := by rw [o403]
        exact wp_zreturn e38 c38_30 rfl (by omega) ⟨rfl, w384, f392, z386, rfl, ⟨by omega, by omega⟩, (Or.inr ⟨by omega, by omega, by omega, by omega, by omega⟩)⟩
    · show wp _ _ 38 22 [(0, .ref r0), (1, .ref r1)] [vI z369] _ H _
      refine wp_of e38 c38_22 (rw_if_eq (p1 := 31) (p2 := 25) (by decide) rfl ⟨by omega, by omega⟩ (fun c404 => ?_) (fun c404 => ?_))
      · refine wp_of e38 c38_31 (rw_aload_n (pc' := 32) (v := .ref r0) rfl rfl rfl ?_)
        refine wp_of e38 c38_32 (rw_iconst (pc' := 33) rfl ?_)
        refine wp_of e38 c38_33 (rw_bipush (pc' := 35) (z := 23) rfl (by decide) ?_)
        refine wp_of e38 c38_35 (xc_V (pc' := 38) (r := r0) (as := [vI 0, vI 23]) (st := []) (lm_1_119) rfl rfl (Nat.le_of_ble_eq_true rfl) hW g0 sh_3 (by decide) rfl (by decide) (u_24 (B := B) (n := n) (q := q) (lo := 0) (hi := 23) hW g0 ⟨by omega, by omega⟩ ⟨by omega, by omega⟩ qtk gtk qrb grb (by omega) (by omega) hTC_tk) (fun R405 T406 H407 p408 => ?_))
        obtain ⟨e409, w411, f412, z413, e410, b414, p415⟩ := p408
        subst e409
        subst e410
        rcases p415 with ⟨a416, a417, a418, a419, a420⟩ | ⟨a421, a422, a423, a424⟩
        · have f425 := f0.tr f412 rfl
          show wp _ _ 38 38 [(0, .ref r0), (1, .ref r1)] [vI z413] _ H407 _
          have u426 := TC_k a420
          refine wp_of e38 c38_38 (rw_istore_n (pc' := 39) (z := z413) (L' := [(2, vI z413), (0, .ref r0), (1, .ref r1)]) rfl rfl rfl ?_)
          refine wp_of e38 c38_39 (rw_iload_n (pc' := 40) (z := z413) rfl rfl ?_)
          refine wp_of e38 c38_40 (rw_if_lt (p1 := 62) (p2 := 43) (by decide) rfl ⟨by omega, by omega⟩ (fun c427 => ?_) (fun c427 => ?_))
          · exfalso
            omega
          · refine wp_of e38 c38_43 (rw_aload_n (pc' := 44) (v := .ref r0) rfl rfl rfl ?_)
            refine wp_of e38 c38_44 (rw_ldcS (pc' := 46) (k := 70) rfl rfl rfl rfl ?_)
            have k428 : H407 r0 0 = H r0 0 := (f412 r0 0 _ g0 rfl)
            have q429 : H407 r0 0 = (tk : Int) := k428.trans qtk
            have k430 : H407 tk 0 = H tk 0 := (f412 tk 0 _ gtk rfl)
            have q431 : H407 tk 0 = (rb : Int) := k430.trans qrb
            refine wp_of e38 c38_46 (xc_V (pc' := 49) (r := r0) (as := [.ref 70]) (st := []) (lm_1_115) rfl rfl (Nat.le_of_ble_eq_true rfl) w411 g0 sh_3 (by decide) rfl (by decide) (u_23 (B := B) (n := n) (q := ((xN B n q))) (kk := 307) w411 g0 rfl q429 gtk q431 grb (by decide +kernel) a420) (fun R432 T433 H434 p435 => ?_))
            obtain ⟨e436, w438, f439, z440, e437, b441, p442⟩ := p435
            subst e436
            subst e437
            rcases p442 with ⟨a443, a444, a445, a446⟩ | ⟨a447, a448, a449, a450⟩
            · have f451 := f425.tr f439 rfl
              show wp _ _ 38 49 [(2, vI z413), (0, .ref r0), (1, .ref r1)] [vI z440] _ H434 _
              have u452 := TC_k a446
              refine wp_of e38 c38_49 (rw_if_eq (p1 := 62) (p2 := 52) (by decide) rfl ⟨by omega, by omega⟩ (fun c453 => ?_) (fun c453 => ?_))
              · exfalso
                omega
              · refine wp_of e38 c38_52 (rw_aload_n (pc' := 53) (v := .ref r0) rfl rfl rfl ?_)
                refine wp_of e38 c38_53 (rw_iconst (pc' := 54) rfl ?_)
                refine wp_of e38 c38_54 (rw_bipush (pc' := 56) (z := 99) rfl (by decide) ?_)
                have k454 : H434 r0 0 = H407 r0 0 := (f439 r0 0 _ g0 rfl)
                have q455 : H434 r0 0 = (tk : Int) := k454.trans q429
                have k456 : H434 tk 0 = H407 tk 0 := (f439 tk 0 _ gtk rfl)
                have q457 : H434 tk 0 = (rb : Int) := k456.trans q431
                refine wp_of e38 c38_56 (xc_V (pc' := 59) (r := r0) (as := [vI 0, vI 99]) (st := []) (lm_1_119) rfl rfl (Nat.le_of_ble_eq_true rfl) w438 g0 sh_3 (by decide) rfl (by decide) (u_24 (B := B) (n := n) (q := ((xN B n ((xN B n q))))) (lo := 0) (hi := 99) w438 g0 ⟨by omega, by omega⟩ ⟨by omega, by omega⟩ q455 gtk q457 grb (by omega) (by omega) a446) (fun R458 T459 H460 p461 => ?_))
                obtain ⟨e462, w464, f465, z466, e463, b467, p468⟩ := p461
                subst e462
                subst e463
                rcases p468 with ⟨a469, a470, a471, a472, a473⟩ | ⟨a474, a475, a476, a477⟩
                · have f478 := f451.tr f465 rfl
                  show wp _ _ 38 59 [(2, vI z413), (0, .ref r0), (1, .ref r1)] [vI z466] _ H460 _
                  have u479 := TC_k a473
                  refine wp_of e38 c38_59 (rw_goto (p1 := 63) (by decide) ?_)
                  refine wp_of e38 c38_63 (rw_istore_n (pc' := 64) (z := z466) (L' := [(3, vI z466), (2, vI z413), (0, .ref r0), (1, .ref r1)]) rfl rfl rfl ?_)
                  refine wp_of e38 c38_64 (rw_iload_n (pc' := 65) (z := z466) rfl rfl ?_)
                  refine wp_of e38 c38_65 (rw_if_ge (p1 := 70) (p2 := 68) (by decide) rfl ⟨by omega, by omega⟩ (fun c480 => ?_) (fun c480 => ?_))
                  · refine wp_of e38 c38_70 (rw_aload_n (pc' := 71) (v := .ref r1) rfl rfl rfl ?_)
                    refine wp_of e38 c38_71 (rw_iload_n (pc' := 72) (z := z413) rfl rfl ?_)
                    refine wp_of e38 c38_72 (rw_iload_n (pc' := 73) (z := z466) rfl rfl ?_)
                    have h481 : DC T H460 r1 d := (DC_fr w438 g1 f465 rfl (DC_fr w411 g1 f439 rfl (DC_fr hW g1 f412 rfl hDC_r1)))
                    refine wp_of e38 c38_73 (xc_V (pc' := 76) (r := r1) (as := [vI z413, vI z466]) (st := []) (lm_1_238) rfl rfl (Nat.le_of_ble_eq_true rfl) w464 g1 sh_27 (by decide) rfl (by decide) (u_40 (d := d) (w := (xV B n (xN B n (xN B n q)) + 1)) (y := (xV B n q)) w464 g1 ⟨by omega, by omega⟩ ⟨by omega, by omega⟩ (by omega) (by omega) h481) (fun R482 T483 H484 p485 => ?_))
                    obtain ⟨e486, w488, f489, e487, p490⟩ := p485
                    subst e486
                    subst e487
                    have f492 := f478.tr f489 rfl
                    show wp _ _ 38 76 [(3, vI z466), (2, vI z413), (0, .ref r0), (1, .ref r1)] [] _ H484 _
                    have u493 := DC_k p490
                    refine wp_of e38 c38_76 (rw_iconst (pc' := 77) rfl ?_)
                    have k494 : H484 r0 3 = H460 r0 3 := (f489 r0 3 _ g0 rfl)
                    have o495 : (xst B n q d) = (0, q, (xN B n ((xN B n ((xN B n q)))))) := by
                      unfold xst
                      repeat first | rw [xs_0 (by omega)] | rw [xs_1 (by omega)] | rw [if_pos (by omega)] | rw [if_neg (by omega)]
                      first | done | rfl | assumption | (exfalso; omega) | (refine Prod.ext ?_ (Prod.ext ?_ ?_) <;> (try dsimp only) <;> omega)
                    have o495a : ((xst B n q d)).1 = 0 := by rw [o495]
                    have o495b : ((xst B n q d)).2.1 = q := by rw [o495]
                    have o495c : ((xst B n q d)).2.2 = (xN B n ((xN B n ((xN B n q))))) := by rw [o495]
                    have h496 : TC T H484 tk B n (xN B n ((xN B n ((xN B n q))))) := (TC_fr w464 gtk f489 rfl a473)
                    exact wp_zreturn e38 c38_77 rfl (by omega) ⟨rfl, w488, f492, 1, rfl, ⟨by omega, by omega⟩, (Or.inl ⟨by omega, by omega, o495, by omega, by omega, h496, p490⟩)⟩
                  · exfalso
                    omega
                · have f497 := f451.tr f465 rfl
                  show wp _ _ 38 59 [(2, vI z413), (0, .ref r0), (1, .ref r1)] [vI z466] _ H460 _
                  refine wp_of e38 c38_59 (rw_goto (p1 := 63) (by decide) ?_)
                  refine wp_of e38 c38_63 (rw_istore_n (pc' := 64) (z := z466) (L' := [(3, vI z466), (2, vI z413), (0, .ref r0), (1, .ref r1)]) rfl rfl rfl ?_)
                  refine wp_of e38 c38_64 (rw_iload_n (pc' := 65) (z := z466) rfl rfl ?_)
                  refine wp_of e38 c38_65 (rw_if_ge (p1 := 70) (p2 := 68) (by decide) rfl ⟨by omega, by omega⟩ (fun c498 => ?_) (fun c498 => ?_))
                  · exfalso
                    omega
                  · refine wp_of e38 c38_68 (rw_iconst (pc' := 69) rfl ?_)
                    have k499 : H460 r1 7 = H r1 7 := ((f465 r1 7 _ g1 rfl).trans ((f439 r1 7 _ g1 rfl).trans (f412 r1 7 _ g1 rfl)))
                    have k500 : H460 r1 8 = H r1 8 := ((f465 r1 8 _ g1 rfl).trans ((f439 r1 8 _ g1 rfl).trans (f412 r1 8 _ g1 rfl)))
                    have k501 : H460 r1 9 = H r1 9 := ((f465 r1 9 _ g1 rfl).trans ((f439 r1 9 _ g1 rfl).trans (f412 r1 9 _ g1 rfl)))
                    have k502 : H460 r1 10 = H r1 10 := ((f465 r1 10 _ g1 rfl).trans ((f439 r1 10 _ g1 rfl).trans (f412 r1 10 _ g1 rfl)))
                    have k503 : H460 r1 11 = H r1 11 := ((f465 r1 11 _ g1 rfl).trans ((f439 r1 11 _ g1 rfl).trans (f412 r1 11 _ g1 rfl)))
                    have k504 : H460 r1 12 = H r1 12 := ((f465 r1 12 _ g1 rfl).trans ((f439 r1 12 _ g1 rfl).trans (f412 r1 12 _ g1 rfl)))
                    have k505 : H460 r1 13 = H r1 13 := ((f465 r1 13 _ g1 rfl).trans ((f439 r1 13 _ g1 rfl).trans (f412 r1 13 _ g1 rfl)))
                    have k506 : H460 r1 14 = H r1 14 := ((f465 r1 14 _ g1 rfl).trans ((f439 r1 14 _ g1 rfl).trans (f412 r1 14 _ g1 rfl)))
                    have k507 : H460 r1 15 = H r1 15 := ((f465 r1 15 _ g1 rfl).trans ((f439 r1 15 _ g1 rfl).trans (f412 r1 15 _ g1 rfl)))
                    have k508 : H460 r1 16 = H r1 16 := ((f465 r1 16 _ g1 rfl).trans ((f439 r1 16 _ g1 rfl).trans (f412 r1 16 _ g1 rfl)))
                    have o509 : (xst B n q d) = (xh B n ((xN B n ((xN B n q)))) 0 99, ((xN B n ((xN B n q)))), ((xN B n ((xN B n q))))) := by
                      unfold xst
                      repeat first | rw [xs_0 (by omega)] | rw [xs_1 (by omega)] | rw [if_pos (by omega)] | rw [if_neg (by omega)]
                      first | done | rfl | assumption | (exfalso; omega) | (refine Prod.ext ?_ (Prod.ext ?_ ?_) <;> (try dsimp only) <;> omega)
                    have o509a : ((xst B n q d)).1 = xh B n ((xN B n ((xN B n q)))) 0 99 := by rw [o509]
                    have o509b : ((xst B n q d)).2.1 = ((xN B n ((xN B n q)))) := by rw [o509]
                    have o509c : ((xst B n q d)).2.2 = ((xN B n ((xN B n q)))) := by rw [o509]
                    exact wp_zreturn e38 c38_69 rfl (by omega) ⟨rfl, w464, f497, 0, rfl, ⟨by omega, by omega⟩, (Or.inr ⟨by omega, by omega, by omega, by omega, by omega⟩)⟩
            · have f510 := f425.tr f439 rfl
              show wp _ _ 38 49 [(2, vI z413), (0, .ref r0), (1, .ref r1)] [vI z440] _ H434 _
              refine wp_of e38 c38_49 (rw_if_eq (p1 := 62) (p2 := 52) (by decide) rfl ⟨by omega, by omega⟩ (fun c511 => ?_) (fun c511 => ?_))
              · refine wp_of e38 c38_62 (rw_iconst (pc' := 63) rfl ?_)
                refine wp_of e38 c38_63 (rw_istore_n (pc' := 64) (z := -1) (L' := [(3, vI (-1)), (2, vI z413), (0, .ref r0), (1, .ref r1)]) rfl rfl rfl ?_)
                refine wp_of e38 c38_64 (rw_iload_n (pc' := 65) (z := -1) rfl rfl ?_)
                refine wp_of e38 c38_65 (rw_if_ge (p1 := 70) (p2 := 68) (by decide) rfl ⟨by omega, by omega⟩ (fun c512 => ?_) (fun c512 => ?_))
                · exfalso
                  omega
                · refine wp_of e38 c38_68 (rw_iconst (pc' := 69) rfl ?_)
                  have k513 : H434 r1 7 = H r1 7 := ((f439 r1 7 _ g1 rfl).trans (f412 r1 7 _ g1 rfl))
                  have k514 : H434 r1 8 = H r1 8 := ((f439 r1 8 _ g1 rfl).trans (f412 r1 8 _ g1 rfl))
                  have k515 : H434 r1 9 = H r1 9 := ((f439 r1 9 _ g1 rfl).trans (f412 r1 9 _ g1 rfl))
                  have k516 : H434 r1 10 = H r1 10 := ((f439 r1 10 _ g1 rfl).trans (f412 r1 10 _ g1 rfl))
                  have k517 : H434 r1 11 = H r1 11 := ((f439 r1 11 _ g1 rfl).trans (f412 r1 11 _ g1 rfl))
                  have k518 : H434 r1 12 = H r1 12 := ((f439 r1 12 _ g1 rfl).trans (f412 r1 12 _ g1 rfl))
                  have k519 : H434 r1 13 = H r1 13 := ((f439 r1 13 _ g1 rfl).trans (f412 r1 13 _ g1 rfl))
                  have k520 : H434 r1 14 = H r1 14 := ((f439 r1 14 _ g1 rfl).trans (f412 r1 14 _ g1 rfl))
                  have k521 : H434 r1 15 = H r1 15 := ((f439 r1 15 _ g1 rfl).trans (f412 r1 15 _ g1 rfl))
                  have k522 : H434 r1 16 = H r1 16 := ((f439 r1 16 _ g1 rfl).trans (f412 r1 16 _ g1 rfl))
                  have o523 : (xst B n q d) = (xw B n ((xN B n q)) 307, ((xN B n q)), ((xN B n q))) := by
                    unfold xst
                    repeat first | rw [xs_0 (by omega)] | rw [xs_1 (by omega)] | rw [if_pos (by omega)] | rw [if_neg (by omega)]
                    first | done | rfl | assumption | (exfalso; omega) | (refine Prod.ext ?_ (Prod.ext ?_ ?_) <;> (try dsimp only) <;> omega)
                  have o523a : ((xst B n q d)).1 = xw B n ((xN B n q)) 307 := by rw [o523]
                  have o523b : ((xst B n q d)).2.1 = ((xN B n q)) := by rw [o523]
                  have o523c : ((xst B n q d)).2.2 = ((xN B n q)) := by rw [o523]
                  exact wp_zreturn e38 c38_69 rfl (by omega) ⟨rfl, w438, f510, 0, rfl, ⟨by omega, by omega⟩, (Or.inr ⟨by omega, by omega, by omega, by omega, by omega⟩)⟩
              · exfalso
                omega
        · have f524 := f0.tr f412 rfl
          show wp _ _ 38 38 [(0, .ref r0), (1, .ref r1)] [vI z413] _ H407 _
          refine wp_of e38 c38_38 (rw_istore_n (pc' := 39) (z := z413) (L' := [(2, vI z413), (0, .ref r0), (1, .ref r1)]) rfl rfl rfl ?_)
          refine wp_of e38 c38_39 (rw_iload_n (pc' := 40) (z := z413) rfl rfl ?_)
          refine wp_of e38 c38_40 (rw_if_lt (p1 := 62) (p2 := 43) (by decide) rfl ⟨by omega, by omega⟩ (fun c525 => ?_) (fun c525 => ?_))
          · refine wp_of e38 c38_62 (rw_iconst (pc' := 63) rfl ?_)
            refine wp_of e38 c38_63 (rw_istore_n (pc' := 64) (z := -1) (L' := [(3, vI (-1)), (2, vI z413), (0, .ref r0), (1, .ref r1)]) rfl rfl rfl ?_)
            refine wp_of e38 c38_64 (rw_iload_n (pc' := 65) (z := -1) rfl rfl ?_)
            refine wp_of e38 c38_65 (rw_if_ge (p1 := 70) (p2 := 68) (by decide) rfl ⟨by omega, by omega⟩ (fun c526 => ?_) (fun c526 => ?_))
            · exfalso
              omega
            · refine wp_of e38 c38_68 (rw_iconst (pc' := 69) rfl ?_)
              have k527 : H407 r1 7 = H r1 7 := (f412 r1 7 _ g1 rfl)
              have k528 : H407 r1 8 = H r1 8 := (f412 r1 8 _ g1 rfl)
              have k529 : H407 r1 9 = H r1 9 := (f412 r1 9 _ g1 rfl)
              have k530 : H407 r1 10 = H r1 10 := (f412 r1 10 _ g1 rfl)
              have k531 : H407 r1 11 = H r1 11 := (f412 r1 11 _ g1 rfl)
              have k532 : H407 r1 12 = H r1 12 := (f412 r1 12 _ g1 rfl)
              have k533 : H407 r1 13 = H r1 13 := (f412 r1 13 _ g1 rfl)
              have k534 : H407 r1 14 = H r1 14 := (f412 r1 14 _ g1 rfl)
              have k535 : H407 r1 15 = H r1 15 := (f412 r1 15 _ g1 rfl)
              have k536 : H407 r1 16 = H r1 16 := (f412 r1 16 _ g1 rfl)
              have o537 : (xst B n q d) = (xsh B n q d, q, q) := by
                unfold xst
                repeat first | rw [xs_0 (by omega)] | rw [xs_1 (by omega)] | rw [if_pos (by omega)] | rw [if_neg (by omega)]
                first | done | rfl | assumption | (exfalso; omega) | (refine Prod.ext ?_ (Prod.ext ?_ ?_) <;> (try dsimp only) <;> omega)
              have o537a : ((xst B n q d)).1 = xsh B n q d := by rw [o537]
              have o537b : ((xst B n q d)).2.1 = q := by rw [o537]
              have o537c : ((xst B n q d)).2.2 = q := by rw [o537]
              exact wp_zreturn e38 c38_69 rfl (by omega) ⟨rfl, w411, f524, 0, rfl, ⟨by omega, by omega⟩, (Or.inr ⟨by omega, by omega, by omega, by omega, by omega⟩)⟩
          · exfalso
            omega
      · exfalso
        omega
/-! StrikeAwake$Reader.readsTold(LStrikeAwake$Parish;)Z  -/
abbrev uq_42 (r0 : Nat) (r1 : Nat) (tk : Nat) (rb : Nat) (B : Nat → Int) (n : Int) (q : Int) (d : xD) (T : wq_T) (H : wq_H) : Option Value → wq_T → wq_H → Prop := fun r T' H' => T = T' ∧ WT T H' ∧ wfr [(27, 13), (3, 1), (3, 2), (3, 3), (3, 4), (4, 2), (4, 3), (4, 4), (4, 5), (4, 6), (33, 999), (32, 999)] T H H' ∧ ∃ z : Int, some (vI z) = r ∧ (0 ≤ z ∧ z ≤ 1) ∧ (((z = 1) ∧ ((xtl B n q d).1 = 0) ∧ (xtl B n q d = (0, q, (xN B n (xN B n (xN B n (xN B n q)))))) ∧ (q ≤ (xN B n (xN B n (xN B n (xN B n q))))) ∧ (H' r0 3 = H r0 3) ∧ TC T H' tk B n (xN B n (xN B n (xN B n (xN B n q)))) ∧ DC T H' r1 (xdtl B n q d)) ∨ ((z = 0) ∧ ((xtl B n q d).1 ≠ 0) ∧ ((xtl B n q d).2.2 = (xtl B n q d).2.1) ∧ (H' r0 3 = (xtl B n q d).1) ∧ (H' r0 4 = (xtl B n q d).2.1)))
set_option maxHeartbeats 4000000 in
theorem u_42 {kt : Nat → Option mc_E} {T : wq_T} {H : wq_H} {r0 : Nat} {r1 : Nat} {tk : Nat} {rb : Nat} {B : Nat → Int} {n : Int} {q : Int} {d : xD} (hW : WT T H) (g0 : T.2.2.2 r0 = some 3) (g1 : T.2.2.2 r1 = some 27) (qtk : H r0 0 = (tk : Int)) (gtk : T.2.2.2 tk = some 4) (qrb : H tk 0 = (rb : Int)) (grb : T.2.2.2 rb = some 2) (p0 : d 0 6 ≤ 3) (hTC_tk : TC T H tk B n q) (hDC_r1 : DC T H r1 d) : wpc kt 5 42 [.ref r0, .ref r1] T H (uq_42 r0 r1 tk rb B n q d T H) := by
  refine wp_enter e42 (Nat.le_of_ble_eq_true rfl) rfl ?_
  have f0 : wfr [(27, 13), (3, 1), (3, 2), (3, 3), (3, 4), (4, 2), (4, 3), (4, 4), (4, 5), (4, 6), (33, 999), (32, 999)] T H H := wfr.rf
  show wp _ _ 42 0 [(0, .ref r0), (1, .ref r1)] [] _ H _
  have u128 := TC_k hTC_tk
  have u129 := DC_k hDC_r1
  have h130 : DQ T H r1 d := hDC_r1.2.1
  have h131 : ST T H r1 (d 13) := hDC_r1.2.2.1
  have h132 : SV T H r1 (d 13) 24 := hDC_r1.2.2.2.1
  have h133 : DA3 T H r1 (d 0 5) (d 12) := hDC_r1.2.2.2.2.1
  have h134 : DA4 T H r1 (d 0 6) (d 14) := hDC_r1.2.2.2.2.2.1
  have h135 : DA5 T H r1 (d 0 6) (d 15) := hDC_r1.2.2.2.2.2.2.1
  have h136 : DA6 T H r1 (d 0 7) (d 16) := hDC_r1.2.2.2.2.2.2.2
  have _w := @xwho_e d B n q
  refine wp_of e42 c42_0 (rw_aload_n (pc' := 1) (v := .ref r0) rfl rfl rfl ?_)
  refine wp_of e42 c42_1 (rw_aload_n (pc' := 2) (v := .ref r1) rfl rfl rfl ?_)
  refine wp_of e42 c42_2 (xc_V (pc' := 5) (r := r0) (as := [.ref r1]) (st := []) (lm_1_207) rfl rfl (Nat.le_of_ble_eq_true rfl) hW g0 sh_3 (by decide) rfl (by decide) (u_33 (B := B) (n := n) (q := q) (d := d) hW g0 g1 qtk gtk qrb grb hTC_tk hDC_r1) (fun R137 T138 H139 p140 => ?_))
  obtain ⟨e141, w143, f144, z145, e142, b146, p147⟩ := p140
  subst e141
  subst e142
  rcases p147 with ⟨a148, a149, a150, a151, a152⟩ | ⟨a153, a154, a155, a156⟩
  · have f157 := f0.tr f144 rfl
    show wp _ _ 42 5 [(0, .ref r0), (1, .ref r1)] [vI z145] _ H139 _
    refine wp_of e42 c42_5 (rw_istore_n (pc' := 6) (z := z145) (L' := [(2, vI z145), (0, .ref r0), (1, .ref r1)]) rfl rfl rfl ?_)
    refine wp_of e42 c42_6 (rw_iload_n (pc' := 7) (z := z145) rfl rfl ?_)
    refine wp_of e42 c42_7 (rw_if_ge (p1 := 12) (p2 := 10) (by decide) rfl ⟨by omega, by omega⟩ (fun c158 => ?_) (fun c158 => ?_))
    · refine wp_of e42 c42_12 (rw_aload_n (pc' := 13) (v := .ref r0) rfl rfl rfl ?_)
      have k159 : H139 r0 0 = H r0 0 := (f144 r0 0 _ g0 rfl)
      have q160 : H139 r0 0 = (tk : Int) := k159.trans qtk
      refine wp_of e42 c42_13 (xg_K (pc' := 16) lf_1_12 w143 g0 sh_3 (by decide) (by decide) rfl q160 rfl ?_)
      have k161 : H139 tk 0 = H tk 0 := (f144 tk 0 _ gtk rfl)
      have q162 : H139 tk 0 = (rb : Int) := k161.trans qrb
      have k163 : H139 tk 1 = H tk 1 := (f144 tk 1 _ gtk rfl)
      have k164 : H139 tk 2 = H tk 2 := (f144 tk 2 _ gtk rfl)
      have h165 : TC T H139 tk B n q := (TC_fr hW gtk f144 rfl hTC_tk)
      have h166 : TP T H139 rb B := TC_tp h165 q162
      refine wp_of e42 c42_16 (xc_V (pc' := 19) (r := tk) (as := []) (st := []) (lm_1_74) rfl rfl (Nat.le_of_ble_eq_true rfl) w143 gtk sh_4 (by decide) rfl (by decide) (u_16 (B := B) (n := n) (a := (xE B n q)) (q := (xN B n q)) w143 gtk q162 grb (by omega) (by omega) (by omega) (rfl) h166) (fun R167 T168 H169 p170 => ?_))
      obtain ⟨e171, w173, f174, e172, p175⟩ := p170
      subst e171
      subst e172
      have f177 := f157.tr f174 rfl
      show wp _ _ 42 19 [(2, vI z145), (0, .ref r0), (1, .ref r1)] [] _ H169 _
      have u178 := TC_k p175
      refine wp_of e42 c42_19 (rw_aload_n (pc' := 20) (v := .ref r0) rfl rfl rfl ?_)
      refine wp_of e42 c42_20 (rw_bipush (pc' := 22) (z := 23) rfl (by decide) ?_)
      refine wp_of e42 c42_22 (rw_iconst (pc' := 23) rfl ?_)
      refine wp_of e42 c42_23 (rw_bipush (pc' := 25) (z := 24) rfl (by decide) ?_)
      refine wp_of e42 c42_25 (rw_bipush (pc' := 27) (z := 24) rfl (by decide) ?_)
      have k179 : H169 r0 0 = H139 r0 0 := (f174 r0 0 _ g0 rfl)
      have q180 : H169 r0 0 = (tk : Int) := k179.trans q160
      have k181 : H169 tk 0 = H139 tk 0 := (f174 tk 0 _ gtk rfl)
      have q182 : H169 tk 0 = (rb : Int) := k181.trans q162
      have k183 : H169 r0 3 = H139 r0 3 := (f174 r0 3 _ g0 rfl)
      refine wp_of e42 c42_27 (xc_V (pc' := 30) (r := r0) (as := [vI 23, vI 1, vI 24, vI 24]) (st := []) (lm_1_154) rfl rfl (Nat.le_of_ble_eq_true rfl) w173 g0 sh_3 (by decide) rfl (by decide) (u_29 (B := B) (n := n) (q := ((xN B n q))) w173 g0 ⟨by omega, by omega⟩ ⟨by omega, by omega⟩ ⟨by omega, by omega⟩ ⟨by omega, by omega⟩ q180 gtk q182 grb p175) (fun R184 T185 H186 p187 => ?_))
      obtain ⟨e188, w190, f191, z192, e189, b193, p194⟩ := p187
      subst e188
      subst e189
      rcases p194 with ⟨a195, a196, a197, a198, a199, a200, a201, a202, a203⟩ | ⟨a204, a205, a206, a207, a208⟩
      · have f209 := f177.tr f191 rfl
        show wp _ _ 42 30 [(2, vI z145), (0, .ref r0), (1, .ref r1)] [vI z192] _ H186 _
        have u210 := TC_k a203
        refine wp_of e42 c42_30 (rw_if_ne (p1 := 35) (p2 := 33) (by decide) rfl ⟨by omega, by omega⟩ (fun c211 => ?_) (fun c211 => ?_))
        · refine wp_of e42 c42_35 (rw_aload_n (pc' := 36) (v := .ref r1) rfl rfl rfl ?_)
          refine wp_of e42 c42_36 (xg_R (pc' := 39) lf_1_242 w190 g1 sh_27 (by decide) (by decide) ty_27_4 rfl rfl (fun r212 q213 g214 => ?_))
          refine wp_of e42 c42_39 (rw_aload_n (pc' := 40) (v := .ref r1) rfl rfl rfl ?_)
          have k215 : H186 r1 13 = H r1 13 := ((f191 r1 13 _ g1 rfl).trans ((f174 r1 13 _ g1 rfl).trans (f144 r1 13 _ g1 rfl)))
          refine wp_of e42 c42_40 (xg_I (pc' := 43) lf_1_245 w190 g1 sh_27 (by decide) (by decide) ty_27_13 rfl rfl (fun b216 b217 => ?_))
          refine wp_of e42 c42_43 (rw_iload_n (pc' := 44) (z := z145) rfl rfl ?_)
          have h218 : DA4 T H186 r1 (d 0 6) (d 14) := (DA4_fr w173 g1 f191 rfl (DA4_fr w143 g1 f174 rfl (DA4_fr hW g1 f144 rfl h134)))
          refine wp_of e42 c42_44 (xs_I (pc' := 45) w190 g214 (by decide) sh_32 (by decide) (ty_32 _) (by omega) (by omega) ⟨by omega, by omega⟩ (by omega) (by omega) rfl (fun H219 e220 w221 => ?_))
          have f222 := f209.put' e220 g214 rfl
          have h223 : DA4 T H219 r1 (d 0 6 + 1) (xdtl B n q d 14) := DA_put h218 q213 g1 g214 (by decide) e220 (by omega) rfl ((xdtl_c (k := ((H186 r1 13).toNat)) (by omega)).1.trans (by omega)) (xdtl_c (k := ((H186 r1 13).toNat)) (by omega)).2
          refine wp_of e42 c42_45 (rw_aload_n (pc' := 46) (v := .ref r1) rfl rfl rfl ?_)
          refine wp_of e42 c42_46 (xg_R (pc' := 49) lf_1_248 w221 g1 sh_27 (by decide) (by decide) ty_27_5 rfl rfl (fun r224 q225 g226 => ?_))
          refine wp_of e42 c42_49 (rw_aload_n (pc' := 50) (v := .ref r1) rfl rfl rfl ?_)
          have k227 : H219 r1 13 = H186 r1 13 := (wq_u_t e220 g214 g1 rfl 13)
          refine wp_of e42 c42_50 (xg_I (pc' := 53) lf_1_245 w221 g1 sh_27 (by decide) (by decide) ty_27_13 rfl rfl (fun b228 b229 => ?_))
          refine wp_of e42 c42_53 (rw_aload_n (pc' := 54) (v := .ref r0) rfl rfl rfl ?_)
          have k230 : H219 r0 1 = H186 r0 1 := (wq_u_t e220 g214 g0 rfl 1)
          refine wp_of e42 c42_54 (xg_I (pc' := 57) lf_1_158 w221 g0 sh_3 (by decide) (by decide) ty_3_1 rfl rfl (fun b231 b232 => ?_))
          refine wp_of e42 c42_57 (rw_aload_n (pc' := 58) (v := .ref r0) rfl rfl rfl ?_)
          have k233 : H219 r0 2 = H186 r0 2 := (wq_u_t e220 g214 g0 rfl 2)
          refine wp_of e42 c42_58 (xg_I (pc' := 61) lf_1_164 w221 g0 sh_3 (by decide) (by decide) ty_3_2 rfl rfl (fun b234 b235 => ?_))
          refine wp_of e42 c42_61 (xc_S (pc' := 64) (as := [vI (H219 r0 1), vI (H219 r0 2)]) (st := [vI (H219 r1 13), .ref r224]) (lm_1_194) rfl rfl (Nat.le_of_ble_eq_true rfl) rfl (by decide) (u_31 (lo := (xV B n (xN B n q))) (hi := (xV B n (xN B n (xN B n (xN B n q))))) w221 ⟨by omega, by omega⟩ ⟨by omega, by omega⟩ (by omega) (by omega) (by omega)) (fun R236 T237 H238 p239 => ?_))
          obtain ⟨e240, e242, z243, e241, b244, p245⟩ := p239
          subst e240
          subst e241
          subst e242
          show wp _ _ 42 64 [(2, vI z145), (0, .ref r0), (1, .ref r1)] [vI z243, vI (H219 r1 13), .ref r224] _ H219 _
          have h247 : DA5 T H219 r1 (d 0 6) (d 15) := (DA5_fr w190 g1 ((wfr.rf (l := [(32, 999)])).put' e220 g214 rfl) rfl (DA5_fr w173 g1 f191 rfl (DA5_fr w143 g1 f174 rfl (DA5_fr hW g1 f144 rfl h135))))
          refine wp_of e42 c42_64 (xs_I (pc' := 65) w221 g226 (by decide) sh_33 (by decide) (ty_33 _) (by omega) (by omega) ⟨by omega, by omega⟩ (by omega) (by omega) rfl (fun H248 e249 w250 => ?_))
          have f251 := f222.put' e249 g226 rfl
          have h252 : DA5 T H248 r1 (d 0 6 + 1) (xdtl B n q d 15) := DA_put h247 q225 g1 g226 (by decide) e249 (by omega) rfl ((xdtl_e (k := ((H219 r1 13).toNat)) (by omega)).1.trans (by omega)) (xdtl_e (k := ((H219 r1 13).toNat)) (by omega)).2
          refine wp_of e42 c42_65 (rw_aload_n (pc' := 66) (v := .ref r1) rfl rfl rfl ?_)
          refine wp_of e42 c42_66 (rw_dup (pc' := 67) rfl rfl ?_)
          have k253 : H248 r1 13 = H219 r1 13 := (wq_u_t e249 g226 g1 rfl 13)
          refine wp_of e42 c42_67 (xg_I (pc' := 70) lf_1_245 w250 g1 sh_27 (by decide) (by decide) ty_27_13 rfl rfl (fun b254 b255 => ?_))
          refine wp_of e42 c42_70 (rw_iconst (pc' := 71) rfl ?_)
          refine wp_of e42 c42_71 (rw_iadd (pc' := 72) rfl ?_)
          refine wp_of e42 c42_72 (xp_I (pc' := 75) lf_1_245 w250 g1 sh_27 (by decide) (by decide) ty_27_13 rfl rfl (by omega) (by omega) ⟨by omega, by omega⟩ rfl (fun H256 e257 w258 => ?_))
          have f259 := f251.put' e257 g1 rfl
          have k260 : H256 r1 13 = (H248 r1 13) + 1 := wq_u_s e257
          refine wp_of e42 c42_75 (rw_iconst (pc' := 76) rfl ?_)
          have k261 : H256 r0 3 = H186 r0 3 := ((wq_u_t e257 g1 g0 rfl 3).trans ((wq_u_t e249 g226 g0 rfl 3).trans (wq_u_t e220 g214 g0 rfl 3)))
          have k262 : H256 r1 7 = H r1 7 := ((wq_u_j e257 rfl).trans ((wq_u_t e249 g226 g1 rfl 7).trans ((wq_u_t e220 g214 g1 rfl 7).trans ((f191 r1 7 _ g1 rfl).trans ((f174 r1 7 _ g1 rfl).trans (f144 r1 7 _ g1 rfl))))))
          have k263 : H256 r1 8 = H r1 8 := ((wq_u_j e257 rfl).trans ((wq_u_t e249 g226 g1 rfl 8).trans ((wq_u_t e220 g214 g1 rfl 8).trans ((f191 r1 8 _ g1 rfl).trans ((f174 r1 8 _ g1 rfl).trans (f144 r1 8 _ g1 rfl))))))
          have k264 : H256 r1 9 = H r1 9 := ((wq_u_j e257 rfl).trans ((wq_u_t e249 g226 g1 rfl 9).trans ((wq_u_t e220 g214 g1 rfl 9).trans ((f191 r1 9 _ g1 rfl).trans ((f174 r1 9 _ g1 rfl).trans (f144 r1 9 _ g1 rfl))))))
          have k265 : H256 r1 10 = H r1 10 := ((wq_u_j e257 rfl).trans ((wq_u_t e249 g226 g1 rfl 10).trans ((wq_u_t e220 g214 g1 rfl 10).trans ((f191 r1 10 _ g1 rfl).trans ((f174 r1 10 _ g1 rfl).trans (f144 r1 10 _ g1 rfl))))))
          have k266 : H256 r1 11 = H r1 11 := ((wq_u_j e257 rfl).trans ((wq_u_t e249 g226 g1 rfl 11).trans ((wq_u_t e220 g214 g1 rfl 11).trans ((f191 r1 11 _ g1 rfl).trans ((f174 r1 11 _ g1 rfl).trans (f144 r1 11 _ g1 rfl))))))
          have k267 : H256 r1 12 = H r1 12 := ((wq_u_j e257 rfl).trans ((wq_u_t e249 g226 g1 rfl 12).trans ((wq_u_t e220 g214 g1 rfl 12).trans ((f191 r1 12 _ g1 rfl).trans ((f174 r1 12 _ g1 rfl).trans (f144 r1 12 _ g1 rfl))))))
          have k268 : H256 r1 14 = H r1 14 := ((wq_u_j e257 rfl).trans ((wq_u_t e249 g226 g1 rfl 14).trans ((wq_u_t e220 g214 g1 rfl 14).trans ((f191 r1 14 _ g1 rfl).trans ((f174 r1 14 _ g1 rfl).trans (f144 r1 14 _ g1 rfl))))))
          have k269 : H256 r1 15 = H r1 15 := ((wq_u_j e257 rfl).trans ((wq_u_t e249 g226 g1 rfl 15).trans ((wq_u_t e220 g214 g1 rfl 15).trans ((f191 r1 15 _ g1 rfl).trans ((f174 r1 15 _ g1 rfl).trans (f144 r1 15 _ g1 rfl))))))
          have k270 : H256 r1 16 = H r1 16 := ((wq_u_j e257 rfl).trans ((wq_u_t e249 g226 g1 rfl 16).trans ((wq_u_t e220 g214 g1 rfl 16).trans ((f191 r1 16 _ g1 rfl).trans ((f174 r1 16 _ g1 rfl).trans (f144 r1 16 _ g1 rfl))))))
          have k271 : H256 r0 1 = H219 r0 1 := ((wq_u_t e257 g1 g0 rfl 1).trans (wq_u_t e249 g226 g0 rfl 1))
          have k272 : H256 r0 2 = H219 r0 2 := ((wq_u_t e257 g1 g0 rfl 2).trans (wq_u_t e249 g226 g0 rfl 2))
          have o273 : (xtl B n q d) = (0, q, (xN B n (xN B n (xN B n ((xN B n q)))))) := by
            unfold xtl
            repeat first | rw [xs_0 (by omega)] | rw [xs_1 (by omega)] | rw [if_pos (by omega)] | rw [if_neg (by omega)]
            first | done | rfl | assumption | (exfalso; omega) | (refine Prod.ext ?_ (Prod.ext ?_ ?_) <;> (try dsimp only) <;> omega)
          have o273a : ((xtl B n q d)).1 = 0 := by rw [o273]
          have o273b : ((xtl B n q d)).2.1 = q := by rw [o273]
          have o273c : ((xtl B n q d)).2.2 = (xN B n (xN B n (xN B n ((xN B n q))))) := by rw [o273]
          have _l := @xdtl_v B n q d
          have h274 : TC T H256 tk B n (xN B n (xN B n (xN B n ((xN B n q))))) := (TC_fr w250 gtk ((wfr.rf (l := [(27, 13)])).put' e257 g1 rfl) rfl (TC_fr w221 gtk ((wfr.rf (l := [(33, 999)])).put' e249 g226 rfl) rfl (TC_fr w190 gtk ((wfr.rf (l := [(32, 999)])).put' e220 g214 rfl) rfl a203)))
          have h275 : DQ T H256 r1 d := (DQ_fr w250 g1 ((wfr.rf (l := [(27, 13)])).put' e257 g1 rfl) rfl (DQ_fr w221 g1 ((wfr.rf (l := [(33, 999)])).put' e249 g226 rfl) rfl (DQ_fr w190 g1 ((wfr.rf (l := [(32, 999)])).put' e220 g214 rfl) rfl (DQ_fr w173 g1 f191 rfl (DQ_fr w143 g1 f174 rfl (DQ_fr hW g1 f144 rfl h130))))))
          have h276 : ST T H256 r1 (d 13) := (ST_fr w250 g1 ((wfr.rf (l := [(27, 13)])).put' e257 g1 rfl) rfl (ST_fr w221 g1 ((wfr.rf (l := [(33, 999)])).put' e249 g226 rfl) rfl (ST_fr w190 g1 ((wfr.rf (l := [(32, 999)])).put' e220 g214 rfl) rfl (ST_fr w173 g1 f191 rfl (ST_fr w143 g1 f174 rfl (ST_fr hW g1 f144 rfl h131))))))
          have h277 : SV T H256 r1 (d 13) 24 := (SV_fr w250 g1 ((wfr.rf (l := [(27, 13)])).put' e257 g1 rfl) rfl (SV_fr w221 g1 ((wfr.rf (l := [(33, 999)])).put' e249 g226 rfl) rfl (SV_fr w190 g1 ((wfr.rf (l := [(32, 999)])).put' e220 g214 rfl) rfl (SV_fr w173 g1 f191 rfl (SV_fr w143 g1 f174 rfl (SV_fr hW g1 f144 rfl h132))))))
          have h278 : DA3 T H256 r1 (d 0 5) (d 12) := (DA3_fr w250 g1 ((wfr.rf (l := [(27, 13)])).put' e257 g1 rfl) rfl (DA3_fr w221 g1 ((wfr.rf (l := [(33, 999)])).put' e249 g226 rfl) rfl (DA3_fr w190 g1 ((wfr.rf (l := [(32, 999)])).put' e220 g214 rfl) rfl (DA3_fr w173 g1 f191 rfl (DA3_fr w143 g1 f174 rfl (DA3_fr hW g1 f144 rfl h133))))))
          have h279 : DA4 T H256 r1 (d 0 6 + 1) (xdtl B n q d 14) := (DA4_fr w250 g1 ((wfr.rf (l := [(27, 13)])).put' e257 g1 rfl) rfl (DA4_fr w221 g1 ((wfr.rf (l := [(33, 999)])).put' e249 g226 rfl) rfl h223))
          have h280 : DA5 T H256 r1 (d 0 6 + 1) (xdtl B n q d 15) := (DA5_fr w250 g1 ((wfr.rf (l := [(27, 13)])).put' e257 g1 rfl) rfl h252)
          have h281 : DA6 T H256 r1 (d 0 7) (d 16) := (DA6_fr w250 g1 ((wfr.rf (l := [(27, 13)])).put' e257 g1 rfl) rfl (DA6_fr w221 g1 ((wfr.rf (l := [(33, 999)])).put' e249 g226 rfl) rfl (DA6_fr w190 g1 ((wfr.rf (l := [(32, 999)])).put' e220 g214 rfl) rfl (DA6_fr w173 g1 f191 rfl (DA6_fr w143 g1 f174 rfl (DA6_fr hW g1 f144 rfl h136))))))
          exact wp_zreturn e42 c42_76 rfl (by omega) ⟨rfl, w258, f259, 1, rfl, ⟨by omega, by omega⟩, (Or.inl ⟨by omega, by omega, o273, by omega, by omega, h274, DC_mk ⟨by omega, by omega, by omega, by omega, by omega, by omega, by omega, by omega, by omega, by omega, by omega, by omega, by omega, by omega, by omega, by omega⟩ (DQ_cg (fun i h1 h2 => xdtl_r h1 (by omega)) (by omega) (by omega) h275) h276 h277 h278 h279 h280 h281 ⟨rfl, rfl, rfl, rfl, rfl⟩ ⟨by omega, by omega, by omega⟩⟩)⟩
        · exfalso
          omega
      · have f282 := f177.tr f191 rfl
        show wp _ _ 42 30 [(2, vI z145), (0, .ref r0), (1, .ref r1)] [vI z192] _ H186 _
        refine wp_of e42 c42_30 (rw_if_ne (p1 := 35) (p2 := 33) (by decide) rfl ⟨by omega, by omega⟩ (fun c283 => ?_) (fun c283 => ?_))
        · exfalso
          omega
        · refine wp_of e42 c42_33 (rw_iconst (pc' := 34) rfl ?_)
          have k284 : H186 r1 7 = H r1 7 := ((f191 r1 7 _ g1 rfl).trans ((f174 r1 7 _ g1 rfl).trans (f144 r1 7 _ g1 rfl)))
          have k285 : H186 r1 8 = H r1 8 := ((f191 r1 8 _ g1 rfl).trans ((f174 r1 8 _ g1 rfl).trans (f144 r1 8 _ g1 rfl)))
          have k286 : H186 r1 9 = H r1 9 := ((f191 r1 9 _ g1 rfl).trans ((f174 r1 9 _ g1 rfl).trans (f144 r1 9 _ g1 rfl)))
          have k287 : H186 r1 10 = H r1 10 := ((f191 r1 10 _ g1 rfl).trans ((f174 r1 10 _ g1 rfl).trans (f144 r1 10 _ g1 rfl)))
          have k288 : H186 r1 11 = H r1 11 := ((f191 r1 11 _ g1 rfl).trans ((f174 r1 11 _ g1 rfl).trans (f144 r1 11 _ g1 rfl)))
          have k289 : H186 r1 12 = H r1 12 := ((f191 r1 12 _ g1 rfl).trans ((f174 r1 12 _ g1 rfl).trans (f144 r1 12 _ g1 rfl)))
          have k290 : H186 r1 13 = H r1 13 := ((f191 r1 13 _ g1 rfl).trans ((f174 r1 13 _ g1 rfl).trans (f144 r1 13 _ g1 rfl)))
          have k291 : H186 r1 14 = H r1 14 := ((f191 r1 14 _ g1 rfl).trans ((f174 r1 14 _ g1 rfl).trans (f144 r1 14 _ g1 rfl)))
          have k292 : H186 r1 15 = H r1 15 := ((f191 r1 15 _ g1 rfl).trans ((f174 r1 15 _ g1 rfl).trans (f144 r1 15 _ g1 rfl)))
          have k293 : H186 r1 16 = H r1 16 := ((f191 r1 16 _ g1 rfl).trans ((f174 r1 16 _ g1 rfl).trans (f144 r1 16 _ g1 rfl)))
          have o294 : (xtl B n q d) = ((xrg B n ((xN B n q)) 23 1 24 24).1, (xrg B n ((xN B n q)) 23 1 24 24).2.1, (xrg B n ((xN B n q)) 23 1 24 24).2.2) := by
            unfold xtl
            repeat first | rw [xs_0 (by omega)] | rw [xs_1 (by omega)] | rw [if_pos (by omega)] | rw [if_neg (by omega)]
            first | done | rfl | assumption | (exfalso; omega) | (refine Prod.ext ?_ (Prod.ext ?_ ?_) <;> (try dsimp only) <;> omega)
          have o294a : ((xtl B n q d)).1 = (xrg B n ((xN B n q)) 23 1 24 24).1 := by rw [o294]
          have o294b : ((xtl B n q d)).2.1 = (xrg B n ((xN B n q)) 23 1 24 24).2.1 := by rw [o294]
          have o294c : ((xtl B n q d)).2.2 = (xrg B n ((xN B n q)) 23 1 24 24).2.2 := by rw [o294]
          have _l := @xdtl_v B n q d
          exact wp_zreturn e42 c42_34 rfl (by omega) ⟨rfl, w190, f282, 0, rfl, ⟨by omega, by omega⟩, (Or.inr ⟨by omega, by omega, by omega, by omega, by omega⟩)⟩
    · exfalso
      omega
  · have f295 := f0.tr f144 rfl
    show wp _ _ 42 5 [(0, .ref r0), (1, .ref r1)] [vI z145] _ H139 _
    refine wp_of e42 c42_5 (rw_istore_n (pc' := 6) (z := z145) (L' := [(2, vI z145), (0, .ref r0), (1, .ref r1)]) rfl rfl rfl ?_)
    refine wp_of e42 c42_6 (rw_iload_n (pc' := 7) (z := z145) rfl rfl ?_)
    refine wp_of e42 c42_7 (rw_if_ge (p1 := 12) (p2 := 10) (by decide) rfl ⟨by omega, by omega⟩ (fun c296 => ?_) (fun c296 => ?_))
    · exfalso
      omega
    · refine wp_of e42 c42_10 (rw_iconst (pc' := 11) rfl ?_)
      have k297 : H139 r1 7 = H r1 7 := (f144 r1 7 _ g1 rfl)
      have k298 : H139 r1 8 = H r1 8 := (f144 r1 8 _ g1 rfl)
      have k299 : H139 r1 9 = H r1 9 := (f144 r1 9 _ g1 rfl)
      have k300 : H139 r1 10 = H r1 10 := (f144 r1 10 _ g1 rfl)
      have k301 : H139 r1 11 = H r1 11 := (f144 r1 11 _ g1 rfl)
      have k302 : H139 r1 12 = H r1 12 := (f144 r1 12 _ g1 rfl)
      have k303 : H139 r1 13 = H r1 13 := (f144 r1 13 _ g1 rfl)
      have k304 : H139 r1 14 = H r1 14 := (f144 r1 14 _ g1 rfl)
      have k305 : H139 r1 15 = H r1 15 := (f144 r1 15 _ g1 rfl)
      have k306 : H139 r1 16 = H r1 16 := (f144 r1 16 _ g1 rfl)
      have o307 : (xtl B n q d) = (xkn B n q d, q, q) := by
        unfold xtl
        repeat first | rw [xs_0 (by omega)] | rw [xs_1 (by omega)] | rw [if_pos (by omega)] | rw [if_neg (by omega)]
        first | done | rfl | assumption | (exfalso; omega) | (refine Prod.ext ?_ (Prod.ext ?_ ?_) <;> (try dsimp only) <;> omega)
      have o307a : ((xtl B n q d)).1 = xkn B n q d := by rw [o307]
      have o307b : ((xtl B n q d)).2.1 = q := by rw [o307]
      have o307c : ((xtl B n q d)).2.2 = q := by rw [o307]
      have _l := @xdtl_v B n q d
      exact wp_zreturn e42 c42_11 rfl (by omega) ⟨rfl, w143, f295, 0, rfl, ⟨by omega, by omega⟩, (Or.inr ⟨by omega, by omega, by omega, by omega, by omega⟩)⟩
