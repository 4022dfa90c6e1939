/-! what methods do (own work, written by wip/gen3/sx3.py) -/
/-! StrikeAwakeModel.byteAt(I)I  -/
abbrev uq_173 (r0 : Nat) (a1 : Int) (rb : Nat) (B : Nat → Int) (n : Int) (y : Int) (T : wq_T) (H : wq_H) : Option Value → wq_T → wq_H → Prop := fun r T' H' => T = T' ∧ H = H' ∧ ∃ z : Int, some (vI z) = r ∧ ((-2147483648) ≤ z ∧ z ≤ 2147483647) ∧ (((z = -1) ∧ (n ≤ y)) ∨ ((0 ≤ z ∧ z ≤ 255) ∧ (y < n) ∧ (-128 ≤ B y.toNat) ∧ ((0 ≤ B y.toNat ∧ z = B y.toNat) ∨ (B y.toNat < 0 ∧ z = B y.toNat + 256))))
set_option maxHeartbeats 4000000 in
theorem u_173 {kt : Nat → Option mc_E} {T : wq_T} {H : wq_H} {r0 : Nat} {a1 : Int} {rb : Nat} {B : Nat → Int} {n : Int} {y : Int} (hW : WT T H) (g0 : T.2.2.2 r0 = some 42) (i1 : 0 ≤ a1 ∧ a1 ≤ 900) (qrb : H r0 5 = (rb : Int)) (grb : T.2.2.2 rb = some 43) (p0 : a1 = y) (p1 : H r0 7 = n) (hTM_rb : TM T H rb B) : wpc kt 1 173 [.ref r0, vI a1] T H (uq_173 r0 a1 rb B n y T H) := by
  refine wp_enter e173 (Nat.le_of_ble_eq_true rfl) rfl ?_
  show wp _ _ 173 0 [(0, .ref r0), (1, vI a1)] [] _ H _
  have b1008 : 0 ≤ H r0 7 ∧ H r0 7 ≤ 900 := hW.box g0 (n := 33) rfl (by decide) rfl
  have _e : B y.toNat = B a1.toNat := by rw [p0]
  refine wp_of e173 c173_0 (rw_iload_n (pc' := 1) (z := a1) rfl rfl ?_)
  refine wp_of e173 c173_1 (rw_aload_n (pc' := 2) (v := .ref r0) rfl rfl rfl ?_)
  refine wp_of e173 c173_2 (xg_I (pc' := 5) lf_9_61 hW g0 sh_42 (by decide) (by decide) ty_42_7 rfl rfl (fun b1009 b1010 => ?_))
  refine wp_of e173 c173_5 (rw_icmp_ge (p1 := 21) (p2 := 8) (by decide) rfl ⟨Int.le_trans (by decide) i1.1, Int.le_trans i1.2 (by decide)⟩ ⟨Int.le_trans (by decide) b1009, Int.le_trans b1010 (by decide)⟩ (fun c1011 => ?_) (fun c1011 => ?_))
  · refine wp_of e173 c173_21 (rw_iconst (pc' := 22) rfl ?_)
    exact wp_ireturn e173 c173_22 rfl ⟨rfl, rfl, -1, rfl, ⟨by decide, by decide⟩, (Or.inl ⟨by omega, by omega⟩)⟩
  · refine wp_of e173 c173_8 (rw_aload_n (pc' := 9) (v := .ref r0) rfl rfl rfl ?_)
    refine wp_of e173 c173_9 (xg_K (pc' := 12) lf_9_13 hW g0 sh_42 (by decide) (by decide) rfl qrb rfl ?_)
    refine wp_of e173 c173_12 (rw_iload_n (pc' := 13) (z := a1) rfl rfl ?_)
    refine wp_of e173 c173_13 (xa_B (by decide) (pc' := 14) hW grb sh_43 (by decide) (ty_43 _) (i1.1) (by omega) rfl (fun b1012 b1013 => ?_))
    have _b := hTM_rb (a1.toNat) (by omega)
    have _y := @by_ok (H rb (a1.toNat)) (by omega) (by omega)
    refine wp_of e173 c173_14 (rw_sipush (pc' := 17) (z := 255) rfl (by decide) ?_)
    refine wp_of e173 c173_17 (rw_iand (pc' := 18) rfl ?_)
    obtain ⟨v1014, e1015⟩ : ∃ x : Int, x = wq_and (H rb (a1.toNat)) 255 := ⟨_, rfl⟩
    rw [← e1015]
    have b1016 : 0 ≤ v1014 ∧ v1014 ≤ 255 := by
      rw [e1015]
      exact wq_and_b _ (by omega) (by omega)
    refine wp_of e173 c173_18 (rw_goto (p1 := 22) (by decide) ?_)
    exact wp_ireturn e173 c173_22 rfl ⟨rfl, rfl, v1014, rfl, ⟨Int.le_trans (by decide) b1016.1, Int.le_trans b1016.2 (by decide)⟩, (Or.inr ⟨by omega, by omega, by omega, by omega⟩)⟩
/-! StrikeAwakeModel.isLetter(I)Z  -/
abbrev uq_174 (a0 : Int) (T : wq_T) (H : wq_H) : Option Value → wq_T → wq_H → Prop := fun r T' H' => T = T' ∧ H = H' ∧ ∃ z : Int, some (vI z) = r ∧ (0 ≤ z ∧ z ≤ 1) ∧ (((z = 1) ∧ (97 ≤ a0 ∧ a0 ≤ 122)) ∨ ((z = 0) ∧ (a0 < 97 ∨ 122 < a0)))
set_option maxHeartbeats 4000000 in
theorem u_174 {kt : Nat → Option mc_E} {T : wq_T} {H : wq_H} {a0 : Int} (hW : WT T H) (i0 : (-2147483648) ≤ a0 ∧ a0 ≤ 2147483647) : wpc kt 1 174 [vI a0] T H (uq_174 a0 T H) := by
  refine wp_enter e174 (Nat.le_of_ble_eq_true rfl) rfl ?_
  show wp _ _ 174 0 [(0, vI a0)] [] _ H _
  refine wp_of e174 c174_0 (rw_iload_n (pc' := 1) (z := a0) rfl rfl ?_)
  refine wp_of e174 c174_1 (rw_bipush (pc' := 3) (z := 97) rfl (by decide) ?_)
  refine wp_of e174 c174_3 (rw_icmp_lt (p1 := 16) (p2 := 6) (by decide) rfl ⟨i0.1, i0.2⟩ ⟨by decide, by decide⟩ (fun c1003 => ?_) (fun c1003 => ?_))
  · refine wp_of e174 c174_16 (rw_iconst (pc' := 17) rfl ?_)
    exact wp_zreturn e174 c174_17 rfl (by omega) ⟨rfl, rfl, 0, rfl, ⟨by decide, by decide⟩, (Or.inr ⟨by omega, by omega⟩)⟩
  · refine wp_of e174 c174_6 (rw_iload_n (pc' := 7) (z := a0) rfl rfl ?_)
    refine wp_of e174 c174_7 (rw_bipush (pc' := 9) (z := 122) rfl (by decide) ?_)
    refine wp_of e174 c174_9 (rw_icmp_gt (p1 := 16) (p2 := 12) (by decide) rfl ⟨i0.1, i0.2⟩ ⟨by decide, by decide⟩ (fun c1004 => ?_) (fun c1004 => ?_))
    · refine wp_of e174 c174_16 (rw_iconst (pc' := 17) rfl ?_)
      exact wp_zreturn e174 c174_17 rfl (by omega) ⟨rfl, rfl, 0, rfl, ⟨by decide, by decide⟩, (Or.inr ⟨by omega, by omega⟩)⟩
    · refine wp_of e174 c174_12 (rw_iconst (pc' := 13) rfl ?_)
      refine wp_of e174 c174_13 (rw_goto (p1 := 17) (by decide) ?_)
      exact wp_zreturn e174 c174_17 rfl (by omega) ⟨rfl, rfl, 1, rfl, ⟨by decide, by decide⟩, (Or.inl ⟨by omega, by omega⟩)⟩
/-! StrikeAwakeModel.isDigit(I)Z  -/
abbrev uq_175 (a0 : Int) (T : wq_T) (H : wq_H) : Option Value → wq_T → wq_H → Prop := fun r T' H' => T = T' ∧ H = H' ∧ ∃ z : Int, some (vI z) = r ∧ (0 ≤ z ∧ z ≤ 1) ∧ (((z = 1) ∧ (48 ≤ a0 ∧ a0 ≤ 57)) ∨ ((z = 0) ∧ (a0 < 48 ∨ 57 < a0)))
set_option maxHeartbeats 4000000 in
theorem u_175 {kt : Nat → Option mc_E} {T : wq_T} {H : wq_H} {a0 : Int} (hW : WT T H) (i0 : (-2147483648) ≤ a0 ∧ a0 ≤ 2147483647) : wpc kt 1 175 [vI a0] T H (uq_175 a0 T H) := by
  refine wp_enter e175 (Nat.le_of_ble_eq_true rfl) rfl ?_
  show wp _ _ 175 0 [(0, vI a0)] [] _ H _
  refine wp_of e175 c175_0 (rw_iload_n (pc' := 1) (z := a0) rfl rfl ?_)
  refine wp_of e175 c175_1 (rw_bipush (pc' := 3) (z := 48) rfl (by decide) ?_)
  refine wp_of e175 c175_3 (rw_icmp_lt (p1 := 16) (p2 := 6) (by decide) rfl ⟨i0.1, i0.2⟩ ⟨by decide, by decide⟩ (fun c1003 => ?_) (fun c1003 => ?_))
  · refine wp_of e175 c175_16 (rw_iconst (pc' := 17) rfl ?_)
    exact wp_zreturn e175 c175_17 rfl (by omega) ⟨rfl, rfl, 0, rfl, ⟨by decide, by decide⟩, (Or.inr ⟨by omega, by omega⟩)⟩
  · refine wp_of e175 c175_6 (rw_iload_n (pc' := 7) (z := a0) rfl rfl ?_)
    refine wp_of e175 c175_7 (rw_bipush (pc' := 9) (z := 57) rfl (by decide) ?_)
    refine wp_of e175 c175_9 (rw_icmp_gt (p1 := 16) (p2 := 12) (by decide) rfl ⟨i0.1, i0.2⟩ ⟨by decide, by decide⟩ (fun c1004 => ?_) (fun c1004 => ?_))
    · refine wp_of e175 c175_16 (rw_iconst (pc' := 17) rfl ?_)
      exact wp_zreturn e175 c175_17 rfl (by omega) ⟨rfl, rfl, 0, rfl, ⟨by decide, by decide⟩, (Or.inr ⟨by omega, by omega⟩)⟩
    · refine wp_of e175 c175_12 (rw_iconst (pc' := 13) rfl ?_)
      refine wp_of e175 c175_13 (rw_goto (p1 := 17) (by decide) ?_)
      exact wp_zreturn e175 c175_17 rfl (by omega) ⟨rfl, rfl, 1, rfl, ⟨by decide, by decide⟩, (Or.inl ⟨by omega, by omega⟩)⟩
/-! StrikeAwakeModel.in(III)Z  -/
abbrev uq_186 (a0 : Int) (a1 : Int) (a2 : Int) (T : wq_T) (H : wq_H) : Option Value → wq_T → wq_H → Prop := fun r T' H' => T = T' ∧ H = H' ∧ ∃ z : Int, some (vI z) = r ∧ (0 ≤ z ∧ z ≤ 1) ∧ (((z = 1) ∧ (a1 ≤ a0 ∧ a0 ≤ a2)) ∨ ((z = 0) ∧ (a0 < a1 ∨ a2 < a0)))
set_option maxHeartbeats 4000000 in
theorem u_186 {kt : Nat → Option mc_E} {T : wq_T} {H : wq_H} {a0 : Int} {a1 : Int} {a2 : Int} (hW : WT T H) (i0 : (-2147483648) ≤ a0 ∧ a0 ≤ 2147483647) (i1 : (-2147483648) ≤ a1 ∧ a1 ≤ 2147483647) (i2 : (-2147483648) ≤ a2 ∧ a2 ≤ 2147483647) : wpc kt 1 186 [vI a0, vI a1, vI a2] T H (uq_186 a0 a1 a2 T H) := by
  refine wp_enter e186 (Nat.le_of_ble_eq_true rfl) rfl ?_
  show wp _ _ 186 0 [(0, vI a0), (1, vI a1), (2, vI a2)] [] _ H _
  refine wp_of e186 c186_0 (rw_iload_n (pc' := 1) (z := a0) rfl rfl ?_)
  refine wp_of e186 c186_1 (rw_iload_n (pc' := 2) (z := a1) rfl rfl ?_)
  refine wp_of e186 c186_2 (rw_icmp_lt (p1 := 14) (p2 := 5) (by decide) rfl ⟨i0.1, i0.2⟩ ⟨i1.1, i1.2⟩ (fun c1003 => ?_) (fun c1003 => ?_))
  · refine wp_of e186 c186_14 (rw_iconst (pc' := 15) rfl ?_)
    exact wp_zreturn e186 c186_15 rfl (by omega) ⟨rfl, rfl, 0, rfl, ⟨by decide, by decide⟩, (Or.inr ⟨by omega, by omega⟩)⟩
  · refine wp_of e186 c186_5 (rw_iload_n (pc' := 6) (z := a0) rfl rfl ?_)
    refine wp_of e186 c186_6 (rw_iload_n (pc' := 7) (z := a2) rfl rfl ?_)
    refine wp_of e186 c186_7 (rw_icmp_gt (p1 := 14) (p2 := 10) (by decide) rfl ⟨i0.1, i0.2⟩ ⟨i2.1, i2.2⟩ (fun c1004 => ?_) (fun c1004 => ?_))
    · refine wp_of e186 c186_14 (rw_iconst (pc' := 15) rfl ?_)
      exact wp_zreturn e186 c186_15 rfl (by omega) ⟨rfl, rfl, 0, rfl, ⟨by decide, by decide⟩, (Or.inr ⟨by omega, by omega⟩)⟩
    · refine wp_of e186 c186_10 (rw_iconst (pc' := 11) rfl ?_)
      refine wp_of e186 c186_11 (rw_goto (p1 := 15) (by decide) ?_)
      exact wp_zreturn e186 c186_15 rfl (by omega) ⟨rfl, rfl, 1, rfl, ⟨by decide, by decide⟩, (Or.inl ⟨by omega, by omega⟩)⟩
/-! StrikeAwakeModel.least(II)I  -/
abbrev uq_191 (a0 : Int) (a1 : Int) (T : wq_T) (H : wq_H) : Option Value → wq_T → wq_H → Prop := fun r T' H' => T = T' ∧ H = H' ∧ ∃ z : Int, some (vI z) = r ∧ (0 ≤ z ∧ z ≤ 100) ∧ ((((a0 ≤ a1 ∧ z = a0) ∨ (a1 < a0 ∧ z = a1))))
set_option maxHeartbeats 4000000 in
theorem u_191 {kt : Nat → Option mc_E} {T : wq_T} {H : wq_H} {a0 : Int} {a1 : Int} (hW : WT T H) (i0 : 0 ≤ a0 ∧ a0 ≤ 100) (i1 : 0 ≤ a1 ∧ a1 ≤ 100) : wpc kt 1 191 [vI a0, vI a1] T H (uq_191 a0 a1 T H) := by
  refine wp_enter e191 (Nat.le_of_ble_eq_true rfl) rfl ?_
  show wp _ _ 191 0 [(0, vI a0), (1, vI a1)] [] _ H _
  refine wp_of e191 c191_0 (rw_iload_n (pc' := 1) (z := a0) rfl rfl ?_)
  refine wp_of e191 c191_1 (rw_iload_n (pc' := 2) (z := a1) rfl rfl ?_)
  refine wp_of e191 c191_2 (rw_icmp_ge (p1 := 9) (p2 := 5) (by decide) rfl ⟨Int.le_trans (by decide) i0.1, Int.le_trans i0.2 (by decide)⟩ ⟨Int.le_trans (by decide) i1.1, Int.le_trans i1.2 (by decide)⟩ (fun c1002 => ?_) (fun c1002 => ?_))
  · refine wp_of e191 c191_9 (rw_iload_n (pc' := 10) (z := a1) rfl rfl ?_)
    exact wp_ireturn e191 c191_10 rfl ⟨rfl, rfl, a1, rfl, ⟨i1.1, i1.2⟩, (by omega)⟩
  · refine wp_of e191 c191_5 (rw_iload_n (pc' := 6) (z := a0) rfl rfl ?_)
    refine wp_of e191 c191_6 (rw_goto (p1 := 10) (by decide) ?_)
    exact wp_ireturn e191 c191_10 rfl ⟨rfl, rfl, a0, rfl, ⟨i0.1, i0.2⟩, (by omega)⟩
