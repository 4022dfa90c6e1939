/-! what methods do (own work, written by wip/gen3/sx3.py) -/
/-! StrikeAwakeModel.byteAt(I)I  -/
abbrev uq_173 (r0 : Nat) (a1 : Int) (rb : Nat) (B : Nat → Int) (n : Int) (y : Int) (T : wq_T) (H : wq_H) : Option Value → wq_T → wq_H → Prop := fun r T' H' => T = T' ∧ H = H' ∧ ∃ z : Int, some (vI z) = r ∧ ((-2147483648) ≤ z ∧ z ≤ 2147483647) ∧ (((z = -1) ∧ (n ≤ y)) ∨ ((0 ≤ z ∧ z ≤ 255) ∧ (y < n) ∧ (-128 ≤ B y.toNat) ∧ ((0 ≤ B y.toNat ∧ z = B y.toNat) ∨ (B y.toNat < 0 ∧ z = B y.toNat + 256))))
set_option maxHeartbeats 4000000 in
theorem u_173 {kt : Nat → Option mc_E} {T : wq_T} {H : wq_H} {r0 : Nat} {a1 : Int} {rb : Nat} {B : Nat → Int} {n : Int} {y : Int} (hW : WT T H) (g0 : T.2.2.2 r0 = some 42) (i1 : 0 ≤ a1 ∧ a1 ≤ 900) (qrb : H r0 5 = (rb : Int)) (grb : T.2.2.2 rb = some 43) (p0 : a1 = y) (p1 : H r0 7 = n) (hTM_rb : TM T H rb B) : wpc kt 1 173 [.ref r0, vI a1] T H (uq_173 r0 a1 rb B n y T H) := by
  refine wp_enter e173 (Nat.le_of_ble_eq_true rfl) rfl ?_
  show wp _ _ 173 0 [(0, .ref r0), (1, vI a1)] [] _ H _
  have b8 : 0 ≤ H r0 7 ∧ H r0 7 ≤ 900 := hW.box g0 (n := 33) rfl (by decide) rfl
  have _e : B y.toNat = B a1.toNat := by rw [p0]
  refine wp_of e173 c173_0 (rw_iload_n (pc' := 1) (z := a1) rfl rfl ?_)
  refine wp_of e173 c173_1 (rw_aload_n (pc' := 2) (v := .ref r0) rfl rfl rfl ?_)
  refine wp_of e173 c173_2 (xg_I (pc' := 5) lf_9_61 hW g0 sh_42 (by decide) (by decide) ty_42_7 rfl rfl (fun b9 b10 => ?_))
  refine wp_of e173 c173_5 (rw_icmp_ge (p1 := 21) (p2 := 8) (by decide) rfl ⟨by omega, by omega⟩ ⟨by omega, by omega⟩ (fun c11 => ?_) (fun c11 => ?_))
  · refine wp_of e173 c173_21 (rw_iconst (pc' := 22) rfl ?_)
    exact wp_ireturn e173 c173_22 rfl ⟨rfl, rfl, -1, rfl, ⟨by omega, by omega⟩, (Or.inl ⟨by omega, by omega⟩)⟩
  · refine wp_of e173 c173_8 (rw_aload_n (pc' := 9) (v := .ref r0) rfl rfl rfl ?_)
    refine wp_of e173 c173_9 (xg_K (pc' := 12) lf_9_13 hW g0 sh_42 (by decide) (by decide) rfl qrb rfl ?_)
    refine wp_of e173 c173_12 (rw_iload_n (pc' := 13) (z := a1) rfl rfl ?_)
    refine wp_of e173 c173_13 (xa_B (by decide) (pc' := 14) hW grb sh_43 (by decide) (ty_43 _) (by omega) (by omega) rfl (fun b12 b13 => ?_))
    have _b := hTM_rb (a1.toNat) (by omega)
    have _y := @by_ok (H rb (a1.toNat)) (by omega) (by omega)
    refine wp_of e173 c173_14 (rw_sipush (pc' := 17) (z := 255) rfl (by decide) ?_)
    refine wp_of e173 c173_17 (rw_iand (pc' := 18) rfl ?_)
    obtain ⟨v14, e15⟩ : ∃ x : Int, x = wq_and (H rb (a1.toNat)) 255 := ⟨_, rfl⟩
    rw [← e15]
    have b16 : 0 ≤ v14 ∧ v14 ≤ 255 := by
      rw [e15]
      exact wq_and_b _ (by omega) (by omega)
    refine wp_of e173 c173_18 (rw_goto (p1 := 22) (by decide) ?_)
    exact wp_ireturn e173 c173_22 rfl ⟨rfl, rfl, v14, rfl, ⟨by omega, by omega⟩, (Or.inr ⟨by omega, by omega, by omega, by omega⟩)⟩
/-! StrikeAwakeModel.isLetter(I)Z  -/
abbrev uq_174 (a0 : Int) (T : wq_T) (H : wq_H) : Option Value → wq_T → wq_H → Prop := fun r T' H' => T = T' ∧ H = H' ∧ ∃ z : Int, some (vI z) = r ∧ (0 ≤ z ∧ z ≤ 1) ∧ (((z = 1) ∧ (97 ≤ a0 ∧ a0 ≤ 122)) ∨ ((z = 0) ∧ (a0 < 97 ∨ 122 < a0)))
set_option maxHeartbeats 4000000 in
theorem u_174 {kt : Nat → Option mc_E} {T : wq_T} {H : wq_H} {a0 : Int} (hW : WT T H) (i0 : (-2147483648) ≤ a0 ∧ a0 ≤ 2147483647) : wpc kt 1 174 [vI a0] T H (uq_174 a0 T H) := by
  refine wp_enter e174 (Nat.le_of_ble_eq_true rfl) rfl ?_
  show wp _ _ 174 0 [(0, vI a0)] [] _ H _
  refine wp_of e174 c174_0 (rw_iload_n (pc' := 1) (z := a0) rfl rfl ?_)
  refine wp_of e174 c174_1 (rw_bipush (pc' := 3) (z := 97) rfl (by decide) ?_)
  refine wp_of e174 c174_3 (rw_icmp_lt (p1 := 16) (p2 := 6) (by decide) rfl ⟨by omega, by omega⟩ ⟨by omega, by omega⟩ (fun c3 => ?_) (fun c3 => ?_))
  · refine wp_of e174 c174_16 (rw_iconst (pc' := 17) rfl ?_)
    exact wp_zreturn e174 c174_17 rfl (by omega) ⟨rfl, rfl, 0, rfl, ⟨by omega, by omega⟩, (Or.inr ⟨by omega, by omega⟩)⟩
  · refine wp_of e174 c174_6 (rw_iload_n (pc' := 7) (z := a0) rfl rfl ?_)
    refine wp_of e174 c174_7 (rw_bipush (pc' := 9) (z := 122) rfl (by decide) ?_)
    refine wp_of e174 c174_9 (rw_icmp_gt (p1 := 16) (p2 := 12) (by decide) rfl ⟨by omega, by omega⟩ ⟨by omega, by omega⟩ (fun c4 => ?_) (fun c4 => ?_))
    · refine wp_of e174 c174_16 (rw_iconst (pc' := 17) rfl ?_)
      exact wp_zreturn e174 c174_17 rfl (by omega) ⟨rfl, rfl, 0, rfl, ⟨by omega, by omega⟩, (Or.inr ⟨by omega, by omega⟩)⟩
    · refine wp_of e174 c174_12 (rw_iconst (pc' := 13) rfl ?_)
      refine wp_of e174 c174_13 (rw_goto (p1 := 17) (by decide) ?_)
      exact wp_zreturn e174 c174_17 rfl (by omega) ⟨rfl, rfl, 1, rfl, ⟨by omega, by omega⟩, (Or.inl ⟨by omega, by omega⟩)⟩
/-! StrikeAwakeModel.isDigit(I)Z  -/
abbrev uq_175 (a0 : Int) (T : wq_T) (H : wq_H) : Option Value → wq_T → wq_H → Prop := fun r T' H' => T = T' ∧ H = H' ∧ ∃ z : Int, some (vI z) = r ∧ (0 ≤ z ∧ z ≤ 1) ∧ (((z = 1) ∧ (48 ≤ a0 ∧ a0 ≤ 57)) ∨ ((z = 0) ∧ (a0 < 48 ∨ 57 < a0)))
set_option maxHeartbeats 4000000 in
theorem u_175 {kt : Nat → Option mc_E} {T : wq_T} {H : wq_H} {a0 : Int} (hW : WT T H) (i0 : (-2147483648) ≤ a0 ∧ a0 ≤ 2147483647) : wpc kt 1 175 [vI a0] T H (uq_175 a0 T H) := by
  refine wp_enter e175 (Nat.le_of_ble_eq_true rfl) rfl ?_
  show wp _ _ 175 0 [(0, vI a0)] [] _ H _
  refine wp_of e175 c175_0 (rw_iload_n (pc' := 1) (z := a0) rfl rfl ?_)
  refine wp_of e175 c175_1 (rw_bipush (pc' := 3) (z := 48) rfl (by decide) ?_)
  refine wp_of e175 c175_3 (rw_icmp_lt (p1 := 16) (p2 := 6) (by decide) rfl ⟨by omega, by omega⟩ ⟨by omega, by omega⟩ (fun c3 => ?_) (fun c3 => ?_))
  · refine wp_of e175 c175_16 (rw_iconst (pc' := 17) rfl ?_)
    exact wp_zreturn e175 c175_17 rfl (by omega) ⟨rfl, rfl, 0, rfl, ⟨by omega, by omega⟩, (Or.inr ⟨by omega, by omega⟩)⟩
  · refine wp_of e175 c175_6 (rw_iload_n (pc' := 7) (z := a0) rfl rfl ?_)
    refine wp_of e175 c175_7 (rw_bipush (pc' := 9) (z := 57) rfl (by decide) ?_)
    refine wp_of e175 c175_9 (rw_icmp_gt (p1 := 16) (p2 := 12) (by decide) rfl ⟨by omega, by omega⟩ ⟨by omega, by omega⟩ (fun c4 => ?_) (fun c4 => ?_))
    · refine wp_of e175 c175_16 (rw_iconst (pc' := 17) rfl ?_)
      exact wp_zreturn e175 c175_17 rfl (by omega) ⟨rfl, rfl, 0, rfl, ⟨by omega, by omega⟩, (Or.inr ⟨by omega, by omega⟩)⟩
    · refine wp_of e175 c175_12 (rw_iconst (pc' := 13) rfl ?_)
      refine wp_of e175 c175_13 (rw_goto (p1 := 17) (by decide) ?_)
      exact wp_zreturn e175 c175_17 rfl (by omega) ⟨rfl, rfl, 1, rfl, ⟨by omega, by omega⟩, (Or.inl ⟨by omega, by omega⟩)⟩
/-! StrikeAwakeModel.in(III)Z  -/
abbrev uq_186 (a0 : Int) (a1 : Int) (a2 : Int) (T : wq_T) (H : wq_H) : Option Value → wq_T → wq_H → Prop := fun r T' H' => T = T' ∧ H = H' ∧ ∃ z : Int, some (vI z) = r ∧ (0 ≤ z ∧ z ≤ 1) ∧ (((z = 1) ∧ (a1 ≤ a0 ∧ a0 ≤ a2)) ∨ ((z = 0) ∧ (a0 < a1 ∨ a2 < a0)))
set_option maxHeartbeats 4000000 in
theorem u_186 {kt : Nat → Option mc_E} {T : wq_T} {H : wq_H} {a0 : Int} {a1 : Int} {a2 : Int} (hW : WT T H) (i0 : (-2147483648) ≤ a0 ∧ a0 ≤ 2147483647) (i1 : (-2147483648) ≤ a1 ∧ a1 ≤ 2147483647) (i2 : (-2147483648) ≤ a2 ∧ a2 ≤ 2147483647) : wpc kt 1 186 [vI a0, vI a1, vI a2] T H (uq_186 a0 a1 a2 T H) := by
  refine wp_enter e186 (Nat.le_of_ble_eq_true rfl) rfl ?_
  show wp _ _ 186 0 [(0, vI a0), (1, vI a1), (2, vI a2)] [] _ H _
  refine wp_of e186 c186_0 (rw_iload_n (pc' := 1) (z := a0) rfl rfl ?_)
  refine wp_of e186 c186_1 (rw_iload_n (pc' := 2) (z := a1) rfl rfl ?_)
  refine wp_of e186 c186_2 (rw_icmp_lt (p1 := 14) (p2 := 5) (by decide) rfl ⟨by omega, by omega⟩ ⟨by omega, by omega⟩ (fun c3 => ?_) (fun c3 => ?_))
  · refine wp_of e186 c186_14 (rw_iconst (pc' := 15) rfl ?_)
    exact wp_zreturn e186 c186_15 rfl (by omega) ⟨rfl, rfl, 0, rfl, ⟨by omega, by omega⟩, (Or.inr ⟨by omega, by omega⟩)⟩
  · refine wp_of e186 c186_5 (rw_iload_n (pc' := 6) (z := a0) rfl rfl ?_)
    refine wp_of e186 c186_6 (rw_iload_n (pc' := 7) (z := a2) rfl rfl ?_)
    refine wp_of e186 c186_7 (rw_icmp_gt (p1 := 14) (p2 := 10) (by decide) rfl ⟨by omega, by omega⟩ ⟨by omega, by omega⟩ (fun c4 => ?_) (fun c4 => ?_))
    · refine wp_of e186 c186_14 (rw_iconst (pc' := 15) rfl ?_)
      exact wp_zreturn e186 c186_15 rfl (by omega) ⟨rfl, rfl, 0, rfl, ⟨by omega, by omega⟩, (Or.inr ⟨by omega, by omega⟩)⟩
    · refine wp_of e186 c186_10 (rw_iconst (pc' := 11) rfl ?_)
      refine wp_of e186 c186_11 (rw_goto (p1 := 15) (by decide) ?_)
      exact wp_zreturn e186 c186_15 rfl (by omega) ⟨rfl, rfl, 1, rfl, ⟨by omega, by omega⟩, (Or.inl ⟨by omega, by omega⟩)⟩
/-! StrikeAwakeModel.least(II)I  -/
abbrev uq_191 (a0 : Int) (a1 : Int) (T : wq_T) (H : wq_H) : Option Value → wq_T → wq_H → Prop := fun r T' H' => T = T' ∧ H = H' ∧ ∃ z : Int, some (vI z) = r ∧ (0 ≤ z ∧ z ≤ 100) ∧ ((((a0 ≤ a1 ∧ z = a0) ∨ (a1 < a0 ∧ z = a1))))
set_option maxHeartbeats 4000000 in
theorem u_191 {kt : Nat → Option mc_E} {T : wq_T} {H : wq_H} {a0 : Int} {a1 : Int} (hW : WT T H) (i0 : 0 ≤ a0 ∧ a0 ≤ 100) (i1 : 0 ≤ a1 ∧ a1 ≤ 100) : wpc kt 1 191 [vI a0, vI a1] T H (uq_191 a0 a1 T H) := by
  refine wp_enter e191 (Nat.le_of_ble_eq_true rfl) rfl ?_
  show wp _ _ 191 0 [(0, vI a0), (1, vI a1)] [] _ H _
  refine wp_of e191 c191_0 (rw_iload_n (pc' := 1) (z := a0) rfl rfl ?_)
  refine wp_of e191 c191_1 (rw_iload_n (pc' := 2) (z := a1) rfl rfl ?_)
  refine wp_of e191 c191_2 (rw_icmp_ge (p1 := 9) (p2 := 5) (by decide) rfl ⟨by omega, by omega⟩ ⟨by omega, by omega⟩ (fun c2 => ?_) (fun c2 => ?_))
  · refine wp_of e191 c191_9 (rw_iload_n (pc' := 10) (z := a1) rfl rfl ?_)
    exact wp_ireturn e191 c191_10 rfl ⟨rfl, rfl, a1, rfl, ⟨by omega, by omega⟩, (by omega)⟩
  · refine wp_of e191 c191_5 (rw_iload_n (pc' := 6) (z := a0) rfl rfl ?_)
    refine wp_of e191 c191_6 (rw_goto (p1 := 10) (by decide) ?_)
    exact wp_ireturn e191 c191_10 rfl ⟨rfl, rfl, a0, rfl, ⟨by omega, by omega⟩, (by omega)⟩
/-! StrikeAwakeModel.goesOn()V k -/
abbrev uq_172_k (r0 : Nat) (rb : Nat) (B : Nat → Int) (n : Int) (a : Int) (q : Int) (T : wq_T) (H : wq_H) : Option Value → wq_T → wq_H → Prop := fun r T' H' => T = T' ∧ WT T H' ∧ wfr [(42, 8), (42, 9), (42, 10), (42, 11), (42, 12), (42, 15)] T H H' ∧ none = r ∧ ((RC T H' r0 B n q))
set_option maxHeartbeats 4000000 in
theorem u_172_k {kt : Nat → Option mc_E} {T : wq_T} {H : wq_H} {r0 : Nat} {rb : Nat} {B : Nat → Int} {n : Int} {a : Int} {q : Int} (hW : WT T H) (g0 : T.2.2.2 r0 = some 42) (qrb : H r0 5 = (rb : Int)) (grb : T.2.2.2 rb = some 43) (p0 : H r0 9 ≤ 4) (p1 : H r0 8 = a) (p2 : a ≤ n) (p3 : H r0 7 = n) (p4 : H r0 13 = 0) (p5 : q = xG 32 32 B n a) (hTM_rb : TM T H rb B) : wpc kt 2 172 [.ref r0] T H (uq_172_k r0 rb B n a q T H) := by
  refine wp_enter e172 (Nat.le_of_ble_eq_true rfl) rfl ?_
  have f0 : wfr [(42, 8), (42, 9), (42, 10), (42, 11), (42, 12), (42, 15)] T H H := wfr.rf
  show wp _ _ 172 0 [(0, .ref r0)] [] _ H _
  have b6407 : 0 ≤ H r0 9 ∧ H r0 9 ≤ 5 := hW.box g0 (n := 33) rfl (by decide) rfl
  have b6408 : 0 ≤ H r0 8 ∧ H r0 8 ≤ 900 := hW.box g0 (n := 33) rfl (by decide) rfl
  have b6409 : 0 ≤ H r0 7 ∧ H r0 7 ≤ 900 := hW.box g0 (n := 33) rfl (by decide) rfl
  have b6410 : (-2147483648) ≤ H r0 13 ∧ H r0 13 ≤ 2147483647 := hW.box g0 (n := 33) rfl (by decide) rfl
  have _x0 := @xG_b 32 32 B n a
  have _x1 := @xG_b 97 122 B n q
  have _x2 := @xG_b 48 57 B n q
  have _x3 := @xG_or 97 122 B n q
  have _x4 := @xG_or 48 57 B n q
  have _x5 := @xG_at 97 122 B n q
  have _x6 := @xG_at 48 57 B n q
  have _o : xso 0 = 1 ∧ xso 1 = 2 ∧ xso 2 = 3 ∧ xso 3 = 4 ∧ xso 4 = 4 ∧ xso 5 = 0 := ⟨rfl, rfl, rfl, rfl, rfl, rfl⟩
  refine wp_of e172 c172_0 (rw_aload_n (pc' := 1) (v := .ref r0) rfl rfl rfl ?_)
  refine wp_of e172 c172_1 (xg_I (pc' := 4) lf_9_75 hW g0 sh_42 (by decide) (by decide) ty_42_9 rfl rfl (fun b6411 b6412 => ?_))
  refine wp_of e172 c172_4 (rw_iconst (pc' := 5) rfl ?_)
  have jn6507 : ∀  (H6506 : wq_H), WT T H6506 → wfr [(42, 8)] T H H6506 → (H6506 r0 8 = q) → wp kt 1 172 35 [(0, .ref r0)] [] T H6506 (uq_172_k r0 rb B n a q T H) := by
    intro H6506 w6508 f6509 x6510
    have f6511 := f0.tr f6509 rfl
    refine wp_of e172 c172_35 (rw_aload_n (pc' := 36) (v := .ref r0) rfl rfl rfl ?_)
    refine wp_of e172 c172_36 (rw_aload_n (pc' := 37) (v := .ref r0) rfl rfl rfl ?_)
    refine wp_of e172 c172_37 (xg_I (pc' := 40) lf_9_78 w6508 g0 sh_42 (by decide) (by decide) ty_42_8 rfl rfl (fun b6512 b6513 => ?_))
    refine wp_of e172 c172_40 (xp_I (pc' := 43) lf_9_84 w6508 g0 sh_42 (by decide) (by decide) ty_42_10 rfl rfl (by omega) (by omega) ⟨by omega, by omega⟩ rfl (fun H6514 e6515 w6516 => ?_))
    have f6517 := f6511.put' e6515 g0 rfl
    have k6518 : H6514 r0 10 = H6506 r0 8 := wq_u_s e6515
    refine wp_of e172 c172_43 (rw_aload_n (pc' := 44) (v := .ref r0) rfl rfl rfl ?_)
    refine wp_of e172 c172_44 (rw_iconst (pc' := 45) rfl ?_)
    refine wp_of e172 c172_45 (xp_I (pc' := 48) lf_9_75 w6516 g0 sh_42 (by decide) (by decide) ty_42_9 rfl rfl (by omega) (by omega) ⟨by omega, by omega⟩ rfl (fun H6519 e6520 w6521 => ?_))
    have f6522 := f6517.put' e6520 g0 rfl
    have k6523 : H6519 r0 9 = 0 := wq_u_s e6520
    refine wp_of e172 c172_48 (rw_aload_n (pc' := 49) (v := .ref r0) rfl rfl rfl ?_)
    refine wp_of e172 c172_49 (rw_iconst (pc' := 50) rfl ?_)
    refine wp_of e172 c172_50 (xp_I (pc' := 53) lf_9_87 w6521 g0 sh_42 (by decide) (by decide) ty_42_11 rfl rfl (by omega) (by omega) ⟨by omega, by omega⟩ rfl (fun H6524 e6525 w6526 => ?_))
    have f6527 := f6522.put' e6525 g0 rfl
    have k6528 : H6524 r0 11 = 0 := wq_u_s e6525
    refine wp_of e172 c172_53 (rw_aload_n (pc' := 54) (v := .ref r0) rfl rfl rfl ?_)
    refine wp_of e172 c172_54 (rw_aload_n (pc' := 55) (v := .ref r0) rfl rfl rfl ?_)
    have k6529 : H6524 r0 8 = H6506 r0 8 := ((wq_u_j e6525 rfl).trans ((wq_u_j e6520 rfl).trans (wq_u_j e6515 rfl)))
    refine wp_of e172 c172_55 (xg_I (pc' := 58) lf_9_78 w6526 g0 sh_42 (by decide) (by decide) ty_42_8 rfl rfl (fun b6530 b6531 => ?_))
    have k6532 : H6524 r0 5 = H r0 5 := ((wq_u_j e6525 rfl).trans ((wq_u_j e6520 rfl).trans ((wq_u_j e6515 rfl).trans (f6509 r0 5 _ g0 rfl))))
    have q6533 : H6524 r0 5 = (rb : Int) := k6532.trans qrb
    have k6534 : H6524 r0 7 = H r0 7 := ((wq_u_j e6525 rfl).trans ((wq_u_j e6520 rfl).trans ((wq_u_j e6515 rfl).trans (f6509 r0 7 _ g0 rfl))))
    have h6535 : TM T H6524 rb B := (TM_fr w6521 grb ((wfr.rf (l := [(42, 11)])).put' e6525 g0 rfl) rfl (TM_fr w6516 grb ((wfr.rf (l := [(42, 9)])).put' e6520 g0 rfl) rfl (TM_fr w6508 grb ((wfr.rf (l := [(42, 10)])).put' e6515 g0 rfl) rfl (TM_fr hW grb f6509 rfl hTM_rb))))
    refine wp_of e172 c172_58 (xc_V (pc' := 61) (r := r0) (as := [vI (H6524 r0 8)]) (st := []) (lm_9_81) rfl rfl (Nat.le_of_ble_eq_true rfl) w6526 g0 sh_42 (by decide) rfl (by decide) (u_173 (B := B) (n := n) (y := q) w6526 g0 ⟨by omega, by omega⟩ q6533 grb (by omega) (by omega) h6535) (fun R6536 T6537 H6538 p6539 => ?_))
    obtain ⟨e6540, e6542, z6543, e6541, b6544, p6545⟩ := p6539
    subst e6540
    subst e6541
    subst e6542
    rcases p6545 with ⟨a6546, a6547⟩ | ⟨a6548, a6549, a6550, a6551⟩
    · show wp _ _ 172 61 [(0, .ref r0)] [vI z6543] _ H6524 _
      refine wp_of e172 c172_61 (rw_istore_n (pc' := 62) (z := z6543) (L' := [(1, vI z6543), (0, .ref r0)]) rfl rfl rfl ?_)
      refine wp_of e172 c172_62 (rw_iconst (pc' := 63) rfl ?_)
      refine wp_of e172 c172_63 (rw_istore_n (pc' := 64) (z := 0) (L' := [(2, vI 0), (1, vI z6543), (0, .ref r0)]) rfl rfl rfl ?_)
      refine wp_of e172 c172_64 (rw_iload_n (pc' := 65) (z := z6543) rfl rfl ?_)
      refine wp_of e172 c172_65 (rw_iconst (pc' := 66) rfl ?_)
      refine wp_of e172 c172_66 (rw_icmp_ne (p1 := 77) (p2 := 69) (by decide) rfl ⟨by omega, by omega⟩ ⟨by omega, by omega⟩ (fun c6552 => ?_) (fun c6552 => ?_))
      · exfalso
        omega
      · refine wp_of e172 c172_69 (rw_aload_n (pc' := 70) (v := .ref r0) rfl rfl rfl ?_)
        refine wp_of e172 c172_70 (rw_iconst (pc' := 71) rfl ?_)
        refine wp_of e172 c172_71 (xp_I (pc' := 74) lf_9_75 w6526 g0 sh_42 (by decide) (by decide) ty_42_9 rfl rfl (by omega) (by omega) ⟨by omega, by omega⟩ rfl (fun H6553 e6554 w6555 => ?_))
        have f6556 := f6527.put' e6554 g0 rfl
        have k6557 : H6553 r0 9 = 1 := wq_u_s e6554
        refine wp_of e172 c172_74 (rw_goto (p1 := 281) (by decide) ?_)
        have k6558 : H6553 r0 8 = H6524 r0 8 := (wq_u_j e6554 rfl)
        have k6559 : H6553 r0 7 = H6524 r0 7 := (wq_u_j e6554 rfl)
        have k6560 : H6553 r0 13 = H r0 13 := ((wq_u_j e6554 rfl).trans ((wq_u_j e6525 rfl).trans ((wq_u_j e6520 rfl).trans ((wq_u_j e6515 rfl).trans (f6509 r0 13 _ g0 rfl)))))
        have k6561 : H6553 r0 10 = H6514 r0 10 := ((wq_u_j e6554 rfl).trans ((wq_u_j e6525 rfl).trans (wq_u_j e6520 rfl)))
        have k6562 : H6553 r0 11 = H6524 r0 11 := (wq_u_j e6554 rfl)
        obtain ⟨kk, hk⟩ : ∃ x : Int, xK B n q = x := ⟨_, rfl⟩
        have hk2 := hk
        unfold xK at hk2
        repeat first | rw [if_pos (by omega)] at hk2 | rw [if_neg (by omega)] at hk2
        obtain ⟨ke, he⟩ : ∃ x : Int, xE B n q = x := ⟨_, rfl⟩
        have he2 := he
        unfold xE at he2
        repeat first | rw [if_pos (by omega)] at he2 | rw [if_neg (by omega)] at he2
        have k6563 : H6553 r0 5 = H6524 r0 5 := (wq_u_j e6554 rfl)
        have q6564 : H6553 r0 5 = (rb : Int) := k6563.trans q6533
        have h6565 : TM T H6553 rb B := (TM_fr w6526 grb ((wfr.rf (l := [(42, 9)])).put' e6554 g0 rfl) rfl h6535)
        exact wp_return e172 c172_281 rfl ⟨rfl, w6555, f6556, rfl, (RC_mk q6564 grb h6565 (by omega) (by rw [hk, ← hk2]; omega) (by omega) (by omega) (by omega) (by omega) (by omega))⟩
    · show wp _ _ 172 61 [(0, .ref r0)] [vI z6543] _ H6524 _
      refine wp_of e172 c172_61 (rw_istore_n (pc' := 62) (z := z6543) (L' := [(1, vI z6543), (0, .ref r0)]) rfl rfl rfl ?_)
      refine wp_of e172 c172_62 (rw_iconst (pc' := 63) rfl ?_)
      refine wp_of e172 c172_63 (rw_istore_n (pc' := 64) (z := 0) (L' := [(2, vI 0), (1, vI z6543), (0, .ref r0)]) rfl rfl rfl ?_)
      refine wp_of e172 c172_64 (rw_iload_n (pc' := 65) (z := z6543) rfl rfl ?_)
      refine wp_of e172 c172_65 (rw_iconst (pc' := 66) rfl ?_)
      refine wp_of e172 c172_66 (rw_icmp_ne (p1 := 77) (p2 := 69) (by decide) rfl ⟨by omega, by omega⟩ ⟨by omega, by omega⟩ (fun c6566 => ?_) (fun c6566 => ?_))
      · refine wp_of e172 c172_77 (rw_iload_n (pc' := 78) (z := z6543) rfl rfl ?_)
        refine wp_of e172 c172_78 (xc_S (pc' := 81) (as := [vI z6543]) (st := []) (lm_9_90) rfl rfl (Nat.le_of_ble_eq_true rfl) rfl (by decide) (u_174  w6526 ⟨by omega, by omega⟩) (fun R6567 T6568 H6569 p6570 => ?_))
        obtain ⟨e6571, e6573, z6574, e6572, b6575, p6576⟩ := p6570
        subst e6571
        subst e6572
        subst e6573
        rcases p6576 with ⟨a6577, a6578⟩ | ⟨a6579, a6580⟩
        · show wp _ _ 172 81 [(2, vI 0), (1, vI z6543), (0, .ref r0)] [vI z6574] _ H6524 _
          refine wp_of e172 c172_81 (rw_if_eq (p1 := 166) (p2 := 84) (by decide) rfl ⟨by omega, by omega⟩ (fun c6581 => ?_) (fun c6581 => ?_))
          · exfalso
            omega
          · have jn8040 : ∀ (v8038 : Int) (H8039 : wq_H), WT T H8039 → wfr [(42, 8), (42, 15)] T H6524 H8039 → (0 ≤ v8038 ∧ v8038 ≤ 900) → (H8039 r0 8 = xG 97 122 B n q) → (v8038 = H8039 r0 8 - q) → (8 < v8038 ∨ H8039 r0 15 = xY B n q) → wp kt 1 172 152 [(2, vI v8038), (0, .ref r0)] [] T H8039 (uq_172_k r0 rb B n a q T H) := by
              intro v8038 H8039 w8041 f8042 b8043 x8044 x8045 x8046
              have f8047 := f6527.tr f8042 rfl
              refine wp_of e172 c172_152 (rw_iload_n (pc' := 153) (z := v8038) rfl rfl ?_)
              refine wp_of e172 c172_153 (rw_bipush (pc' := 155) (z := 8) rfl (by decide) ?_)
              refine wp_of e172 c172_155 (rw_icmp_gt (p1 := 281) (p2 := 158) (by decide) rfl ⟨by omega, by omega⟩ ⟨by omega, by omega⟩ (fun c8048 => ?_) (fun c8048 => ?_))
              · have k8049 : H8039 r0 9 = H6519 r0 9 := ((f8042 r0 9 _ g0 rfl).trans (wq_u_j e6525 rfl))
                have k8050 : H8039 r0 7 = H6524 r0 7 := (f8042 r0 7 _ g0 rfl)
                have k8051 : H8039 r0 13 = H r0 13 := ((f8042 r0 13 _ g0 rfl).trans ((wq_u_j e6525 rfl).trans ((wq_u_j e6520 rfl).trans ((wq_u_j e6515 rfl).trans (f6509 r0 13 _ g0 rfl)))))
                have k8052 : H8039 r0 10 = H6514 r0 10 := ((f8042 r0 10 _ g0 rfl).trans ((wq_u_j e6525 rfl).trans (wq_u_j e6520 rfl)))
                have k8053 : H8039 r0 11 = H6524 r0 11 := (f8042 r0 11 _ g0 rfl)
                obtain ⟨kk, hk⟩ : ∃ x : Int, xK B n q = x := ⟨_, rfl⟩
                have hk2 := hk
                unfold xK at hk2
                repeat first | rw [if_pos (by omega)] at hk2 | rw [if_neg (by omega)] at hk2
                obtain ⟨ke, he⟩ : ∃ x : Int, xE B n q = x := ⟨_, rfl⟩
                have he2 := he
                unfold xE at he2
                repeat first | rw [if_pos (by omega)] at he2 | rw [if_neg (by omega)] at he2
                have k8054 : H8039 r0 5 = H6524 r0 5 := (f8042 r0 5 _ g0 rfl)
                have q8055 : H8039 r0 5 = (rb : Int) := k8054.trans q6533
                have h8056 : TM T H8039 rb B := (TM_fr w6526 grb f8042 rfl h6535)
                exact wp_return e172 c172_281 rfl ⟨rfl, w8041, f8047, rfl, (RC_mk q8055 grb h8056 (by omega) (by rw [hk, ← hk2]; omega) (by omega) (by omega) (by omega) (by omega) (by omega))⟩
              · refine wp_of e172 c172_158 (rw_aload_n (pc' := 159) (v := .ref r0) rfl rfl rfl ?_)
                refine wp_of e172 c172_159 (rw_iconst (pc' := 160) rfl ?_)
                refine wp_of e172 c172_160 (xp_I (pc' := 163) lf_9_75 w8041 g0 sh_42 (by decide) (by decide) ty_42_9 rfl rfl (by omega) (by omega) ⟨by omega, by omega⟩ rfl (fun H8057 e8058 w8059 => ?_))
                have f8060 := f8047.put' e8058 g0 rfl
                have k8061 : H8057 r0 9 = 2 := wq_u_s e8058
                refine wp_of e172 c172_163 (rw_goto (p1 := 281) (by decide) ?_)
                have k8062 : H8057 r0 8 = H8039 r0 8 := (wq_u_j e8058 rfl)
                have k8063 : H8057 r0 7 = H6524 r0 7 := ((wq_u_j e8058 rfl).trans (f8042 r0 7 _ g0 rfl))
                have k8064 : H8057 r0 13 = H r0 13 := ((wq_u_j e8058 rfl).trans ((f8042 r0 13 _ g0 rfl).trans ((wq_u_j e6525 rfl).trans ((wq_u_j e6520 rfl).trans ((wq_u_j e6515 rfl).trans (f6509 r0 13 _ g0 rfl))))))
                have k8065 : H8057 r0 10 = H6514 r0 10 := ((wq_u_j e8058 rfl).trans ((f8042 r0 10 _ g0 rfl).trans ((wq_u_j e6525 rfl).trans (wq_u_j e6520 rfl))))
                have k8066 : H8057 r0 15 = H8039 r0 15 := (wq_u_j e8058 rfl)
                have k8067 : H8057 r0 11 = H6524 r0 11 := ((wq_u_j e8058 rfl).trans (f8042 r0 11 _ g0 rfl))
                obtain ⟨kk, hk⟩ : ∃ x : Int, xK B n q = x := ⟨_, rfl⟩
                have hk2 := hk
                unfold xK at hk2
                repeat first | rw [if_pos (by omega)] at hk2 | rw [if_neg (by omega)] at hk2
                obtain ⟨ke, he⟩ : ∃ x : Int, xE B n q = x := ⟨_, rfl⟩
                have he2 := he
                unfold xE at he2
                repeat first | rw [if_pos (by omega)] at he2 | rw [if_neg (by omega)] at he2
                have k8068 : H8057 r0 5 = H6524 r0 5 := ((wq_u_j e8058 rfl).trans (f8042 r0 5 _ g0 rfl))
                have q8069 : H8057 r0 5 = (rb : Int) := k8068.trans q6533
                have h8070 : TM T H8057 rb B := (TM_fr w8041 grb ((wfr.rf (l := [(42, 9)])).put' e8058 g0 rfl) rfl (TM_fr w6526 grb f8042 rfl h6535))
                exact wp_return e172 c172_281 rfl ⟨rfl, w8059, f8060, rfl, (RC_mk q8069 grb h8070 (by omega) (by rw [hk, ← hk2]; omega) (by omega) (by omega) (by omega) (by omega) (by omega))⟩
            have f8071 : wfr [(42, 8), (42, 15)] T H6524 H6524 := wfr.rf
            refine wp_of e172 c172_84 (rw_aload_n (pc' := 85) (v := .ref r0) rfl rfl rfl ?_)
            refine wp_of e172 c172_85 (rw_lconst (pc' := 86) (z := 0) rfl rfl ?_)
            refine wp_of e172 c172_86 (xp_L (pc' := 89) lf_9_94 w6526 g0 sh_42 (by decide) (by decide) ty_42_15 rfl rfl (by omega) (by omega) ⟨by omega, by omega⟩ rfl (fun H8072 e8073 w8074 => ?_))
            have f8075 := f6527.put' e8073 g0 rfl
            have f8076 := f8071.put' e8073 g0 rfl
            have k8077 : H8072 r0 15 = 0 := wq_u_s e8073
            have k9427 : H8072 r0 8 = H6524 r0 8 := (wq_u_j e8073 rfl)
            have lp9421 : ∀ (n9422 : Nat) (v9424 : Int) (H9425 : wq_H) (p9426 : Int), WT T H9425 → wfr [(42, 8), (42, 15)] T H8072 H9425 → (0 ≤ v9424 ∧ v9424 ≤ 900) → (H9425 r0 8 = p9426) → (xG 97 122 B n p9426 = xG 97 122 B n q) → (q ≤ p9426) → (p9426 ≤ n) → (v9424 = p9426 - q) → (8 < p9426 - q ∨ H9425 r0 15 = xkf 32 96 B q (p9426 - q).toNat) → (900 - p9426).toNat = n9422 → wp kt 1 172 89 [(2, vI v9424), (0, .ref r0)] [] T H9425 (uq_172_k r0 rb B n a q T H) := by
              intro n9422
              induction n9422 using Nat.strongRecOn with
              | _ n9422 ih9423 =>
                intro v9424 H9425 p9426 w9428 f9429 b9430 x9432 x9433 x9434 x9435 x9436 x9437 m9431
                have f9438 := f8075.tr f9429 rfl
                have f9439 := f8076.tr f9429 rfl
                have := @xG_b 97 122 B n p9426
                have := @xkf_Y2 B n q p9426 (by omega) (by omega)
                refine wp_of e172 c172_89 (rw_aload_n (pc' := 90) (v := .ref r0) rfl rfl rfl ?_)
                refine wp_of e172 c172_90 (rw_aload_n (pc' := 91) (v := .ref r0) rfl rfl rfl ?_)
                refine wp_of e172 c172_91 (xg_I (pc' := 94) lf_9_78 w9428 g0 sh_42 (by decide) (by decide) ty_42_8 rfl rfl (fun b9440 b9441 => ?_))
                have k9442 : H9425 r0 5 = H6524 r0 5 := ((f9429 r0 5 _ g0 rfl).trans (wq_u_j e8073 rfl))
                have q9443 : H9425 r0 5 = (rb : Int) := k9442.trans q6533
                have k9444 : H9425 r0 7 = H6524 r0 7 := ((f9429 r0 7 _ g0 rfl).trans (wq_u_j e8073 rfl))
                have h9445 : TM T H9425 rb B := (TM_fr w8074 grb f9429 rfl (TM_fr w6526 grb ((wfr.rf (l := [(42, 15)])).put' e8073 g0 rfl) rfl h6535))
                refine wp_of e172 c172_94 (xc_V (pc' := 97) (r := r0) (as := [vI (H9425 r0 8)]) (st := []) (lm_9_81) rfl rfl (Nat.le_of_ble_eq_true rfl) w9428 g0 sh_42 (by decide) rfl (by decide) (u_173 (B := B) (n := n) (y := p9426) w9428 g0 ⟨by omega, by omega⟩ q9443 grb (by omega) (by omega) h9445) (fun R9446 T9447 H9448 p9449 => ?_))
                obtain ⟨e9450, e9452, z9453, e9451, b9454, p9455⟩ := p9449
                subst e9450
                subst e9451
                subst e9452
                rcases p9455 with ⟨a9456, a9457⟩ | ⟨a9458, a9459, a9460, a9461⟩
                · show wp _ _ 172 97 [(2, vI v9424), (0, .ref r0)] [vI z9453] _ H9425 _
                  refine wp_of e172 c172_97 (xc_S (pc' := 100) (as := [vI z9453]) (st := []) (lm_9_90) rfl rfl (Nat.le_of_ble_eq_true rfl) rfl (by decide) (u_174  w9428 ⟨by omega, by omega⟩) (fun R9462 T9463 H9464 p9465 => ?_))
                  obtain ⟨e9466, e9468, z9469, e9467, b9470, p9471⟩ := p9465
                  subst e9466
                  subst e9467
                  subst e9468
                  rcases p9471 with ⟨a9472, a9473⟩ | ⟨a9474, a9475⟩
                  · show wp _ _ 172 100 [(2, vI v9424), (0, .ref r0)] [vI z9469] _ H9425 _
                    refine wp_of e172 c172_100 (rw_if_eq (p1 := 152) (p2 := 103) (by decide) rfl ⟨by omega, by omega⟩ (fun c9476 => ?_) (fun c9476 => ?_))
                    · exfalso
                      omega
                    · refine wp_of e172 c172_103 (rw_iload_n (pc' := 104) (z := v9424) rfl rfl ?_)
                      refine wp_of e172 c172_104 (rw_bipush (pc' := 106) (z := 8) rfl (by decide) ?_)
                      refine wp_of e172 c172_106 (rw_icmp_ge (p1 := 136) (p2 := 109) (by decide) rfl ⟨by omega, by omega⟩ ⟨by omega, by omega⟩ (fun c9477 => ?_) (fun c9477 => ?_))
                      · refine wp_of e172 c172_136 (rw_iinc (pc' := 139) (z := v9424) (L' := [(2, vI (v9424 + 1)), (0, .ref r0)]) rfl rfl rfl rfl ?_)
                        refine wp_of e172 c172_139 (rw_aload_n (pc' := 140) (v := .ref r0) rfl rfl rfl ?_)
                        refine wp_of e172 c172_140 (rw_dup (pc' := 141) rfl rfl ?_)
                        refine wp_of e172 c172_141 (xg_I (pc' := 144) lf_9_78 w9428 g0 sh_42 (by decide) (by decide) ty_42_8 rfl rfl (fun b9478 b9479 => ?_))
                        refine wp_of e172 c172_144 (rw_iconst (pc' := 145) rfl ?_)
                        refine wp_of e172 c172_145 (rw_iadd (pc' := 146) rfl ?_)
                        refine wp_of e172 c172_146 (xp_I (pc' := 149) lf_9_78 w9428 g0 sh_42 (by decide) (by decide) ty_42_8 rfl rfl (by omega) (by omega) ⟨by omega, by omega⟩ rfl (fun H9480 e9481 w9482 => ?_))
                        have f9483 := f9438.put' e9481 g0 rfl
                        have f9484 := f9439.put' e9481 g0 rfl
                        have f9485 := f9429.put' e9481 g0 rfl
                        have k9486 : H9480 r0 8 = (H9425 r0 8) + 1 := wq_u_s e9481
                        refine wp_of e172 c172_149 (rw_goto (p1 := 89) (by decide) ?_)
                        have k9487 : H9480 r0 15 = H9425 r0 15 := (wq_u_j e9481 rfl)
                        have := @xG_s 97 122 B n p9426 (by omega) (by omega) (by omega)
                        have := @xkf_s B q 32 96 p9426 (by omega)
                        exact wp_lc (ks := [2, 0]) (wl_c rfl (wl_c rfl wl_n)) rfl (by decide) (ih9423 _ (by omega) (v9424 + 1) H9480 ((p9426 + 1)) w9482 f9485 ⟨by omega, by omega⟩ (by omega) (by omega) (by omega) (by omega) (by omega) (by omega) rfl)
                      · refine wp_of e172 c172_109 (rw_aload_n (pc' := 110) (v := .ref r0) rfl rfl rfl ?_)
                        refine wp_of e172 c172_110 (rw_ldc2 (pc' := 113) (z := 32) rfl rfl rfl ?_)
                        refine wp_of e172 c172_113 (rw_aload_n (pc' := 114) (v := .ref r0) rfl rfl rfl ?_)
                        refine wp_of e172 c172_114 (xg_L (pc' := 117) lf_9_94 w9428 g0 sh_42 (by decide) (by decide) ty_42_15 rfl rfl (fun b9488 b9489 => ?_))
                        refine wp_of e172 c172_117 (rw_lmulw (pc' := 118) rfl ?_)
                        obtain ⟨v9490, e9491⟩ : ∃ x : Int, x = wl_w (32 * (H9425 r0 15)) := ⟨_, rfl⟩
                        rw [← e9491]
                        have b9492 : -9223372036854775808 ≤ v9490 ∧ v9490 ≤ 9223372036854775807 := by
                          rw [e9491]
                          exact wL_w _
                        have b9493 : (-9223372036854775808 ≤ 32 * (H9425 r0 15) ∧ 32 * (H9425 r0 15) ≤ 9223372036854775807) → v9490 = 32 * (H9425 r0 15) := fun h => by rw [e9491]; exact wl_w_id h
                        refine wp_of e172 c172_118 (rw_aload_n (pc' := 119) (v := .ref r0) rfl rfl rfl ?_)
                        refine wp_of e172 c172_119 (rw_aload_n (pc' := 120) (v := .ref r0) rfl rfl rfl ?_)
                        refine wp_of e172 c172_120 (xg_I (pc' := 123) lf_9_78 w9428 g0 sh_42 (by decide) (by decide) ty_42_8 rfl rfl (fun b9494 b9495 => ?_))
                        refine wp_of e172 c172_123 (xc_V (pc' := 126) (r := r0) (as := [vI (H9425 r0 8)]) (st := [vL v9490, .ref r0]) (lm_9_81) rfl rfl (Nat.le_of_ble_eq_true rfl) w9428 g0 sh_42 (by decide) rfl (by decide) (u_173 (B := B) (n := n) (y := p9426) w9428 g0 ⟨by omega, by omega⟩ q9443 grb (by omega) (by omega) h9445) (fun R9496 T9497 H9498 p9499 => ?_))
                        obtain ⟨e9500, e9502, z9503, e9501, b9504, p9505⟩ := p9499
                        subst e9500
                        subst e9501
                        subst e9502
                        rcases p9505 with ⟨a9506, a9507⟩ | ⟨a9508, a9509, a9510, a9511⟩
                        · show wp _ _ 172 126 [(2, vI v9424), (0, .ref r0)] [vI z9503, vL v9490, .ref r0] _ H9425 _
                          refine wp_of e172 c172_126 (rw_bipush (pc' := 128) (z := 97) rfl (by decide) ?_)
                          refine wp_of e172 c172_128 (rw_isub (pc' := 129) rfl ?_)
                          refine wp_of e172 c172_129 (rw_iconst (pc' := 130) rfl ?_)
                          refine wp_of e172 c172_130 (rw_iadd (pc' := 131) rfl ?_)
                          refine wp_of e172 c172_131 (rw_i2l (pc' := 132) rfl ⟨by omega, by omega⟩ ?_)
                          refine wp_of e172 c172_132 (rw_laddw (pc' := 133) rfl ?_)
                          obtain ⟨v9512, e9513⟩ : ∃ x : Int, x = wl_w (v9490 + ((z9503 - 97) + 1)) := ⟨_, rfl⟩
                          rw [← e9513]
                          have b9514 : -9223372036854775808 ≤ v9512 ∧ v9512 ≤ 9223372036854775807 := by
                            rw [e9513]
                            exact wL_w _
                          have b9515 : (-9223372036854775808 ≤ v9490 + ((z9503 - 97) + 1) ∧ v9490 + ((z9503 - 97) + 1) ≤ 9223372036854775807) → v9512 = v9490 + ((z9503 - 97) + 1) := fun h => by rw [e9513]; exact wl_w_id h
                          refine wp_of e172 c172_133 (xp_L (pc' := 136) lf_9_94 w9428 g0 sh_42 (by decide) (by decide) ty_42_15 rfl rfl (by omega) (by omega) ⟨by omega, by omega⟩ rfl (fun H9516 e9517 w9518 => ?_))
                          have f9519 := f9438.put' e9517 g0 rfl
                          have f9520 := f9439.put' e9517 g0 rfl
                          have f9521 := f9429.put' e9517 g0 rfl
                          have k9522 : H9516 r0 15 = v9512 := wq_u_s e9517
                          refine wp_of e172 c172_136 (rw_iinc (pc' := 139) (z := v9424) (L' := [(2, vI (v9424 + 1)), (0, .ref r0)]) rfl rfl rfl rfl ?_)
                          refine wp_of e172 c172_139 (rw_aload_n (pc' := 140) (v := .ref r0) rfl rfl rfl ?_)
                          refine wp_of e172 c172_140 (rw_dup (pc' := 141) rfl rfl ?_)
                          have k9523 : H9516 r0 8 = H9425 r0 8 := (wq_u_j e9517 rfl)
                          refine wp_of e172 c172_141 (xg_I (pc' := 144) lf_9_78 w9518 g0 sh_42 (by decide) (by decide) ty_42_8 rfl rfl (fun b9524 b9525 => ?_))
                          refine wp_of e172 c172_144 (rw_iconst (pc' := 145) rfl ?_)
                          refine wp_of e172 c172_145 (rw_iadd (pc' := 146) rfl ?_)
                          refine wp_of e172 c172_146 (xp_I (pc' := 149) lf_9_78 w9518 g0 sh_42 (by decide) (by decide) ty_42_8 rfl rfl (by omega) (by omega) ⟨by omega, by omega⟩ rfl (fun H9526 e9527 w9528 => ?_))
                          have f9529 := f9519.put' e9527 g0 rfl
                          have f9530 := f9520.put' e9527 g0 rfl
                          have f9531 := f9521.put' e9527 g0 rfl
                          have k9532 : H9526 r0 8 = (H9516 r0 8) + 1 := wq_u_s e9527
                          refine wp_of e172 c172_149 (rw_goto (p1 := 89) (by decide) ?_)
                          have k9533 : H9526 r0 15 = H9516 r0 15 := (wq_u_j e9527 rfl)
                          have := @xG_s 97 122 B n p9426 (by omega) (by omega) (by omega)
                          have := @xkf_s B q 32 96 p9426 (by omega)
                          exact wp_lc (ks := [2, 0]) (wl_c rfl (wl_c rfl wl_n)) rfl (by decide) (ih9423 _ (by omega) (v9424 + 1) H9526 ((p9426 + 1)) w9528 f9531 ⟨by omega, by omega⟩ (by omega) (by omega) (by omega) (by omega) (by omega) (by omega) rfl)
                        · show wp _ _ 172 126 [(2, vI v9424), (0, .ref r0)] [vI z9503, vL v9490, .ref r0] _ H9425 _
                          refine wp_of e172 c172_126 (rw_bipush (pc' := 128) (z := 97) rfl (by decide) ?_)
                          refine wp_of e172 c172_128 (rw_isub (pc' := 129) rfl ?_)
                          refine wp_of e172 c172_129 (rw_iconst (pc' := 130) rfl ?_)
                          refine wp_of e172 c172_130 (rw_iadd (pc' := 131) rfl ?_)
                          refine wp_of e172 c172_131 (rw_i2l (pc' := 132) rfl ⟨by omega, by omega⟩ ?_)
                          refine wp_of e172 c172_132 (rw_laddw (pc' := 133) rfl ?_)
                          obtain ⟨v9534, e9535⟩ : ∃ x : Int, x = wl_w (v9490 + ((z9503 - 97) + 1)) := ⟨_, rfl⟩
                          rw [← e9535]
                          have b9536 : -9223372036854775808 ≤ v9534 ∧ v9534 ≤ 9223372036854775807 := by
                            rw [e9535]
                            exact wL_w _
                          have b9537 : (-9223372036854775808 ≤ v9490 + ((z9503 - 97) + 1) ∧ v9490 + ((z9503 - 97) + 1) ≤ 9223372036854775807) → v9534 = v9490 + ((z9503 - 97) + 1) := fun h => by rw [e9535]; exact wl_w_id h
                          refine wp_of e172 c172_133 (xp_L (pc' := 136) lf_9_94 w9428 g0 sh_42 (by decide) (by decide) ty_42_15 rfl rfl (by omega) (by omega) ⟨by omega, by omega⟩ rfl (fun H9538 e9539 w9540 => ?_))
                          have f9541 := f9438.put' e9539 g0 rfl
                          have f9542 := f9439.put' e9539 g0 rfl
                          have f9543 := f9429.put' e9539 g0 rfl
                          have k9544 : H9538 r0 15 = v9534 := wq_u_s e9539
                          refine wp_of e172 c172_136 (rw_iinc (pc' := 139) (z := v9424) (L' := [(2, vI (v9424 + 1)), (0, .ref r0)]) rfl rfl rfl rfl ?_)
                          refine wp_of e172 c172_139 (rw_aload_n (pc' := 140) (v := .ref r0) rfl rfl rfl ?_)
                          refine wp_of e172 c172_140 (rw_dup (pc' := 141) rfl rfl ?_)
                          have k9545 : H9538 r0 8 = H9425 r0 8 := (wq_u_j e9539 rfl)
                          refine wp_of e172 c172_141 (xg_I (pc' := 144) lf_9_78 w9540 g0 sh_42 (by decide) (by decide) ty_42_8 rfl rfl (fun b9546 b9547 => ?_))
                          refine wp_of e172 c172_144 (rw_iconst (pc' := 145) rfl ?_)
                          refine wp_of e172 c172_145 (rw_iadd (pc' := 146) rfl ?_)
                          refine wp_of e172 c172_146 (xp_I (pc' := 149) lf_9_78 w9540 g0 sh_42 (by decide) (by decide) ty_42_8 rfl rfl (by omega) (by omega) ⟨by omega, by omega⟩ rfl (fun H9548 e9549 w9550 => ?_))
                          have f9551 := f9541.put' e9549 g0 rfl
                          have f9552 := f9542.put' e9549 g0 rfl
                          have f9553 := f9543.put' e9549 g0 rfl
                          have k9554 : H9548 r0 8 = (H9538 r0 8) + 1 := wq_u_s e9549
                          refine wp_of e172 c172_149 (rw_goto (p1 := 89) (by decide) ?_)
                          have k9555 : H9548 r0 15 = H9538 r0 15 := (wq_u_j e9549 rfl)
                          have := @xG_s 97 122 B n p9426 (by omega) (by omega) (by omega)
                          have := @xkf_s B q 32 96 p9426 (by omega)
                          exact wp_lc (ks := [2, 0]) (wl_c rfl (wl_c rfl wl_n)) rfl (by decide) (ih9423 _ (by omega) (v9424 + 1) H9548 ((p9426 + 1)) w9550 f9553 ⟨by omega, by omega⟩ (by omega) (by omega) (by omega) (by omega) (by omega) (by omega) rfl)
                  · show wp _ _ 172 100 [(2, vI v9424), (0, .ref r0)] [vI z9469] _ H9425 _
                    refine wp_of e172 c172_100 (rw_if_eq (p1 := 152) (p2 := 103) (by decide) rfl ⟨by omega, by omega⟩ (fun c9556 => ?_) (fun c9556 => ?_))
                    · have := @xG_e 97 122 B n p9426 (by omega)
                      have := @xY_of B n q p9426
                      exact wp_lc (ks := [2, 0]) (wl_c rfl (wl_c rfl wl_n)) rfl (by decide) (jn8040 v9424 H9425 w9428 f9439 ⟨by omega, by omega⟩ (by omega) (by omega) (by omega))
                    · exfalso
                      omega
                · show wp _ _ 172 97 [(2, vI v9424), (0, .ref r0)] [vI z9453] _ H9425 _
                  refine wp_of e172 c172_97 (xc_S (pc' := 100) (as := [vI z9453]) (st := []) (lm_9_90) rfl rfl (Nat.le_of_ble_eq_true rfl) rfl (by decide) (u_174  w9428 ⟨by omega, by omega⟩) (fun R9557 T9558 H9559 p9560 => ?_))
                  obtain ⟨e9561, e9563, z9564, e9562, b9565, p9566⟩ := p9560
                  subst e9561
                  subst e9562
                  subst e9563
                  rcases p9566 with ⟨a9567, a9568⟩ | ⟨a9569, a9570⟩
                  · show wp _ _ 172 100 [(2, vI v9424), (0, .ref r0)] [vI z9564] _ H9425 _
                    refine wp_of e172 c172_100 (rw_if_eq (p1 := 152) (p2 := 103) (by decide) rfl ⟨by omega, by omega⟩ (fun c9571 => ?_) (fun c9571 => ?_))
                    · exfalso
                      omega
                    · refine wp_of e172 c172_103 (rw_iload_n (pc' := 104) (z := v9424) rfl rfl ?_)
                      refine wp_of e172 c172_104 (rw_bipush (pc' := 106) (z := 8) rfl (by decide) ?_)
                      refine wp_of e172 c172_106 (rw_icmp_ge (p1 := 136) (p2 := 109) (by decide) rfl ⟨by omega, by omega⟩ ⟨by omega, by omega⟩ (fun c9572 => ?_) (fun c9572 => ?_))
                      · refine wp_of e172 c172_136 (rw_iinc (pc' := 139) (z := v9424) (L' := [(2, vI (v9424 + 1)), (0, .ref r0)]) rfl rfl rfl rfl ?_)
                        refine wp_of e172 c172_139 (rw_aload_n (pc' := 140) (v := .ref r0) rfl rfl rfl ?_)
                        refine wp_of e172 c172_140 (rw_dup (pc' := 141) rfl rfl ?_)
                        refine wp_of e172 c172_141 (xg_I (pc' := 144) lf_9_78 w9428 g0 sh_42 (by decide) (by decide) ty_42_8 rfl rfl (fun b9573 b9574 => ?_))
                        refine wp_of e172 c172_144 (rw_iconst (pc' := 145) rfl ?_)
                        refine wp_of e172 c172_145 (rw_iadd (pc' := 146) rfl ?_)
                        refine wp_of e172 c172_146 (xp_I (pc' := 149) lf_9_78 w9428 g0 sh_42 (by decide) (by decide) ty_42_8 rfl rfl (by omega) (by omega) ⟨by omega, by omega⟩ rfl (fun H9575 e9576 w9577 => ?_))
                        have f9578 := f9438.put' e9576 g0 rfl
                        have f9579 := f9439.put' e9576 g0 rfl
                        have f9580 := f9429.put' e9576 g0 rfl
                        have k9581 : H9575 r0 8 = (H9425 r0 8) + 1 := wq_u_s e9576
                        refine wp_of e172 c172_149 (rw_goto (p1 := 89) (by decide) ?_)
                        have k9582 : H9575 r0 15 = H9425 r0 15 := (wq_u_j e9576 rfl)
                        have := @xG_s 97 122 B n p9426 (by omega) (by omega) (by omega)
                        have := @xkf_s B q 32 96 p9426 (by omega)
                        exact wp_lc (ks := [2, 0]) (wl_c rfl (wl_c rfl wl_n)) rfl (by decide) (ih9423 _ (by omega) (v9424 + 1) H9575 ((p9426 + 1)) w9577 f9580 ⟨by omega, by omega⟩ (by omega) (by omega) (by omega) (by omega) (by omega) (by omega) rfl)
                      · refine wp_of e172 c172_109 (rw_aload_n (pc' := 110) (v := .ref r0) rfl rfl rfl ?_)
                        refine wp_of e172 c172_110 (rw_ldc2 (pc' := 113) (z := 32) rfl rfl rfl ?_)
                        refine wp_of e172 c172_113 (rw_aload_n (pc' := 114) (v := .ref r0) rfl rfl rfl ?_)
                        refine wp_of e172 c172_114 (xg_L (pc' := 117) lf_9_94 w9428 g0 sh_42 (by decide) (by decide) ty_42_15 rfl rfl (fun b9583 b9584 => ?_))
                        refine wp_of e172 c172_117 (rw_lmulw (pc' := 118) rfl ?_)
                        obtain ⟨v9585, e9586⟩ : ∃ x : Int, x = wl_w (32 * (H9425 r0 15)) := ⟨_, rfl⟩
                        rw [← e9586]
                        have b9587 : -9223372036854775808 ≤ v9585 ∧ v9585 ≤ 9223372036854775807 := by
                          rw [e9586]
                          exact wL_w _
                        have b9588 : (-9223372036854775808 ≤ 32 * (H9425 r0 15) ∧ 32 * (H9425 r0 15) ≤ 9223372036854775807) → v9585 = 32 * (H9425 r0 15) := fun h => by rw [e9586]; exact wl_w_id h
                        refine wp_of e172 c172_118 (rw_aload_n (pc' := 119) (v := .ref r0) rfl rfl rfl ?_)
                        refine wp_of e172 c172_119 (rw_aload_n (pc' := 120) (v := .ref r0) rfl rfl rfl ?_)
                        refine wp_of e172 c172_120 (xg_I (pc' := 123) lf_9_78 w9428 g0 sh_42 (by decide) (by decide) ty_42_8 rfl rfl (fun b9589 b9590 => ?_))
                        refine wp_of e172 c172_123 (xc_V (pc' := 126) (r := r0) (as := [vI (H9425 r0 8)]) (st := [vL v9585, .ref r0]) (lm_9_81) rfl rfl (Nat.le_of_ble_eq_true rfl) w9428 g0 sh_42 (by decide) rfl (by decide) (u_173 (B := B) (n := n) (y := p9426) w9428 g0 ⟨by omega, by omega⟩ q9443 grb (by omega) (by omega) h9445) (fun R9591 T9592 H9593 p9594 => ?_))
                        obtain ⟨e9595, e9597, z9598, e9596, b9599, p9600⟩ := p9594
                        subst e9595
                        subst e9596
                        subst e9597
                        rcases p9600 with ⟨a9601, a9602⟩ | ⟨a9603, a9604, a9605, a9606⟩
                        · show wp _ _ 172 126 [(2, vI v9424), (0, .ref r0)] [vI z9598, vL v9585, .ref r0] _ H9425 _
                          refine wp_of e172 c172_126 (rw_bipush (pc' := 128) (z := 97) rfl (by decide) ?_)
                          refine wp_of e172 c172_128 (rw_isub (pc' := 129) rfl ?_)
                          refine wp_of e172 c172_129 (rw_iconst (pc' := 130) rfl ?_)
                          refine wp_of e172 c172_130 (rw_iadd (pc' := 131) rfl ?_)
                          refine wp_of e172 c172_131 (rw_i2l (pc' := 132) rfl ⟨by omega, by omega⟩ ?_)
                          refine wp_of e172 c172_132 (rw_laddw (pc' := 133) rfl ?_)
                          obtain ⟨v9607, e9608⟩ : ∃ x : Int, x = wl_w (v9585 + ((z9598 - 97) + 1)) := ⟨_, rfl⟩
                          rw [← e9608]
                          have b9609 : -9223372036854775808 ≤ v9607 ∧ v9607 ≤ 9223372036854775807 := by
                            rw [e9608]
                            exact wL_w _
                          have b9610 : (-9223372036854775808 ≤ v9585 + ((z9598 - 97) + 1) ∧ v9585 + ((z9598 - 97) + 1) ≤ 9223372036854775807) → v9607 = v9585 + ((z9598 - 97) + 1) := fun h => by rw [e9608]; exact wl_w_id h
                          refine wp_of e172 c172_133 (xp_L (pc' := 136) lf_9_94 w9428 g0 sh_42 (by decide) (by decide) ty_42_15 rfl rfl (by omega) (by omega) ⟨by omega, by omega⟩ rfl (fun H9611 e9612 w9613 => ?_))
                          have f9614 := f9438.put' e9612 g0 rfl
                          have f9615 := f9439.put' e9612 g0 rfl
                          have f9616 := f9429.put' e9612 g0 rfl
                          have k9617 : H9611 r0 15 = v9607 := wq_u_s e9612
                          refine wp_of e172 c172_136 (rw_iinc (pc' := 139) (z := v9424) (L' := [(2, vI (v9424 + 1)), (0, .ref r0)]) rfl rfl rfl rfl ?_)
                          refine wp_of e172 c172_139 (rw_aload_n (pc' := 140) (v := .ref r0) rfl rfl rfl ?_)
                          refine wp_of e172 c172_140 (rw_dup (pc' := 141) rfl rfl ?_)
                          have k9618 : H9611 r0 8 = H9425 r0 8 := (wq_u_j e9612 rfl)
                          refine wp_of e172 c172_141 (xg_I (pc' := 144) lf_9_78 w9613 g0 sh_42 (by decide) (by decide) ty_42_8 rfl rfl (fun b9619 b9620 => ?_))
                          refine wp_of e172 c172_144 (rw_iconst (pc' := 145) rfl ?_)
                          refine wp_of e172 c172_145 (rw_iadd (pc' := 146) rfl ?_)
                          refine wp_of e172 c172_146 (xp_I (pc' := 149) lf_9_78 w9613 g0 sh_42 (by decide) (by decide) ty_42_8 rfl rfl (by omega) (by omega) ⟨by omega, by omega⟩ rfl (fun H9621 e9622 w9623 => ?_))
                          have f9624 := f9614.put' e9622 g0 rfl
                          have f9625 := f9615.put' e9622 g0 rfl
                          have f9626 := f9616.put' e9622 g0 rfl
                          have k9627 : H9621 r0 8 = (H9611 r0 8) + 1 := wq_u_s e9622
                          refine wp_of e172 c172_149 (rw_goto (p1 := 89) (by decide) ?_)
                          have k9628 : H9621 r0 15 = H9611 r0 15 := (wq_u_j e9622 rfl)
                          have := @xG_s 97 122 B n p9426 (by omega) (by omega) (by omega)
                          have := @xkf_s B q 32 96 p9426 (by omega)
                          exact wp_lc (ks := [2, 0]) (wl_c rfl (wl_c rfl wl_n)) rfl (by decide) (ih9423 _ (by omega) (v9424 + 1) H9621 ((p9426 + 1)) w9623 f9626 ⟨by omega, by omega⟩ (by omega) (by omega) (by omega) (by omega) (by omega) (by omega) rfl)
                        · show wp _ _ 172 126 [(2, vI v9424), (0, .ref r0)] [vI z9598, vL v9585, .ref r0] _ H9425 _
                          refine wp_of e172 c172_126 (rw_bipush (pc' := 128) (z := 97) rfl (by decide) ?_)
                          refine wp_of e172 c172_128 (rw_isub (pc' := 129) rfl ?_)
                          refine wp_of e172 c172_129 (rw_iconst (pc' := 130) rfl ?_)
                          refine wp_of e172 c172_130 (rw_iadd (pc' := 131) rfl ?_)
                          refine wp_of e172 c172_131 (rw_i2l (pc' := 132) rfl ⟨by omega, by omega⟩ ?_)
                          refine wp_of e172 c172_132 (rw_laddw (pc' := 133) rfl ?_)
                          obtain ⟨v9629, e9630⟩ : ∃ x : Int, x = wl_w (v9585 + ((z9598 - 97) + 1)) := ⟨_, rfl⟩
                          rw [← e9630]
                          have b9631 : -9223372036854775808 ≤ v9629 ∧ v9629 ≤ 9223372036854775807 := by
                            rw [e9630]
                            exact wL_w _
                          have b9632 : (-9223372036854775808 ≤ v9585 + ((z9598 - 97) + 1) ∧ v9585 + ((z9598 - 97) + 1) ≤ 9223372036854775807) → v9629 = v9585 + ((z9598 - 97) + 1) := fun h => by rw [e9630]; exact wl_w_id h
                          refine wp_of e172 c172_133 (xp_L (pc' := 136) lf_9_94 w9428 g0 sh_42 (by decide) (by decide) ty_42_15 rfl rfl (by omega) (by omega) ⟨by omega, by omega⟩ rfl (fun H9633 e9634 w9635 => ?_))
                          have f9636 := f9438.put' e9634 g0 rfl
                          have f9637 := f9439.put' e9634 g0 rfl
                          have f9638 := f9429.put' e9634 g0 rfl
                          have k9639 : H9633 r0 15 = v9629 := wq_u_s e9634
                          refine wp_of e172 c172_136 (rw_iinc (pc' := 139) (z := v9424) (L' := [(2, vI (v9424 + 1)), (0, .ref r0)]) rfl rfl rfl rfl ?_)
                          refine wp_of e172 c172_139 (rw_aload_n (pc' := 140) (v := .ref r0) rfl rfl rfl ?_)
                          refine wp_of e172 c172_140 (rw_dup (pc' := 141) rfl rfl ?_)
                          have k9640 : H9633 r0 8 = H9425 r0 8 := (wq_u_j e9634 rfl)
                          refine wp_of e172 c172_141 (xg_I (pc' := 144) lf_9_78 w9635 g0 sh_42 (by decide) (by decide) ty_42_8 rfl rfl (fun b9641 b9642 => ?_))
                          refine wp_of e172 c172_144 (rw_iconst (pc' := 145) rfl ?_)
                          refine wp_of e172 c172_145 (rw_iadd (pc' := 146) rfl ?_)
                          refine wp_of e172 c172_146 (xp_I (pc' := 149) lf_9_78 w9635 g0 sh_42 (by decide) (by decide) ty_42_8 rfl rfl (by omega) (by omega) ⟨by omega, by omega⟩ rfl (fun H9643 e9644 w9645 => ?_))
                          have f9646 := f9636.put' e9644 g0 rfl
                          have f9647 := f9637.put' e9644 g0 rfl
                          have f9648 := f9638.put' e9644 g0 rfl
                          have k9649 : H9643 r0 8 = (H9633 r0 8) + 1 := wq_u_s e9644
                          refine wp_of e172 c172_149 (rw_goto (p1 := 89) (by decide) ?_)
                          have k9650 : H9643 r0 15 = H9633 r0 15 := (wq_u_j e9644 rfl)
                          have := @xG_s 97 122 B n p9426 (by omega) (by omega) (by omega)
                          have := @xkf_s B q 32 96 p9426 (by omega)
                          exact wp_lc (ks := [2, 0]) (wl_c rfl (wl_c rfl wl_n)) rfl (by decide) (ih9423 _ (by omega) (v9424 + 1) H9643 ((p9426 + 1)) w9645 f9648 ⟨by omega, by omega⟩ (by omega) (by omega) (by omega) (by omega) (by omega) (by omega) rfl)
                  · show wp _ _ 172 100 [(2, vI v9424), (0, .ref r0)] [vI z9564] _ H9425 _
                    refine wp_of e172 c172_100 (rw_if_eq (p1 := 152) (p2 := 103) (by decide) rfl ⟨by omega, by omega⟩ (fun c9651 => ?_) (fun c9651 => ?_))
                    · have := @xG_e 97 122 B n p9426 (by omega)
                      have := @xY_of B n q p9426
                      exact wp_lc (ks := [2, 0]) (wl_c rfl (wl_c rfl wl_n)) rfl (by decide) (jn8040 v9424 H9425 w9428 f9439 ⟨by omega, by omega⟩ (by omega) (by omega) (by omega))
                    · exfalso
                      omega
            have := @xkf_q B q q 32 96
            exact wp_lc (ks := [2, 1, 0]) (wl_c rfl (wl_c rfl wl_n)) rfl (by decide) (lp9421 _ 0 H8072 q w8074 wfr.rf ⟨by omega, by omega⟩ (by omega) (by omega) (by omega) (by omega) (by omega) (by omega) rfl)
        · show wp _ _ 172 81 [(2, vI 0), (1, vI z6543), (0, .ref r0)] [vI z6574] _ H6524 _
          refine wp_of e172 c172_81 (rw_if_eq (p1 := 166) (p2 := 84) (by decide) rfl ⟨by omega, by omega⟩ (fun c9652 => ?_) (fun c9652 => ?_))
          · refine wp_of e172 c172_166 (rw_iload_n (pc' := 167) (z := z6543) rfl rfl ?_)
            refine wp_of e172 c172_167 (xc_S (pc' := 170) (as := [vI z6543]) (st := []) (lm_9_98) rfl rfl (Nat.le_of_ble_eq_true rfl) rfl (by decide) (u_175  w6526 ⟨by omega, by omega⟩) (fun R9653 T9654 H9655 p9656 => ?_))
            obtain ⟨e9657, e9659, z9660, e9658, b9661, p9662⟩ := p9656
            subst e9657
            subst e9658
            subst e9659
            rcases p9662 with ⟨a9663, a9664⟩ | ⟨a9665, a9666⟩
            · show wp _ _ 172 170 [(2, vI 0), (1, vI z6543), (0, .ref r0)] [vI z9660] _ H6524 _
              refine wp_of e172 c172_170 (rw_if_eq (p1 := 249) (p2 := 173) (by decide) rfl ⟨by omega, by omega⟩ (fun c9667 => ?_) (fun c9667 => ?_))
              · exfalso
                omega
              · have jn11246 : ∀ (v11244 : Int) (H11245 : wq_H), WT T H11245 → wfr [(42, 8), (42, 12)] T H6524 H11245 → (0 ≤ v11244 ∧ v11244 ≤ 900) → (H11245 r0 8 = xG 48 57 B n q) → (v11244 = H11245 r0 8 - q) → (3 < v11244 ∨ H11245 r0 12 = xV B n q) → wp kt 1 172 236 [(2, vI v11244), (0, .ref r0)] [] T H11245 (uq_172_k r0 rb B n a q T H) := by
                  intro v11244 H11245 w11247 f11248 b11249 x11250 x11251 x11252
                  have f11253 := f6527.tr f11248 rfl
                  refine wp_of e172 c172_236 (rw_iload_n (pc' := 237) (z := v11244) rfl rfl ?_)
                  refine wp_of e172 c172_237 (rw_iconst (pc' := 238) rfl ?_)
                  refine wp_of e172 c172_238 (rw_icmp_gt (p1 := 281) (p2 := 241) (by decide) rfl ⟨by omega, by omega⟩ ⟨by omega, by omega⟩ (fun c11254 => ?_) (fun c11254 => ?_))
                  · have k11255 : H11245 r0 9 = H6519 r0 9 := ((f11248 r0 9 _ g0 rfl).trans (wq_u_j e6525 rfl))
                    have k11256 : H11245 r0 7 = H6524 r0 7 := (f11248 r0 7 _ g0 rfl)
                    have k11257 : H11245 r0 13 = H r0 13 := ((f11248 r0 13 _ g0 rfl).trans ((wq_u_j e6525 rfl).trans ((wq_u_j e6520 rfl).trans ((wq_u_j e6515 rfl).trans (f6509 r0 13 _ g0 rfl)))))
                    have k11258 : H11245 r0 10 = H6514 r0 10 := ((f11248 r0 10 _ g0 rfl).trans ((wq_u_j e6525 rfl).trans (wq_u_j e6520 rfl)))
                    have k11259 : H11245 r0 11 = H6524 r0 11 := (f11248 r0 11 _ g0 rfl)
                    obtain ⟨kk, hk⟩ : ∃ x : Int, xK B n q = x := ⟨_, rfl⟩
                    have hk2 := hk
                    unfold xK at hk2
                    repeat first | rw [if_pos (by omega)] at hk2 | rw [if_neg (by omega)] at hk2
                    obtain ⟨ke, he⟩ : ∃ x : Int, xE B n q = x := ⟨_, rfl⟩
                    have he2 := he
                    unfold xE at he2
                    repeat first | rw [if_pos (by omega)] at he2 | rw [if_neg (by omega)] at he2
                    have k11260 : H11245 r0 5 = H6524 r0 5 := (f11248 r0 5 _ g0 rfl)
                    have q11261 : H11245 r0 5 = (rb : Int) := k11260.trans q6533
                    have h11262 : TM T H11245 rb B := (TM_fr w6526 grb f11248 rfl h6535)
                    exact wp_return e172 c172_281 rfl ⟨rfl, w11247, f11253, rfl, (RC_mk q11261 grb h11262 (by omega) (by rw [hk, ← hk2]; omega) (by omega) (by omega) (by omega) (by omega) (by omega))⟩
                  · refine wp_of e172 c172_241 (rw_aload_n (pc' := 242) (v := .ref r0) rfl rfl rfl ?_)
                    refine wp_of e172 c172_242 (rw_iconst (pc' := 243) rfl ?_)
                    refine wp_of e172 c172_243 (xp_I (pc' := 246) lf_9_75 w11247 g0 sh_42 (by decide) (by decide) ty_42_9 rfl rfl (by omega) (by omega) ⟨by omega, by omega⟩ rfl (fun H11263 e11264 w11265 => ?_))
                    have f11266 := f11253.put' e11264 g0 rfl
                    have k11267 : H11263 r0 9 = 3 := wq_u_s e11264
                    refine wp_of e172 c172_246 (rw_goto (p1 := 281) (by decide) ?_)
                    have k11268 : H11263 r0 8 = H11245 r0 8 := (wq_u_j e11264 rfl)
                    have k11269 : H11263 r0 7 = H6524 r0 7 := ((wq_u_j e11264 rfl).trans (f11248 r0 7 _ g0 rfl))
                    have k11270 : H11263 r0 13 = H r0 13 := ((wq_u_j e11264 rfl).trans ((f11248 r0 13 _ g0 rfl).trans ((wq_u_j e6525 rfl).trans ((wq_u_j e6520 rfl).trans ((wq_u_j e6515 rfl).trans (f6509 r0 13 _ g0 rfl))))))
                    have k11271 : H11263 r0 10 = H6514 r0 10 := ((wq_u_j e11264 rfl).trans ((f11248 r0 10 _ g0 rfl).trans ((wq_u_j e6525 rfl).trans (wq_u_j e6520 rfl))))
                    have k11272 : H11263 r0 12 = H11245 r0 12 := (wq_u_j e11264 rfl)
                    have k11273 : H11263 r0 11 = H6524 r0 11 := ((wq_u_j e11264 rfl).trans (f11248 r0 11 _ g0 rfl))
                    obtain ⟨kk, hk⟩ : ∃ x : Int, xK B n q = x := ⟨_, rfl⟩
                    have hk2 := hk
                    unfold xK at hk2
                    repeat first | rw [if_pos (by omega)] at hk2 | rw [if_neg (by omega)] at hk2
                    obtain ⟨ke, he⟩ : ∃ x : Int, xE B n q = x := ⟨_, rfl⟩
                    have he2 := he
                    unfold xE at he2
                    repeat first | rw [if_pos (by omega)] at he2 | rw [if_neg (by omega)] at he2
                    have k11274 : H11263 r0 5 = H6524 r0 5 := ((wq_u_j e11264 rfl).trans (f11248 r0 5 _ g0 rfl))
                    have q11275 : H11263 r0 5 = (rb : Int) := k11274.trans q6533
                    have h11276 : TM T H11263 rb B := (TM_fr w11247 grb ((wfr.rf (l := [(42, 9)])).put' e11264 g0 rfl) rfl (TM_fr w6526 grb f11248 rfl h6535))
                    exact wp_return e172 c172_281 rfl ⟨rfl, w11265, f11266, rfl, (RC_mk q11275 grb h11276 (by omega) (by rw [hk, ← hk2]; omega) (by omega) (by omega) (by omega) (by omega) (by omega))⟩
                have f11277 : wfr [(42, 8), (42, 12)] T H6524 H6524 := wfr.rf
                refine wp_of e172 c172_173 (rw_aload_n (pc' := 174) (v := .ref r0) rfl rfl rfl ?_)
                refine wp_of e172 c172_174 (rw_iconst (pc' := 175) rfl ?_)
                refine wp_of e172 c172_175 (xp_I (pc' := 178) lf_9_101 w6526 g0 sh_42 (by decide) (by decide) ty_42_12 rfl rfl (by omega) (by omega) ⟨by omega, by omega⟩ rfl (fun H11278 e11279 w11280 => ?_))
                have f11281 := f6527.put' e11279 g0 rfl
                have f11282 := f11277.put' e11279 g0 rfl
                have k11283 : H11278 r0 12 = 0 := wq_u_s e11279
                have k12753 : H11278 r0 8 = H6524 r0 8 := (wq_u_j e11279 rfl)
                have lp12747 : ∀ (n12748 : Nat) (v12750 : Int) (H12751 : wq_H) (p12752 : Int), WT T H12751 → wfr [(42, 8), (42, 12)] T H11278 H12751 → (0 ≤ v12750 ∧ v12750 ≤ 900) → (H12751 r0 8 = p12752) → (xG 48 57 B n p12752 = xG 48 57 B n q) → (q ≤ p12752) → (p12752 ≤ n) → (v12750 = p12752 - q) → (3 < p12752 - q ∨ H12751 r0 12 = xkf 10 48 B q (p12752 - q).toNat) → (900 - p12752).toNat = n12748 → wp kt 1 172 178 [(2, vI v12750), (0, .ref r0)] [] T H12751 (uq_172_k r0 rb B n a q T H) := by
                  intro n12748
                  induction n12748 using Nat.strongRecOn with
                  | _ n12748 ih12749 =>
                    intro v12750 H12751 p12752 w12754 f12755 b12756 x12758 x12759 x12760 x12761 x12762 x12763 m12757
                    have f12764 := f11281.tr f12755 rfl
                    have f12765 := f11282.tr f12755 rfl
                    have := @xG_b 48 57 B n p12752
                    have := @xkf_V2 B n q p12752 (by omega)
                    refine wp_of e172 c172_178 (rw_aload_n (pc' := 179) (v := .ref r0) rfl rfl rfl ?_)
                    refine wp_of e172 c172_179 (rw_aload_n (pc' := 180) (v := .ref r0) rfl rfl rfl ?_)
                    refine wp_of e172 c172_180 (xg_I (pc' := 183) lf_9_78 w12754 g0 sh_42 (by decide) (by decide) ty_42_8 rfl rfl (fun b12766 b12767 => ?_))
                    have k12768 : H12751 r0 5 = H6524 r0 5 := ((f12755 r0 5 _ g0 rfl).trans (wq_u_j e11279 rfl))
                    have q12769 : H12751 r0 5 = (rb : Int) := k12768.trans q6533
                    have k12770 : H12751 r0 7 = H6524 r0 7 := ((f12755 r0 7 _ g0 rfl).trans (wq_u_j e11279 rfl))
                    have h12771 : TM T H12751 rb B := (TM_fr w11280 grb f12755 rfl (TM_fr w6526 grb ((wfr.rf (l := [(42, 12)])).put' e11279 g0 rfl) rfl h6535))
                    refine wp_of e172 c172_183 (xc_V (pc' := 186) (r := r0) (as := [vI (H12751 r0 8)]) (st := []) (lm_9_81) rfl rfl (Nat.le_of_ble_eq_true rfl) w12754 g0 sh_42 (by decide) rfl (by decide) (u_173 (B := B) (n := n) (y := p12752) w12754 g0 ⟨by omega, by omega⟩ q12769 grb (by omega) (by omega) h12771) (fun R12772 T12773 H12774 p12775 => ?_))
                    obtain ⟨e12776, e12778, z12779, e12777, b12780, p12781⟩ := p12775
                    subst e12776
                    subst e12777
                    subst e12778
                    rcases p12781 with ⟨a12782, a12783⟩ | ⟨a12784, a12785, a12786, a12787⟩
                    · show wp _ _ 172 186 [(2, vI v12750), (0, .ref r0)] [vI z12779] _ H12751 _
                      refine wp_of e172 c172_186 (xc_S (pc' := 189) (as := [vI z12779]) (st := []) (lm_9_98) rfl rfl (Nat.le_of_ble_eq_true rfl) rfl (by decide) (u_175  w12754 ⟨by omega, by omega⟩) (fun R12788 T12789 H12790 p12791 => ?_))
                      obtain ⟨e12792, e12794, z12795, e12793, b12796, p12797⟩ := p12791
                      subst e12792
                      subst e12793
                      subst e12794
                      rcases p12797 with ⟨a12798, a12799⟩ | ⟨a12800, a12801⟩
                      · show wp _ _ 172 189 [(2, vI v12750), (0, .ref r0)] [vI z12795] _ H12751 _
                        refine wp_of e172 c172_189 (rw_if_eq (p1 := 236) (p2 := 192) (by decide) rfl ⟨by omega, by omega⟩ (fun c12802 => ?_) (fun c12802 => ?_))
                        · exfalso
                          omega
                        · refine wp_of e172 c172_192 (rw_iload_n (pc' := 193) (z := v12750) rfl rfl ?_)
                          refine wp_of e172 c172_193 (rw_iconst (pc' := 194) rfl ?_)
                          refine wp_of e172 c172_194 (rw_icmp_ge (p1 := 220) (p2 := 197) (by decide) rfl ⟨by omega, by omega⟩ ⟨by omega, by omega⟩ (fun c12803 => ?_) (fun c12803 => ?_))
                          · refine wp_of e172 c172_220 (rw_iinc (pc' := 223) (z := v12750) (L' := [(2, vI (v12750 + 1)), (0, .ref r0)]) rfl rfl rfl rfl ?_)
                            refine wp_of e172 c172_223 (rw_aload_n (pc' := 224) (v := .ref r0) rfl rfl rfl ?_)
                            refine wp_of e172 c172_224 (rw_dup (pc' := 225) rfl rfl ?_)
                            refine wp_of e172 c172_225 (xg_I (pc' := 228) lf_9_78 w12754 g0 sh_42 (by decide) (by decide) ty_42_8 rfl rfl (fun b12804 b12805 => ?_))
                            refine wp_of e172 c172_228 (rw_iconst (pc' := 229) rfl ?_)
                            refine wp_of e172 c172_229 (rw_iadd (pc' := 230) rfl ?_)
                            refine wp_of e172 c172_230 (xp_I (pc' := 233) lf_9_78 w12754 g0 sh_42 (by decide) (by decide) ty_42_8 rfl rfl (by omega) (by omega) ⟨by omega, by omega⟩ rfl (fun H12806 e12807 w12808 => ?_))
                            have f12809 := f12764.put' e12807 g0 rfl
                            have f12810 := f12765.put' e12807 g0 rfl
                            have f12811 := f12755.put' e12807 g0 rfl
                            have k12812 : H12806 r0 8 = (H12751 r0 8) + 1 := wq_u_s e12807
                            refine wp_of e172 c172_233 (rw_goto (p1 := 178) (by decide) ?_)
                            have k12813 : H12806 r0 12 = H12751 r0 12 := (wq_u_j e12807 rfl)
                            have := @xG_s 48 57 B n p12752 (by omega) (by omega) (by omega)
                            have := @xkf_s B q 10 48 p12752 (by omega)
                            exact wp_lc (ks := [2, 0]) (wl_c rfl (wl_c rfl wl_n)) rfl (by decide) (ih12749 _ (by omega) (v12750 + 1) H12806 ((p12752 + 1)) w12808 f12811 ⟨by omega, by omega⟩ (by omega) (by omega) (by omega) (by omega) (by omega) (by omega) rfl)
                          · refine wp_of e172 c172_197 (rw_aload_n (pc' := 198) (v := .ref r0) rfl rfl rfl ?_)
                            refine wp_of e172 c172_198 (rw_bipush (pc' := 200) (z := 10) rfl (by decide) ?_)
                            refine wp_of e172 c172_200 (rw_aload_n (pc' := 201) (v := .ref r0) rfl rfl rfl ?_)
                            refine wp_of e172 c172_201 (xg_I (pc' := 204) lf_9_101 w12754 g0 sh_42 (by decide) (by decide) ty_42_12 rfl rfl (fun b12814 b12815 => ?_))
                            refine wp_of e172 c172_204 (rw_imulw (pc' := 205) rfl ?_)
                            obtain ⟨v12816, e12817⟩ : ∃ x : Int, x = wq_w (10 * (H12751 r0 12)) := ⟨_, rfl⟩
                            rw [← e12817]
                            have b12818 : -2147483648 ≤ v12816 ∧ v12816 ≤ 2147483647 := by
                              rw [e12817]
                              exact wI_w _
                            have b12819 : (-2147483648 ≤ 10 * (H12751 r0 12) ∧ 10 * (H12751 r0 12) ≤ 2147483647) → v12816 = 10 * (H12751 r0 12) := fun h => by rw [e12817]; exact wq_w_id h
                            refine wp_of e172 c172_205 (rw_aload_n (pc' := 206) (v := .ref r0) rfl rfl rfl ?_)
                            refine wp_of e172 c172_206 (rw_aload_n (pc' := 207) (v := .ref r0) rfl rfl rfl ?_)
                            refine wp_of e172 c172_207 (xg_I (pc' := 210) lf_9_78 w12754 g0 sh_42 (by decide) (by decide) ty_42_8 rfl rfl (fun b12820 b12821 => ?_))
                            refine wp_of e172 c172_210 (xc_V (pc' := 213) (r := r0) (as := [vI (H12751 r0 8)]) (st := [vI v12816, .ref r0]) (lm_9_81) rfl rfl (Nat.le_of_ble_eq_true rfl) w12754 g0 sh_42 (by decide) rfl (by decide) (u_173 (B := B) (n := n) (y := p12752) w12754 g0 ⟨by omega, by omega⟩ q12769 grb (by omega) (by omega) h12771) (fun R12822 T12823 H12824 p12825 => ?_))
                            obtain ⟨e12826, e12828, z12829, e12827, b12830, p12831⟩ := p12825
                            subst e12826
                            subst e12827
                            subst e12828
                            rcases p12831 with ⟨a12832, a12833⟩ | ⟨a12834, a12835, a12836, a12837⟩
                            · show wp _ _ 172 213 [(2, vI v12750), (0, .ref r0)] [vI z12829, vI v12816, .ref r0] _ H12751 _
                              refine wp_of e172 c172_213 (rw_iaddw (pc' := 214) rfl ?_)
                              obtain ⟨v12838, e12839⟩ : ∃ x : Int, x = wq_w (v12816 + z12829) := ⟨_, rfl⟩
                              rw [← e12839]
                              have b12840 : -2147483648 ≤ v12838 ∧ v12838 ≤ 2147483647 := by
                                rw [e12839]
                                exact wI_w _
                              have b12841 : (-2147483648 ≤ v12816 + z12829 ∧ v12816 + z12829 ≤ 2147483647) → v12838 = v12816 + z12829 := fun h => by rw [e12839]; exact wq_w_id h
                              refine wp_of e172 c172_214 (rw_bipush (pc' := 216) (z := 48) rfl (by decide) ?_)
                              refine wp_of e172 c172_216 (rw_isubw (pc' := 217) rfl ?_)
                              obtain ⟨v12842, e12843⟩ : ∃ x : Int, x = wq_w (v12838 - 48) := ⟨_, rfl⟩
                              rw [← e12843]
                              have b12844 : -2147483648 ≤ v12842 ∧ v12842 ≤ 2147483647 := by
                                rw [e12843]
                                exact wI_w _
                              have b12845 : (-2147483648 ≤ v12838 - 48 ∧ v12838 - 48 ≤ 2147483647) → v12842 = v12838 - 48 := fun h => by rw [e12843]; exact wq_w_id h
                              refine wp_of e172 c172_217 (xp_I (pc' := 220) lf_9_101 w12754 g0 sh_42 (by decide) (by decide) ty_42_12 rfl rfl (by omega) (by omega) ⟨by omega, by omega⟩ rfl (fun H12846 e12847 w12848 => ?_))
                              have f12849 := f12764.put' e12847 g0 rfl
                              have f12850 := f12765.put' e12847 g0 rfl
                              have f12851 := f12755.put' e12847 g0 rfl
                              have k12852 : H12846 r0 12 = v12842 := wq_u_s e12847
                              refine wp_of e172 c172_220 (rw_iinc (pc' := 223) (z := v12750) (L' := [(2, vI (v12750 + 1)), (0, .ref r0)]) rfl rfl rfl rfl ?_)
                              refine wp_of e172 c172_223 (rw_aload_n (pc' := 224) (v := .ref r0) rfl rfl rfl ?_)
                              refine wp_of e172 c172_224 (rw_dup (pc' := 225) rfl rfl ?_)
                              have k12853 : H12846 r0 8 = H12751 r0 8 := (wq_u_j e12847 rfl)
                              refine wp_of e172 c172_225 (xg_I (pc' := 228) lf_9_78 w12848 g0 sh_42 (by decide) (by decide) ty_42_8 rfl rfl (fun b12854 b12855 => ?_))
                              refine wp_of e172 c172_228 (rw_iconst (pc' := 229) rfl ?_)
                              refine wp_of e172 c172_229 (rw_iadd (pc' := 230) rfl ?_)
                              refine wp_of e172 c172_230 (xp_I (pc' := 233) lf_9_78 w12848 g0 sh_42 (by decide) (by decide) ty_42_8 rfl rfl (by omega) (by omega) ⟨by omega, by omega⟩ rfl (fun H12856 e12857 w12858 => ?_))
                              have f12859 := f12849.put' e12857 g0 rfl
                              have f12860 := f12850.put' e12857 g0 rfl
                              have f12861 := f12851.put' e12857 g0 rfl
                              have k12862 : H12856 r0 8 = (H12846 r0 8) + 1 := wq_u_s e12857
                              refine wp_of e172 c172_233 (rw_goto (p1 := 178) (by decide) ?_)
                              have k12863 : H12856 r0 12 = H12846 r0 12 := (wq_u_j e12857 rfl)
                              have := @xG_s 48 57 B n p12752 (by omega) (by omega) (by omega)
                              have := @xkf_s B q 10 48 p12752 (by omega)
                              exact wp_lc (ks := [2, 0]) (wl_c rfl (wl_c rfl wl_n)) rfl (by decide) (ih12749 _ (by omega) (v12750 + 1) H12856 ((p12752 + 1)) w12858 f12861 ⟨by omega, by omega⟩ (by omega) (by omega) (by omega) (by omega) (by omega) (by omega) rfl)
                            · show wp _ _ 172 213 [(2, vI v12750), (0, .ref r0)] [vI z12829, vI v12816, .ref r0] _ H12751 _
                              refine wp_of e172 c172_213 (rw_iaddw (pc' := 214) rfl ?_)
                              obtain ⟨v12864, e12865⟩ : ∃ x : Int, x = wq_w (v12816 + z12829) := ⟨_, rfl⟩
                              rw [← e12865]
                              have b12866 : -2147483648 ≤ v12864 ∧ v12864 ≤ 2147483647 := by
                                rw [e12865]
                                exact wI_w _
                              have b12867 : (-2147483648 ≤ v12816 + z12829 ∧ v12816 + z12829 ≤ 2147483647) → v12864 = v12816 + z12829 := fun h => by rw [e12865]; exact wq_w_id h
                              refine wp_of e172 c172_214 (rw_bipush (pc' := 216) (z := 48) rfl (by decide) ?_)
                              refine wp_of e172 c172_216 (rw_isubw (pc' := 217) rfl ?_)
                              obtain ⟨v12868, e12869⟩ : ∃ x : Int, x = wq_w (v12864 - 48) := ⟨_, rfl⟩
                              rw [← e12869]
                              have b12870 : -2147483648 ≤ v12868 ∧ v12868 ≤ 2147483647 := by
                                rw [e12869]
                                exact wI_w _
                              have b12871 : (-2147483648 ≤ v12864 - 48 ∧ v12864 - 48 ≤ 2147483647) → v12868 = v12864 - 48 := fun h => by rw [e12869]; exact wq_w_id h
                              refine wp_of e172 c172_217 (xp_I (pc' := 220) lf_9_101 w12754 g0 sh_42 (by decide) (by decide) ty_42_12 rfl rfl (by omega) (by omega) ⟨by omega, by omega⟩ rfl (fun H12872 e12873 w12874 => ?_))
                              have f12875 := f12764.put' e12873 g0 rfl
                              have f12876 := f12765.put' e12873 g0 rfl
                              have f12877 := f12755.put' e12873 g0 rfl
                              have k12878 : H12872 r0 12 = v12868 := wq_u_s e12873
                              refine wp_of e172 c172_220 (rw_iinc (pc' := 223) (z := v12750) (L' := [(2, vI (v12750 + 1)), (0, .ref r0)]) rfl rfl rfl rfl ?_)
                              refine wp_of e172 c172_223 (rw_aload_n (pc' := 224) (v := .ref r0) rfl rfl rfl ?_)
                              refine wp_of e172 c172_224 (rw_dup (pc' := 225) rfl rfl ?_)
                              have k12879 : H12872 r0 8 = H12751 r0 8 := (wq_u_j e12873 rfl)
                              refine wp_of e172 c172_225 (xg_I (pc' := 228) lf_9_78 w12874 g0 sh_42 (by decide) (by decide) ty_42_8 rfl rfl (fun b12880 b12881 => ?_))
                              refine wp_of e172 c172_228 (rw_iconst (pc' := 229) rfl ?_)
                              refine wp_of e172 c172_229 (rw_iadd (pc' := 230) rfl ?_)
                              refine wp_of e172 c172_230 (xp_I (pc' := 233) lf_9_78 w12874 g0 sh_42 (by decide) (by decide) ty_42_8 rfl rfl (by omega) (by omega) ⟨by omega, by omega⟩ rfl (fun H12882 e12883 w12884 => ?_))
                              have f12885 := f12875.put' e12883 g0 rfl
                              have f12886 := f12876.put' e12883 g0 rfl
                              have f12887 := f12877.put' e12883 g0 rfl
                              have k12888 : H12882 r0 8 = (H12872 r0 8) + 1 := wq_u_s e12883
                              refine wp_of e172 c172_233 (rw_goto (p1 := 178) (by decide) ?_)
                              have k12889 : H12882 r0 12 = H12872 r0 12 := (wq_u_j e12883 rfl)
                              have := @xG_s 48 57 B n p12752 (by omega) (by omega) (by omega)
                              have := @xkf_s B q 10 48 p12752 (by omega)
                              exact wp_lc (ks := [2, 0]) (wl_c rfl (wl_c rfl wl_n)) rfl (by decide) (ih12749 _ (by omega) (v12750 + 1) H12882 ((p12752 + 1)) w12884 f12887 ⟨by omega, by omega⟩ (by omega) (by omega) (by omega) (by omega) (by omega) (by omega) rfl)
                      · show wp _ _ 172 189 [(2, vI v12750), (0, .ref r0)] [vI z12795] _ H12751 _
                        refine wp_of e172 c172_189 (rw_if_eq (p1 := 236) (p2 := 192) (by decide) rfl ⟨by omega, by omega⟩ (fun c12890 => ?_) (fun c12890 => ?_))
                        · have := @xG_e 48 57 B n p12752 (by omega)
                          have := @xV_of B n q p12752
                          exact wp_lc (ks := [2, 0]) (wl_c rfl (wl_c rfl wl_n)) rfl (by decide) (jn11246 v12750 H12751 w12754 f12765 ⟨by omega, by omega⟩ (by omega) (by omega) (by omega))
                        · exfalso
                          omega
                    · show wp _ _ 172 186 [(2, vI v12750), (0, .ref r0)] [vI z12779] _ H12751 _
                      refine wp_of e172 c172_186 (xc_S (pc' := 189) (as := [vI z12779]) (st := []) (lm_9_98) rfl rfl (Nat.le_of_ble_eq_true rfl) rfl (by decide) (u_175  w12754 ⟨by omega, by omega⟩) (fun R12891 T12892 H12893 p12894 => ?_))
                      obtain ⟨e12895, e12897, z12898, e12896, b12899, p12900⟩ := p12894
                      subst e12895
                      subst e12896
                      subst e12897
                      rcases p12900 with ⟨a12901, a12902⟩ | ⟨a12903, a12904⟩
                      · show wp _ _ 172 189 [(2, vI v12750), (0, .ref r0)] [vI z12898] _ H12751 _
                        refine wp_of e172 c172_189 (rw_if_eq (p1 := 236) (p2 := 192) (by decide) rfl ⟨by omega, by omega⟩ (fun c12905 => ?_) (fun c12905 => ?_))
                        · exfalso
                          omega
                        · refine wp_of e172 c172_192 (rw_iload_n (pc' := 193) (z := v12750) rfl rfl ?_)
                          refine wp_of e172 c172_193 (rw_iconst (pc' := 194) rfl ?_)
                          refine wp_of e172 c172_194 (rw_icmp_ge (p1 := 220) (p2 := 197) (by decide) rfl ⟨by omega, by omega⟩ ⟨by omega, by omega⟩ (fun c12906 => ?_) (fun c12906 => ?_))
                          · refine wp_of e172 c172_220 (rw_iinc (pc' := 223) (z := v12750) (L' := [(2, vI (v12750 + 1)), (0, .ref r0)]) rfl rfl rfl rfl ?_)
                            refine wp_of e172 c172_223 (rw_aload_n (pc' := 224) (v := .ref r0) rfl rfl rfl ?_)
                            refine wp_of e172 c172_224 (rw_dup (pc' := 225) rfl rfl ?_)
                            refine wp_of e172 c172_225 (xg_I (pc' := 228) lf_9_78 w12754 g0 sh_42 (by decide) (by decide) ty_42_8 rfl rfl (fun b12907 b12908 => ?_))
                            refine wp_of e172 c172_228 (rw_iconst (pc' := 229) rfl ?_)
                            refine wp_of e172 c172_229 (rw_iadd (pc' := 230) rfl ?_)
                            refine wp_of e172 c172_230 (xp_I (pc' := 233) lf_9_78 w12754 g0 sh_42 (by decide) (by decide) ty_42_8 rfl rfl (by omega) (by omega) ⟨by omega, by omega⟩ rfl (fun H12909 e12910 w12911 => ?_))
                            have f12912 := f12764.put' e12910 g0 rfl
                            have f12913 := f12765.put' e12910 g0 rfl
                            have f12914 := f12755.put' e12910 g0 rfl
                            have k12915 : H12909 r0 8 = (H12751 r0 8) + 1 := wq_u_s e12910
                            refine wp_of e172 c172_233 (rw_goto (p1 := 178) (by decide) ?_)
                            have k12916 : H12909 r0 12 = H12751 r0 12 := (wq_u_j e12910 rfl)
                            have := @xG_s 48 57 B n p12752 (by omega) (by omega) (by omega)
                            have := @xkf_s B q 10 48 p12752 (by omega)
                            exact wp_lc (ks := [2, 0]) (wl_c rfl (wl_c rfl wl_n)) rfl (by decide) (ih12749 _ (by omega) (v12750 + 1) H12909 ((p12752 + 1)) w12911 f12914 ⟨by omega, by omega⟩ (by omega) (by omega) (by omega) (by omega) (by omega) (by omega) rfl)
                          · refine wp_of e172 c172_197 (rw_aload_n (pc' := 198) (v := .ref r0) rfl rfl rfl ?_)
                            refine wp_of e172 c172_198 (rw_bipush (pc' := 200) (z := 10) rfl (by decide) ?_)
                            refine wp_of e172 c172_200 (rw_aload_n (pc' := 201) (v := .ref r0) rfl rfl rfl ?_)
                            refine wp_of e172 c172_201 (xg_I (pc' := 204) lf_9_101 w12754 g0 sh_42 (by decide) (by decide) ty_42_12 rfl rfl (fun b12917 b12918 => ?_))
                            refine wp_of e172 c172_204 (rw_imulw (pc' := 205) rfl ?_)
                            obtain ⟨v12919, e12920⟩ : ∃ x : Int, x = wq_w (10 * (H12751 r0 12)) := ⟨_, rfl⟩
                            rw [← e12920]
                            have b12921 : -2147483648 ≤ v12919 ∧ v12919 ≤ 2147483647 := by
                              rw [e12920]
                              exact wI_w _
                            have b12922 : (-2147483648 ≤ 10 * (H12751 r0 12) ∧ 10 * (H12751 r0 12) ≤ 2147483647) → v12919 = 10 * (H12751 r0 12) := fun h => by rw [e12920]; exact wq_w_id h
                            refine wp_of e172 c172_205 (rw_aload_n (pc' := 206) (v := .ref r0) rfl rfl rfl ?_)
                            refine wp_of e172 c172_206 (rw_aload_n (pc' := 207) (v := .ref r0) rfl rfl rfl ?_)
                            refine wp_of e172 c172_207 (xg_I (pc' := 210) lf_9_78 w12754 g0 sh_42 (by decide) (by decide) ty_42_8 rfl rfl (fun b12923 b12924 => ?_))
                            refine wp_of e172 c172_210 (xc_V (pc' := 213) (r := r0) (as := [vI (H12751 r0 8)]) (st := [vI v12919, .ref r0]) (lm_9_81) rfl rfl (Nat.le_of_ble_eq_true rfl) w12754 g0 sh_42 (by decide) rfl (by decide) (u_173 (B := B) (n := n) (y := p12752) w12754 g0 ⟨by omega, by omega⟩ q12769 grb (by omega) (by omega) h12771) (fun R12925 T12926 H12927 p12928 => ?_))
                            obtain ⟨e12929, e12931, z12932, e12930, b12933, p12934⟩ := p12928
                            subst e12929
                            subst e12930
                            subst e12931
                            rcases p12934 with ⟨a12935, a12936⟩ | ⟨a12937, a12938, a12939, a12940⟩
                            · show wp _ _ 172 213 [(2, vI v12750), (0, .ref r0)] [vI z12932, vI v12919, .ref r0] _ H12751 _
                              refine wp_of e172 c172_213 (rw_iaddw (pc' := 214) rfl ?_)
                              obtain ⟨v12941, e12942⟩ : ∃ x : Int, x = wq_w (v12919 + z12932) := ⟨_, rfl⟩
                              rw [← e12942]
                              have b12943 : -2147483648 ≤ v12941 ∧ v12941 ≤ 2147483647 := by
                                rw [e12942]
                                exact wI_w _
                              have b12944 : (-2147483648 ≤ v12919 + z12932 ∧ v12919 + z12932 ≤ 2147483647) → v12941 = v12919 + z12932 := fun h => by rw [e12942]; exact wq_w_id h
                              refine wp_of e172 c172_214 (rw_bipush (pc' := 216) (z := 48) rfl (by decide) ?_)
                              refine wp_of e172 c172_216 (rw_isubw (pc' := 217) rfl ?_)
                              obtain ⟨v12945, e12946⟩ : ∃ x : Int, x = wq_w (v12941 - 48) := ⟨_, rfl⟩
                              rw [← e12946]
                              have b12947 : -2147483648 ≤ v12945 ∧ v12945 ≤ 2147483647 := by
                                rw [e12946]
                                exact wI_w _
                              have b12948 : (-2147483648 ≤ v12941 - 48 ∧ v12941 - 48 ≤ 2147483647) → v12945 = v12941 - 48 := fun h => by rw [e12946]; exact wq_w_id h
                              refine wp_of e172 c172_217 (xp_I (pc' := 220) lf_9_101 w12754 g0 sh_42 (by decide) (by decide) ty_42_12 rfl rfl (by omega) (by omega) ⟨by omega, by omega⟩ rfl (fun H12949 e12950 w12951 => ?_))
                              have f12952 := f12764.put' e12950 g0 rfl
                              have f12953 := f12765.put' e12950 g0 rfl
                              have f12954 := f12755.put' e12950 g0 rfl
                              have k12955 : H12949 r0 12 = v12945 := wq_u_s e12950
                              refine wp_of e172 c172_220 (rw_iinc (pc' := 223) (z := v12750) (L' := [(2, vI (v12750 + 1)), (0, .ref r0)]) rfl rfl rfl rfl ?_)
                              refine wp_of e172 c172_223 (rw_aload_n (pc' := 224) (v := .ref r0) rfl rfl rfl ?_)
                              refine wp_of e172 c172_224 (rw_dup (pc' := 225) rfl rfl ?_)
                              have k12956 : H12949 r0 8 = H12751 r0 8 := (wq_u_j e12950 rfl)
                              refine wp_of e172 c172_225 (xg_I (pc' := 228) lf_9_78 w12951 g0 sh_42 (by decide) (by decide) ty_42_8 rfl rfl (fun b12957 b12958 => ?_))
                              refine wp_of e172 c172_228 (rw_iconst (pc' := 229) rfl ?_)
                              refine wp_of e172 c172_229 (rw_iadd (pc' := 230) rfl ?_)
                              refine wp_of e172 c172_230 (xp_I (pc' := 233) lf_9_78 w12951 g0 sh_42 (by decide) (by decide) ty_42_8 rfl rfl (by omega) (by omega) ⟨by omega, by omega⟩ rfl (fun H12959 e12960 w12961 => ?_))
                              have f12962 := f12952.put' e12960 g0 rfl
                              have f12963 := f12953.put' e12960 g0 rfl
                              have f12964 := f12954.put' e12960 g0 rfl
                              have k12965 : H12959 r0 8 = (H12949 r0 8) + 1 := wq_u_s e12960
                              refine wp_of e172 c172_233 (rw_goto (p1 := 178) (by decide) ?_)
                              have k12966 : H12959 r0 12 = H12949 r0 12 := (wq_u_j e12960 rfl)
                              have := @xG_s 48 57 B n p12752 (by omega) (by omega) (by omega)
                              have := @xkf_s B q 10 48 p12752 (by omega)
                              exact wp_lc (ks := [2, 0]) (wl_c rfl (wl_c rfl wl_n)) rfl (by decide) (ih12749 _ (by omega) (v12750 + 1) H12959 ((p12752 + 1)) w12961 f12964 ⟨by omega, by omega⟩ (by omega) (by omega) (by omega) (by omega) (by omega) (by omega) rfl)
                            · show wp _ _ 172 213 [(2, vI v12750), (0, .ref r0)] [vI z12932, vI v12919, .ref r0] _ H12751 _
                              refine wp_of e172 c172_213 (rw_iaddw (pc' := 214) rfl ?_)
                              obtain ⟨v12967, e12968⟩ : ∃ x : Int, x = wq_w (v12919 + z12932) := ⟨_, rfl⟩
                              rw [← e12968]
                              have b12969 : -2147483648 ≤ v12967 ∧ v12967 ≤ 2147483647 := by
                                rw [e12968]
                                exact wI_w _
                              have b12970 : (-2147483648 ≤ v12919 + z12932 ∧ v12919 + z12932 ≤ 2147483647) → v12967 = v12919 + z12932 := fun h => by rw [e12968]; exact wq_w_id h
                              refine wp_of e172 c172_214 (rw_bipush (pc' := 216) (z := 48) rfl (by decide) ?_)
                              refine wp_of e172 c172_216 (rw_isubw (pc' := 217) rfl ?_)
                              obtain ⟨v12971, e12972⟩ : ∃ x : Int, x = wq_w (v12967 - 48) := ⟨_, rfl⟩
                              rw [← e12972]
                              have b12973 : -2147483648 ≤ v12971 ∧ v12971 ≤ 2147483647 := by
                                rw [e12972]
                                exact wI_w _
                              have b12974 : (-2147483648 ≤ v12967 - 48 ∧ v12967 - 48 ≤ 2147483647) → v12971 = v12967 - 48 := fun h => by rw [e12972]; exact wq_w_id h
                              refine wp_of e172 c172_217 (xp_I (pc' := 220) lf_9_101 w12754 g0 sh_42 (by decide) (by decide) ty_42_12 rfl rfl (by omega) (by omega) ⟨by omega, by omega⟩ rfl (fun H12975 e12976 w12977 => ?_))
                              have f12978 := f12764.put' e12976 g0 rfl
                              have f12979 := f12765.put' e12976 g0 rfl
                              have f12980 := f12755.put' e12976 g0 rfl
                              have k12981 : H12975 r0 12 = v12971 := wq_u_s e12976
                              refine wp_of e172 c172_220 (rw_iinc (pc' := 223) (z := v12750) (L' := [(2, vI (v12750 + 1)), (0, .ref r0)]) rfl rfl rfl rfl ?_)
                              refine wp_of e172 c172_223 (rw_aload_n (pc' := 224) (v := .ref r0) rfl rfl rfl ?_)
                              refine wp_of e172 c172_224 (rw_dup (pc' := 225) rfl rfl ?_)
                              have k12982 : H12975 r0 8 = H12751 r0 8 := (wq_u_j e12976 rfl)
                              refine wp_of e172 c172_225 (xg_I (pc' := 228) lf_9_78 w12977 g0 sh_42 (by decide) (by decide) ty_42_8 rfl rfl (fun b12983 b12984 => ?_))
                              refine wp_of e172 c172_228 (rw_iconst (pc' := 229) rfl ?_)
                              refine wp_of e172 c172_229 (rw_iadd (pc' := 230) rfl ?_)
                              refine wp_of e172 c172_230 (xp_I (pc' := 233) lf_9_78 w12977 g0 sh_42 (by decide) (by decide) ty_42_8 rfl rfl (by omega) (by omega) ⟨by omega, by omega⟩ rfl (fun H12985 e12986 w12987 => ?_))
                              have f12988 := f12978.put' e12986 g0 rfl
                              have f12989 := f12979.put' e12986 g0 rfl
                              have f12990 := f12980.put' e12986 g0 rfl
                              have k12991 : H12985 r0 8 = (H12975 r0 8) + 1 := wq_u_s e12986
                              refine wp_of e172 c172_233 (rw_goto (p1 := 178) (by decide) ?_)
                              have k12992 : H12985 r0 12 = H12975 r0 12 := (wq_u_j e12986 rfl)
                              have := @xG_s 48 57 B n p12752 (by omega) (by omega) (by omega)
                              have := @xkf_s B q 10 48 p12752 (by omega)
                              exact wp_lc (ks := [2, 0]) (wl_c rfl (wl_c rfl wl_n)) rfl (by decide) (ih12749 _ (by omega) (v12750 + 1) H12985 ((p12752 + 1)) w12987 f12990 ⟨by omega, by omega⟩ (by omega) (by omega) (by omega) (by omega) (by omega) (by omega) rfl)
                      · show wp _ _ 172 189 [(2, vI v12750), (0, .ref r0)] [vI z12898] _ H12751 _
                        refine wp_of e172 c172_189 (rw_if_eq (p1 := 236) (p2 := 192) (by decide) rfl ⟨by omega, by omega⟩ (fun c12993 => ?_) (fun c12993 => ?_))
                        · have := @xG_e 48 57 B n p12752 (by omega)
                          have := @xV_of B n q p12752
                          exact wp_lc (ks := [2, 0]) (wl_c rfl (wl_c rfl wl_n)) rfl (by decide) (jn11246 v12750 H12751 w12754 f12765 ⟨by omega, by omega⟩ (by omega) (by omega) (by omega))
                        · exfalso
                          omega
                have := @xkf_q B q q 10 48
                exact wp_lc (ks := [2, 1, 0]) (wl_c rfl (wl_c rfl wl_n)) rfl (by decide) (lp12747 _ 0 H11278 q w11280 wfr.rf ⟨by omega, by omega⟩ (by omega) (by omega) (by omega) (by omega) (by omega) (by omega) rfl)
            · show wp _ _ 172 170 [(2, vI 0), (1, vI z6543), (0, .ref r0)] [vI z9660] _ H6524 _
              refine wp_of e172 c172_170 (rw_if_eq (p1 := 249) (p2 := 173) (by decide) rfl ⟨by omega, by omega⟩ (fun c12994 => ?_) (fun c12994 => ?_))
              · refine wp_of e172 c172_249 (rw_iload_n (pc' := 250) (z := z6543) rfl rfl ?_)
                refine wp_of e172 c172_250 (rw_bipush (pc' := 252) (z := 59) rfl (by decide) ?_)
                refine wp_of e172 c172_252 (rw_icmp_eq (p1 := 261) (p2 := 255) (by decide) rfl ⟨by omega, by omega⟩ ⟨by omega, by omega⟩ (fun c12995 => ?_) (fun c12995 => ?_))
                · refine wp_of e172 c172_261 (rw_aload_n (pc' := 262) (v := .ref r0) rfl rfl rfl ?_)
                  refine wp_of e172 c172_262 (rw_iconst (pc' := 263) rfl ?_)
                  refine wp_of e172 c172_263 (xp_I (pc' := 266) lf_9_75 w6526 g0 sh_42 (by decide) (by decide) ty_42_9 rfl rfl (by omega) (by omega) ⟨by omega, by omega⟩ rfl (fun H12996 e12997 w12998 => ?_))
                  have f12999 := f6527.put' e12997 g0 rfl
                  have k13000 : H12996 r0 9 = 4 := wq_u_s e12997
                  refine wp_of e172 c172_266 (rw_aload_n (pc' := 267) (v := .ref r0) rfl rfl rfl ?_)
                  refine wp_of e172 c172_267 (rw_iload_n (pc' := 268) (z := z6543) rfl rfl ?_)
                  refine wp_of e172 c172_268 (xp_I (pc' := 271) lf_9_87 w12998 g0 sh_42 (by decide) (by decide) ty_42_11 rfl rfl (by omega) (by omega) ⟨by omega, by omega⟩ rfl (fun H13001 e13002 w13003 => ?_))
                  have f13004 := f12999.put' e13002 g0 rfl
                  have k13005 : H13001 r0 11 = z6543 := wq_u_s e13002
                  refine wp_of e172 c172_271 (rw_aload_n (pc' := 272) (v := .ref r0) rfl rfl rfl ?_)
                  refine wp_of e172 c172_272 (rw_dup (pc' := 273) rfl rfl ?_)
                  have k13006 : H13001 r0 8 = H6524 r0 8 := ((wq_u_j e13002 rfl).trans (wq_u_j e12997 rfl))
                  refine wp_of e172 c172_273 (xg_I (pc' := 276) lf_9_78 w13003 g0 sh_42 (by decide) (by decide) ty_42_8 rfl rfl (fun b13007 b13008 => ?_))
                  refine wp_of e172 c172_276 (rw_iconst (pc' := 277) rfl ?_)
                  refine wp_of e172 c172_277 (rw_iadd (pc' := 278) rfl ?_)
                  refine wp_of e172 c172_278 (xp_I (pc' := 281) lf_9_78 w13003 g0 sh_42 (by decide) (by decide) ty_42_8 rfl rfl (by omega) (by omega) ⟨by omega, by omega⟩ rfl (fun H13009 e13010 w13011 => ?_))
                  have f13012 := f13004.put' e13010 g0 rfl
                  have k13013 : H13009 r0 8 = (H13001 r0 8) + 1 := wq_u_s e13010
                  have k13014 : H13009 r0 9 = H12996 r0 9 := ((wq_u_j e13010 rfl).trans (wq_u_j e13002 rfl))
                  have k13015 : H13009 r0 7 = H6524 r0 7 := ((wq_u_j e13010 rfl).trans ((wq_u_j e13002 rfl).trans (wq_u_j e12997 rfl)))
                  have k13016 : H13009 r0 13 = H r0 13 := ((wq_u_j e13010 rfl).trans ((wq_u_j e13002 rfl).trans ((wq_u_j e12997 rfl).trans ((wq_u_j e6525 rfl).trans ((wq_u_j e6520 rfl).trans ((wq_u_j e6515 rfl).trans (f6509 r0 13 _ g0 rfl)))))))
                  have k13017 : H13009 r0 10 = H6514 r0 10 := ((wq_u_j e13010 rfl).trans ((wq_u_j e13002 rfl).trans ((wq_u_j e12997 rfl).trans ((wq_u_j e6525 rfl).trans (wq_u_j e6520 rfl)))))
                  have k13018 : H13009 r0 11 = H13001 r0 11 := (wq_u_j e13010 rfl)
                  obtain ⟨kk, hk⟩ : ∃ x : Int, xK B n q = x := ⟨_, rfl⟩
                  have hk2 := hk
                  unfold xK at hk2
                  repeat first | rw [if_pos (by omega)] at hk2 | rw [if_neg (by omega)] at hk2
                  obtain ⟨ke, he⟩ : ∃ x : Int, xE B n q = x := ⟨_, rfl⟩
                  have he2 := he
                  unfold xE at he2
                  repeat first | rw [if_pos (by omega)] at he2 | rw [if_neg (by omega)] at he2
                  have k13019 : H13009 r0 5 = H6524 r0 5 := ((wq_u_j e13010 rfl).trans ((wq_u_j e13002 rfl).trans (wq_u_j e12997 rfl)))
                  have q13020 : H13009 r0 5 = (rb : Int) := k13019.trans q6533
                  have h13021 : TM T H13009 rb B := (TM_fr w13003 grb ((wfr.rf (l := [(42, 8)])).put' e13010 g0 rfl) rfl (TM_fr w12998 grb ((wfr.rf (l := [(42, 11)])).put' e13002 g0 rfl) rfl (TM_fr w6526 grb ((wfr.rf (l := [(42, 9)])).put' e12997 g0 rfl) rfl h6535)))
                  exact wp_return e172 c172_281 rfl ⟨rfl, w13011, f13012, rfl, (RC_mk q13020 grb h13021 (by omega) (by rw [hk, ← hk2]; omega) (by omega) (by omega) (by omega) (by omega) (by omega))⟩
                · refine wp_of e172 c172_255 (rw_iload_n (pc' := 256) (z := z6543) rfl rfl ?_)
                  refine wp_of e172 c172_256 (rw_bipush (pc' := 258) (z := 44) rfl (by decide) ?_)
                  refine wp_of e172 c172_258 (rw_icmp_ne (p1 := 281) (p2 := 261) (by decide) rfl ⟨by omega, by omega⟩ ⟨by omega, by omega⟩ (fun c13022 => ?_) (fun c13022 => ?_))
                  · have k13023 : H6524 r0 9 = H6519 r0 9 := (wq_u_j e6525 rfl)
                    have k13024 : H6524 r0 13 = H r0 13 := ((wq_u_j e6525 rfl).trans ((wq_u_j e6520 rfl).trans ((wq_u_j e6515 rfl).trans (f6509 r0 13 _ g0 rfl))))
                    have k13025 : H6524 r0 10 = H6514 r0 10 := ((wq_u_j e6525 rfl).trans (wq_u_j e6520 rfl))
                    obtain ⟨kk, hk⟩ : ∃ x : Int, xK B n q = x := ⟨_, rfl⟩
                    have hk2 := hk
                    unfold xK at hk2
                    repeat first | rw [if_pos (by omega)] at hk2 | rw [if_neg (by omega)] at hk2
                    obtain ⟨ke, he⟩ : ∃ x : Int, xE B n q = x := ⟨_, rfl⟩
                    have he2 := he
                    unfold xE at he2
                    repeat first | rw [if_pos (by omega)] at he2 | rw [if_neg (by omega)] at he2
                    exact wp_return e172 c172_281 rfl ⟨rfl, w6526, f6527, rfl, (RC_mk q6533 grb h6535 (by omega) (by rw [hk, ← hk2]; omega) (by omega) (by omega) (by omega) (by omega) (by omega))⟩
                  · refine wp_of e172 c172_261 (rw_aload_n (pc' := 262) (v := .ref r0) rfl rfl rfl ?_)
                    refine wp_of e172 c172_262 (rw_iconst (pc' := 263) rfl ?_)
                    refine wp_of e172 c172_263 (xp_I (pc' := 266) lf_9_75 w6526 g0 sh_42 (by decide) (by decide) ty_42_9 rfl rfl (by omega) (by omega) ⟨by omega, by omega⟩ rfl (fun H13026 e13027 w13028 => ?_))
                    have f13029 := f6527.put' e13027 g0 rfl
                    have k13030 : H13026 r0 9 = 4 := wq_u_s e13027
                    refine wp_of e172 c172_266 (rw_aload_n (pc' := 267) (v := .ref r0) rfl rfl rfl ?_)
                    refine wp_of e172 c172_267 (rw_iload_n (pc' := 268) (z := z6543) rfl rfl ?_)
                    refine wp_of e172 c172_268 (xp_I (pc' := 271) lf_9_87 w13028 g0 sh_42 (by decide) (by decide) ty_42_11 rfl rfl (by omega) (by omega) ⟨by omega, by omega⟩ rfl (fun H13031 e13032 w13033 => ?_))
                    have f13034 := f13029.put' e13032 g0 rfl
                    have k13035 : H13031 r0 11 = z6543 := wq_u_s e13032
                    refine wp_of e172 c172_271 (rw_aload_n (pc' := 272) (v := .ref r0) rfl rfl rfl ?_)
                    refine wp_of e172 c172_272 (rw_dup (pc' := 273) rfl rfl ?_)
                    have k13036 : H13031 r0 8 = H6524 r0 8 := ((wq_u_j e13032 rfl).trans (wq_u_j e13027 rfl))
                    refine wp_of e172 c172_273 (xg_I (pc' := 276) lf_9_78 w13033 g0 sh_42 (by decide) (by decide) ty_42_8 rfl rfl (fun b13037 b13038 => ?_))
                    refine wp_of e172 c172_276 (rw_iconst (pc' := 277) rfl ?_)
                    refine wp_of e172 c172_277 (rw_iadd (pc' := 278) rfl ?_)
                    refine wp_of e172 c172_278 (xp_I (pc' := 281) lf_9_78 w13033 g0 sh_42 (by decide) (by decide) ty_42_8 rfl rfl (by omega) (by omega) ⟨by omega, by omega⟩ rfl (fun H13039 e13040 w13041 => ?_))
                    have f13042 := f13034.put' e13040 g0 rfl
                    have k13043 : H13039 r0 8 = (H13031 r0 8) + 1 := wq_u_s e13040
                    have k13044 : H13039 r0 9 = H13026 r0 9 := ((wq_u_j e13040 rfl).trans (wq_u_j e13032 rfl))
                    have k13045 : H13039 r0 7 = H6524 r0 7 := ((wq_u_j e13040 rfl).trans ((wq_u_j e13032 rfl).trans (wq_u_j e13027 rfl)))
                    have k13046 : H13039 r0 13 = H r0 13 := ((wq_u_j e13040 rfl).trans ((wq_u_j e13032 rfl).trans ((wq_u_j e13027 rfl).trans ((wq_u_j e6525 rfl).trans ((wq_u_j e6520 rfl).trans ((wq_u_j e6515 rfl).trans (f6509 r0 13 _ g0 rfl)))))))
                    have k13047 : H13039 r0 10 = H6514 r0 10 := ((wq_u_j e13040 rfl).trans ((wq_u_j e13032 rfl).trans ((wq_u_j e13027 rfl).trans ((wq_u_j e6525 rfl).trans (wq_u_j e6520 rfl)))))
                    have k13048 : H13039 r0 11 = H13031 r0 11 := (wq_u_j e13040 rfl)
                    obtain ⟨kk, hk⟩ : ∃ x : Int, xK B n q = x := ⟨_, rfl⟩
                    have hk2 := hk
                    unfold xK at hk2
                    repeat first | rw [if_pos (by omega)] at hk2 | rw [if_neg (by omega)] at hk2
                    obtain ⟨ke, he⟩ : ∃ x : Int, xE B n q = x := ⟨_, rfl⟩
                    have he2 := he
                    unfold xE at he2
                    repeat first | rw [if_pos (by omega)] at he2 | rw [if_neg (by omega)] at he2
                    have k13049 : H13039 r0 5 = H6524 r0 5 := ((wq_u_j e13040 rfl).trans ((wq_u_j e13032 rfl).trans (wq_u_j e13027 rfl)))
                    have q13050 : H13039 r0 5 = (rb : Int) := k13049.trans q6533
                    have h13051 : TM T H13039 rb B := (TM_fr w13033 grb ((wfr.rf (l := [(42, 8)])).put' e13040 g0 rfl) rfl (TM_fr w13028 grb ((wfr.rf (l := [(42, 11)])).put' e13032 g0 rfl) rfl (TM_fr w6526 grb ((wfr.rf (l := [(42, 9)])).put' e13027 g0 rfl) rfl h6535)))
                    exact wp_return e172 c172_281 rfl ⟨rfl, w13041, f13042, rfl, (RC_mk q13050 grb h13051 (by omega) (by rw [hk, ← hk2]; omega) (by omega) (by omega) (by omega) (by omega) (by omega))⟩
              · exfalso
                omega
          · exfalso
            omega
      · exfalso
        omega
  have f13052 : wfr [(42, 8)] T H H := wfr.rf
  refine wp_of e172 c172_5 (rw_icmp_ne (p1 := 9) (p2 := 8) (by decide) rfl ⟨by omega, by omega⟩ ⟨by omega, by omega⟩ (fun c13053 => ?_) (fun c13053 => ?_))
  · have lp13117 : ∀ (n13118 : Nat)  (H13120 : wq_H) (p13121 : Int), WT T H13120 → wfr [(42, 8)] T H H13120 → (H13120 r0 8 = p13121) → (xG 32 32 B n p13121 = q) → (p13121 ≤ n) → (a ≤ p13121) → (900 - p13121).toNat = n13118 → wp kt 1 172 9 [(0, .ref r0)] [] T H13120 (uq_172_k r0 rb B n a q T H) := by
      intro n13118
      induction n13118 using Nat.strongRecOn with
      | _ n13118 ih13119 =>
        intro H13120 p13121 w13122 f13123 x13125 x13126 x13127 x13128 m13124
        have f13129 := f0.tr f13123 rfl
        have f13130 := f13052.tr f13123 rfl
        refine wp_of e172 c172_9 (rw_aload_n (pc' := 10) (v := .ref r0) rfl rfl rfl ?_)
        refine wp_of e172 c172_10 (rw_aload_n (pc' := 11) (v := .ref r0) rfl rfl rfl ?_)
        refine wp_of e172 c172_11 (xg_I (pc' := 14) lf_9_78 w13122 g0 sh_42 (by decide) (by decide) ty_42_8 rfl rfl (fun b13131 b13132 => ?_))
        have k13133 : H13120 r0 5 = H r0 5 := (f13123 r0 5 _ g0 rfl)
        have q13134 : H13120 r0 5 = (rb : Int) := k13133.trans qrb
        have k13135 : H13120 r0 7 = H r0 7 := (f13123 r0 7 _ g0 rfl)
        have h13136 : TM T H13120 rb B := (TM_fr hW grb f13123 rfl hTM_rb)
        refine wp_of e172 c172_14 (xc_V (pc' := 17) (r := r0) (as := [vI (H13120 r0 8)]) (st := []) (lm_9_81) rfl rfl (Nat.le_of_ble_eq_true rfl) w13122 g0 sh_42 (by decide) rfl (by decide) (u_173 (B := B) (n := n) (y := p13121) w13122 g0 ⟨by omega, by omega⟩ q13134 grb (by omega) (by omega) h13136) (fun R13137 T13138 H13139 p13140 => ?_))
        obtain ⟨e13141, e13143, z13144, e13142, b13145, p13146⟩ := p13140
        subst e13141
        subst e13142
        subst e13143
        rcases p13146 with ⟨a13147, a13148⟩ | ⟨a13149, a13150, a13151, a13152⟩
        · show wp _ _ 172 17 [(0, .ref r0)] [vI z13144] _ H13120 _
          refine wp_of e172 c172_17 (rw_bipush (pc' := 19) (z := 32) rfl (by decide) ?_)
          refine wp_of e172 c172_19 (rw_icmp_ne (p1 := 35) (p2 := 22) (by decide) rfl ⟨by omega, by omega⟩ ⟨by omega, by omega⟩ (fun c13153 => ?_) (fun c13153 => ?_))
          · have := @xG_e 32 32 B n p13121 (by omega)
            exact wp_lc (ks := [0]) (wl_c rfl wl_n) rfl (by decide) (jn6507 H13120 w13122 f13130 (by omega))
          · exfalso
            omega
        · show wp _ _ 172 17 [(0, .ref r0)] [vI z13144] _ H13120 _
          refine wp_of e172 c172_17 (rw_bipush (pc' := 19) (z := 32) rfl (by decide) ?_)
          refine wp_of e172 c172_19 (rw_icmp_ne (p1 := 35) (p2 := 22) (by decide) rfl ⟨by omega, by omega⟩ ⟨by omega, by omega⟩ (fun c13154 => ?_) (fun c13154 => ?_))
          · have := @xG_e 32 32 B n p13121 (by omega)
            exact wp_lc (ks := [0]) (wl_c rfl wl_n) rfl (by decide) (jn6507 H13120 w13122 f13130 (by omega))
          · refine wp_of e172 c172_22 (rw_aload_n (pc' := 23) (v := .ref r0) rfl rfl rfl ?_)
            refine wp_of e172 c172_23 (rw_dup (pc' := 24) rfl rfl ?_)
            refine wp_of e172 c172_24 (xg_I (pc' := 27) lf_9_78 w13122 g0 sh_42 (by decide) (by decide) ty_42_8 rfl rfl (fun b13155 b13156 => ?_))
            refine wp_of e172 c172_27 (rw_iconst (pc' := 28) rfl ?_)
            refine wp_of e172 c172_28 (rw_iadd (pc' := 29) rfl ?_)
            refine wp_of e172 c172_29 (xp_I (pc' := 32) lf_9_78 w13122 g0 sh_42 (by decide) (by decide) ty_42_8 rfl rfl (by omega) (by omega) ⟨by omega, by omega⟩ rfl (fun H13157 e13158 w13159 => ?_))
            have f13160 := f13129.put' e13158 g0 rfl
            have f13161 := f13130.put' e13158 g0 rfl
            have f13162 := f13123.put' e13158 g0 rfl
            have k13163 : H13157 r0 8 = (H13120 r0 8) + 1 := wq_u_s e13158
            refine wp_of e172 c172_32 (rw_goto (p1 := 9) (by decide) ?_)
            have := @xG_s 32 32 B n p13121 (by omega) (by omega) (by omega)
            exact wp_lc (ks := [0]) (wl_c rfl wl_n) rfl (by decide) (ih13119 _ (by omega) H13157 ((p13121 + 1)) w13159 f13162 (by omega) (by omega) (by omega) (by omega) rfl)
    exact wp_lc (ks := [0]) (wl_c rfl wl_n) rfl (by decide) (lp13117 _ H a hW wfr.rf (by omega) (by omega) (by omega) (by omega) rfl)
  · exfalso
    omega
/-! StrikeAwakeModel.goesOn()V o -/
abbrev uq_172_o (r0 : Nat) (fo : Int) (po : Int) (T : wq_T) (H : wq_H) : Option Value → wq_T → wq_H → Prop := fun r T' H' => T = T' ∧ H = H' ∧ none = r ∧ ((RO T H r0 fo po))
set_option maxHeartbeats 4000000 in
theorem u_172_o {kt : Nat → Option mc_E} {T : wq_T} {H : wq_H} {r0 : Nat} {fo : Int} {po : Int} (hW : WT T H) (g0 : T.2.2.2 r0 = some 42) (hRO_r0 : RO T H r0 fo po) : wpc kt 2 172 [.ref r0] T H (uq_172_o r0 fo po T H) := by
  refine wp_enter e172 (Nat.le_of_ble_eq_true rfl) rfl ?_
  show wp _ _ 172 0 [(0, .ref r0)] [] _ H _
  have u4 := RO_k hRO_r0
  refine wp_of e172 c172_0 (rw_aload_n (pc' := 1) (v := .ref r0) rfl rfl rfl ?_)
  refine wp_of e172 c172_1 (xg_I (pc' := 4) lf_9_75 hW g0 sh_42 (by decide) (by decide) ty_42_9 rfl rfl (fun b5 b6 => ?_))
  refine wp_of e172 c172_4 (rw_iconst (pc' := 5) rfl ?_)
  refine wp_of e172 c172_5 (rw_icmp_ne (p1 := 9) (p2 := 8) (by decide) rfl ⟨by omega, by omega⟩ ⟨by omega, by omega⟩ (fun c7 => ?_) (fun c7 => ?_))
  · exfalso
    omega
  · exact wp_return e172 c172_8 rfl ⟨rfl, rfl, rfl, (hRO_r0)⟩
/-! StrikeAwakeModel.wrong(I)V k -/
abbrev uq_181_k (r0 : Nat) (a1 : Int) (B : Nat → Int) (n : Int) (q : Int) (T : wq_T) (H : wq_H) : Option Value → wq_T → wq_H → Prop := fun r T' H' => T = T' ∧ WT T H' ∧ wfr [(42, 9), (42, 13), (42, 14)] T H H' ∧ none = r ∧ ((RO T H' r0 a1 q))
set_option maxHeartbeats 4000000 in
theorem u_181_k {kt : Nat → Option mc_E} {T : wq_T} {H : wq_H} {r0 : Nat} {a1 : Int} {B : Nat → Int} {n : Int} {q : Int} (hW : WT T H) (g0 : T.2.2.2 r0 = some 42) (i1 : (-2147483648) ≤ a1 ∧ a1 ≤ 2147483647) (p0 : 1 ≤ a1) (hRC_r0 : RC T H r0 B n q) : wpc kt 1 181 [.ref r0, vI a1] T H (uq_181_k r0 a1 B n q T H) := by
  refine wp_enter e181 (Nat.le_of_ble_eq_true rfl) rfl ?_
  have f0 : wfr [(42, 9), (42, 13), (42, 14)] T H H := wfr.rf
  show wp _ _ 181 0 [(0, .ref r0), (1, vI a1)] [] _ H _
  have u22 := RC_k hRC_r0
  refine wp_of e181 c181_0 (rw_aload_n (pc' := 1) (v := .ref r0) rfl rfl rfl ?_)
  refine wp_of e181 c181_1 (xg_I (pc' := 4) lf_9_75 hW g0 sh_42 (by decide) (by decide) ty_42_9 rfl rfl (fun b23 b24 => ?_))
  refine wp_of e181 c181_4 (rw_iconst (pc' := 5) rfl ?_)
  refine wp_of e181 c181_5 (rw_icmp_ne (p1 := 9) (p2 := 8) (by decide) rfl ⟨by omega, by omega⟩ ⟨by omega, by omega⟩ (fun c25 => ?_) (fun c25 => ?_))
  · refine wp_of e181 c181_9 (rw_aload_n (pc' := 10) (v := .ref r0) rfl rfl rfl ?_)
    refine wp_of e181 c181_10 (rw_iload_n (pc' := 11) (z := a1) rfl rfl ?_)
    refine wp_of e181 c181_11 (xp_I (pc' := 14) lf_9_104 hW g0 sh_42 (by decide) (by decide) ty_42_13 rfl rfl (by omega) (by omega) ⟨by omega, by omega⟩ rfl (fun H26 e27 w28 => ?_))
    have f29 := f0.put' e27 g0 rfl
    have k30 : H26 r0 13 = a1 := wq_u_s e27
    refine wp_of e181 c181_14 (rw_aload_n (pc' := 15) (v := .ref r0) rfl rfl rfl ?_)
    refine wp_of e181 c181_15 (rw_aload_n (pc' := 16) (v := .ref r0) rfl rfl rfl ?_)
    have k31 : H26 r0 10 = H r0 10 := (wq_u_j e27 rfl)
    refine wp_of e181 c181_16 (xg_I (pc' := 19) lf_9_84 w28 g0 sh_42 (by decide) (by decide) ty_42_10 rfl rfl (fun b32 b33 => ?_))
    refine wp_of e181 c181_19 (xp_I (pc' := 22) lf_9_107 w28 g0 sh_42 (by decide) (by decide) ty_42_14 rfl rfl (by omega) (by omega) ⟨by omega, by omega⟩ rfl (fun H34 e35 w36 => ?_))
    have f37 := f29.put' e35 g0 rfl
    have k38 : H34 r0 14 = H26 r0 10 := wq_u_s e35
    refine wp_of e181 c181_22 (rw_aload_n (pc' := 23) (v := .ref r0) rfl rfl rfl ?_)
    refine wp_of e181 c181_23 (rw_iconst (pc' := 24) rfl ?_)
    refine wp_of e181 c181_24 (xp_I (pc' := 27) lf_9_75 w36 g0 sh_42 (by decide) (by decide) ty_42_9 rfl rfl (by omega) (by omega) ⟨by omega, by omega⟩ rfl (fun H39 e40 w41 => ?_))
    have f42 := f37.put' e40 g0 rfl
    have k43 : H39 r0 9 = 5 := wq_u_s e40
    have k44 : H39 r0 13 = H26 r0 13 := ((wq_u_j e40 rfl).trans (wq_u_j e35 rfl))
    have k45 : H39 r0 14 = H34 r0 14 := (wq_u_j e40 rfl)
    exact wp_return e181 c181_27 rfl ⟨rfl, w41, f42, rfl, (⟨by omega, by omega, by omega, by omega⟩)⟩
  · exfalso
    omega
/-! StrikeAwakeModel.wrong(I)V o -/
abbrev uq_181_o (r0 : Nat) (a1 : Int) (fo : Int) (po : Int) (T : wq_T) (H : wq_H) : Option Value → wq_T → wq_H → Prop := fun r T' H' => T = T' ∧ H = H' ∧ none = r ∧ ((RO T H r0 fo po))
set_option maxHeartbeats 4000000 in
theorem u_181_o {kt : Nat → Option mc_E} {T : wq_T} {H : wq_H} {r0 : Nat} {a1 : Int} {fo : Int} {po : Int} (hW : WT T H) (g0 : T.2.2.2 r0 = some 42) (i1 : (-2147483648) ≤ a1 ∧ a1 ≤ 2147483647) (hRO_r0 : RO T H r0 fo po) : wpc kt 1 181 [.ref r0, vI a1] T H (uq_181_o r0 a1 fo po T H) := by
  refine wp_enter e181 (Nat.le_of_ble_eq_true rfl) rfl ?_
  show wp _ _ 181 0 [(0, .ref r0), (1, vI a1)] [] _ H _
  have u4 := RO_k hRO_r0
  refine wp_of e181 c181_0 (rw_aload_n (pc' := 1) (v := .ref r0) rfl rfl rfl ?_)
  refine wp_of e181 c181_1 (xg_I (pc' := 4) lf_9_75 hW g0 sh_42 (by decide) (by decide) ty_42_9 rfl rfl (fun b5 b6 => ?_))
  refine wp_of e181 c181_4 (rw_iconst (pc' := 5) rfl ?_)
  refine wp_of e181 c181_5 (rw_icmp_ne (p1 := 9) (p2 := 8) (by decide) rfl ⟨by omega, by omega⟩ ⟨by omega, by omega⟩ (fun c7 => ?_) (fun c7 => ?_))
  · exfalso
    omega
  · exact wp_return e181 c181_8 rfl ⟨rfl, rfl, rfl, (hRO_r0)⟩
/-! StrikeAwakeModel.wordOf(Ljava/lang/String;)J  -/
abbrev uq_179 (s0 : Nat) (kk : Int) (T : wq_T) (H : wq_H) : Option Value → wq_T → wq_H → Prop := fun r T' H' => T = T' ∧ H = H' ∧ ∃ z : Int, some (vL z) = r ∧ ((-9223372036854775808) ≤ z ∧ z ≤ 9223372036854775807) ∧ (((z = kk)))
set_option maxHeartbeats 4000000 in
theorem u_179 {kt : Nat → Option mc_E} {T : wq_T} {H : wq_H} {s0 : Nat} {t0 : List Int32} {kk : Int} (hW : WT T H) (h0 : mc_find mc_sb s0 = some t0) (p0 : wkw t0 t0.length = kk) : wpc kt 1 179 [.ref s0] T H (uq_179 s0 kk T H) := by
  refine wp_enter e179 (Nat.le_of_ble_eq_true rfl) rfl ?_
  show wp _ _ 179 0 [(0, .ref s0)] [] _ H _
  refine wp_of e179 c179_0 (rw_lconst (pc' := 1) (z := 0) rfl rfl ?_)
  refine wp_of e179 c179_1 (rw_lstore_n (pc' := 2) (z := 0) (L' := [(1, vL 0), (0, .ref s0)]) rfl rfl rfl ?_)
  refine wp_of e179 c179_2 (rw_iconst (pc' := 3) rfl ?_)
  refine wp_of e179 c179_3 (rw_istore_n (pc' := 4) (z := 0) (L' := [(3, vI 0), (1, vL 0), (0, .ref s0)]) rfl rfl rfl ?_)
  have lp182 : ∀ (n183 : Nat) (v185 : Int) (v186 : Int), (0 ≤ v185 ∧ v185 ≤ 63) → ((-9223372036854775808) ≤ v186 ∧ v186 ≤ 9223372036854775807) → (v186 = wkw t0 (v185).toNat) → (v185 ≤ (t0.length : Int)) → (63 - v185).toNat = n183 → wp kt 0 179 4 [(3, vI v185), (1, vL v186), (0, .ref s0)] [] T H (uq_179 s0 kk T H) := by
    intro n183
    induction n183 using Nat.strongRecOn with
    | _ n183 ih184 =>
      intro v185 v186 b189 b190 x191 x192 m193
      refine wp_of e179 c179_4 (rw_iload_n (pc' := 5) (z := v185) rfl rfl ?_)
      refine wp_of e179 c179_5 (rw_aload_n (pc' := 6) (v := .ref s0) rfl rfl rfl ?_)
      refine wp_of e179 c179_6 (rw_slen (pc' := 9) rfl rfl rfl h0 (Nat.le_of_ble_eq_true rfl) rfl ?_)
      have k194 := (mc_sb_k h0).2.1
      show wp _ _ 179 9 [(3, vI v185), (1, vL v186), (0, .ref s0)] [vI ((t0.length : Int)), vI v185] _ H _
      refine wp_of e179 c179_9 (rw_icmp_ge (p1 := 36) (p2 := 12) (by decide) rfl ⟨by omega, by omega⟩ ⟨by omega, by omega⟩ (fun c195 => ?_) (fun c195 => ?_))
      · have : wkw t0 (v185).toNat = kk := by
          rw [show (v185).toNat = t0.length by omega]
          exact p0
        refine wp_of e179 c179_36 (rw_lload_n (pc' := 37) (z := v186) rfl rfl ?_)
        exact wp_lreturn e179 c179_37 rfl ⟨rfl, rfl, v186, rfl, ⟨by omega, by omega⟩, (by omega)⟩
      · refine wp_of e179 c179_12 (rw_ldc2 (pc' := 15) (z := 32) rfl rfl rfl ?_)
        refine wp_of e179 c179_15 (rw_lload_n (pc' := 16) (z := v186) rfl rfl ?_)
        refine wp_of e179 c179_16 (rw_lmulw (pc' := 17) rfl ?_)
        obtain ⟨v196, e197⟩ : ∃ x : Int, x = wl_w (32 * v186) := ⟨_, rfl⟩
        rw [← e197]
        have b198 : -9223372036854775808 ≤ v196 ∧ v196 ≤ 9223372036854775807 := by
          rw [e197]
          exact wL_w _
        have b199 : (-9223372036854775808 ≤ 32 * v186 ∧ 32 * v186 ≤ 9223372036854775807) → v196 = 32 * v186 := fun h => by rw [e197]; exact wl_w_id h
        refine wp_of e179 c179_17 (rw_aload_n (pc' := 18) (v := .ref s0) rfl rfl rfl ?_)
        refine wp_of e179 c179_18 (rw_iload_n (pc' := 19) (z := v185) rfl rfl ?_)
        refine wp_of e179 c179_19 (rw_schr (pc' := 22) rfl rfl rfl h0 (by omega) (by omega) (Nat.le_of_ble_eq_true rfl) rfl ?_)
        obtain ⟨v200, e201⟩ : ∃ x : Int, x = (t0.getD (v185).toNat 0).toInt := ⟨_, rfl⟩
        rw [← e201]
        have b202 : -2147483648 ≤ v200 ∧ v200 ≤ 2147483647 := by
          rw [e201]
          exact wI_of _
        refine wp_of e179 c179_22 (rw_bipush (pc' := 24) (z := 97) rfl (by decide) ?_)
        refine wp_of e179 c179_24 (rw_isubw (pc' := 25) rfl ?_)
        obtain ⟨v203, e204⟩ : ∃ x : Int, x = wq_w (v200 - 97) := ⟨_, rfl⟩
        rw [← e204]
        have b205 : -2147483648 ≤ v203 ∧ v203 ≤ 2147483647 := by
          rw [e204]
          exact wI_w _
        have b206 : (-2147483648 ≤ v200 - 97 ∧ v200 - 97 ≤ 2147483647) → v203 = v200 - 97 := fun h => by rw [e204]; exact wq_w_id h
        refine wp_of e179 c179_25 (rw_iconst (pc' := 26) rfl ?_)
        refine wp_of e179 c179_26 (rw_iaddw (pc' := 27) rfl ?_)
        obtain ⟨v207, e208⟩ : ∃ x : Int, x = wq_w (v203 + 1) := ⟨_, rfl⟩
        rw [← e208]
        have b209 : -2147483648 ≤ v207 ∧ v207 ≤ 2147483647 := by
          rw [e208]
          exact wI_w _
        have b210 : (-2147483648 ≤ v203 + 1 ∧ v203 + 1 ≤ 2147483647) → v207 = v203 + 1 := fun h => by rw [e208]; exact wq_w_id h
        refine wp_of e179 c179_27 (rw_i2l (pc' := 28) rfl ⟨by omega, by omega⟩ ?_)
        refine wp_of e179 c179_28 (rw_laddw (pc' := 29) rfl ?_)
        obtain ⟨v211, e212⟩ : ∃ x : Int, x = wl_w (v196 + v207) := ⟨_, rfl⟩
        rw [← e212]
        have b213 : -9223372036854775808 ≤ v211 ∧ v211 ≤ 9223372036854775807 := by
          rw [e212]
          exact wL_w _
        have b214 : (-9223372036854775808 ≤ v196 + v207 ∧ v196 + v207 ≤ 9223372036854775807) → v211 = v196 + v207 := fun h => by rw [e212]; exact wl_w_id h
        refine wp_of e179 c179_29 (rw_lstore_n (pc' := 30) (z := v211) (L' := [(1, vL v211), (3, vI v185), (0, .ref s0)]) rfl rfl rfl ?_)
        refine wp_of e179 c179_30 (rw_iinc (pc' := 33) (z := v185) (L' := [(3, vI (v185 + 1)), (1, vL v211), (0, .ref s0)]) rfl rfl rfl rfl ?_)
        refine wp_of e179 c179_33 (rw_goto (p1 := 4) (by decide) ?_)
        have : wkw t0 (v185 + 1).toNat = v211 := by
          subst_vars
          exact wkw_m (by omega)
        exact wp_lc (ks := [3, 1, 0]) (wl_c rfl (wl_c rfl (wl_c rfl wl_n))) rfl (by decide) (ih184 _ (by omega) (v185 + 1) v211 ⟨by omega, by omega⟩ ⟨by omega, by omega⟩ (by omega) (by omega) rfl)
  have : wkw t0 (0 : Int).toNat = 0 := rfl
  exact wp_lc (ks := [3, 1, 0]) (wl_c rfl (wl_c rfl (wl_c rfl wl_n))) rfl (by decide) (lp182 _ 0 0 ⟨by omega, by omega⟩ ⟨by omega, by omega⟩ (by omega) (by omega) rfl)
/-! StrikeAwakeModel.isWord(Ljava/lang/String;)Z k -/
abbrev uq_178_k (r0 : Nat) (s1 : Nat) (B : Nat → Int) (n : Int) (q : Int) (kk : Int) (T : wq_T) (H : wq_H) : Option Value → wq_T → wq_H → Prop := fun r T' H' => T = T' ∧ H = H' ∧ ∃ z : Int, some (vI z) = r ∧ (0 ≤ z ∧ z ≤ 1) ∧ (((z = 1) ∧ (xw B n q kk = 0) ∧ (xK B n q = 1)) ∨ ((z = 0) ∧ (xw B n q kk = 1)))
set_option maxHeartbeats 4000000 in
theorem u_178_k {kt : Nat → Option mc_E} {T : wq_T} {H : wq_H} {r0 : Nat} {s1 : Nat} {t1 : List Int32} {B : Nat → Int} {n : Int} {q : Int} {kk : Int} (hW : WT T H) (g0 : T.2.2.2 r0 = some 42) (h1 : mc_find mc_sb s1 = some t1) (p0 : wkw t1 t1.length = kk) (hRC_r0 : RC T H r0 B n q) : wpc kt 2 178 [.ref r0, .ref s1] T H (uq_178_k r0 s1 B n q kk T H) := by
  refine wp_enter e178 (Nat.le_of_ble_eq_true rfl) rfl ?_
  show wp _ _ 178 0 [(0, .ref r0), (1, .ref s1)] [] _ H _
  have u19 := RC_k hRC_r0
  have _s := RC_s hRC_r0
  have _w := @xw_b B n q kk
  refine wp_of e178 c178_0 (rw_aload_n (pc' := 1) (v := .ref r0) rfl rfl rfl ?_)
  refine wp_of e178 c178_1 (xg_I (pc' := 4) lf_9_75 hW g0 sh_42 (by decide) (by decide) ty_42_9 rfl rfl (fun b20 b21 => ?_))
  refine wp_of e178 c178_4 (rw_iconst (pc' := 5) rfl ?_)
  refine wp_of e178 c178_5 (rw_icmp_ne (p1 := 24) (p2 := 8) (by decide) rfl ⟨by omega, by omega⟩ ⟨by omega, by omega⟩ (fun c22 => ?_) (fun c22 => ?_))
  · refine wp_of e178 c178_24 (rw_iconst (pc' := 25) rfl ?_)
    exact wp_zreturn e178 c178_25 rfl (by omega) ⟨rfl, rfl, 0, rfl, ⟨by omega, by omega⟩, (Or.inr ⟨by omega, by omega⟩)⟩
  · refine wp_of e178 c178_8 (rw_aload_n (pc' := 9) (v := .ref r0) rfl rfl rfl ?_)
    refine wp_of e178 c178_9 (xg_L (pc' := 12) lf_9_94 hW g0 sh_42 (by decide) (by decide) ty_42_15 rfl rfl (fun b23 b24 => ?_))
    refine wp_of e178 c178_12 (rw_aload_n (pc' := 13) (v := .ref s1) rfl rfl rfl ?_)
    refine wp_of e178 c178_13 (xc_S (pc' := 16) (as := [.ref s1]) (st := [vL (H r0 15)]) (lm_9_110) rfl rfl (Nat.le_of_ble_eq_true rfl) rfl (by decide) (u_179 (kk := kk) hW h1 (by assumption)) (fun R25 T26 H27 p28 => ?_))
    obtain ⟨e29, e31, z32, e30, b33, p34⟩ := p28
    subst e29
    subst e30
    subst e31
    show wp _ _ 178 16 [(0, .ref r0), (1, .ref s1)] [vL z32, vL (H r0 15)] _ H _
    refine wp_of e178 c178_16 (rw_lcmp (pc' := 17) rfl ⟨by omega, by omega⟩ ⟨by omega, by omega⟩ ?_)
    have b36 := wq_cmp_b (H r0 15) z32
    refine wp_of e178 c178_17 (rw_if_ne (p1 := 24) (p2 := 20) (by decide) rfl ⟨by omega, by omega⟩ (fun c37 => ?_) (fun c37 => ?_))
    · refine wp_of e178 c178_24 (rw_iconst (pc' := 25) rfl ?_)
      exact wp_zreturn e178 c178_25 rfl (by omega) ⟨rfl, rfl, 0, rfl, ⟨by omega, by omega⟩, (Or.inr ⟨by omega, by omega⟩)⟩
    · refine wp_of e178 c178_20 (rw_iconst (pc' := 21) rfl ?_)
      refine wp_of e178 c178_21 (rw_goto (p1 := 25) (by decide) ?_)
      exact wp_zreturn e178 c178_25 rfl (by omega) ⟨rfl, rfl, 1, rfl, ⟨by omega, by omega⟩, (Or.inl ⟨by omega, by omega, by omega⟩)⟩
/-! StrikeAwakeModel.isWord(Ljava/lang/String;)Z o -/
abbrev uq_178_o (r0 : Nat) (s1 : Nat) (fo : Int) (po : Int) (kk : Int) (T : wq_T) (H : wq_H) : Option Value → wq_T → wq_H → Prop := fun r T' H' => T = T' ∧ H = H' ∧ ∃ z : Int, some (vI z) = r ∧ (0 ≤ z ∧ z ≤ 1) ∧ (((z = 0)))
set_option maxHeartbeats 4000000 in
theorem u_178_o {kt : Nat → Option mc_E} {T : wq_T} {H : wq_H} {r0 : Nat} {s1 : Nat} {t1 : List Int32} {fo : Int} {po : Int} {kk : Int} (hW : WT T H) (g0 : T.2.2.2 r0 = some 42) (h1 : mc_find mc_sb s1 = some t1) (p0 : wkw t1 t1.length = kk) (hRO_r0 : RO T H r0 fo po) : wpc kt 2 178 [.ref r0, .ref s1] T H (uq_178_o r0 s1 fo po kk T H) := by
  refine wp_enter e178 (Nat.le_of_ble_eq_true rfl) rfl ?_
  show wp _ _ 178 0 [(0, .ref r0), (1, .ref s1)] [] _ H _
  have u4 := RO_k hRO_r0
  refine wp_of e178 c178_0 (rw_aload_n (pc' := 1) (v := .ref r0) rfl rfl rfl ?_)
  refine wp_of e178 c178_1 (xg_I (pc' := 4) lf_9_75 hW g0 sh_42 (by decide) (by decide) ty_42_9 rfl rfl (fun b5 b6 => ?_))
  refine wp_of e178 c178_4 (rw_iconst (pc' := 5) rfl ?_)
  refine wp_of e178 c178_5 (rw_icmp_ne (p1 := 24) (p2 := 8) (by decide) rfl ⟨by omega, by omega⟩ ⟨by omega, by omega⟩ (fun c7 => ?_) (fun c7 => ?_))
  · refine wp_of e178 c178_24 (rw_iconst (pc' := 25) rfl ?_)
    exact wp_zreturn e178 c178_25 rfl (by omega) ⟨rfl, rfl, 0, rfl, ⟨by omega, by omega⟩, (by omega)⟩
  · exfalso
    omega
/-! StrikeAwakeModel.eatsWord(Ljava/lang/String;)Z k -/
abbrev uq_192_k (r0 : Nat) (s1 : Nat) (rb : Nat) (B : Nat → Int) (n : Int) (q : Int) (kk : Int) (T : wq_T) (H : wq_H) : Option Value → wq_T → wq_H → Prop := fun r T' H' => T = T' ∧ WT T H' ∧ wfr [(42, 8), (42, 9), (42, 10), (42, 11), (42, 12), (42, 15)] T H H' ∧ ∃ z : Int, some (vI z) = r ∧ (0 ≤ z ∧ z ≤ 1) ∧ (((z = 1) ∧ (xw B n q kk = 0) ∧ RC T H' r0 B n (xN B n q)) ∨ ((z = 0) ∧ (xw B n q kk = 1) ∧ RC T H' r0 B n q))
set_option maxHeartbeats 4000000 in
theorem u_192_k {kt : Nat → Option mc_E} {T : wq_T} {H : wq_H} {r0 : Nat} {s1 : Nat} {t1 : List Int32} {rb : Nat} {B : Nat → Int} {n : Int} {q : Int} {kk : Int} (hW : WT T H) (g0 : T.2.2.2 r0 = some 42) (h1 : mc_find mc_sb s1 = some t1) (qrb : H r0 5 = (rb : Int)) (grb : T.2.2.2 rb = some 43) (p0 : wkw t1 t1.length = kk) (hRC_r0 : RC T H r0 B n q) : wpc kt 3 192 [.ref r0, .ref s1] T H (uq_192_k r0 s1 rb B n q kk T H) := by
  refine wp_enter e192 (Nat.le_of_ble_eq_true rfl) rfl ?_
  have f0 : wfr [(42, 8), (42, 9), (42, 10), (42, 11), (42, 12), (42, 15)] T H H := wfr.rf
  show wp _ _ 192 0 [(0, .ref r0), (1, .ref s1)] [] _ H _
  have u29 := RC_k hRC_r0
  refine wp_of e192 c192_0 (rw_aload_n (pc' := 1) (v := .ref r0) rfl rfl rfl ?_)
  refine wp_of e192 c192_1 (rw_aload_n (pc' := 2) (v := .ref s1) rfl rfl rfl ?_)
  refine wp_of e192 c192_2 (xc_V (pc' := 5) (r := r0) (as := [.ref s1]) (st := []) (lm_9_114) rfl rfl (Nat.le_of_ble_eq_true rfl) hW g0 sh_42 (by decide) rfl (by decide) (u_178_k (B := B) (n := n) (q := q) (kk := kk) hW g0 h1 (by assumption) hRC_r0) (fun R30 T31 H32 p33 => ?_))
  obtain ⟨e34, e36, z37, e35, b38, p39⟩ := p33
  subst e34
  subst e35
  subst e36
  rcases p39 with ⟨a40, a41, a42⟩ | ⟨a43, a44⟩
  · show wp _ _ 192 5 [(0, .ref r0), (1, .ref s1)] [vI z37] _ H _
    refine wp_of e192 c192_5 (rw_istore_n (pc' := 6) (z := z37) (L' := [(2, vI z37), (0, .ref r0), (1, .ref s1)]) rfl rfl rfl ?_)
    refine wp_of e192 c192_6 (rw_iload_n (pc' := 7) (z := z37) rfl rfl ?_)
    refine wp_of e192 c192_7 (rw_if_eq (p1 := 14) (p2 := 10) (by decide) rfl ⟨by omega, by omega⟩ (fun c45 => ?_) (fun c45 => ?_))
    · exfalso
      omega
    · refine wp_of e192 c192_10 (rw_aload_n (pc' := 11) (v := .ref r0) rfl rfl rfl ?_)
      have u46 := RC_a hRC_r0
      have h47 : TM T H rb B := RC_tm hRC_r0 qrb
      refine wp_of e192 c192_11 (xc_V (pc' := 14) (r := r0) (as := []) (st := []) (lm_9_118) rfl rfl (Nat.le_of_ble_eq_true rfl) hW g0 sh_42 (by decide) rfl (by decide) (u_172_k (B := B) (n := n) (a := (xE B n q)) (q := (xN B n q)) hW g0 qrb grb (by omega) (by omega) (by omega) (by omega) (by omega) (rfl) h47) (fun R48 T49 H50 p51 => ?_))
      obtain ⟨e52, w54, f55, e53, p56⟩ := p51
      subst e52
      subst e53
      have f58 := f0.tr f55 rfl
      show wp _ _ 192 14 [(2, vI z37), (0, .ref r0), (1, .ref s1)] [] _ H50 _
      have u59 := RC_k p56
      refine wp_of e192 c192_14 (rw_iload_n (pc' := 15) (z := z37) rfl rfl ?_)
      exact wp_zreturn e192 c192_15 rfl (by omega) ⟨rfl, w54, f58, z37, rfl, ⟨by omega, by omega⟩, (Or.inl ⟨by omega, by omega, p56⟩)⟩
  · show wp _ _ 192 5 [(0, .ref r0), (1, .ref s1)] [vI z37] _ H _
    refine wp_of e192 c192_5 (rw_istore_n (pc' := 6) (z := z37) (L' := [(2, vI z37), (0, .ref r0), (1, .ref s1)]) rfl rfl rfl ?_)
    refine wp_of e192 c192_6 (rw_iload_n (pc' := 7) (z := z37) rfl rfl ?_)
    refine wp_of e192 c192_7 (rw_if_eq (p1 := 14) (p2 := 10) (by decide) rfl ⟨by omega, by omega⟩ (fun c60 => ?_) (fun c60 => ?_))
    · refine wp_of e192 c192_14 (rw_iload_n (pc' := 15) (z := z37) rfl rfl ?_)
      exact wp_zreturn e192 c192_15 rfl (by omega) ⟨rfl, hW, f0, z37, rfl, ⟨by omega, by omega⟩, (Or.inr ⟨by omega, by omega, hRC_r0⟩)⟩
    · exfalso
      omega
/-! StrikeAwakeModel.eatsWord(Ljava/lang/String;)Z o -/
abbrev uq_192_o (r0 : Nat) (s1 : Nat) (rb : Nat) (fo : Int) (po : Int) (kk : Int) (T : wq_T) (H : wq_H) : Option Value → wq_T → wq_H → Prop := fun r T' H' => T = T' ∧ H = H' ∧ ∃ z : Int, some (vI z) = r ∧ (0 ≤ z ∧ z ≤ 1) ∧ (((z = 0) ∧ RO T H r0 fo po))
set_option maxHeartbeats 4000000 in
theorem u_192_o {kt : Nat → Option mc_E} {T : wq_T} {H : wq_H} {r0 : Nat} {s1 : Nat} {t1 : List Int32} {rb : Nat} {fo : Int} {po : Int} {kk : Int} (hW : WT T H) (g0 : T.2.2.2 r0 = some 42) (h1 : mc_find mc_sb s1 = some t1) (qrb : H r0 5 = (rb : Int)) (grb : T.2.2.2 rb = some 43) (p0 : wkw t1 t1.length = kk) (hRO_r0 : RO T H r0 fo po) : wpc kt 3 192 [.ref r0, .ref s1] T H (uq_192_o r0 s1 rb fo po kk T H) := by
  refine wp_enter e192 (Nat.le_of_ble_eq_true rfl) rfl ?_
  show wp _ _ 192 0 [(0, .ref r0), (1, .ref s1)] [] _ H _
  have u13 := RO_k hRO_r0
  refine wp_of e192 c192_0 (rw_aload_n (pc' := 1) (v := .ref r0) rfl rfl rfl ?_)
  refine wp_of e192 c192_1 (rw_aload_n (pc' := 2) (v := .ref s1) rfl rfl rfl ?_)
  refine wp_of e192 c192_2 (xc_V (pc' := 5) (r := r0) (as := [.ref s1]) (st := []) (lm_9_114) rfl rfl (Nat.le_of_ble_eq_true rfl) hW g0 sh_42 (by decide) rfl (by decide) (u_178_o (fo := fo) (po := po) (kk := kk) hW g0 h1 (by assumption) hRO_r0) (fun R14 T15 H16 p17 => ?_))
  obtain ⟨e18, e20, z21, e19, b22, p23⟩ := p17
  subst e18
  subst e19
  subst e20
  show wp _ _ 192 5 [(0, .ref r0), (1, .ref s1)] [vI z21] _ H _
  refine wp_of e192 c192_5 (rw_istore_n (pc' := 6) (z := z21) (L' := [(2, vI z21), (0, .ref r0), (1, .ref s1)]) rfl rfl rfl ?_)
  refine wp_of e192 c192_6 (rw_iload_n (pc' := 7) (z := z21) rfl rfl ?_)
  refine wp_of e192 c192_7 (rw_if_eq (p1 := 14) (p2 := 10) (by decide) rfl ⟨by omega, by omega⟩ (fun c25 => ?_) (fun c25 => ?_))
  · refine wp_of e192 c192_14 (rw_iload_n (pc' := 15) (z := z21) rfl rfl ?_)
    exact wp_zreturn e192 c192_15 rfl (by omega) ⟨rfl, rfl, z21, rfl, ⟨by omega, by omega⟩, ⟨by omega, hRO_r0⟩⟩
  · exfalso
    omega
/-! StrikeAwakeModel.eatsSign(I)Z k -/
abbrev uq_204_k (r0 : Nat) (a1 : Int) (rb : Nat) (B : Nat → Int) (n : Int) (q : Int) (kd : Int) (T : wq_T) (H : wq_H) : Option Value → wq_T → wq_H → Prop := fun r T' H' => T = T' ∧ WT T H' ∧ wfr [(42, 8), (42, 9), (42, 10), (42, 11), (42, 12), (42, 15)] T H H' ∧ ∃ z : Int, some (vI z) = r ∧ (0 ≤ z ∧ z ≤ 1) ∧ (((z = 1) ∧ (xk B n q kd = 0) ∧ (xK B n q = kd) ∧ RC T H' r0 B n (xN B n q)) ∨ ((z = 0) ∧ (xk B n q kd = 1) ∧ (xK B n q ≠ kd) ∧ RC T H' r0 B n q))
set_option maxHeartbeats 4000000 in
theorem u_204_k {kt : Nat → Option mc_E} {T : wq_T} {H : wq_H} {r0 : Nat} {a1 : Int} {rb : Nat} {B : Nat → Int} {n : Int} {q : Int} {kd : Int} (hW : WT T H) (g0 : T.2.2.2 r0 = some 42) (i1 : (-2147483648) ≤ a1 ∧ a1 ≤ 2147483647) (qrb : H r0 5 = (rb : Int)) (grb : T.2.2.2 rb = some 43) (p0 : (a1 = 59 ∧ kd = 3) ∨ (a1 = 44 ∧ kd = 4)) (hRC_r0 : RC T H r0 B n q) : wpc kt 3 204 [.ref r0, vI a1] T H (uq_204_k r0 a1 rb B n q kd T H) := by
  refine wp_enter e204 (Nat.le_of_ble_eq_true rfl) rfl ?_
  have f0 : wfr [(42, 8), (42, 9), (42, 10), (42, 11), (42, 12), (42, 15)] T H H := wfr.rf
  show wp _ _ 204 0 [(0, .ref r0), (1, vI a1)] [] _ H _
  have u21 := RC_k hRC_r0
  have _s := RC_s hRC_r0
  have _k := @xk_b B n q kd
  refine wp_of e204 c204_0 (rw_aload_n (pc' := 1) (v := .ref r0) rfl rfl rfl ?_)
  refine wp_of e204 c204_1 (xg_I (pc' := 4) lf_9_75 hW g0 sh_42 (by decide) (by decide) ty_42_9 rfl rfl (fun b22 b23 => ?_))
  refine wp_of e204 c204_4 (rw_iconst (pc' := 5) rfl ?_)
  refine wp_of e204 c204_5 (rw_icmp_ne (p1 := 20) (p2 := 8) (by decide) rfl ⟨by omega, by omega⟩ ⟨by omega, by omega⟩ (fun c24 => ?_) (fun c24 => ?_))
  · refine wp_of e204 c204_20 (rw_iconst (pc' := 21) rfl ?_)
    refine wp_of e204 c204_21 (rw_istore_n (pc' := 22) (z := 0) (L' := [(2, vI 0), (0, .ref r0), (1, vI a1)]) rfl rfl rfl ?_)
    refine wp_of e204 c204_22 (rw_iload_n (pc' := 23) (z := 0) rfl rfl ?_)
    refine wp_of e204 c204_23 (rw_if_eq (p1 := 30) (p2 := 26) (by decide) rfl ⟨by omega, by omega⟩ (fun c25 => ?_) (fun c25 => ?_))
    · refine wp_of e204 c204_30 (rw_iload_n (pc' := 31) (z := 0) rfl rfl ?_)
      exact wp_zreturn e204 c204_31 rfl (by omega) ⟨rfl, hW, f0, 0, rfl, ⟨by omega, by omega⟩, (Or.inr ⟨by omega, by omega, by omega, hRC_r0⟩)⟩
    · exfalso
      omega
  · refine wp_of e204 c204_8 (rw_aload_n (pc' := 9) (v := .ref r0) rfl rfl rfl ?_)
    refine wp_of e204 c204_9 (xg_I (pc' := 12) lf_9_87 hW g0 sh_42 (by decide) (by decide) ty_42_11 rfl rfl (fun b26 b27 => ?_))
    refine wp_of e204 c204_12 (rw_iload_n (pc' := 13) (z := a1) rfl rfl ?_)
    refine wp_of e204 c204_13 (rw_icmp_ne (p1 := 20) (p2 := 16) (by decide) rfl ⟨by omega, by omega⟩ ⟨by omega, by omega⟩ (fun c28 => ?_) (fun c28 => ?_))
    · refine wp_of e204 c204_20 (rw_iconst (pc' := 21) rfl ?_)
      refine wp_of e204 c204_21 (rw_istore_n (pc' := 22) (z := 0) (L' := [(2, vI 0), (0, .ref r0), (1, vI a1)]) rfl rfl rfl ?_)
      refine wp_of e204 c204_22 (rw_iload_n (pc' := 23) (z := 0) rfl rfl ?_)
      refine wp_of e204 c204_23 (rw_if_eq (p1 := 30) (p2 := 26) (by decide) rfl ⟨by omega, by omega⟩ (fun c29 => ?_) (fun c29 => ?_))
      · refine wp_of e204 c204_30 (rw_iload_n (pc' := 31) (z := 0) rfl rfl ?_)
        exact wp_zreturn e204 c204_31 rfl (by omega) ⟨rfl, hW, f0, 0, rfl, ⟨by omega, by omega⟩, (Or.inr ⟨by omega, by omega, by omega, hRC_r0⟩)⟩
      · exfalso
        omega
    · refine wp_of e204 c204_16 (rw_iconst (pc' := 17) rfl ?_)
      refine wp_of e204 c204_17 (rw_goto (p1 := 21) (by decide) ?_)
      refine wp_of e204 c204_21 (rw_istore_n (pc' := 22) (z := 1) (L' := [(2, vI 1), (0, .ref r0), (1, vI a1)]) rfl rfl rfl ?_)
      refine wp_of e204 c204_22 (rw_iload_n (pc' := 23) (z := 1) rfl rfl ?_)
      refine wp_of e204 c204_23 (rw_if_eq (p1 := 30) (p2 := 26) (by decide) rfl ⟨by omega, by omega⟩ (fun c30 => ?_) (fun c30 => ?_))
      · exfalso
        omega
      · refine wp_of e204 c204_26 (rw_aload_n (pc' := 27) (v := .ref r0) rfl rfl rfl ?_)
        have u31 := RC_a hRC_r0
        have h32 : TM T H rb B := RC_tm hRC_r0 qrb
        refine wp_of e204 c204_27 (xc_V (pc' := 30) (r := r0) (as := []) (st := []) (lm_9_118) rfl rfl (Nat.le_of_ble_eq_true rfl) hW g0 sh_42 (by decide) rfl (by decide) (u_172_k (B := B) (n := n) (a := (xE B n q)) (q := (xN B n q)) hW g0 qrb grb (by omega) (by omega) (by omega) (by omega) (by omega) (rfl) h32) (fun R33 T34 H35 p36 => ?_))
        obtain ⟨e37, w39, f40, e38, p41⟩ := p36
        subst e37
        subst e38
        have f43 := f0.tr f40 rfl
        show wp _ _ 204 30 [(2, vI 1), (0, .ref r0), (1, vI a1)] [] _ H35 _
        have u44 := RC_k p41
        refine wp_of e204 c204_30 (rw_iload_n (pc' := 31) (z := 1) rfl rfl ?_)
        exact wp_zreturn e204 c204_31 rfl (by omega) ⟨rfl, w39, f43, 1, rfl, ⟨by omega, by omega⟩, (Or.inl ⟨by omega, by omega, by omega, p41⟩)⟩
/-! StrikeAwakeModel.eatsSign(I)Z o -/
abbrev uq_204_o (r0 : Nat) (a1 : Int) (rb : Nat) (fo : Int) (po : Int) (T : wq_T) (H : wq_H) : Option Value → wq_T → wq_H → Prop := fun r T' H' => T = T' ∧ H = H' ∧ ∃ z : Int, some (vI z) = r ∧ (0 ≤ z ∧ z ≤ 1) ∧ (((z = 0) ∧ RO T H r0 fo po))
set_option maxHeartbeats 4000000 in
theorem u_204_o {kt : Nat → Option mc_E} {T : wq_T} {H : wq_H} {r0 : Nat} {a1 : Int} {rb : Nat} {fo : Int} {po : Int} (hW : WT T H) (g0 : T.2.2.2 r0 = some 42) (i1 : (-2147483648) ≤ a1 ∧ a1 ≤ 2147483647) (qrb : H r0 5 = (rb : Int)) (grb : T.2.2.2 rb = some 43) (hRO_r0 : RO T H r0 fo po) : wpc kt 3 204 [.ref r0, vI a1] T H (uq_204_o r0 a1 rb fo po T H) := by
  refine wp_enter e204 (Nat.le_of_ble_eq_true rfl) rfl ?_
  show wp _ _ 204 0 [(0, .ref r0), (1, vI a1)] [] _ H _
  have u5 := RO_k hRO_r0
  refine wp_of e204 c204_0 (rw_aload_n (pc' := 1) (v := .ref r0) rfl rfl rfl ?_)
  refine wp_of e204 c204_1 (xg_I (pc' := 4) lf_9_75 hW g0 sh_42 (by decide) (by decide) ty_42_9 rfl rfl (fun b6 b7 => ?_))
  refine wp_of e204 c204_4 (rw_iconst (pc' := 5) rfl ?_)
  refine wp_of e204 c204_5 (rw_icmp_ne (p1 := 20) (p2 := 8) (by decide) rfl ⟨by omega, by omega⟩ ⟨by omega, by omega⟩ (fun c8 => ?_) (fun c8 => ?_))
  · refine wp_of e204 c204_20 (rw_iconst (pc' := 21) rfl ?_)
    refine wp_of e204 c204_21 (rw_istore_n (pc' := 22) (z := 0) (L' := [(2, vI 0), (0, .ref r0), (1, vI a1)]) rfl rfl rfl ?_)
    refine wp_of e204 c204_22 (rw_iload_n (pc' := 23) (z := 0) rfl rfl ?_)
    refine wp_of e204 c204_23 (rw_if_eq (p1 := 30) (p2 := 26) (by decide) rfl ⟨by omega, by omega⟩ (fun c9 => ?_) (fun c9 => ?_))
    · refine wp_of e204 c204_30 (rw_iload_n (pc' := 31) (z := 0) rfl rfl ?_)
      exact wp_zreturn e204 c204_31 rfl (by omega) ⟨rfl, rfl, 0, rfl, ⟨by omega, by omega⟩, ⟨by omega, hRO_r0⟩⟩
    · exfalso
      omega
  · exfalso
    omega
/-! StrikeAwakeModel.needs(Ljava/lang/String;)V k -/
abbrev uq_183_k (r0 : Nat) (s1 : Nat) (rb : Nat) (B : Nat → Int) (n : Int) (q : Int) (kk : Int) (T : wq_T) (H : wq_H) : Option Value → wq_T → wq_H → Prop := fun r T' H' => T = T' ∧ WT T H' ∧ wfr [(42, 8), (42, 9), (42, 10), (42, 11), (42, 12), (42, 13), (42, 14), (42, 15)] T H H' ∧ none = r ∧ (((xw B n q kk = 0) ∧ RC T H' r0 B n (xN B n q)) ∨ ((xw B n q kk ≠ 0) ∧ RO T H' r0 (xw B n q kk) q))
set_option maxHeartbeats 4000000 in
theorem u_183_k {kt : Nat → Option mc_E} {T : wq_T} {H : wq_H} {r0 : Nat} {s1 : Nat} {t1 : List Int32} {rb : Nat} {B : Nat → Int} {n : Int} {q : Int} {kk : Int} (hW : WT T H) (g0 : T.2.2.2 r0 = some 42) (h1 : mc_find mc_sb s1 = some t1) (qrb : H r0 5 = (rb : Int)) (grb : T.2.2.2 rb = some 43) (p0 : wkw t1 t1.length = kk) (hRC_r0 : RC T H r0 B n q) : wpc kt 3 183 [.ref r0, .ref s1] T H (uq_183_k r0 s1 rb B n q kk T H) := by
  refine wp_enter e183 (Nat.le_of_ble_eq_true rfl) rfl ?_
  have f0 : wfr [(42, 8), (42, 9), (42, 10), (42, 11), (42, 12), (42, 13), (42, 14), (42, 15)] T H H := wfr.rf
  show wp _ _ 183 0 [(0, .ref r0), (1, .ref s1)] [] _ H _
  have u49 := RC_k hRC_r0
  refine wp_of e183 c183_0 (rw_aload_n (pc' := 1) (v := .ref r0) rfl rfl rfl ?_)
  refine wp_of e183 c183_1 (rw_aload_n (pc' := 2) (v := .ref s1) rfl rfl rfl ?_)
  refine wp_of e183 c183_2 (xc_V (pc' := 5) (r := r0) (as := [.ref s1]) (st := []) (lm_9_114) rfl rfl (Nat.le_of_ble_eq_true rfl) hW g0 sh_42 (by decide) rfl (by decide) (u_178_k (B := B) (n := n) (q := q) (kk := kk) hW g0 h1 (by assumption) hRC_r0) (fun R50 T51 H52 p53 => ?_))
  obtain ⟨e54, e56, z57, e55, b58, p59⟩ := p53
  subst e54
  subst e55
  subst e56
  rcases p59 with ⟨a60, a61, a62⟩ | ⟨a63, a64⟩
  · show wp _ _ 183 5 [(0, .ref r0), (1, .ref s1)] [vI z57] _ H _
    refine wp_of e183 c183_5 (rw_if_ne (p1 := 13) (p2 := 8) (by decide) rfl ⟨by omega, by omega⟩ (fun c65 => ?_) (fun c65 => ?_))
    · refine wp_of e183 c183_13 (rw_aload_n (pc' := 14) (v := .ref r0) rfl rfl rfl ?_)
      have u66 := RC_a hRC_r0
      have h67 : TM T H rb B := RC_tm hRC_r0 qrb
      refine wp_of e183 c183_14 (xc_V (pc' := 17) (r := r0) (as := []) (st := []) (lm_9_118) rfl rfl (Nat.le_of_ble_eq_true rfl) hW g0 sh_42 (by decide) rfl (by decide) (u_172_k (B := B) (n := n) (a := (xE B n q)) (q := (xN B n q)) hW g0 qrb grb (by omega) (by omega) (by omega) (by omega) (by omega) (rfl) h67) (fun R68 T69 H70 p71 => ?_))
      obtain ⟨e72, w74, f75, e73, p76⟩ := p71
      subst e72
      subst e73
      have f78 := f0.tr f75 rfl
      show wp _ _ 183 17 [(0, .ref r0), (1, .ref s1)] [] _ H70 _
      have u79 := RC_k p76
      exact wp_return e183 c183_17 rfl ⟨rfl, w74, f78, rfl, (Or.inl ⟨by omega, p76⟩)⟩
    · exfalso
      omega
  · show wp _ _ 183 5 [(0, .ref r0), (1, .ref s1)] [vI z57] _ H _
    refine wp_of e183 c183_5 (rw_if_ne (p1 := 13) (p2 := 8) (by decide) rfl ⟨by omega, by omega⟩ (fun c80 => ?_) (fun c80 => ?_))
    · exfalso
      omega
    · refine wp_of e183 c183_8 (rw_aload_n (pc' := 9) (v := .ref r0) rfl rfl rfl ?_)
      refine wp_of e183 c183_9 (rw_iconst (pc' := 10) rfl ?_)
      refine wp_of e183 c183_10 (xc_V (pc' := 13) (r := r0) (as := [vI 1]) (st := []) (lm_9_121) rfl rfl (Nat.le_of_ble_eq_true rfl) hW g0 sh_42 (by decide) rfl (by decide) (u_181_k (B := B) (n := n) (q := q) hW g0 ⟨by omega, by omega⟩ (by omega) hRC_r0) (fun R81 T82 H83 p84 => ?_))
      obtain ⟨e85, w87, f88, e86, p89⟩ := p84
      subst e85
      subst e86
      have f91 := f0.tr f88 rfl
      show wp _ _ 183 13 [(0, .ref r0), (1, .ref s1)] [] _ H83 _
      have u92 := RO_k p89
      refine wp_of e183 c183_13 (rw_aload_n (pc' := 14) (v := .ref r0) rfl rfl rfl ?_)
      refine wp_of e183 c183_14 (xc_V (pc' := 17) (r := r0) (as := []) (st := []) (lm_9_118) rfl rfl (Nat.le_of_ble_eq_true rfl) w87 g0 sh_42 (by decide) rfl (by decide) (u_172_o (fo := 1) (po := q) w87 g0 p89) (fun R93 T94 H95 p96 => ?_))
      obtain ⟨e97, e99, e98, p100⟩ := p96
      subst e97
      subst e98
      subst e99
      show wp _ _ 183 17 [(0, .ref r0), (1, .ref s1)] [] _ H83 _
      have u102 := RO_k p100
      exact wp_return e183 c183_17 rfl ⟨rfl, w87, f91, rfl, (Or.inr ⟨by omega, RO_eq p100 (by omega) (by omega)⟩)⟩
/-! StrikeAwakeModel.needs(Ljava/lang/String;)V o -/
abbrev uq_183_o (r0 : Nat) (s1 : Nat) (rb : Nat) (fo : Int) (po : Int) (kk : Int) (T : wq_T) (H : wq_H) : Option Value → wq_T → wq_H → Prop := fun r T' H' => T = T' ∧ H = H' ∧ none = r ∧ ((RO T H r0 fo po))
set_option maxHeartbeats 4000000 in
theorem u_183_o {kt : Nat → Option mc_E} {T : wq_T} {H : wq_H} {r0 : Nat} {s1 : Nat} {t1 : List Int32} {rb : Nat} {fo : Int} {po : Int} {kk : Int} (hW : WT T H) (g0 : T.2.2.2 r0 = some 42) (h1 : mc_find mc_sb s1 = some t1) (qrb : H r0 5 = (rb : Int)) (grb : T.2.2.2 rb = some 43) (p0 : wkw t1 t1.length = kk) (hRO_r0 : RO T H r0 fo po) : wpc kt 3 183 [.ref r0, .ref s1] T H (uq_183_o r0 s1 rb fo po kk T H) := by
  refine wp_enter e183 (Nat.le_of_ble_eq_true rfl) rfl ?_
  show wp _ _ 183 0 [(0, .ref r0), (1, .ref s1)] [] _ H _
  have u31 := RO_k hRO_r0
  refine wp_of e183 c183_0 (rw_aload_n (pc' := 1) (v := .ref r0) rfl rfl rfl ?_)
  refine wp_of e183 c183_1 (rw_aload_n (pc' := 2) (v := .ref s1) rfl rfl rfl ?_)
  refine wp_of e183 c183_2 (xc_V (pc' := 5) (r := r0) (as := [.ref s1]) (st := []) (lm_9_114) rfl rfl (Nat.le_of_ble_eq_true rfl) hW g0 sh_42 (by decide) rfl (by decide) (u_178_o (fo := fo) (po := po) (kk := kk) hW g0 h1 (by assumption) hRO_r0) (fun R32 T33 H34 p35 => ?_))
  obtain ⟨e36, e38, z39, e37, b40, p41⟩ := p35
  subst e36
  subst e37
  subst e38
  show wp _ _ 183 5 [(0, .ref r0), (1, .ref s1)] [vI z39] _ H _
  refine wp_of e183 c183_5 (rw_if_ne (p1 := 13) (p2 := 8) (by decide) rfl ⟨by omega, by omega⟩ (fun c43 => ?_) (fun c43 => ?_))
  · exfalso
    omega
  · refine wp_of e183 c183_8 (rw_aload_n (pc' := 9) (v := .ref r0) rfl rfl rfl ?_)
    refine wp_of e183 c183_9 (rw_iconst (pc' := 10) rfl ?_)
    refine wp_of e183 c183_10 (xc_V (pc' := 13) (r := r0) (as := [vI 1]) (st := []) (lm_9_121) rfl rfl (Nat.le_of_ble_eq_true rfl) hW g0 sh_42 (by decide) rfl (by decide) (u_181_o (fo := fo) (po := po) hW g0 ⟨by omega, by omega⟩ hRO_r0) (fun R44 T45 H46 p47 => ?_))
    obtain ⟨e48, e50, e49, p51⟩ := p47
    subst e48
    subst e49
    subst e50
    show wp _ _ 183 13 [(0, .ref r0), (1, .ref s1)] [] _ H _
    have u53 := RO_k p51
    refine wp_of e183 c183_13 (rw_aload_n (pc' := 14) (v := .ref r0) rfl rfl rfl ?_)
    refine wp_of e183 c183_14 (xc_V (pc' := 17) (r := r0) (as := []) (st := []) (lm_9_118) rfl rfl (Nat.le_of_ble_eq_true rfl) hW g0 sh_42 (by decide) rfl (by decide) (u_172_o (fo := fo) (po := po) hW g0 p51) (fun R54 T55 H56 p57 => ?_))
    obtain ⟨e58, e60, e59, p61⟩ := p57
    subst e58
    subst e59
    subst e60
    show wp _ _ 183 17 [(0, .ref r0), (1, .ref s1)] [] _ H _
    have u63 := RO_k p61
    exact wp_return e183 c183_17 rfl ⟨rfl, rfl, rfl, (p61)⟩
/-! StrikeAwakeModel.needsSign(I)V k -/
abbrev uq_197_k (r0 : Nat) (a1 : Int) (rb : Nat) (B : Nat → Int) (n : Int) (q : Int) (kd : Int) (T : wq_T) (H : wq_H) : Option Value → wq_T → wq_H → Prop := fun r T' H' => T = T' ∧ WT T H' ∧ wfr [(42, 8), (42, 9), (42, 10), (42, 11), (42, 12), (42, 13), (42, 14), (42, 15)] T H H' ∧ none = r ∧ (((xk B n q kd = 0) ∧ RC T H' r0 B n (xN B n q)) ∨ ((xk B n q kd ≠ 0) ∧ RO T H' r0 (xk B n q kd) q))
set_option maxHeartbeats 4000000 in
theorem u_197_k {kt : Nat → Option mc_E} {T : wq_T} {H : wq_H} {r0 : Nat} {a1 : Int} {rb : Nat} {B : Nat → Int} {n : Int} {q : Int} {kd : Int} (hW : WT T H) (g0 : T.2.2.2 r0 = some 42) (i1 : (-2147483648) ≤ a1 ∧ a1 ≤ 2147483647) (qrb : H r0 5 = (rb : Int)) (grb : T.2.2.2 rb = some 43) (p0 : (a1 = 59 ∧ kd = 3) ∨ (a1 = 44 ∧ kd = 4)) (hRC_r0 : RC T H r0 B n q) : wpc kt 3 197 [.ref r0, vI a1] T H (uq_197_k r0 a1 rb B n q kd T H) := by
  refine wp_enter e197 (Nat.le_of_ble_eq_true rfl) rfl ?_
  have f0 : wfr [(42, 8), (42, 9), (42, 10), (42, 11), (42, 12), (42, 13), (42, 14), (42, 15)] T H H := wfr.rf
  show wp _ _ 197 0 [(0, .ref r0), (1, vI a1)] [] _ H _
  have u58 := RC_k hRC_r0
  have _s := RC_s hRC_r0
  have _k := @xk_b B n q kd
  refine wp_of e197 c197_0 (rw_aload_n (pc' := 1) (v := .ref r0) rfl rfl rfl ?_)
  refine wp_of e197 c197_1 (xg_I (pc' := 4) lf_9_75 hW g0 sh_42 (by decide) (by decide) ty_42_9 rfl rfl (fun b59 b60 => ?_))
  refine wp_of e197 c197_4 (rw_iconst (pc' := 5) rfl ?_)
  refine wp_of e197 c197_5 (rw_icmp_ne (p1 := 16) (p2 := 8) (by decide) rfl ⟨by omega, by omega⟩ ⟨by omega, by omega⟩ (fun c61 => ?_) (fun c61 => ?_))
  · refine wp_of e197 c197_16 (rw_aload_n (pc' := 17) (v := .ref r0) rfl rfl rfl ?_)
    refine wp_of e197 c197_17 (rw_iconst (pc' := 18) rfl ?_)
    refine wp_of e197 c197_18 (xc_V (pc' := 21) (r := r0) (as := [vI 1]) (st := []) (lm_9_121) rfl rfl (Nat.le_of_ble_eq_true rfl) hW g0 sh_42 (by decide) rfl (by decide) (u_181_k (B := B) (n := n) (q := q) hW g0 ⟨by omega, by omega⟩ (by omega) hRC_r0) (fun R62 T63 H64 p65 => ?_))
    obtain ⟨e66, w68, f69, e67, p70⟩ := p65
    subst e66
    subst e67
    have f72 := f0.tr f69 rfl
    show wp _ _ 197 21 [(0, .ref r0), (1, vI a1)] [] _ H64 _
    have u73 := RO_k p70
    refine wp_of e197 c197_21 (rw_aload_n (pc' := 22) (v := .ref r0) rfl rfl rfl ?_)
    refine wp_of e197 c197_22 (xc_V (pc' := 25) (r := r0) (as := []) (st := []) (lm_9_118) rfl rfl (Nat.le_of_ble_eq_true rfl) w68 g0 sh_42 (by decide) rfl (by decide) (u_172_o (fo := 1) (po := q) w68 g0 p70) (fun R74 T75 H76 p77 => ?_))
    obtain ⟨e78, e80, e79, p81⟩ := p77
    subst e78
    subst e79
    subst e80
    show wp _ _ 197 25 [(0, .ref r0), (1, vI a1)] [] _ H64 _
    have u83 := RO_k p81
    exact wp_return e197 c197_25 rfl ⟨rfl, w68, f72, rfl, (Or.inr ⟨by omega, RO_eq p81 (by omega) (by omega)⟩)⟩
  · refine wp_of e197 c197_8 (rw_aload_n (pc' := 9) (v := .ref r0) rfl rfl rfl ?_)
    refine wp_of e197 c197_9 (xg_I (pc' := 12) lf_9_87 hW g0 sh_42 (by decide) (by decide) ty_42_11 rfl rfl (fun b84 b85 => ?_))
    refine wp_of e197 c197_12 (rw_iload_n (pc' := 13) (z := a1) rfl rfl ?_)
    refine wp_of e197 c197_13 (rw_icmp_eq (p1 := 21) (p2 := 16) (by decide) rfl ⟨by omega, by omega⟩ ⟨by omega, by omega⟩ (fun c86 => ?_) (fun c86 => ?_))
    · refine wp_of e197 c197_21 (rw_aload_n (pc' := 22) (v := .ref r0) rfl rfl rfl ?_)
      have u87 := RC_a hRC_r0
      have h88 : TM T H rb B := RC_tm hRC_r0 qrb
      refine wp_of e197 c197_22 (xc_V (pc' := 25) (r := r0) (as := []) (st := []) (lm_9_118) rfl rfl (Nat.le_of_ble_eq_true rfl) hW g0 sh_42 (by decide) rfl (by decide) (u_172_k (B := B) (n := n) (a := (xE B n q)) (q := (xN B n q)) hW g0 qrb grb (by omega) (by omega) (by omega) (by omega) (by omega) (rfl) h88) (fun R89 T90 H91 p92 => ?_))
      obtain ⟨e93, w95, f96, e94, p97⟩ := p92
      subst e93
      subst e94
      have f99 := f0.tr f96 rfl
      show wp _ _ 197 25 [(0, .ref r0), (1, vI a1)] [] _ H91 _
      have u100 := RC_k p97
      exact wp_return e197 c197_25 rfl ⟨rfl, w95, f99, rfl, (Or.inl ⟨by omega, p97⟩)⟩
    · refine wp_of e197 c197_16 (rw_aload_n (pc' := 17) (v := .ref r0) rfl rfl rfl ?_)
      refine wp_of e197 c197_17 (rw_iconst (pc' := 18) rfl ?_)
      refine wp_of e197 c197_18 (xc_V (pc' := 21) (r := r0) (as := [vI 1]) (st := []) (lm_9_121) rfl rfl (Nat.le_of_ble_eq_true rfl) hW g0 sh_42 (by decide) rfl (by decide) (u_181_k (B := B) (n := n) (q := q) hW g0 ⟨by omega, by omega⟩ (by omega) hRC_r0) (fun R101 T102 H103 p104 => ?_))
      obtain ⟨e105, w107, f108, e106, p109⟩ := p104
      subst e105
      subst e106
      have f111 := f0.tr f108 rfl
      show wp _ _ 197 21 [(0, .ref r0), (1, vI a1)] [] _ H103 _
      have u112 := RO_k p109
      refine wp_of e197 c197_21 (rw_aload_n (pc' := 22) (v := .ref r0) rfl rfl rfl ?_)
      refine wp_of e197 c197_22 (xc_V (pc' := 25) (r := r0) (as := []) (st := []) (lm_9_118) rfl rfl (Nat.le_of_ble_eq_true rfl) w107 g0 sh_42 (by decide) rfl (by decide) (u_172_o (fo := 1) (po := q) w107 g0 p109) (fun R113 T114 H115 p116 => ?_))
      obtain ⟨e117, e119, e118, p120⟩ := p116
      subst e117
      subst e118
      subst e119
      show wp _ _ 197 25 [(0, .ref r0), (1, vI a1)] [] _ H103 _
      have u122 := RO_k p120
      exact wp_return e197 c197_25 rfl ⟨rfl, w107, f111, rfl, (Or.inr ⟨by omega, RO_eq p120 (by omega) (by omega)⟩)⟩
/-! StrikeAwakeModel.needsSign(I)V o -/
abbrev uq_197_o (r0 : Nat) (a1 : Int) (rb : Nat) (fo : Int) (po : Int) (T : wq_T) (H : wq_H) : Option Value → wq_T → wq_H → Prop := fun r T' H' => T = T' ∧ H = H' ∧ none = r ∧ ((RO T H r0 fo po))
set_option maxHeartbeats 4000000 in
theorem u_197_o {kt : Nat → Option mc_E} {T : wq_T} {H : wq_H} {r0 : Nat} {a1 : Int} {rb : Nat} {fo : Int} {po : Int} (hW : WT T H) (g0 : T.2.2.2 r0 = some 42) (i1 : (-2147483648) ≤ a1 ∧ a1 ≤ 2147483647) (qrb : H r0 5 = (rb : Int)) (grb : T.2.2.2 rb = some 43) (hRO_r0 : RO T H r0 fo po) : wpc kt 3 197 [.ref r0, vI a1] T H (uq_197_o r0 a1 rb fo po T H) := by
  refine wp_enter e197 (Nat.le_of_ble_eq_true rfl) rfl ?_
  show wp _ _ 197 0 [(0, .ref r0), (1, vI a1)] [] _ H _
  have u22 := RO_k hRO_r0
  refine wp_of e197 c197_0 (rw_aload_n (pc' := 1) (v := .ref r0) rfl rfl rfl ?_)
  refine wp_of e197 c197_1 (xg_I (pc' := 4) lf_9_75 hW g0 sh_42 (by decide) (by decide) ty_42_9 rfl rfl (fun b23 b24 => ?_))
  refine wp_of e197 c197_4 (rw_iconst (pc' := 5) rfl ?_)
  refine wp_of e197 c197_5 (rw_icmp_ne (p1 := 16) (p2 := 8) (by decide) rfl ⟨by omega, by omega⟩ ⟨by omega, by omega⟩ (fun c25 => ?_) (fun c25 => ?_))
  · refine wp_of e197 c197_16 (rw_aload_n (pc' := 17) (v := .ref r0) rfl rfl rfl ?_)
    refine wp_of e197 c197_17 (rw_iconst (pc' := 18) rfl ?_)
    refine wp_of e197 c197_18 (xc_V (pc' := 21) (r := r0) (as := [vI 1]) (st := []) (lm_9_121) rfl rfl (Nat.le_of_ble_eq_true rfl) hW g0 sh_42 (by decide) rfl (by decide) (u_181_o (fo := fo) (po := po) hW g0 ⟨by omega, by omega⟩ hRO_r0) (fun R26 T27 H28 p29 => ?_))
    obtain ⟨e30, e32, e31, p33⟩ := p29
    subst e30
    subst e31
    subst e32
    show wp _ _ 197 21 [(0, .ref r0), (1, vI a1)] [] _ H _
    have u35 := RO_k p33
    refine wp_of e197 c197_21 (rw_aload_n (pc' := 22) (v := .ref r0) rfl rfl rfl ?_)
    refine wp_of e197 c197_22 (xc_V (pc' := 25) (r := r0) (as := []) (st := []) (lm_9_118) rfl rfl (Nat.le_of_ble_eq_true rfl) hW g0 sh_42 (by decide) rfl (by decide) (u_172_o (fo := fo) (po := po) hW g0 p33) (fun R36 T37 H38 p39 => ?_))
    obtain ⟨e40, e42, e41, p43⟩ := p39
    subst e40
    subst e41
    subst e42
    show wp _ _ 197 25 [(0, .ref r0), (1, vI a1)] [] _ H _
    have u45 := RO_k p43
    exact wp_return e197 c197_25 rfl ⟨rfl, rfl, rfl, (p43)⟩
  · exfalso
    omega
