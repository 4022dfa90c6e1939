/-! what methods do (own work, written by wip/gen3/sx3.py) -/
/-! StrikeAwakeModel.byteAt(I)I  -/
abbrev uq_173 (r0 : Nat) (a1 : Int) (rb : Nat) (B : Nat → Int) (n : Int) (y : Int) (T : wq_T) (H : wq_H) : Option Value → wq_T → wq_H → Prop := fun r T' H' => T = T' ∧ H = H' ∧ ∃ z : Int, some (vI z) = r ∧ ((-2147483648) ≤ z ∧ z ≤ 2147483647) ∧ (((z = -1) ∧ (n ≤ y)) ∨ ((0 ≤ z ∧ z ≤ 255) ∧ (y < n) ∧ (-128 ≤ B y.toNat) ∧ ((0 ≤ B y.toNat ∧ z = B y.toNat) ∨ (B y.toNat < 0 ∧ z = B y.toNat + 256))))
set_option maxHeartbeats 4000000 in
theorem u_173 {kt : Nat → Option mc_E} {T : wq_T} {H : wq_H} {r0 : Nat} {a1 : Int} {rb : Nat} {B : Nat → Int} {n : Int} {y : Int} (hW : WT T H) (g0 : T.2.2.2 r0 = some 42) (i1 : 0 ≤ a1 ∧ a1 ≤ 900) (qrb : H r0 5 = (rb : Int)) (grb : T.2.2.2 rb = some 43) (p0 : a1 = y) (p1 : H r0 7 = n) (hTM_rb : TM T H rb B) : wpc kt 1 173 [.ref r0, vI a1] T H (uq_173 r0 a1 rb B n y T H) := by
  refine wp_enter e173 (Nat.le_of_ble_eq_true rfl) rfl ?_
  show wp _ _ 173 0 [(0, .ref r0), (1, vI a1)] [] _ H _
  have b1008 : 0 ≤ H r0 7 ∧ H r0 7 ≤ 900 := hW.box g0 (n := 33) rfl (by decide) rfl
  have _e : B y.toNat = B a1.toNat := by rw [p0]
  refine wp_of e173 c173_0 (rw_iload_n (pc' := 1) (z := a1) rfl rfl ?_)
  refine wp_of e173 c173_1 (rw_aload_n (pc' := 2) (v := .ref r0) rfl rfl rfl ?_)
  refine wp_of e173 c173_2 (xg_I (pc' := 5) lf_9_61 hW g0 sh_42 (by decide) (by decide) ty_42_7 rfl rfl (fun b1009 b1010 => ?_))
  refine wp_of e173 c173_5 (rw_icmp_ge (p1 := 21) (p2 := 8) (by decide) rfl ⟨Int.le_trans (by decide) i1.1, Int.le_trans i1.2 (by decide)⟩ ⟨Int.le_trans (by decide) b1009, Int.le_trans b1010 (by decide)⟩ (fun c1011 => ?_) (fun c1011 => ?_))
  · refine wp_of e173 c173_21 (rw_iconst (pc' := 22) rfl ?_)
    exact wp_ireturn e173 c173_22 rfl ⟨rfl, rfl, -1, rfl, ⟨by decide, by decide⟩, (Or.inl ⟨by omega, by omega⟩)⟩
  · refine wp_of e173 c173_8 (rw_aload_n (pc' := 9) (v := .ref r0) rfl rfl rfl ?_)
    refine wp_of e173 c173_9 (xg_K (pc' := 12) lf_9_13 hW g0 sh_42 (by decide) (by decide) rfl qrb rfl ?_)
    refine wp_of e173 c173_12 (rw_iload_n (pc' := 13) (z := a1) rfl rfl ?_)
    refine wp_of e173 c173_13 (xa_B (by decide) (pc' := 14) hW grb sh_43 (by decide) (ty_43 _) (i1.1) (by omega) rfl (fun b1012 b1013 => ?_))
    have _b := hTM_rb (a1.toNat) (by omega)
    have _y := @by_ok (H rb (a1.toNat)) (by omega) (by omega)
    refine wp_of e173 c173_14 (rw_sipush (pc' := 17) (z := 255) rfl (by decide) ?_)
    refine wp_of e173 c173_17 (rw_iand (pc' := 18) rfl ?_)
    obtain ⟨v1014, e1015⟩ : ∃ x : Int, x = wq_and (H rb (a1.toNat)) 255 := ⟨_, rfl⟩
    rw [← e1015]
    have b1016 : 0 ≤ v1014 ∧ v1014 ≤ 255 := by
      rw [e1015]
      exact wq_and_b _ (by omega) (by omega)
    refine wp_of e173 c173_18 (rw_goto (p1 := 22) (by decide) ?_)
    exact wp_ireturn e173 c173_22 rfl ⟨rfl, rfl, v1014, rfl, ⟨Int.le_trans (by decide) b1016.1, Int.le_trans b1016.2 (by decide)⟩, (Or.inr ⟨by omega, by omega, by omega, by omega⟩)⟩
/-! StrikeAwakeModel.isLetter(I)Z  -/
abbrev uq_174 (a0 : Int) (T : wq_T) (H : wq_H) : Option Value → wq_T → wq_H → Prop := fun r T' H' => T = T' ∧ H = H' ∧ ∃ z : Int, some (vI z) = r ∧ (0 ≤ z ∧ z ≤ 1) ∧ (((z = 1) ∧ (97 ≤ a0 ∧ a0 ≤ 122)) ∨ ((z = 0) ∧ (a0 < 97 ∨ 122 < a0)))
set_option maxHeartbeats 4000000 in
theorem u_174 {kt : Nat → Option mc_E} {T : wq_T} {H : wq_H} {a0 : Int} (hW : WT T H) (i0 : (-2147483648) ≤ a0 ∧ a0 ≤ 2147483647) : wpc kt 1 174 [vI a0] T H (uq_174 a0 T H) := by
  refine wp_enter e174 (Nat.le_of_ble_eq_true rfl) rfl ?_
  show wp _ _ 174 0 [(0, vI a0)] [] _ H _
  refine wp_of e174 c174_0 (rw_iload_n (pc' := 1) (z := a0) rfl rfl ?_)
  refine wp_of e174 c174_1 (rw_bipush (pc' := 3) (z := 97) rfl (by decide) ?_)
  refine wp_of e174 c174_3 (rw_icmp_lt (p1 := 16) (p2 := 6) (by decide) rfl ⟨i0.1, i0.2⟩ ⟨by decide, by decide⟩ (fun c1003 => ?_) (fun c1003 => ?_))
  · refine wp_of e174 c174_16 (rw_iconst (pc' := 17) rfl ?_)
    exact wp_zreturn e174 c174_17 rfl (by omega) ⟨rfl, rfl, 0, rfl, ⟨by decide, by decide⟩, (Or.inr ⟨by omega, by omega⟩)⟩
  · refine wp_of e174 c174_6 (rw_iload_n (pc' := 7) (z := a0) rfl rfl ?_)
    refine wp_of e174 c174_7 (rw_bipush (pc' := 9) (z := 122) rfl (by decide) ?_)
    refine wp_of e174 c174_9 (rw_icmp_gt (p1 := 16) (p2 := 12) (by decide) rfl ⟨i0.1, i0.2⟩ ⟨by decide, by decide⟩ (fun c1004 => ?_) (fun c1004 => ?_))
    · refine wp_of e174 c174_16 (rw_iconst (pc' := 17) rfl ?_)
      exact wp_zreturn e174 c174_17 rfl (by omega) ⟨rfl, rfl, 0, rfl, ⟨by decide, by decide⟩, (Or.inr ⟨by omega, by omega⟩)⟩
    · refine wp_of e174 c174_12 (rw_iconst (pc' := 13) rfl ?_)
      refine wp_of e174 c174_13 (rw_goto (p1 := 17) (by decide) ?_)
      exact wp_zreturn e174 c174_17 rfl (by omega) ⟨rfl, rfl, 1, rfl, ⟨by decide, by decide⟩, (Or.inl ⟨by omega, by omega⟩)⟩
/-! StrikeAwakeModel.isDigit(I)Z  -/
abbrev uq_175 (a0 : Int) (T : wq_T) (H : wq_H) : Option Value → wq_T → wq_H → Prop := fun r T' H' => T = T' ∧ H = H' ∧ ∃ z : Int, some (vI z) = r ∧ (0 ≤ z ∧ z ≤ 1) ∧ (((z = 1) ∧ (48 ≤ a0 ∧ a0 ≤ 57)) ∨ ((z = 0) ∧ (a0 < 48 ∨ 57 < a0)))
set_option maxHeartbeats 4000000 in
theorem u_175 {kt : Nat → Option mc_E} {T : wq_T} {H : wq_H} {a0 : Int} (hW : WT T H) (i0 : (-2147483648) ≤ a0 ∧ a0 ≤ 2147483647) : wpc kt 1 175 [vI a0] T H (uq_175 a0 T H) := by
  refine wp_enter e175 (Nat.le_of_ble_eq_true rfl) rfl ?_
  show wp _ _ 175 0 [(0, vI a0)] [] _ H _
  refine wp_of e175 c175_0 (rw_iload_n (pc' := 1) (z := a0) rfl rfl ?_)
  refine wp_of e175 c175_1 (rw_bipush (pc' := 3) (z := 48) rfl (by decide) ?_)
  refine wp_of e175 c175_3 (rw_icmp_lt (p1 := 16) (p2 := 6) (by decide) rfl ⟨i0.1, i0.2⟩ ⟨by decide, by decide⟩ (fun c1003 => ?_) (fun c1003 => ?_))
  · refine wp_of e175 c175_16 (rw_iconst (pc' := 17) rfl ?_)
    exact wp_zreturn e175 c175_17 rfl (by omega) ⟨rfl, rfl, 0, rfl, ⟨by decide, by decide⟩, (Or.inr ⟨by omega, by omega⟩)⟩
  · refine wp_of e175 c175_6 (rw_iload_n (pc' := 7) (z := a0) rfl rfl ?_)
    refine wp_of e175 c175_7 (rw_bipush (pc' := 9) (z := 57) rfl (by decide) ?_)
    refine wp_of e175 c175_9 (rw_icmp_gt (p1 := 16) (p2 := 12) (by decide) rfl ⟨i0.1, i0.2⟩ ⟨by decide, by decide⟩ (fun c1004 => ?_) (fun c1004 => ?_))
    · refine wp_of e175 c175_16 (rw_iconst (pc' := 17) rfl ?_)
      exact wp_zreturn e175 c175_17 rfl (by omega) ⟨rfl, rfl, 0, rfl, ⟨by decide, by decide⟩, (Or.inr ⟨by omega, by omega⟩)⟩
    · refine wp_of e175 c175_12 (rw_iconst (pc' := 13) rfl ?_)
      refine wp_of e175 c175_13 (rw_goto (p1 := 17) (by decide) ?_)
      exact wp_zreturn e175 c175_17 rfl (by omega) ⟨rfl, rfl, 1, rfl, ⟨by decide, by decide⟩, (Or.inl ⟨by omega, by omega⟩)⟩
/-! StrikeAwakeModel.in(III)Z  -/
abbrev uq_186 (a0 : Int) (a1 : Int) (a2 : Int) (T : wq_T) (H : wq_H) : Option Value → wq_T → wq_H → Prop := fun r T' H' => T = T' ∧ H = H' ∧ ∃ z : Int, some (vI z) = r ∧ (0 ≤ z ∧ z ≤ 1) ∧ (((z = 1) ∧ (a1 ≤ a0 ∧ a0 ≤ a2)) ∨ ((z = 0) ∧ (a0 < a1 ∨ a2 < a0)))
set_option maxHeartbeats 4000000 in
theorem u_186 {kt : Nat → Option mc_E} {T : wq_T} {H : wq_H} {a0 : Int} {a1 : Int} {a2 : Int} (hW : WT T H) (i0 : (-2147483648) ≤ a0 ∧ a0 ≤ 2147483647) (i1 : (-2147483648) ≤ a1 ∧ a1 ≤ 2147483647) (i2 : (-2147483648) ≤ a2 ∧ a2 ≤ 2147483647) : wpc kt 1 186 [vI a0, vI a1, vI a2] T H (uq_186 a0 a1 a2 T H) := by
  refine wp_enter e186 (Nat.le_of_ble_eq_true rfl) rfl ?_
  show wp _ _ 186 0 [(0, vI a0), (1, vI a1), (2, vI a2)] [] _ H _
  refine wp_of e186 c186_0 (rw_iload_n (pc' := 1) (z := a0) rfl rfl ?_)
  refine wp_of e186 c186_1 (rw_iload_n (pc' := 2) (z := a1) rfl rfl ?_)
  refine wp_of e186 c186_2 (rw_icmp_lt (p1 := 14) (p2 := 5) (by decide) rfl ⟨i0.1, i0.2⟩ ⟨i1.1, i1.2⟩ (fun c1003 => ?_) (fun c1003 => ?_))
  · refine wp_of e186 c186_14 (rw_iconst (pc' := 15) rfl ?_)
    exact wp_zreturn e186 c186_15 rfl (by omega) ⟨rfl, rfl, 0, rfl, ⟨by decide, by decide⟩, (Or.inr ⟨by omega, by omega⟩)⟩
  · refine wp_of e186 c186_5 (rw_iload_n (pc' := 6) (z := a0) rfl rfl ?_)
    refine wp_of e186 c186_6 (rw_iload_n (pc' := 7) (z := a2) rfl rfl ?_)
    refine wp_of e186 c186_7 (rw_icmp_gt (p1 := 14) (p2 := 10) (by decide) rfl ⟨i0.1, i0.2⟩ ⟨i2.1, i2.2⟩ (fun c1004 => ?_) (fun c1004 => ?_))
    · refine wp_of e186 c186_14 (rw_iconst (pc' := 15) rfl ?_)
      exact wp_zreturn e186 c186_15 rfl (by omega) ⟨rfl, rfl, 0, rfl, ⟨by decide, by decide⟩, (Or.inr ⟨by omega, by omega⟩)⟩
    · refine wp_of e186 c186_10 (rw_iconst (pc' := 11) rfl ?_)
      refine wp_of e186 c186_11 (rw_goto (p1 := 15) (by decide) ?_)
      exact wp_zreturn e186 c186_15 rfl (by omega) ⟨rfl, rfl, 1, rfl, ⟨by decide, by decide⟩, (Or.inl ⟨by omega, by omega⟩)⟩
/-! StrikeAwakeModel.least(II)I  -/
abbrev uq_191 (a0 : Int) (a1 : Int) (T : wq_T) (H : wq_H) : Option Value → wq_T → wq_H → Prop := fun r T' H' => T = T' ∧ H = H' ∧ ∃ z : Int, some (vI z) = r ∧ (0 ≤ z ∧ z ≤ 100) ∧ ((((a0 ≤ a1 ∧ z = a0) ∨ (a1 < a0 ∧ z = a1))))
set_option maxHeartbeats 4000000 in
theorem u_191 {kt : Nat → Option mc_E} {T : wq_T} {H : wq_H} {a0 : Int} {a1 : Int} (hW : WT T H) (i0 : 0 ≤ a0 ∧ a0 ≤ 100) (i1 : 0 ≤ a1 ∧ a1 ≤ 100) : wpc kt 1 191 [vI a0, vI a1] T H (uq_191 a0 a1 T H) := by
  refine wp_enter e191 (Nat.le_of_ble_eq_true rfl) rfl ?_
  show wp _ _ 191 0 [(0, vI a0), (1, vI a1)] [] _ H _
  refine wp_of e191 c191_0 (rw_iload_n (pc' := 1) (z := a0) rfl rfl ?_)
  refine wp_of e191 c191_1 (rw_iload_n (pc' := 2) (z := a1) rfl rfl ?_)
  refine wp_of e191 c191_2 (rw_icmp_ge (p1 := 9) (p2 := 5) (by decide) rfl ⟨Int.le_trans (by decide) i0.1, Int.le_trans i0.2 (by decide)⟩ ⟨Int.le_trans (by decide) i1.1, Int.le_trans i1.2 (by decide)⟩ (fun c1002 => ?_) (fun c1002 => ?_))
  · refine wp_of e191 c191_9 (rw_iload_n (pc' := 10) (z := a1) rfl rfl ?_)
    exact wp_ireturn e191 c191_10 rfl ⟨rfl, rfl, a1, rfl, ⟨i1.1, i1.2⟩, (by omega)⟩
  · refine wp_of e191 c191_5 (rw_iload_n (pc' := 6) (z := a0) rfl rfl ?_)
    refine wp_of e191 c191_6 (rw_goto (p1 := 10) (by decide) ?_)
    exact wp_ireturn e191 c191_10 rfl ⟨rfl, rfl, a0, rfl, ⟨i0.1, i0.2⟩, (by omega)⟩
/-! StrikeAwakeModel.goesOn()V k -/
abbrev uq_172_k (r0 : Nat) (rb : Nat) (B : Nat → Int) (n : Int) (a : Int) (q : Int) (T : wq_T) (H : wq_H) : Option Value → wq_T → wq_H → Prop := fun r T' H' => T = T' ∧ WT T H' ∧ wfr [(42, 8), (42, 9), (42, 10), (42, 11), (42, 12), (42, 15)] T H H' ∧ none = r ∧ ((RC T H' r0 B n q))
set_option maxHeartbeats 4000000 in
theorem u_172_k {kt : Nat → Option mc_E} {T : wq_T} {H : wq_H} {r0 : Nat} {rb : Nat} {B : Nat → Int} {n : Int} {a : Int} {q : Int} (hW : WT T H) (g0 : T.2.2.2 r0 = some 42) (qrb : H r0 5 = (rb : Int)) (grb : T.2.2.2 rb = some 43) (p0 : H r0 9 ≤ 4) (p1 : H r0 8 = a) (p2 : a ≤ n) (p3 : H r0 7 = n) (p4 : H r0 13 = 0) (p5 : q = xG 32 32 B n a) (hTM_rb : TM T H rb B) : wpc kt 2 172 [.ref r0] T H (uq_172_k r0 rb B n a q T H) := by
  refine wp_enter e172 (Nat.le_of_ble_eq_true rfl) rfl ?_
  have f0 : wfr [(42, 8), (42, 9), (42, 10), (42, 11), (42, 12), (42, 15)] T H H := wfr.rf
  show wp _ _ 172 0 [(0, .ref r0)] [] _ H _
  have b7407 : 0 ≤ H r0 9 ∧ H r0 9 ≤ 5 := hW.box g0 (n := 33) rfl (by decide) rfl
  have b7408 : 0 ≤ H r0 8 ∧ H r0 8 ≤ 900 := hW.box g0 (n := 33) rfl (by decide) rfl
  have b7409 : 0 ≤ H r0 7 ∧ H r0 7 ≤ 900 := hW.box g0 (n := 33) rfl (by decide) rfl
  have b7410 : (-2147483648) ≤ H r0 13 ∧ H r0 13 ≤ 2147483647 := hW.box g0 (n := 33) rfl (by decide) rfl
  have _x0 := @xG_b2 32 32 B n a (by omega)
  have _q : q ≤ n := by omega
  have _x1 := @xG_b2 97 122 B n q _q
  have _x2 := @xG_b2 48 57 B n q _q
  have _o : xso 0 = 1 ∧ xso 1 = 2 ∧ xso 2 = 3 ∧ xso 3 = 4 ∧ xso 4 = 4 ∧ xso 5 = 0 := ⟨rfl, rfl, rfl, rfl, rfl, rfl⟩
  refine wp_of e172 c172_0 (rw_aload_n (pc' := 1) (v := .ref r0) rfl rfl rfl ?_)
  refine wp_of e172 c172_1 (xg_I (pc' := 4) lf_9_75 hW g0 sh_42 (by decide) (by decide) ty_42_9 rfl rfl (fun b7411 b7412 => ?_))
  refine wp_of e172 c172_4 (rw_iconst (pc' := 5) rfl ?_)
  have jn7507 : ∀  (H7506 : wq_H), WT T H7506 → wfr [(42, 8)] T H H7506 → (H7506 r0 8 = q) → wp kt 1 172 35 [(0, .ref r0)] [] T H7506 (uq_172_k r0 rb B n a q T H) := by
    intro H7506 w7508 f7509 x7510
    have f7511 := f0.tr f7509 rfl
    refine wp_of e172 c172_35 (rw_aload_n (pc' := 36) (v := .ref r0) rfl rfl rfl ?_)
    refine wp_of e172 c172_36 (rw_aload_n (pc' := 37) (v := .ref r0) rfl rfl rfl ?_)
    refine wp_of e172 c172_37 (xg_I (pc' := 40) lf_9_78 w7508 g0 sh_42 (by decide) (by decide) ty_42_8 rfl rfl (fun b7512 b7513 => ?_))
    refine wp_of e172 c172_40 (xp_I (pc' := 43) lf_9_84 w7508 g0 sh_42 (by decide) (by decide) ty_42_10 rfl rfl (Int.le_trans (by decide) b7512) (Int.le_trans b7513 (by decide)) ⟨Int.le_trans (by decide) b7512, Int.le_trans b7513 (by decide)⟩ rfl (fun H7514 e7515 w7516 => ?_))
    have f7517 := f7511.put' e7515 g0 rfl
    have k7518 : H7514 r0 10 = H7506 r0 8 := wq_u_s e7515
    refine wp_of e172 c172_43 (rw_aload_n (pc' := 44) (v := .ref r0) rfl rfl rfl ?_)
    refine wp_of e172 c172_44 (rw_iconst (pc' := 45) rfl ?_)
    refine wp_of e172 c172_45 (xp_I (pc' := 48) lf_9_75 w7516 g0 sh_42 (by decide) (by decide) ty_42_9 rfl rfl (by decide) (by decide) ⟨by decide, by decide⟩ rfl (fun H7519 e7520 w7521 => ?_))
    have f7522 := f7517.put' e7520 g0 rfl
    have k7523 : H7519 r0 9 = 0 := wq_u_s e7520
    refine wp_of e172 c172_48 (rw_aload_n (pc' := 49) (v := .ref r0) rfl rfl rfl ?_)
    refine wp_of e172 c172_49 (rw_iconst (pc' := 50) rfl ?_)
    refine wp_of e172 c172_50 (xp_I (pc' := 53) lf_9_87 w7521 g0 sh_42 (by decide) (by decide) ty_42_11 rfl rfl (by decide) (by decide) ⟨by decide, by decide⟩ rfl (fun H7524 e7525 w7526 => ?_))
    have f7527 := f7522.put' e7525 g0 rfl
    have k7528 : H7524 r0 11 = 0 := wq_u_s e7525
    refine wp_of e172 c172_53 (rw_aload_n (pc' := 54) (v := .ref r0) rfl rfl rfl ?_)
    refine wp_of e172 c172_54 (rw_aload_n (pc' := 55) (v := .ref r0) rfl rfl rfl ?_)
    have k7529 : H7524 r0 8 = H7506 r0 8 := ((wq_u_j e7525 rfl).trans ((wq_u_j e7520 rfl).trans (wq_u_j e7515 rfl)))
    refine wp_of e172 c172_55 (xg_I (pc' := 58) lf_9_78 w7526 g0 sh_42 (by decide) (by decide) ty_42_8 rfl rfl (fun b7530 b7531 => ?_))
    have k7532 : H7524 r0 5 = H r0 5 := ((wq_u_j e7525 rfl).trans ((wq_u_j e7520 rfl).trans ((wq_u_j e7515 rfl).trans (f7509 r0 5 _ g0 rfl))))
    have q7533 : H7524 r0 5 = (rb : Int) := k7532.trans qrb
    have k7534 : H7524 r0 7 = H r0 7 := ((wq_u_j e7525 rfl).trans ((wq_u_j e7520 rfl).trans ((wq_u_j e7515 rfl).trans (f7509 r0 7 _ g0 rfl))))
    have h7535 : TM T H7524 rb B := (TM_fr w7521 grb ((wfr.rf (l := [(42, 11)])).put' e7525 g0 rfl) rfl (TM_fr w7516 grb ((wfr.rf (l := [(42, 9)])).put' e7520 g0 rfl) rfl (TM_fr w7508 grb ((wfr.rf (l := [(42, 10)])).put' e7515 g0 rfl) rfl (TM_fr hW grb f7509 rfl hTM_rb))))
    refine wp_of e172 c172_58 (xc_V (pc' := 61) (r := r0) (as := [vI (H7524 r0 8)]) (st := []) (lm_9_81) rfl rfl (Nat.le_of_ble_eq_true rfl) w7526 g0 sh_42 (by decide) rfl (by decide) (u_173 (B := B) (n := n) (y := q) w7526 g0 ⟨b7530, b7531⟩ q7533 grb (by omega) (by omega) h7535) (fun R7536 T7537 H7538 p7539 => ?_))
    obtain ⟨e7540, e7542, z7543, e7541, b7544, p7545⟩ := p7539
    subst e7540
    subst e7541
    subst e7542
    rcases p7545 with ⟨a7546, a7547⟩ | ⟨a7548, a7549, a7550, a7551⟩
    · show wp _ _ 172 61 [(0, .ref r0)] [vI z7543] _ H7524 _
      refine wp_of e172 c172_61 (rw_istore_n (pc' := 62) (z := z7543) (L' := [(1, vI z7543), (0, .ref r0)]) rfl rfl rfl ?_)
      refine wp_of e172 c172_62 (rw_iconst (pc' := 63) rfl ?_)
      refine wp_of e172 c172_63 (rw_istore_n (pc' := 64) (z := 0) (L' := [(2, vI 0), (1, vI z7543), (0, .ref r0)]) rfl rfl rfl ?_)
      refine wp_of e172 c172_64 (rw_iload_n (pc' := 65) (z := z7543) rfl rfl ?_)
      refine wp_of e172 c172_65 (rw_iconst (pc' := 66) rfl ?_)
      refine wp_of e172 c172_66 (rw_icmp_ne (p1 := 77) (p2 := 69) (by decide) rfl ⟨b7544.1, b7544.2⟩ ⟨by decide, by decide⟩ (fun c7552 => ?_) (fun c7552 => ?_))
      · exfalso
        omega
      · refine wp_of e172 c172_69 (rw_aload_n (pc' := 70) (v := .ref r0) rfl rfl rfl ?_)
        refine wp_of e172 c172_70 (rw_iconst (pc' := 71) rfl ?_)
        refine wp_of e172 c172_71 (xp_I (pc' := 74) lf_9_75 w7526 g0 sh_42 (by decide) (by decide) ty_42_9 rfl rfl (by decide) (by decide) ⟨by decide, by decide⟩ rfl (fun H7553 e7554 w7555 => ?_))
        have f7556 := f7527.put' e7554 g0 rfl
        have k7557 : H7553 r0 9 = 1 := wq_u_s e7554
        refine wp_of e172 c172_74 (rw_goto (p1 := 281) (by decide) ?_)
        have k7558 : H7553 r0 8 = H7524 r0 8 := (wq_u_j e7554 rfl)
        have k7559 : H7553 r0 7 = H7524 r0 7 := (wq_u_j e7554 rfl)
        have k7560 : H7553 r0 13 = H r0 13 := ((wq_u_j e7554 rfl).trans ((wq_u_j e7525 rfl).trans ((wq_u_j e7520 rfl).trans ((wq_u_j e7515 rfl).trans (f7509 r0 13 _ g0 rfl)))))
        have k7561 : H7553 r0 10 = H7514 r0 10 := ((wq_u_j e7554 rfl).trans ((wq_u_j e7525 rfl).trans (wq_u_j e7520 rfl)))
        have k7562 : H7553 r0 11 = H7524 r0 11 := (wq_u_j e7554 rfl)
        obtain ⟨kk, hk⟩ : ∃ x : Int, xK B n q = x := ⟨_, rfl⟩
        obtain ⟨ke, he⟩ : ∃ x : Int, xE B n q = x := ⟨_, rfl⟩
        first
          | have hl := @xM1 B n q (by omega -splitDisjunctions) (by omega -splitDisjunctions) (by omega -splitDisjunctions) (by omega -splitDisjunctions)
          | have hl := @xM5 B n q (by omega -splitDisjunctions) (by omega -splitDisjunctions) (by omega -splitDisjunctions) (by omega -splitDisjunctions)
          | have hl := @xM2 B n q (by omega -splitDisjunctions) (by omega -splitDisjunctions) (by omega -splitDisjunctions) (by omega -splitDisjunctions)
          | have hl := @xM6 B n q (by omega -splitDisjunctions) (by omega -splitDisjunctions) (by omega -splitDisjunctions) (by omega -splitDisjunctions)
          | have hl := @xM0 B n q (by omega -splitDisjunctions)
          | have hl := @xM3 B n q (by omega -splitDisjunctions) (by omega -splitDisjunctions)
          | have hl := @xM4 B n q (by omega -splitDisjunctions) (by omega -splitDisjunctions)
          | have hl := @xM7 B n q (by omega -splitDisjunctions) (by omega) (by omega) (by omega) (by omega)
          | have hl := @xM1 B n q (by omega) (by omega) (by omega) (by omega)
          | have hl := @xM5 B n q (by omega) (by omega) (by omega) (by omega)
          | have hl := @xM2 B n q (by omega) (by omega) (by omega) (by omega)
          | have hl := @xM6 B n q (by omega) (by omega) (by omega) (by omega)
          | have hl := @xM0 B n q (by omega)
          | have hl := @xM3 B n q (by omega) (by omega)
          | have hl := @xM4 B n q (by omega) (by omega)
          | have hl := @xM7 B n q (by omega) (by omega) (by omega) (by omega) (by omega)
        have hk2 := hl.1.symm
        have he2 := hl.2.symm
        rw [hk] at hk2
        rw [he] at he2
        have k7563 : H7553 r0 5 = H7524 r0 5 := (wq_u_j e7554 rfl)
        have q7564 : H7553 r0 5 = (rb : Int) := k7563.trans q7533
        have h7565 : TM T H7553 rb B := (TM_fr w7526 grb ((wfr.rf (l := [(42, 9)])).put' e7554 g0 rfl) rfl h7535)
        exact wp_return e172 c172_281 rfl ⟨rfl, w7555, f7556, rfl, (RC_mk q7564 grb h7565 (by omega) (by rw [hk, ← hk2]; omega) (by omega) (by omega) (by omega) (by omega) (by omega))⟩
    · show wp _ _ 172 61 [(0, .ref r0)] [vI z7543] _ H7524 _
      refine wp_of e172 c172_61 (rw_istore_n (pc' := 62) (z := z7543) (L' := [(1, vI z7543), (0, .ref r0)]) rfl rfl rfl ?_)
      refine wp_of e172 c172_62 (rw_iconst (pc' := 63) rfl ?_)
      refine wp_of e172 c172_63 (rw_istore_n (pc' := 64) (z := 0) (L' := [(2, vI 0), (1, vI z7543), (0, .ref r0)]) rfl rfl rfl ?_)
      refine wp_of e172 c172_64 (rw_iload_n (pc' := 65) (z := z7543) rfl rfl ?_)
      refine wp_of e172 c172_65 (rw_iconst (pc' := 66) rfl ?_)
      refine wp_of e172 c172_66 (rw_icmp_ne (p1 := 77) (p2 := 69) (by decide) rfl ⟨b7544.1, b7544.2⟩ ⟨by decide, by decide⟩ (fun c7566 => ?_) (fun c7566 => ?_))
      · refine wp_of e172 c172_77 (rw_iload_n (pc' := 78) (z := z7543) rfl rfl ?_)
        refine wp_of e172 c172_78 (xc_S (pc' := 81) (as := [vI z7543]) (st := []) (lm_9_90) rfl rfl (Nat.le_of_ble_eq_true rfl) rfl (by decide) (u_174  w7526 ⟨b7544.1, b7544.2⟩) (fun R7567 T7568 H7569 p7570 => ?_))
        obtain ⟨e7571, e7573, z7574, e7572, b7575, p7576⟩ := p7570
        subst e7571
        subst e7572
        subst e7573
        rcases p7576 with ⟨a7577, a7578⟩ | ⟨a7579, a7580⟩
        · show wp _ _ 172 81 [(2, vI 0), (1, vI z7543), (0, .ref r0)] [vI z7574] _ H7524 _
          refine wp_of e172 c172_81 (rw_if_eq (p1 := 166) (p2 := 84) (by decide) rfl ⟨Int.le_trans (by decide) b7575.1, Int.le_trans b7575.2 (by decide)⟩ (fun c7581 => ?_) (fun c7581 => ?_))
          · exfalso
            omega
          · have jn9040 : ∀ (v9038 : Int) (H9039 : wq_H), WT T H9039 → wfr [(42, 8), (42, 15)] T H7524 H9039 → (0 ≤ v9038 ∧ v9038 ≤ 900) → (H9039 r0 8 = xG 97 122 B n q) → (v9038 = H9039 r0 8 - q) → (8 < v9038 ∨ H9039 r0 15 = xY B n q) → wp kt 1 172 152 [(2, vI v9038), (0, .ref r0)] [] T H9039 (uq_172_k r0 rb B n a q T H) := by
              intro v9038 H9039 w9041 f9042 b9043 x9044 x9045 x9046
              have f9047 := f7527.tr f9042 rfl
              refine wp_of e172 c172_152 (rw_iload_n (pc' := 153) (z := v9038) rfl rfl ?_)
              refine wp_of e172 c172_153 (rw_bipush (pc' := 155) (z := 8) rfl (by decide) ?_)
              refine wp_of e172 c172_155 (rw_icmp_gt (p1 := 281) (p2 := 158) (by decide) rfl ⟨by omega, by omega⟩ ⟨by decide, by decide⟩ (fun c9048 => ?_) (fun c9048 => ?_))
              · have k9049 : H9039 r0 9 = H7519 r0 9 := ((f9042 r0 9 _ g0 rfl).trans (wq_u_j e7525 rfl))
                have k9050 : H9039 r0 7 = H7524 r0 7 := (f9042 r0 7 _ g0 rfl)
                have k9051 : H9039 r0 13 = H r0 13 := ((f9042 r0 13 _ g0 rfl).trans ((wq_u_j e7525 rfl).trans ((wq_u_j e7520 rfl).trans ((wq_u_j e7515 rfl).trans (f7509 r0 13 _ g0 rfl)))))
                have k9052 : H9039 r0 10 = H7514 r0 10 := ((f9042 r0 10 _ g0 rfl).trans ((wq_u_j e7525 rfl).trans (wq_u_j e7520 rfl)))
                have k9053 : H9039 r0 11 = H7524 r0 11 := (f9042 r0 11 _ g0 rfl)
                obtain ⟨kk, hk⟩ : ∃ x : Int, xK B n q = x := ⟨_, rfl⟩
                obtain ⟨ke, he⟩ : ∃ x : Int, xE B n q = x := ⟨_, rfl⟩
                first
                  | have hl := @xM1 B n q (by omega -splitDisjunctions) (by omega -splitDisjunctions) (by omega -splitDisjunctions) (by omega -splitDisjunctions)
                  | have hl := @xM5 B n q (by omega -splitDisjunctions) (by omega -splitDisjunctions) (by omega -splitDisjunctions) (by omega -splitDisjunctions)
                  | have hl := @xM2 B n q (by omega -splitDisjunctions) (by omega -splitDisjunctions) (by omega -splitDisjunctions) (by omega -splitDisjunctions)
                  | have hl := @xM6 B n q (by omega -splitDisjunctions) (by omega -splitDisjunctions) (by omega -splitDisjunctions) (by omega -splitDisjunctions)
                  | have hl := @xM0 B n q (by omega -splitDisjunctions)
                  | have hl := @xM3 B n q (by omega -splitDisjunctions) (by omega -splitDisjunctions)
                  | have hl := @xM4 B n q (by omega -splitDisjunctions) (by omega -splitDisjunctions)
                  | have hl := @xM7 B n q (by omega -splitDisjunctions) (by omega) (by omega) (by omega) (by omega)
                  | have hl := @xM1 B n q (by omega) (by omega) (by omega) (by omega)
                  | have hl := @xM5 B n q (by omega) (by omega) (by omega) (by omega)
                  | have hl := @xM2 B n q (by omega) (by omega) (by omega) (by omega)
                  | have hl := @xM6 B n q (by omega) (by omega) (by omega) (by omega)
                  | have hl := @xM0 B n q (by omega)
                  | have hl := @xM3 B n q (by omega) (by omega)
                  | have hl := @xM4 B n q (by omega) (by omega)
                  | have hl := @xM7 B n q (by omega) (by omega) (by omega) (by omega) (by omega)
                have hk2 := hl.1.symm
                have he2 := hl.2.symm
                rw [hk] at hk2
                rw [he] at he2
                have k9054 : H9039 r0 5 = H7524 r0 5 := (f9042 r0 5 _ g0 rfl)
                have q9055 : H9039 r0 5 = (rb : Int) := k9054.trans q7533
                have h9056 : TM T H9039 rb B := (TM_fr w7526 grb f9042 rfl h7535)
                exact wp_return e172 c172_281 rfl ⟨rfl, w9041, f9047, rfl, (RC_mk q9055 grb h9056 (by omega) (by rw [hk, ← hk2]; omega) (by omega) (by omega) (by omega) (by omega) (by omega))⟩
              · refine wp_of e172 c172_158 (rw_aload_n (pc' := 159) (v := .ref r0) rfl rfl rfl ?_)
                refine wp_of e172 c172_159 (rw_iconst (pc' := 160) rfl ?_)
                refine wp_of e172 c172_160 (xp_I (pc' := 163) lf_9_75 w9041 g0 sh_42 (by decide) (by decide) ty_42_9 rfl rfl (by decide) (by decide) ⟨by decide, by decide⟩ rfl (fun H9057 e9058 w9059 => ?_))
                have f9060 := f9047.put' e9058 g0 rfl
                have k9061 : H9057 r0 9 = 2 := wq_u_s e9058
                refine wp_of e172 c172_163 (rw_goto (p1 := 281) (by decide) ?_)
                have k9062 : H9057 r0 8 = H9039 r0 8 := (wq_u_j e9058 rfl)
                have k9063 : H9057 r0 7 = H7524 r0 7 := ((wq_u_j e9058 rfl).trans (f9042 r0 7 _ g0 rfl))
                have k9064 : H9057 r0 13 = H r0 13 := ((wq_u_j e9058 rfl).trans ((f9042 r0 13 _ g0 rfl).trans ((wq_u_j e7525 rfl).trans ((wq_u_j e7520 rfl).trans ((wq_u_j e7515 rfl).trans (f7509 r0 13 _ g0 rfl))))))
                have k9065 : H9057 r0 10 = H7514 r0 10 := ((wq_u_j e9058 rfl).trans ((f9042 r0 10 _ g0 rfl).trans ((wq_u_j e7525 rfl).trans (wq_u_j e7520 rfl))))
                have k9066 : H9057 r0 15 = H9039 r0 15 := (wq_u_j e9058 rfl)
                have k9067 : H9057 r0 11 = H7524 r0 11 := ((wq_u_j e9058 rfl).trans (f9042 r0 11 _ g0 rfl))
                obtain ⟨kk, hk⟩ : ∃ x : Int, xK B n q = x := ⟨_, rfl⟩
                obtain ⟨ke, he⟩ : ∃ x : Int, xE B n q = x := ⟨_, rfl⟩
                first
                  | have hl := @xM1 B n q (by omega -splitDisjunctions) (by omega -splitDisjunctions) (by omega -splitDisjunctions) (by omega -splitDisjunctions)
                  | have hl := @xM5 B n q (by omega -splitDisjunctions) (by omega -splitDisjunctions) (by omega -splitDisjunctions) (by omega -splitDisjunctions)
                  | have hl := @xM2 B n q (by omega -splitDisjunctions) (by omega -splitDisjunctions) (by omega -splitDisjunctions) (by omega -splitDisjunctions)
                  | have hl := @xM6 B n q (by omega -splitDisjunctions) (by omega -splitDisjunctions) (by omega -splitDisjunctions) (by omega -splitDisjunctions)
                  | have hl := @xM0 B n q (by omega -splitDisjunctions)
                  | have hl := @xM3 B n q (by omega -splitDisjunctions) (by omega -splitDisjunctions)
                  | have hl := @xM4 B n q (by omega -splitDisjunctions) (by omega -splitDisjunctions)
                  | have hl := @xM7 B n q (by omega -splitDisjunctions) (by omega) (by omega) (by omega) (by omega)
                  | have hl := @xM1 B n q (by omega) (by omega) (by omega) (by omega)
                  | have hl := @xM5 B n q (by omega) (by omega) (by omega) (by omega)
                  | have hl := @xM2 B n q (by omega) (by omega) (by omega) (by omega)
                  | have hl := @xM6 B n q (by omega) (by omega) (by omega) (by omega)
                  | have hl := @xM0 B n q (by omega)
                  | have hl := @xM3 B n q (by omega) (by omega)
                  | have hl := @xM4 B n q (by omega) (by omega)
                  | have hl := @xM7 B n q (by omega) (by omega) (by omega) (by omega) (by omega)
                have hk2 := hl.1.symm
                have he2 := hl.2.symm
                rw [hk] at hk2
                rw [he] at he2
                have k9068 : H9057 r0 5 = H7524 r0 5 := ((wq_u_j e9058 rfl).trans (f9042 r0 5 _ g0 rfl))
                have q9069 : H9057 r0 5 = (rb : Int) := k9068.trans q7533
                have h9070 : TM T H9057 rb B := (TM_fr w9041 grb ((wfr.rf (l := [(42, 9)])).put' e9058 g0 rfl) rfl (TM_fr w7526 grb f9042 rfl h7535))
                exact wp_return e172 c172_281 rfl ⟨rfl, w9059, f9060, rfl, (RC_mk q9069 grb h9070 (by omega) (by rw [hk, ← hk2]; omega) (by omega) (by omega) (by omega) (by omega) (by omega))⟩
            have f9071 : wfr [(42, 8), (42, 15)] T H7524 H7524 := wfr.rf
            refine wp_of e172 c172_84 (rw_aload_n (pc' := 85) (v := .ref r0) rfl rfl rfl ?_)
            refine wp_of e172 c172_85 (rw_lconst (pc' := 86) (z := 0) rfl rfl ?_)
            refine wp_of e172 c172_86 (xp_L (pc' := 89) lf_9_94 w7526 g0 sh_42 (by decide) (by decide) ty_42_15 rfl rfl (by decide) (by decide) ⟨by decide, by decide⟩ rfl (fun H9072 e9073 w9074 => ?_))
            have f9075 := f7527.put' e9073 g0 rfl
            have f9076 := f9071.put' e9073 g0 rfl
            have k9077 : H9072 r0 15 = 0 := wq_u_s e9073
            have k10427 : H9072 r0 8 = H7524 r0 8 := (wq_u_j e9073 rfl)
            have lp10421 : ∀ (n10422 : Nat) (v10424 : Int) (H10425 : wq_H) (p10426 : Int), WT T H10425 → wfr [(42, 8), (42, 15)] T H9072 H10425 → (0 ≤ v10424 ∧ v10424 ≤ 900) → (H10425 r0 8 = p10426) → (xG 97 122 B n p10426 = xG 97 122 B n q) → (q ≤ p10426) → (p10426 ≤ n) → (v10424 = p10426 - q) → (8 < p10426 - q ∨ H10425 r0 15 = xkf 32 96 B q (p10426 - q).toNat) → (900 - p10426).toNat = n10422 → wp kt 1 172 89 [(2, vI v10424), (0, .ref r0)] [] T H10425 (uq_172_k r0 rb B n a q T H) := by
              intro n10422
              induction n10422 using Nat.strongRecOn with
              | _ n10422 ih10423 =>
                intro v10424 H10425 p10426 w10428 f10429 b10430 x10432 x10433 x10434 x10435 x10436 x10437 m10431
                have f10438 := f9075.tr f10429 rfl
                have f10439 := f9076.tr f10429 rfl
                have := @xG_b2 97 122 B n p10426 (by omega)
                have := @xkf_Y2 B n q p10426 (by omega) (by omega)
                refine wp_of e172 c172_89 (rw_aload_n (pc' := 90) (v := .ref r0) rfl rfl rfl ?_)
                refine wp_of e172 c172_90 (rw_aload_n (pc' := 91) (v := .ref r0) rfl rfl rfl ?_)
                refine wp_of e172 c172_91 (xg_I (pc' := 94) lf_9_78 w10428 g0 sh_42 (by decide) (by decide) ty_42_8 rfl rfl (fun b10440 b10441 => ?_))
                have k10442 : H10425 r0 5 = H7524 r0 5 := ((f10429 r0 5 _ g0 rfl).trans (wq_u_j e9073 rfl))
                have q10443 : H10425 r0 5 = (rb : Int) := k10442.trans q7533
                have k10444 : H10425 r0 7 = H7524 r0 7 := ((f10429 r0 7 _ g0 rfl).trans (wq_u_j e9073 rfl))
                have h10445 : TM T H10425 rb B := (TM_fr w9074 grb f10429 rfl (TM_fr w7526 grb ((wfr.rf (l := [(42, 15)])).put' e9073 g0 rfl) rfl h7535))
                refine wp_of e172 c172_94 (xc_V (pc' := 97) (r := r0) (as := [vI (H10425 r0 8)]) (st := []) (lm_9_81) rfl rfl (Nat.le_of_ble_eq_true rfl) w10428 g0 sh_42 (by decide) rfl (by decide) (u_173 (B := B) (n := n) (y := p10426) w10428 g0 ⟨b10440, b10441⟩ q10443 grb (by omega) (by omega) h10445) (fun R10446 T10447 H10448 p10449 => ?_))
                obtain ⟨e10450, e10452, z10453, e10451, b10454, p10455⟩ := p10449
                subst e10450
                subst e10451
                subst e10452
                rcases p10455 with ⟨a10456, a10457⟩ | ⟨a10458, a10459, a10460, a10461⟩
                · show wp _ _ 172 97 [(2, vI v10424), (0, .ref r0)] [vI z10453] _ H10425 _
                  refine wp_of e172 c172_97 (xc_S (pc' := 100) (as := [vI z10453]) (st := []) (lm_9_90) rfl rfl (Nat.le_of_ble_eq_true rfl) rfl (by decide) (u_174  w10428 ⟨b10454.1, b10454.2⟩) (fun R10462 T10463 H10464 p10465 => ?_))
                  obtain ⟨e10466, e10468, z10469, e10467, b10470, p10471⟩ := p10465
                  subst e10466
                  subst e10467
                  subst e10468
                  rcases p10471 with ⟨a10472, a10473⟩ | ⟨a10474, a10475⟩
                  · exfalso
                    omega
                  · show wp _ _ 172 100 [(2, vI v10424), (0, .ref r0)] [vI z10469] _ H10425 _
                    refine wp_of e172 c172_100 (rw_if_eq (p1 := 152) (p2 := 103) (by decide) rfl ⟨Int.le_trans (by decide) b10470.1, Int.le_trans b10470.2 (by decide)⟩ (fun c10476 => ?_) (fun c10476 => ?_))
                    · have := @xG_e 97 122 B n p10426 (by omega)
                      have := @xY_of B n q p10426
                      exact wp_lc (ks := [2, 0]) (wl_c rfl (wl_c rfl wl_n)) rfl (by decide) (jn9040 v10424 H10425 w10428 f10439 ⟨by omega, by omega⟩ (by omega) (by omega) (by omega))
                    · exfalso
                      omega
                · show wp _ _ 172 97 [(2, vI v10424), (0, .ref r0)] [vI z10453] _ H10425 _
                  refine wp_of e172 c172_97 (xc_S (pc' := 100) (as := [vI z10453]) (st := []) (lm_9_90) rfl rfl (Nat.le_of_ble_eq_true rfl) rfl (by decide) (u_174  w10428 ⟨b10454.1, b10454.2⟩) (fun R10477 T10478 H10479 p10480 => ?_))
                  obtain ⟨e10481, e10483, z10484, e10482, b10485, p10486⟩ := p10480
                  subst e10481
                  subst e10482
                  subst e10483
                  rcases p10486 with ⟨a10487, a10488⟩ | ⟨a10489, a10490⟩
                  · show wp _ _ 172 100 [(2, vI v10424), (0, .ref r0)] [vI z10484] _ H10425 _
                    refine wp_of e172 c172_100 (rw_if_eq (p1 := 152) (p2 := 103) (by decide) rfl ⟨Int.le_trans (by decide) b10485.1, Int.le_trans b10485.2 (by decide)⟩ (fun c10491 => ?_) (fun c10491 => ?_))
                    · exfalso
                      omega
                    · refine wp_of e172 c172_103 (rw_iload_n (pc' := 104) (z := v10424) rfl rfl ?_)
                      refine wp_of e172 c172_104 (rw_bipush (pc' := 106) (z := 8) rfl (by decide) ?_)
                      refine wp_of e172 c172_106 (rw_icmp_ge (p1 := 136) (p2 := 109) (by decide) rfl ⟨Int.le_trans (by decide) b10430.1, Int.le_trans b10430.2 (by decide)⟩ ⟨by decide, by decide⟩ (fun c10492 => ?_) (fun c10492 => ?_))
                      · refine wp_of e172 c172_136 (rw_iinc (pc' := 139) (z := v10424) (L' := [(2, vI (v10424 + 1)), (0, .ref r0)]) rfl rfl rfl rfl ?_)
                        refine wp_of e172 c172_139 (rw_aload_n (pc' := 140) (v := .ref r0) rfl rfl rfl ?_)
                        refine wp_of e172 c172_140 (rw_dup (pc' := 141) rfl rfl ?_)
                        refine wp_of e172 c172_141 (xg_I (pc' := 144) lf_9_78 w10428 g0 sh_42 (by decide) (by decide) ty_42_8 rfl rfl (fun b10493 b10494 => ?_))
                        refine wp_of e172 c172_144 (rw_iconst (pc' := 145) rfl ?_)
                        refine wp_of e172 c172_145 (rw_iadd (pc' := 146) rfl ?_)
                        refine wp_of e172 c172_146 (xp_I (pc' := 149) lf_9_78 w10428 g0 sh_42 (by decide) (by decide) ty_42_8 rfl rfl (by omega) (by omega) ⟨by omega, by omega⟩ rfl (fun H10495 e10496 w10497 => ?_))
                        have f10498 := f10438.put' e10496 g0 rfl
                        have f10499 := f10439.put' e10496 g0 rfl
                        have f10500 := f10429.put' e10496 g0 rfl
                        have k10501 : H10495 r0 8 = (H10425 r0 8) + 1 := wq_u_s e10496
                        refine wp_of e172 c172_149 (rw_goto (p1 := 89) (by decide) ?_)
                        have k10502 : H10495 r0 15 = H10425 r0 15 := (wq_u_j e10496 rfl)
                        have := @xG_s 97 122 B n p10426 (by omega) (by omega) (by omega)
                        have := @xkf_s B q 32 96 p10426 (by omega)
                        exact wp_lc (ks := [2, 0]) (wl_c rfl (wl_c rfl wl_n)) rfl (by decide) (ih10423 _ (by omega) (v10424 + 1) H10495 ((p10426 + 1)) w10497 f10500 ⟨by omega, by omega⟩ (by omega) (by omega) (by omega) (by omega) (by omega) (by omega) rfl)
                      · refine wp_of e172 c172_109 (rw_aload_n (pc' := 110) (v := .ref r0) rfl rfl rfl ?_)
                        refine wp_of e172 c172_110 (rw_ldc2 (pc' := 113) (z := 32) rfl rfl rfl ?_)
                        refine wp_of e172 c172_113 (rw_aload_n (pc' := 114) (v := .ref r0) rfl rfl rfl ?_)
                        refine wp_of e172 c172_114 (xg_L (pc' := 117) lf_9_94 w10428 g0 sh_42 (by decide) (by decide) ty_42_15 rfl rfl (fun b10503 b10504 => ?_))
                        refine wp_of e172 c172_117 (rw_lmulw (pc' := 118) rfl ?_)
                        obtain ⟨v10505, e10506⟩ : ∃ x : Int, x = wl_w (32 * (H10425 r0 15)) := ⟨_, rfl⟩
                        rw [← e10506]
                        have b10507 : -9223372036854775808 ≤ v10505 ∧ v10505 ≤ 9223372036854775807 := by
                          rw [e10506]
                          exact wL_w _
                        have b10508 : (-9223372036854775808 ≤ 32 * (H10425 r0 15) ∧ 32 * (H10425 r0 15) ≤ 9223372036854775807) → v10505 = 32 * (H10425 r0 15) := fun h => by rw [e10506]; exact wl_w_id h
                        refine wp_of e172 c172_118 (rw_aload_n (pc' := 119) (v := .ref r0) rfl rfl rfl ?_)
                        refine wp_of e172 c172_119 (rw_aload_n (pc' := 120) (v := .ref r0) rfl rfl rfl ?_)
                        refine wp_of e172 c172_120 (xg_I (pc' := 123) lf_9_78 w10428 g0 sh_42 (by decide) (by decide) ty_42_8 rfl rfl (fun b10509 b10510 => ?_))
                        refine wp_of e172 c172_123 (xc_V (pc' := 126) (r := r0) (as := [vI (H10425 r0 8)]) (st := [vL v10505, .ref r0]) (lm_9_81) rfl rfl (Nat.le_of_ble_eq_true rfl) w10428 g0 sh_42 (by decide) rfl (by decide) (u_173 (B := B) (n := n) (y := p10426) w10428 g0 ⟨b10509, b10510⟩ q10443 grb (by omega) (by omega) h10445) (fun R10511 T10512 H10513 p10514 => ?_))
                        obtain ⟨e10515, e10517, z10518, e10516, b10519, p10520⟩ := p10514
                        subst e10515
                        subst e10516
                        subst e10517
                        rcases p10520 with ⟨a10521, a10522⟩ | ⟨a10523, a10524, a10525, a10526⟩
                        · exfalso
                          omega
                        · show wp _ _ 172 126 [(2, vI v10424), (0, .ref r0)] [vI z10518, vL v10505, .ref r0] _ H10425 _
                          refine wp_of e172 c172_126 (rw_bipush (pc' := 128) (z := 97) rfl (by decide) ?_)
                          refine wp_of e172 c172_128 (rw_isub (pc' := 129) rfl ?_)
                          refine wp_of e172 c172_129 (rw_iconst (pc' := 130) rfl ?_)
                          refine wp_of e172 c172_130 (rw_iadd (pc' := 131) rfl ?_)
                          refine wp_of e172 c172_131 (rw_i2l (pc' := 132) rfl ⟨by omega, by omega⟩ ?_)
                          refine wp_of e172 c172_132 (rw_laddw (pc' := 133) rfl ?_)
                          obtain ⟨v10527, e10528⟩ : ∃ x : Int, x = wl_w (v10505 + ((z10518 - 97) + 1)) := ⟨_, rfl⟩
                          rw [← e10528]
                          have b10529 : -9223372036854775808 ≤ v10527 ∧ v10527 ≤ 9223372036854775807 := by
                            rw [e10528]
                            exact wL_w _
                          have b10530 : (-9223372036854775808 ≤ v10505 + ((z10518 - 97) + 1) ∧ v10505 + ((z10518 - 97) + 1) ≤ 9223372036854775807) → v10527 = v10505 + ((z10518 - 97) + 1) := fun h => by rw [e10528]; exact wl_w_id h
                          refine wp_of e172 c172_133 (xp_L (pc' := 136) lf_9_94 w10428 g0 sh_42 (by decide) (by decide) ty_42_15 rfl rfl (b10529.1) (b10529.2) ⟨b10529.1, b10529.2⟩ rfl (fun H10531 e10532 w10533 => ?_))
                          have f10534 := f10438.put' e10532 g0 rfl
                          have f10535 := f10439.put' e10532 g0 rfl
                          have f10536 := f10429.put' e10532 g0 rfl
                          have k10537 : H10531 r0 15 = v10527 := wq_u_s e10532
                          refine wp_of e172 c172_136 (rw_iinc (pc' := 139) (z := v10424) (L' := [(2, vI (v10424 + 1)), (0, .ref r0)]) rfl rfl rfl rfl ?_)
                          refine wp_of e172 c172_139 (rw_aload_n (pc' := 140) (v := .ref r0) rfl rfl rfl ?_)
                          refine wp_of e172 c172_140 (rw_dup (pc' := 141) rfl rfl ?_)
                          have k10538 : H10531 r0 8 = H10425 r0 8 := (wq_u_j e10532 rfl)
                          refine wp_of e172 c172_141 (xg_I (pc' := 144) lf_9_78 w10533 g0 sh_42 (by decide) (by decide) ty_42_8 rfl rfl (fun b10539 b10540 => ?_))
                          refine wp_of e172 c172_144 (rw_iconst (pc' := 145) rfl ?_)
                          refine wp_of e172 c172_145 (rw_iadd (pc' := 146) rfl ?_)
                          refine wp_of e172 c172_146 (xp_I (pc' := 149) lf_9_78 w10533 g0 sh_42 (by decide) (by decide) ty_42_8 rfl rfl (by omega) (by omega) ⟨by omega, by omega⟩ rfl (fun H10541 e10542 w10543 => ?_))
                          have f10544 := f10534.put' e10542 g0 rfl
                          have f10545 := f10535.put' e10542 g0 rfl
                          have f10546 := f10536.put' e10542 g0 rfl
                          have k10547 : H10541 r0 8 = (H10531 r0 8) + 1 := wq_u_s e10542
                          refine wp_of e172 c172_149 (rw_goto (p1 := 89) (by decide) ?_)
                          have k10548 : H10541 r0 15 = H10531 r0 15 := (wq_u_j e10542 rfl)
                          have := @xG_s 97 122 B n p10426 (by omega) (by omega) (by omega)
                          have := @xkf_s B q 32 96 p10426 (by omega)
                          exact wp_lc (ks := [2, 0]) (wl_c rfl (wl_c rfl wl_n)) rfl (by decide) (ih10423 _ (by omega) (v10424 + 1) H10541 ((p10426 + 1)) w10543 f10546 ⟨by omega, by omega⟩ (by omega) (by omega) (by omega) (by omega) (by omega) (by omega) rfl)
                  · show wp _ _ 172 100 [(2, vI v10424), (0, .ref r0)] [vI z10484] _ H10425 _
                    refine wp_of e172 c172_100 (rw_if_eq (p1 := 152) (p2 := 103) (by decide) rfl ⟨Int.le_trans (by decide) b10485.1, Int.le_trans b10485.2 (by decide)⟩ (fun c10549 => ?_) (fun c10549 => ?_))
                    · have := @xG_e 97 122 B n p10426 (by omega)
                      have := @xY_of B n q p10426
                      exact wp_lc (ks := [2, 0]) (wl_c rfl (wl_c rfl wl_n)) rfl (by decide) (jn9040 v10424 H10425 w10428 f10439 ⟨by omega, by omega⟩ (by omega) (by omega) (by omega))
                    · exfalso
                      omega
            have := @xkf_q B q q 32 96
            exact wp_lc (ks := [2, 1, 0]) (wl_c rfl (wl_c rfl wl_n)) rfl (by decide) (lp10421 _ 0 H9072 q w9074 wfr.rf ⟨by decide, by decide⟩ (by omega) (by omega) (by omega) (by omega) (by omega) (by omega) rfl)
        · show wp _ _ 172 81 [(2, vI 0), (1, vI z7543), (0, .ref r0)] [vI z7574] _ H7524 _
          refine wp_of e172 c172_81 (rw_if_eq (p1 := 166) (p2 := 84) (by decide) rfl ⟨Int.le_trans (by decide) b7575.1, Int.le_trans b7575.2 (by decide)⟩ (fun c10550 => ?_) (fun c10550 => ?_))
          · refine wp_of e172 c172_166 (rw_iload_n (pc' := 167) (z := z7543) rfl rfl ?_)
            refine wp_of e172 c172_167 (xc_S (pc' := 170) (as := [vI z7543]) (st := []) (lm_9_98) rfl rfl (Nat.le_of_ble_eq_true rfl) rfl (by decide) (u_175  w7526 ⟨b7544.1, b7544.2⟩) (fun R10551 T10552 H10553 p10554 => ?_))
            obtain ⟨e10555, e10557, z10558, e10556, b10559, p10560⟩ := p10554
            subst e10555
            subst e10556
            subst e10557
            rcases p10560 with ⟨a10561, a10562⟩ | ⟨a10563, a10564⟩
            · show wp _ _ 172 170 [(2, vI 0), (1, vI z7543), (0, .ref r0)] [vI z10558] _ H7524 _
              refine wp_of e172 c172_170 (rw_if_eq (p1 := 249) (p2 := 173) (by decide) rfl ⟨Int.le_trans (by decide) b10559.1, Int.le_trans b10559.2 (by decide)⟩ (fun c10565 => ?_) (fun c10565 => ?_))
              · exfalso
                omega
              · have jn12144 : ∀ (v12142 : Int) (H12143 : wq_H), WT T H12143 → wfr [(42, 8), (42, 12)] T H7524 H12143 → (0 ≤ v12142 ∧ v12142 ≤ 900) → (H12143 r0 8 = xG 48 57 B n q) → (v12142 = H12143 r0 8 - q) → (3 < v12142 ∨ H12143 r0 12 = xV B n q) → wp kt 1 172 236 [(2, vI v12142), (0, .ref r0)] [] T H12143 (uq_172_k r0 rb B n a q T H) := by
                  intro v12142 H12143 w12145 f12146 b12147 x12148 x12149 x12150
                  have f12151 := f7527.tr f12146 rfl
                  refine wp_of e172 c172_236 (rw_iload_n (pc' := 237) (z := v12142) rfl rfl ?_)
                  refine wp_of e172 c172_237 (rw_iconst (pc' := 238) rfl ?_)
                  refine wp_of e172 c172_238 (rw_icmp_gt (p1 := 281) (p2 := 241) (by decide) rfl ⟨by omega, by omega⟩ ⟨by decide, by decide⟩ (fun c12152 => ?_) (fun c12152 => ?_))
                  · have k12153 : H12143 r0 9 = H7519 r0 9 := ((f12146 r0 9 _ g0 rfl).trans (wq_u_j e7525 rfl))
                    have k12154 : H12143 r0 7 = H7524 r0 7 := (f12146 r0 7 _ g0 rfl)
                    have k12155 : H12143 r0 13 = H r0 13 := ((f12146 r0 13 _ g0 rfl).trans ((wq_u_j e7525 rfl).trans ((wq_u_j e7520 rfl).trans ((wq_u_j e7515 rfl).trans (f7509 r0 13 _ g0 rfl)))))
                    have k12156 : H12143 r0 10 = H7514 r0 10 := ((f12146 r0 10 _ g0 rfl).trans ((wq_u_j e7525 rfl).trans (wq_u_j e7520 rfl)))
                    have k12157 : H12143 r0 11 = H7524 r0 11 := (f12146 r0 11 _ g0 rfl)
                    obtain ⟨kk, hk⟩ : ∃ x : Int, xK B n q = x := ⟨_, rfl⟩
                    obtain ⟨ke, he⟩ : ∃ x : Int, xE B n q = x := ⟨_, rfl⟩
                    first
                      | have hl := @xM1 B n q (by omega -splitDisjunctions) (by omega -splitDisjunctions) (by omega -splitDisjunctions) (by omega -splitDisjunctions)
                      | have hl := @xM5 B n q (by omega -splitDisjunctions) (by omega -splitDisjunctions) (by omega -splitDisjunctions) (by omega -splitDisjunctions)
                      | have hl := @xM2 B n q (by omega -splitDisjunctions) (by omega -splitDisjunctions) (by omega -splitDisjunctions) (by omega -splitDisjunctions)
                      | have hl := @xM6 B n q (by omega -splitDisjunctions) (by omega -splitDisjunctions) (by omega -splitDisjunctions) (by omega -splitDisjunctions)
                      | have hl := @xM0 B n q (by omega -splitDisjunctions)
                      | have hl := @xM3 B n q (by omega -splitDisjunctions) (by omega -splitDisjunctions)
                      | have hl := @xM4 B n q (by omega -splitDisjunctions) (by omega -splitDisjunctions)
                      | have hl := @xM7 B n q (by omega -splitDisjunctions) (by omega) (by omega) (by omega) (by omega)
                      | have hl := @xM1 B n q (by omega) (by omega) (by omega) (by omega)
                      | have hl := @xM5 B n q (by omega) (by omega) (by omega) (by omega)
                      | have hl := @xM2 B n q (by omega) (by omega) (by omega) (by omega)
                      | have hl := @xM6 B n q (by omega) (by omega) (by omega) (by omega)
                      | have hl := @xM0 B n q (by omega)
                      | have hl := @xM3 B n q (by omega) (by omega)
                      | have hl := @xM4 B n q (by omega) (by omega)
                      | have hl := @xM7 B n q (by omega) (by omega) (by omega) (by omega) (by omega)
                    have hk2 := hl.1.symm
                    have he2 := hl.2.symm
                    rw [hk] at hk2
                    rw [he] at he2
                    have k12158 : H12143 r0 5 = H7524 r0 5 := (f12146 r0 5 _ g0 rfl)
                    have q12159 : H12143 r0 5 = (rb : Int) := k12158.trans q7533
                    have h12160 : TM T H12143 rb B := (TM_fr w7526 grb f12146 rfl h7535)
                    exact wp_return e172 c172_281 rfl ⟨rfl, w12145, f12151, rfl, (RC_mk q12159 grb h12160 (by omega) (by rw [hk, ← hk2]; omega) (by omega) (by omega) (by omega) (by omega) (by omega))⟩
                  · refine wp_of e172 c172_241 (rw_aload_n (pc' := 242) (v := .ref r0) rfl rfl rfl ?_)
                    refine wp_of e172 c172_242 (rw_iconst (pc' := 243) rfl ?_)
                    refine wp_of e172 c172_243 (xp_I (pc' := 246) lf_9_75 w12145 g0 sh_42 (by decide) (by decide) ty_42_9 rfl rfl (by decide) (by decide) ⟨by decide, by decide⟩ rfl (fun H12161 e12162 w12163 => ?_))
                    have f12164 := f12151.put' e12162 g0 rfl
                    have k12165 : H12161 r0 9 = 3 := wq_u_s e12162
                    refine wp_of e172 c172_246 (rw_goto (p1 := 281) (by decide) ?_)
                    have k12166 : H12161 r0 8 = H12143 r0 8 := (wq_u_j e12162 rfl)
                    have k12167 : H12161 r0 7 = H7524 r0 7 := ((wq_u_j e12162 rfl).trans (f12146 r0 7 _ g0 rfl))
                    have k12168 : H12161 r0 13 = H r0 13 := ((wq_u_j e12162 rfl).trans ((f12146 r0 13 _ g0 rfl).trans ((wq_u_j e7525 rfl).trans ((wq_u_j e7520 rfl).trans ((wq_u_j e7515 rfl).trans (f7509 r0 13 _ g0 rfl))))))
                    have k12169 : H12161 r0 10 = H7514 r0 10 := ((wq_u_j e12162 rfl).trans ((f12146 r0 10 _ g0 rfl).trans ((wq_u_j e7525 rfl).trans (wq_u_j e7520 rfl))))
                    have k12170 : H12161 r0 12 = H12143 r0 12 := (wq_u_j e12162 rfl)
                    have k12171 : H12161 r0 11 = H7524 r0 11 := ((wq_u_j e12162 rfl).trans (f12146 r0 11 _ g0 rfl))
                    obtain ⟨kk, hk⟩ : ∃ x : Int, xK B n q = x := ⟨_, rfl⟩
                    obtain ⟨ke, he⟩ : ∃ x : Int, xE B n q = x := ⟨_, rfl⟩
                    first
                      | have hl := @xM1 B n q (by omega -splitDisjunctions) (by omega -splitDisjunctions) (by omega -splitDisjunctions) (by omega -splitDisjunctions)
                      | have hl := @xM5 B n q (by omega -splitDisjunctions) (by omega -splitDisjunctions) (by omega -splitDisjunctions) (by omega -splitDisjunctions)
                      | have hl := @xM2 B n q (by omega -splitDisjunctions) (by omega -splitDisjunctions) (by omega -splitDisjunctions) (by omega -splitDisjunctions)
                      | have hl := @xM6 B n q (by omega -splitDisjunctions) (by omega -splitDisjunctions) (by omega -splitDisjunctions) (by omega -splitDisjunctions)
                      | have hl := @xM0 B n q (by omega -splitDisjunctions)
                      | have hl := @xM3 B n q (by omega -splitDisjunctions) (by omega -splitDisjunctions)
                      | have hl := @xM4 B n q (by omega -splitDisjunctions) (by omega -splitDisjunctions)
                      | have hl := @xM7 B n q (by omega -splitDisjunctions) (by omega) (by omega) (by omega) (by omega)
                      | have hl := @xM1 B n q (by omega) (by omega) (by omega) (by omega)
                      | have hl := @xM5 B n q (by omega) (by omega) (by omega) (by omega)
                      | have hl := @xM2 B n q (by omega) (by omega) (by omega) (by omega)
                      | have hl := @xM6 B n q (by omega) (by omega) (by omega) (by omega)
                      | have hl := @xM0 B n q (by omega)
                      | have hl := @xM3 B n q (by omega) (by omega)
                      | have hl := @xM4 B n q (by omega) (by omega)
                      | have hl := @xM7 B n q (by omega) (by omega) (by omega) (by omega) (by omega)
                    have hk2 := hl.1.symm
                    have he2 := hl.2.symm
                    rw [hk] at hk2
                    rw [he] at he2
                    have k12172 : H12161 r0 5 = H7524 r0 5 := ((wq_u_j e12162 rfl).trans (f12146 r0 5 _ g0 rfl))
                    have q12173 : H12161 r0 5 = (rb : Int) := k12172.trans q7533
                    have h12174 : TM T H12161 rb B := (TM_fr w12145 grb ((wfr.rf (l := [(42, 9)])).put' e12162 g0 rfl) rfl (TM_fr w7526 grb f12146 rfl h7535))
                    exact wp_return e172 c172_281 rfl ⟨rfl, w12163, f12164, rfl, (RC_mk q12173 grb h12174 (by omega) (by rw [hk, ← hk2]; omega) (by omega) (by omega) (by omega) (by omega) (by omega))⟩
                have f12175 : wfr [(42, 8), (42, 12)] T H7524 H7524 := wfr.rf
                refine wp_of e172 c172_173 (rw_aload_n (pc' := 174) (v := .ref r0) rfl rfl rfl ?_)
                refine wp_of e172 c172_174 (rw_iconst (pc' := 175) rfl ?_)
                refine wp_of e172 c172_175 (xp_I (pc' := 178) lf_9_101 w7526 g0 sh_42 (by decide) (by decide) ty_42_12 rfl rfl (by decide) (by decide) ⟨by decide, by decide⟩ rfl (fun H12176 e12177 w12178 => ?_))
                have f12179 := f7527.put' e12177 g0 rfl
                have f12180 := f12175.put' e12177 g0 rfl
                have k12181 : H12176 r0 12 = 0 := wq_u_s e12177
                have k13651 : H12176 r0 8 = H7524 r0 8 := (wq_u_j e12177 rfl)
                have lp13645 : ∀ (n13646 : Nat) (v13648 : Int) (H13649 : wq_H) (p13650 : Int), WT T H13649 → wfr [(42, 8), (42, 12)] T H12176 H13649 → (0 ≤ v13648 ∧ v13648 ≤ 900) → (H13649 r0 8 = p13650) → (xG 48 57 B n p13650 = xG 48 57 B n q) → (q ≤ p13650) → (p13650 ≤ n) → (v13648 = p13650 - q) → (3 < p13650 - q ∨ H13649 r0 12 = xkf 10 48 B q (p13650 - q).toNat) → (900 - p13650).toNat = n13646 → wp kt 1 172 178 [(2, vI v13648), (0, .ref r0)] [] T H13649 (uq_172_k r0 rb B n a q T H) := by
                  intro n13646
                  induction n13646 using Nat.strongRecOn with
                  | _ n13646 ih13647 =>
                    intro v13648 H13649 p13650 w13652 f13653 b13654 x13656 x13657 x13658 x13659 x13660 x13661 m13655
                    have f13662 := f12179.tr f13653 rfl
                    have f13663 := f12180.tr f13653 rfl
                    have := @xG_b2 48 57 B n p13650 (by omega)
                    have := @xkf_V2 B n q p13650 (by omega)
                    refine wp_of e172 c172_178 (rw_aload_n (pc' := 179) (v := .ref r0) rfl rfl rfl ?_)
                    refine wp_of e172 c172_179 (rw_aload_n (pc' := 180) (v := .ref r0) rfl rfl rfl ?_)
                    refine wp_of e172 c172_180 (xg_I (pc' := 183) lf_9_78 w13652 g0 sh_42 (by decide) (by decide) ty_42_8 rfl rfl (fun b13664 b13665 => ?_))
                    have k13666 : H13649 r0 5 = H7524 r0 5 := ((f13653 r0 5 _ g0 rfl).trans (wq_u_j e12177 rfl))
                    have q13667 : H13649 r0 5 = (rb : Int) := k13666.trans q7533
                    have k13668 : H13649 r0 7 = H7524 r0 7 := ((f13653 r0 7 _ g0 rfl).trans (wq_u_j e12177 rfl))
                    have h13669 : TM T H13649 rb B := (TM_fr w12178 grb f13653 rfl (TM_fr w7526 grb ((wfr.rf (l := [(42, 12)])).put' e12177 g0 rfl) rfl h7535))
                    refine wp_of e172 c172_183 (xc_V (pc' := 186) (r := r0) (as := [vI (H13649 r0 8)]) (st := []) (lm_9_81) rfl rfl (Nat.le_of_ble_eq_true rfl) w13652 g0 sh_42 (by decide) rfl (by decide) (u_173 (B := B) (n := n) (y := p13650) w13652 g0 ⟨b13664, b13665⟩ q13667 grb (by omega) (by omega) h13669) (fun R13670 T13671 H13672 p13673 => ?_))
                    obtain ⟨e13674, e13676, z13677, e13675, b13678, p13679⟩ := p13673
                    subst e13674
                    subst e13675
                    subst e13676
                    rcases p13679 with ⟨a13680, a13681⟩ | ⟨a13682, a13683, a13684, a13685⟩
                    · show wp _ _ 172 186 [(2, vI v13648), (0, .ref r0)] [vI z13677] _ H13649 _
                      refine wp_of e172 c172_186 (xc_S (pc' := 189) (as := [vI z13677]) (st := []) (lm_9_98) rfl rfl (Nat.le_of_ble_eq_true rfl) rfl (by decide) (u_175  w13652 ⟨b13678.1, b13678.2⟩) (fun R13686 T13687 H13688 p13689 => ?_))
                      obtain ⟨e13690, e13692, z13693, e13691, b13694, p13695⟩ := p13689
                      subst e13690
                      subst e13691
                      subst e13692
                      rcases p13695 with ⟨a13696, a13697⟩ | ⟨a13698, a13699⟩
                      · exfalso
                        omega
                      · show wp _ _ 172 189 [(2, vI v13648), (0, .ref r0)] [vI z13693] _ H13649 _
                        refine wp_of e172 c172_189 (rw_if_eq (p1 := 236) (p2 := 192) (by decide) rfl ⟨Int.le_trans (by decide) b13694.1, Int.le_trans b13694.2 (by decide)⟩ (fun c13700 => ?_) (fun c13700 => ?_))
                        · have := @xG_e 48 57 B n p13650 (by omega)
                          have := @xV_of B n q p13650
                          exact wp_lc (ks := [2, 0]) (wl_c rfl (wl_c rfl wl_n)) rfl (by decide) (jn12144 v13648 H13649 w13652 f13663 ⟨by omega, by omega⟩ (by omega) (by omega) (by omega))
                        · exfalso
                          omega
                    · show wp _ _ 172 186 [(2, vI v13648), (0, .ref r0)] [vI z13677] _ H13649 _
                      refine wp_of e172 c172_186 (xc_S (pc' := 189) (as := [vI z13677]) (st := []) (lm_9_98) rfl rfl (Nat.le_of_ble_eq_true rfl) rfl (by decide) (u_175  w13652 ⟨b13678.1, b13678.2⟩) (fun R13701 T13702 H13703 p13704 => ?_))
                      obtain ⟨e13705, e13707, z13708, e13706, b13709, p13710⟩ := p13704
                      subst e13705
                      subst e13706
                      subst e13707
                      rcases p13710 with ⟨a13711, a13712⟩ | ⟨a13713, a13714⟩
                      · show wp _ _ 172 189 [(2, vI v13648), (0, .ref r0)] [vI z13708] _ H13649 _
                        refine wp_of e172 c172_189 (rw_if_eq (p1 := 236) (p2 := 192) (by decide) rfl ⟨Int.le_trans (by decide) b13709.1, Int.le_trans b13709.2 (by decide)⟩ (fun c13715 => ?_) (fun c13715 => ?_))
                        · exfalso
                          omega
                        · refine wp_of e172 c172_192 (rw_iload_n (pc' := 193) (z := v13648) rfl rfl ?_)
                          refine wp_of e172 c172_193 (rw_iconst (pc' := 194) rfl ?_)
                          refine wp_of e172 c172_194 (rw_icmp_ge (p1 := 220) (p2 := 197) (by decide) rfl ⟨Int.le_trans (by decide) b13654.1, Int.le_trans b13654.2 (by decide)⟩ ⟨by decide, by decide⟩ (fun c13716 => ?_) (fun c13716 => ?_))
                          · refine wp_of e172 c172_220 (rw_iinc (pc' := 223) (z := v13648) (L' := [(2, vI (v13648 + 1)), (0, .ref r0)]) rfl rfl rfl rfl ?_)
                            refine wp_of e172 c172_223 (rw_aload_n (pc' := 224) (v := .ref r0) rfl rfl rfl ?_)
                            refine wp_of e172 c172_224 (rw_dup (pc' := 225) rfl rfl ?_)
                            refine wp_of e172 c172_225 (xg_I (pc' := 228) lf_9_78 w13652 g0 sh_42 (by decide) (by decide) ty_42_8 rfl rfl (fun b13717 b13718 => ?_))
                            refine wp_of e172 c172_228 (rw_iconst (pc' := 229) rfl ?_)
                            refine wp_of e172 c172_229 (rw_iadd (pc' := 230) rfl ?_)
                            refine wp_of e172 c172_230 (xp_I (pc' := 233) lf_9_78 w13652 g0 sh_42 (by decide) (by decide) ty_42_8 rfl rfl (by omega) (by omega) ⟨by omega, by omega⟩ rfl (fun H13719 e13720 w13721 => ?_))
                            have f13722 := f13662.put' e13720 g0 rfl
                            have f13723 := f13663.put' e13720 g0 rfl
                            have f13724 := f13653.put' e13720 g0 rfl
                            have k13725 : H13719 r0 8 = (H13649 r0 8) + 1 := wq_u_s e13720
                            refine wp_of e172 c172_233 (rw_goto (p1 := 178) (by decide) ?_)
                            have k13726 : H13719 r0 12 = H13649 r0 12 := (wq_u_j e13720 rfl)
                            have := @xG_s 48 57 B n p13650 (by omega) (by omega) (by omega)
                            have := @xkf_s B q 10 48 p13650 (by omega)
                            exact wp_lc (ks := [2, 0]) (wl_c rfl (wl_c rfl wl_n)) rfl (by decide) (ih13647 _ (by omega) (v13648 + 1) H13719 ((p13650 + 1)) w13721 f13724 ⟨by omega, by omega⟩ (by omega) (by omega) (by omega) (by omega) (by omega) (by omega) rfl)
                          · refine wp_of e172 c172_197 (rw_aload_n (pc' := 198) (v := .ref r0) rfl rfl rfl ?_)
                            refine wp_of e172 c172_198 (rw_bipush (pc' := 200) (z := 10) rfl (by decide) ?_)
                            refine wp_of e172 c172_200 (rw_aload_n (pc' := 201) (v := .ref r0) rfl rfl rfl ?_)
                            refine wp_of e172 c172_201 (xg_I (pc' := 204) lf_9_101 w13652 g0 sh_42 (by decide) (by decide) ty_42_12 rfl rfl (fun b13727 b13728 => ?_))
                            refine wp_of e172 c172_204 (rw_imulw (pc' := 205) rfl ?_)
                            obtain ⟨v13729, e13730⟩ : ∃ x : Int, x = wq_w (10 * (H13649 r0 12)) := ⟨_, rfl⟩
                            rw [← e13730]
                            have b13731 : -2147483648 ≤ v13729 ∧ v13729 ≤ 2147483647 := by
                              rw [e13730]
                              exact wI_w _
                            have b13732 : (-2147483648 ≤ 10 * (H13649 r0 12) ∧ 10 * (H13649 r0 12) ≤ 2147483647) → v13729 = 10 * (H13649 r0 12) := fun h => by rw [e13730]; exact wq_w_id h
                            refine wp_of e172 c172_205 (rw_aload_n (pc' := 206) (v := .ref r0) rfl rfl rfl ?_)
                            refine wp_of e172 c172_206 (rw_aload_n (pc' := 207) (v := .ref r0) rfl rfl rfl ?_)
                            refine wp_of e172 c172_207 (xg_I (pc' := 210) lf_9_78 w13652 g0 sh_42 (by decide) (by decide) ty_42_8 rfl rfl (fun b13733 b13734 => ?_))
                            refine wp_of e172 c172_210 (xc_V (pc' := 213) (r := r0) (as := [vI (H13649 r0 8)]) (st := [vI v13729, .ref r0]) (lm_9_81) rfl rfl (Nat.le_of_ble_eq_true rfl) w13652 g0 sh_42 (by decide) rfl (by decide) (u_173 (B := B) (n := n) (y := p13650) w13652 g0 ⟨b13733, b13734⟩ q13667 grb (by omega) (by omega) h13669) (fun R13735 T13736 H13737 p13738 => ?_))
                            obtain ⟨e13739, e13741, z13742, e13740, b13743, p13744⟩ := p13738
                            subst e13739
                            subst e13740
                            subst e13741
                            rcases p13744 with ⟨a13745, a13746⟩ | ⟨a13747, a13748, a13749, a13750⟩
                            · exfalso
                              omega
                            · show wp _ _ 172 213 [(2, vI v13648), (0, .ref r0)] [vI z13742, vI v13729, .ref r0] _ H13649 _
                              refine wp_of e172 c172_213 (rw_iaddw (pc' := 214) rfl ?_)
                              obtain ⟨v13751, e13752⟩ : ∃ x : Int, x = wq_w (v13729 + z13742) := ⟨_, rfl⟩
                              rw [← e13752]
                              have b13753 : -2147483648 ≤ v13751 ∧ v13751 ≤ 2147483647 := by
                                rw [e13752]
                                exact wI_w _
                              have b13754 : (-2147483648 ≤ v13729 + z13742 ∧ v13729 + z13742 ≤ 2147483647) → v13751 = v13729 + z13742 := fun h => by rw [e13752]; exact wq_w_id h
                              refine wp_of e172 c172_214 (rw_bipush (pc' := 216) (z := 48) rfl (by decide) ?_)
                              refine wp_of e172 c172_216 (rw_isubw (pc' := 217) rfl ?_)
                              obtain ⟨v13755, e13756⟩ : ∃ x : Int, x = wq_w (v13751 - 48) := ⟨_, rfl⟩
                              rw [← e13756]
                              have b13757 : -2147483648 ≤ v13755 ∧ v13755 ≤ 2147483647 := by
                                rw [e13756]
                                exact wI_w _
                              have b13758 : (-2147483648 ≤ v13751 - 48 ∧ v13751 - 48 ≤ 2147483647) → v13755 = v13751 - 48 := fun h => by rw [e13756]; exact wq_w_id h
                              refine wp_of e172 c172_217 (xp_I (pc' := 220) lf_9_101 w13652 g0 sh_42 (by decide) (by decide) ty_42_12 rfl rfl (b13757.1) (b13757.2) ⟨b13757.1, b13757.2⟩ rfl (fun H13759 e13760 w13761 => ?_))
                              have f13762 := f13662.put' e13760 g0 rfl
                              have f13763 := f13663.put' e13760 g0 rfl
                              have f13764 := f13653.put' e13760 g0 rfl
                              have k13765 : H13759 r0 12 = v13755 := wq_u_s e13760
                              refine wp_of e172 c172_220 (rw_iinc (pc' := 223) (z := v13648) (L' := [(2, vI (v13648 + 1)), (0, .ref r0)]) rfl rfl rfl rfl ?_)
                              refine wp_of e172 c172_223 (rw_aload_n (pc' := 224) (v := .ref r0) rfl rfl rfl ?_)
                              refine wp_of e172 c172_224 (rw_dup (pc' := 225) rfl rfl ?_)
                              have k13766 : H13759 r0 8 = H13649 r0 8 := (wq_u_j e13760 rfl)
                              refine wp_of e172 c172_225 (xg_I (pc' := 228) lf_9_78 w13761 g0 sh_42 (by decide) (by decide) ty_42_8 rfl rfl (fun b13767 b13768 => ?_))
                              refine wp_of e172 c172_228 (rw_iconst (pc' := 229) rfl ?_)
                              refine wp_of e172 c172_229 (rw_iadd (pc' := 230) rfl ?_)
                              refine wp_of e172 c172_230 (xp_I (pc' := 233) lf_9_78 w13761 g0 sh_42 (by decide) (by decide) ty_42_8 rfl rfl (by omega) (by omega) ⟨by omega, by omega⟩ rfl (fun H13769 e13770 w13771 => ?_))
                              have f13772 := f13762.put' e13770 g0 rfl
                              have f13773 := f13763.put' e13770 g0 rfl
                              have f13774 := f13764.put' e13770 g0 rfl
                              have k13775 : H13769 r0 8 = (H13759 r0 8) + 1 := wq_u_s e13770
                              refine wp_of e172 c172_233 (rw_goto (p1 := 178) (by decide) ?_)
                              have k13776 : H13769 r0 12 = H13759 r0 12 := (wq_u_j e13770 rfl)
                              have := @xG_s 48 57 B n p13650 (by omega) (by omega) (by omega)
                              have := @xkf_s B q 10 48 p13650 (by omega)
                              exact wp_lc (ks := [2, 0]) (wl_c rfl (wl_c rfl wl_n)) rfl (by decide) (ih13647 _ (by omega) (v13648 + 1) H13769 ((p13650 + 1)) w13771 f13774 ⟨by omega, by omega⟩ (by omega) (by omega) (by omega) (by omega) (by omega) (by omega) rfl)
                      · show wp _ _ 172 189 [(2, vI v13648), (0, .ref r0)] [vI z13708] _ H13649 _
                        refine wp_of e172 c172_189 (rw_if_eq (p1 := 236) (p2 := 192) (by decide) rfl ⟨Int.le_trans (by decide) b13709.1, Int.le_trans b13709.2 (by decide)⟩ (fun c13777 => ?_) (fun c13777 => ?_))
                        · have := @xG_e 48 57 B n p13650 (by omega)
                          have := @xV_of B n q p13650
                          exact wp_lc (ks := [2, 0]) (wl_c rfl (wl_c rfl wl_n)) rfl (by decide) (jn12144 v13648 H13649 w13652 f13663 ⟨by omega, by omega⟩ (by omega) (by omega) (by omega))
                        · exfalso
                          omega
                have := @xkf_q B q q 10 48
                exact wp_lc (ks := [2, 1, 0]) (wl_c rfl (wl_c rfl wl_n)) rfl (by decide) (lp13645 _ 0 H12176 q w12178 wfr.rf ⟨by decide, by decide⟩ (by omega) (by omega) (by omega) (by omega) (by omega) (by omega) rfl)
            · show wp _ _ 172 170 [(2, vI 0), (1, vI z7543), (0, .ref r0)] [vI z10558] _ H7524 _
              refine wp_of e172 c172_170 (rw_if_eq (p1 := 249) (p2 := 173) (by decide) rfl ⟨Int.le_trans (by decide) b10559.1, Int.le_trans b10559.2 (by decide)⟩ (fun c13778 => ?_) (fun c13778 => ?_))
              · refine wp_of e172 c172_249 (rw_iload_n (pc' := 250) (z := z7543) rfl rfl ?_)
                refine wp_of e172 c172_250 (rw_bipush (pc' := 252) (z := 59) rfl (by decide) ?_)
                refine wp_of e172 c172_252 (rw_icmp_eq (p1 := 261) (p2 := 255) (by decide) rfl ⟨b7544.1, b7544.2⟩ ⟨by decide, by decide⟩ (fun c13779 => ?_) (fun c13779 => ?_))
                · refine wp_of e172 c172_261 (rw_aload_n (pc' := 262) (v := .ref r0) rfl rfl rfl ?_)
                  refine wp_of e172 c172_262 (rw_iconst (pc' := 263) rfl ?_)
                  refine wp_of e172 c172_263 (xp_I (pc' := 266) lf_9_75 w7526 g0 sh_42 (by decide) (by decide) ty_42_9 rfl rfl (by decide) (by decide) ⟨by decide, by decide⟩ rfl (fun H13780 e13781 w13782 => ?_))
                  have f13783 := f7527.put' e13781 g0 rfl
                  have k13784 : H13780 r0 9 = 4 := wq_u_s e13781
                  refine wp_of e172 c172_266 (rw_aload_n (pc' := 267) (v := .ref r0) rfl rfl rfl ?_)
                  refine wp_of e172 c172_267 (rw_iload_n (pc' := 268) (z := z7543) rfl rfl ?_)
                  refine wp_of e172 c172_268 (xp_I (pc' := 271) lf_9_87 w13782 g0 sh_42 (by decide) (by decide) ty_42_11 rfl rfl (b7544.1) (b7544.2) ⟨b7544.1, b7544.2⟩ rfl (fun H13785 e13786 w13787 => ?_))
                  have f13788 := f13783.put' e13786 g0 rfl
                  have k13789 : H13785 r0 11 = z7543 := wq_u_s e13786
                  refine wp_of e172 c172_271 (rw_aload_n (pc' := 272) (v := .ref r0) rfl rfl rfl ?_)
                  refine wp_of e172 c172_272 (rw_dup (pc' := 273) rfl rfl ?_)
                  have k13790 : H13785 r0 8 = H7524 r0 8 := ((wq_u_j e13786 rfl).trans (wq_u_j e13781 rfl))
                  refine wp_of e172 c172_273 (xg_I (pc' := 276) lf_9_78 w13787 g0 sh_42 (by decide) (by decide) ty_42_8 rfl rfl (fun b13791 b13792 => ?_))
                  refine wp_of e172 c172_276 (rw_iconst (pc' := 277) rfl ?_)
                  refine wp_of e172 c172_277 (rw_iadd (pc' := 278) rfl ?_)
                  refine wp_of e172 c172_278 (xp_I (pc' := 281) lf_9_78 w13787 g0 sh_42 (by decide) (by decide) ty_42_8 rfl rfl (by omega) (by omega) ⟨by omega, by omega⟩ rfl (fun H13793 e13794 w13795 => ?_))
                  have f13796 := f13788.put' e13794 g0 rfl
                  have k13797 : H13793 r0 8 = (H13785 r0 8) + 1 := wq_u_s e13794
                  have k13798 : H13793 r0 9 = H13780 r0 9 := ((wq_u_j e13794 rfl).trans (wq_u_j e13786 rfl))
                  have k13799 : H13793 r0 7 = H7524 r0 7 := ((wq_u_j e13794 rfl).trans ((wq_u_j e13786 rfl).trans (wq_u_j e13781 rfl)))
                  have k13800 : H13793 r0 13 = H r0 13 := ((wq_u_j e13794 rfl).trans ((wq_u_j e13786 rfl).trans ((wq_u_j e13781 rfl).trans ((wq_u_j e7525 rfl).trans ((wq_u_j e7520 rfl).trans ((wq_u_j e7515 rfl).trans (f7509 r0 13 _ g0 rfl)))))))
                  have k13801 : H13793 r0 10 = H7514 r0 10 := ((wq_u_j e13794 rfl).trans ((wq_u_j e13786 rfl).trans ((wq_u_j e13781 rfl).trans ((wq_u_j e7525 rfl).trans (wq_u_j e7520 rfl)))))
                  have k13802 : H13793 r0 11 = H13785 r0 11 := (wq_u_j e13794 rfl)
                  obtain ⟨kk, hk⟩ : ∃ x : Int, xK B n q = x := ⟨_, rfl⟩
                  obtain ⟨ke, he⟩ : ∃ x : Int, xE B n q = x := ⟨_, rfl⟩
                  first
                    | have hl := @xM1 B n q (by omega -splitDisjunctions) (by omega -splitDisjunctions) (by omega -splitDisjunctions) (by omega -splitDisjunctions)
                    | have hl := @xM5 B n q (by omega -splitDisjunctions) (by omega -splitDisjunctions) (by omega -splitDisjunctions) (by omega -splitDisjunctions)
                    | have hl := @xM2 B n q (by omega -splitDisjunctions) (by omega -splitDisjunctions) (by omega -splitDisjunctions) (by omega -splitDisjunctions)
                    | have hl := @xM6 B n q (by omega -splitDisjunctions) (by omega -splitDisjunctions) (by omega -splitDisjunctions) (by omega -splitDisjunctions)
                    | have hl := @xM0 B n q (by omega -splitDisjunctions)
                    | have hl := @xM3 B n q (by omega -splitDisjunctions) (by omega -splitDisjunctions)
                    | have hl := @xM4 B n q (by omega -splitDisjunctions) (by omega -splitDisjunctions)
                    | have hl := @xM7 B n q (by omega -splitDisjunctions) (by omega) (by omega) (by omega) (by omega)
                    | have hl := @xM1 B n q (by omega) (by omega) (by omega) (by omega)
                    | have hl := @xM5 B n q (by omega) (by omega) (by omega) (by omega)
                    | have hl := @xM2 B n q (by omega) (by omega) (by omega) (by omega)
                    | have hl := @xM6 B n q (by omega) (by omega) (by omega) (by omega)
                    | have hl := @xM0 B n q (by omega)
                    | have hl := @xM3 B n q (by omega) (by omega)
                    | have hl := @xM4 B n q (by omega) (by omega)
                    | have hl := @xM7 B n q (by omega) (by omega) (by omega) (by omega) (by omega)
                  have hk2 := hl.1.symm
                  have he2 := hl.2.symm
                  rw [hk] at hk2
                  rw [he] at he2
                  have k13803 : H13793 r0 5 = H7524 r0 5 := ((wq_u_j e13794 rfl).trans ((wq_u_j e13786 rfl).trans (wq_u_j e13781 rfl)))
                  have q13804 : H13793 r0 5 = (rb : Int) := k13803.trans q7533
                  have h13805 : TM T H13793 rb B := (TM_fr w13787 grb ((wfr.rf (l := [(42, 8)])).put' e13794 g0 rfl) rfl (TM_fr w13782 grb ((wfr.rf (l := [(42, 11)])).put' e13786 g0 rfl) rfl (TM_fr w7526 grb ((wfr.rf (l := [(42, 9)])).put' e13781 g0 rfl) rfl h7535)))
                  exact wp_return e172 c172_281 rfl ⟨rfl, w13795, f13796, rfl, (RC_mk q13804 grb h13805 (by omega) (by rw [hk, ← hk2]; omega) (by omega) (by omega) (by omega) (by omega) (by omega))⟩
                · refine wp_of e172 c172_255 (rw_iload_n (pc' := 256) (z := z7543) rfl rfl ?_)
                  refine wp_of e172 c172_256 (rw_bipush (pc' := 258) (z := 44) rfl (by decide) ?_)
                  refine wp_of e172 c172_258 (rw_icmp_ne (p1 := 281) (p2 := 261) (by decide) rfl ⟨b7544.1, b7544.2⟩ ⟨by decide, by decide⟩ (fun c13806 => ?_) (fun c13806 => ?_))
                  · have k13807 : H7524 r0 9 = H7519 r0 9 := (wq_u_j e7525 rfl)
                    have k13808 : H7524 r0 13 = H r0 13 := ((wq_u_j e7525 rfl).trans ((wq_u_j e7520 rfl).trans ((wq_u_j e7515 rfl).trans (f7509 r0 13 _ g0 rfl))))
                    have k13809 : H7524 r0 10 = H7514 r0 10 := ((wq_u_j e7525 rfl).trans (wq_u_j e7520 rfl))
                    obtain ⟨kk, hk⟩ : ∃ x : Int, xK B n q = x := ⟨_, rfl⟩
                    obtain ⟨ke, he⟩ : ∃ x : Int, xE B n q = x := ⟨_, rfl⟩
                    first
                      | have hl := @xM1 B n q (by omega -splitDisjunctions) (by omega -splitDisjunctions) (by omega -splitDisjunctions) (by omega -splitDisjunctions)
                      | have hl := @xM5 B n q (by omega -splitDisjunctions) (by omega -splitDisjunctions) (by omega -splitDisjunctions) (by omega -splitDisjunctions)
                      | have hl := @xM2 B n q (by omega -splitDisjunctions) (by omega -splitDisjunctions) (by omega -splitDisjunctions) (by omega -splitDisjunctions)
                      | have hl := @xM6 B n q (by omega -splitDisjunctions) (by omega -splitDisjunctions) (by omega -splitDisjunctions) (by omega -splitDisjunctions)
                      | have hl := @xM0 B n q (by omega -splitDisjunctions)
                      | have hl := @xM3 B n q (by omega -splitDisjunctions) (by omega -splitDisjunctions)
                      | have hl := @xM4 B n q (by omega -splitDisjunctions) (by omega -splitDisjunctions)
                      | have hl := @xM7 B n q (by omega -splitDisjunctions) (by omega) (by omega) (by omega) (by omega)
                      | have hl := @xM1 B n q (by omega) (by omega) (by omega) (by omega)
                      | have hl := @xM5 B n q (by omega) (by omega) (by omega) (by omega)
                      | have hl := @xM2 B n q (by omega) (by omega) (by omega) (by omega)
                      | have hl := @xM6 B n q (by omega) (by omega) (by omega) (by omega)
                      | have hl := @xM0 B n q (by omega)
                      | have hl := @xM3 B n q (by omega) (by omega)
                      | have hl := @xM4 B n q (by omega) (by omega)
                      | have hl := @xM7 B n q (by omega) (by omega) (by omega) (by omega) (by omega)
                    have hk2 := hl.1.symm
                    have he2 := hl.2.symm
                    rw [hk] at hk2
                    rw [he] at he2
                    exact wp_return e172 c172_281 rfl ⟨rfl, w7526, f7527, rfl, (RC_mk q7533 grb h7535 (by omega) (by rw [hk, ← hk2]; omega) (by omega) (by omega) (by omega) (by omega) (by omega))⟩
                  · refine wp_of e172 c172_261 (rw_aload_n (pc' := 262) (v := .ref r0) rfl rfl rfl ?_)
                    refine wp_of e172 c172_262 (rw_iconst (pc' := 263) rfl ?_)
                    refine wp_of e172 c172_263 (xp_I (pc' := 266) lf_9_75 w7526 g0 sh_42 (by decide) (by decide) ty_42_9 rfl rfl (by decide) (by decide) ⟨by decide, by decide⟩ rfl (fun H13810 e13811 w13812 => ?_))
                    have f13813 := f7527.put' e13811 g0 rfl
                    have k13814 : H13810 r0 9 = 4 := wq_u_s e13811
                    refine wp_of e172 c172_266 (rw_aload_n (pc' := 267) (v := .ref r0) rfl rfl rfl ?_)
                    refine wp_of e172 c172_267 (rw_iload_n (pc' := 268) (z := z7543) rfl rfl ?_)
                    refine wp_of e172 c172_268 (xp_I (pc' := 271) lf_9_87 w13812 g0 sh_42 (by decide) (by decide) ty_42_11 rfl rfl (b7544.1) (b7544.2) ⟨b7544.1, b7544.2⟩ rfl (fun H13815 e13816 w13817 => ?_))
                    have f13818 := f13813.put' e13816 g0 rfl
                    have k13819 : H13815 r0 11 = z7543 := wq_u_s e13816
                    refine wp_of e172 c172_271 (rw_aload_n (pc' := 272) (v := .ref r0) rfl rfl rfl ?_)
                    refine wp_of e172 c172_272 (rw_dup (pc' := 273) rfl rfl ?_)
                    have k13820 : H13815 r0 8 = H7524 r0 8 := ((wq_u_j e13816 rfl).trans (wq_u_j e13811 rfl))
                    refine wp_of e172 c172_273 (xg_I (pc' := 276) lf_9_78 w13817 g0 sh_42 (by decide) (by decide) ty_42_8 rfl rfl (fun b13821 b13822 => ?_))
                    refine wp_of e172 c172_276 (rw_iconst (pc' := 277) rfl ?_)
                    refine wp_of e172 c172_277 (rw_iadd (pc' := 278) rfl ?_)
                    refine wp_of e172 c172_278 (xp_I (pc' := 281) lf_9_78 w13817 g0 sh_42 (by decide) (by decide) ty_42_8 rfl rfl (by omega) (by omega) ⟨by omega, by omega⟩ rfl (fun H13823 e13824 w13825 => ?_))
                    have f13826 := f13818.put' e13824 g0 rfl
                    have k13827 : H13823 r0 8 = (H13815 r0 8) + 1 := wq_u_s e13824
                    have k13828 : H13823 r0 9 = H13810 r0 9 := ((wq_u_j e13824 rfl).trans (wq_u_j e13816 rfl))
                    have k13829 : H13823 r0 7 = H7524 r0 7 := ((wq_u_j e13824 rfl).trans ((wq_u_j e13816 rfl).trans (wq_u_j e13811 rfl)))
                    have k13830 : H13823 r0 13 = H r0 13 := ((wq_u_j e13824 rfl).trans ((wq_u_j e13816 rfl).trans ((wq_u_j e13811 rfl).trans ((wq_u_j e7525 rfl).trans ((wq_u_j e7520 rfl).trans ((wq_u_j e7515 rfl).trans (f7509 r0 13 _ g0 rfl)))))))
                    have k13831 : H13823 r0 10 = H7514 r0 10 := ((wq_u_j e13824 rfl).trans ((wq_u_j e13816 rfl).trans ((wq_u_j e13811 rfl).trans ((wq_u_j e7525 rfl).trans (wq_u_j e7520 rfl)))))
                    have k13832 : H13823 r0 11 = H13815 r0 11 := (wq_u_j e13824 rfl)
                    obtain ⟨kk, hk⟩ : ∃ x : Int, xK B n q = x := ⟨_, rfl⟩
                    obtain ⟨ke, he⟩ : ∃ x : Int, xE B n q = x := ⟨_, rfl⟩
                    first
                      | have hl := @xM1 B n q (by omega -splitDisjunctions) (by omega -splitDisjunctions) (by omega -splitDisjunctions) (by omega -splitDisjunctions)
                      | have hl := @xM5 B n q (by omega -splitDisjunctions) (by omega -splitDisjunctions) (by omega -splitDisjunctions) (by omega -splitDisjunctions)
                      | have hl := @xM2 B n q (by omega -splitDisjunctions) (by omega -splitDisjunctions) (by omega -splitDisjunctions) (by omega -splitDisjunctions)
                      | have hl := @xM6 B n q (by omega -splitDisjunctions) (by omega -splitDisjunctions) (by omega -splitDisjunctions) (by omega -splitDisjunctions)
                      | have hl := @xM0 B n q (by omega -splitDisjunctions)
                      | have hl := @xM3 B n q (by omega -splitDisjunctions) (by omega -splitDisjunctions)
                      | have hl := @xM4 B n q (by omega -splitDisjunctions) (by omega -splitDisjunctions)
                      | have hl := @xM7 B n q (by omega -splitDisjunctions) (by omega) (by omega) (by omega) (by omega)
                      | have hl := @xM1 B n q (by omega) (by omega) (by omega) (by omega)
                      | have hl := @xM5 B n q (by omega) (by omega) (by omega) (by omega)
                      | have hl := @xM2 B n q (by omega) (by omega) (by omega) (by omega)
                      | have hl := @xM6 B n q (by omega) (by omega) (by omega) (by omega)
                      | have hl := @xM0 B n q (by omega)
                      | have hl := @xM3 B n q (by omega) (by omega)
                      | have hl := @xM4 B n q (by omega) (by omega)
                      | have hl := @xM7 B n q (by omega) (by omega) (by omega) (by omega) (by omega)
                    have hk2 := hl.1.symm
                    have he2 := hl.2.symm
                    rw [hk] at hk2
                    rw [he] at he2
                    have k13833 : H13823 r0 5 = H7524 r0 5 := ((wq_u_j e13824 rfl).trans ((wq_u_j e13816 rfl).trans (wq_u_j e13811 rfl)))
                    have q13834 : H13823 r0 5 = (rb : Int) := k13833.trans q7533
                    have h13835 : TM T H13823 rb B := (TM_fr w13817 grb ((wfr.rf (l := [(42, 8)])).put' e13824 g0 rfl) rfl (TM_fr w13812 grb ((wfr.rf (l := [(42, 11)])).put' e13816 g0 rfl) rfl (TM_fr w7526 grb ((wfr.rf (l := [(42, 9)])).put' e13811 g0 rfl) rfl h7535)))
                    exact wp_return e172 c172_281 rfl ⟨rfl, w13825, f13826, rfl, (RC_mk q13834 grb h13835 (by omega) (by rw [hk, ← hk2]; omega) (by omega) (by omega) (by omega) (by omega) (by omega))⟩
              · exfalso
                omega
          · exfalso
            omega
      · exfalso
        omega
  have f13836 : wfr [(42, 8)] T H H := wfr.rf
  refine wp_of e172 c172_5 (rw_icmp_ne (p1 := 9) (p2 := 8) (by decide) rfl ⟨Int.le_trans (by decide) b7411, Int.le_trans b7412 (by decide)⟩ ⟨by decide, by decide⟩ (fun c13837 => ?_) (fun c13837 => ?_))
  · have lp13901 : ∀ (n13902 : Nat)  (H13904 : wq_H) (p13905 : Int), WT T H13904 → wfr [(42, 8)] T H H13904 → (H13904 r0 8 = p13905) → (xG 32 32 B n p13905 = q) → (p13905 ≤ n) → (a ≤ p13905) → (900 - p13905).toNat = n13902 → wp kt 1 172 9 [(0, .ref r0)] [] T H13904 (uq_172_k r0 rb B n a q T H) := by
      intro n13902
      induction n13902 using Nat.strongRecOn with
      | _ n13902 ih13903 =>
        intro H13904 p13905 w13906 f13907 x13909 x13910 x13911 x13912 m13908
        have f13913 := f0.tr f13907 rfl
        have f13914 := f13836.tr f13907 rfl
        refine wp_of e172 c172_9 (rw_aload_n (pc' := 10) (v := .ref r0) rfl rfl rfl ?_)
        refine wp_of e172 c172_10 (rw_aload_n (pc' := 11) (v := .ref r0) rfl rfl rfl ?_)
        refine wp_of e172 c172_11 (xg_I (pc' := 14) lf_9_78 w13906 g0 sh_42 (by decide) (by decide) ty_42_8 rfl rfl (fun b13915 b13916 => ?_))
        have k13917 : H13904 r0 5 = H r0 5 := (f13907 r0 5 _ g0 rfl)
        have q13918 : H13904 r0 5 = (rb : Int) := k13917.trans qrb
        have k13919 : H13904 r0 7 = H r0 7 := (f13907 r0 7 _ g0 rfl)
        have h13920 : TM T H13904 rb B := (TM_fr hW grb f13907 rfl hTM_rb)
        refine wp_of e172 c172_14 (xc_V (pc' := 17) (r := r0) (as := [vI (H13904 r0 8)]) (st := []) (lm_9_81) rfl rfl (Nat.le_of_ble_eq_true rfl) w13906 g0 sh_42 (by decide) rfl (by decide) (u_173 (B := B) (n := n) (y := p13905) w13906 g0 ⟨b13915, b13916⟩ q13918 grb (by omega) (by omega) h13920) (fun R13921 T13922 H13923 p13924 => ?_))
        obtain ⟨e13925, e13927, z13928, e13926, b13929, p13930⟩ := p13924
        subst e13925
        subst e13926
        subst e13927
        rcases p13930 with ⟨a13931, a13932⟩ | ⟨a13933, a13934, a13935, a13936⟩
        · show wp _ _ 172 17 [(0, .ref r0)] [vI z13928] _ H13904 _
          refine wp_of e172 c172_17 (rw_bipush (pc' := 19) (z := 32) rfl (by decide) ?_)
          refine wp_of e172 c172_19 (rw_icmp_ne (p1 := 35) (p2 := 22) (by decide) rfl ⟨b13929.1, b13929.2⟩ ⟨by decide, by decide⟩ (fun c13937 => ?_) (fun c13937 => ?_))
          · have := @xG_e 32 32 B n p13905 (by omega)
            exact wp_lc (ks := [0]) (wl_c rfl wl_n) rfl (by decide) (jn7507 H13904 w13906 f13914 (by omega))
          · exfalso
            omega
        · show wp _ _ 172 17 [(0, .ref r0)] [vI z13928] _ H13904 _
          refine wp_of e172 c172_17 (rw_bipush (pc' := 19) (z := 32) rfl (by decide) ?_)
          refine wp_of e172 c172_19 (rw_icmp_ne (p1 := 35) (p2 := 22) (by decide) rfl ⟨b13929.1, b13929.2⟩ ⟨by decide, by decide⟩ (fun c13938 => ?_) (fun c13938 => ?_))
          · have := @xG_e 32 32 B n p13905 (by omega)
            exact wp_lc (ks := [0]) (wl_c rfl wl_n) rfl (by decide) (jn7507 H13904 w13906 f13914 (by omega))
          · refine wp_of e172 c172_22 (rw_aload_n (pc' := 23) (v := .ref r0) rfl rfl rfl ?_)
            refine wp_of e172 c172_23 (rw_dup (pc' := 24) rfl rfl ?_)
            refine wp_of e172 c172_24 (xg_I (pc' := 27) lf_9_78 w13906 g0 sh_42 (by decide) (by decide) ty_42_8 rfl rfl (fun b13939 b13940 => ?_))
            refine wp_of e172 c172_27 (rw_iconst (pc' := 28) rfl ?_)
            refine wp_of e172 c172_28 (rw_iadd (pc' := 29) rfl ?_)
            refine wp_of e172 c172_29 (xp_I (pc' := 32) lf_9_78 w13906 g0 sh_42 (by decide) (by decide) ty_42_8 rfl rfl (by omega) (by omega) ⟨by omega, by omega⟩ rfl (fun H13941 e13942 w13943 => ?_))
            have f13944 := f13913.put' e13942 g0 rfl
            have f13945 := f13914.put' e13942 g0 rfl
            have f13946 := f13907.put' e13942 g0 rfl
            have k13947 : H13941 r0 8 = (H13904 r0 8) + 1 := wq_u_s e13942
            refine wp_of e172 c172_32 (rw_goto (p1 := 9) (by decide) ?_)
            have := @xG_s 32 32 B n p13905 (by omega) (by omega) (by omega)
            exact wp_lc (ks := [0]) (wl_c rfl wl_n) rfl (by decide) (ih13903 _ (by omega) H13941 ((p13905 + 1)) w13943 f13946 (by omega) (by omega) (by omega) (by omega) rfl)
    exact wp_lc (ks := [0]) (wl_c rfl wl_n) rfl (by decide) (lp13901 _ H a hW wfr.rf (by omega) (by omega) (by omega) (by omega) rfl)
  · exfalso
    omega
/-! StrikeAwakeModel.goesOn()V o -/
abbrev uq_172_o (r0 : Nat) (fo : Int) (po : Int) (T : wq_T) (H : wq_H) : Option Value → wq_T → wq_H → Prop := fun r T' H' => T = T' ∧ H = H' ∧ none = r ∧ ((RO T H r0 fo po))
set_option maxHeartbeats 4000000 in
theorem u_172_o {kt : Nat → Option mc_E} {T : wq_T} {H : wq_H} {r0 : Nat} {fo : Int} {po : Int} (hW : WT T H) (g0 : T.2.2.2 r0 = some 42) (hRO_r0 : RO T H r0 fo po) : wpc kt 2 172 [.ref r0] T H (uq_172_o r0 fo po T H) := by
  refine wp_enter e172 (Nat.le_of_ble_eq_true rfl) rfl ?_
  show wp _ _ 172 0 [(0, .ref r0)] [] _ H _
  have u1004 := RO_k hRO_r0
  refine wp_of e172 c172_0 (rw_aload_n (pc' := 1) (v := .ref r0) rfl rfl rfl ?_)
  refine wp_of e172 c172_1 (xg_I (pc' := 4) lf_9_75 hW g0 sh_42 (by decide) (by decide) ty_42_9 rfl rfl (fun b1005 b1006 => ?_))
  refine wp_of e172 c172_4 (rw_iconst (pc' := 5) rfl ?_)
  refine wp_of e172 c172_5 (rw_icmp_ne (p1 := 9) (p2 := 8) (by decide) rfl ⟨Int.le_trans (by decide) b1005, Int.le_trans b1006 (by decide)⟩ ⟨by decide, by decide⟩ (fun c1007 => ?_) (fun c1007 => ?_))
  · exfalso
    omega
  · exact wp_return e172 c172_8 rfl ⟨rfl, rfl, rfl, (hRO_r0)⟩
/-! StrikeAwakeModel.wrong(I)V k -/
abbrev uq_181_k (r0 : Nat) (a1 : Int) (B : Nat → Int) (n : Int) (q : Int) (T : wq_T) (H : wq_H) : Option Value → wq_T → wq_H → Prop := fun r T' H' => T = T' ∧ WT T H' ∧ wfr [(42, 9), (42, 13), (42, 14)] T H H' ∧ none = r ∧ ((RO T H' r0 a1 q))
set_option maxHeartbeats 4000000 in
theorem u_181_k {kt : Nat → Option mc_E} {T : wq_T} {H : wq_H} {r0 : Nat} {a1 : Int} {B : Nat → Int} {n : Int} {q : Int} (hW : WT T H) (g0 : T.2.2.2 r0 = some 42) (i1 : (-2147483648) ≤ a1 ∧ a1 ≤ 2147483647) (p0 : 1 ≤ a1) (hRC_r0 : RC T H r0 B n q) : wpc kt 1 181 [.ref r0, vI a1] T H (uq_181_k r0 a1 B n q T H) := by
  refine wp_enter e181 (Nat.le_of_ble_eq_true rfl) rfl ?_
  have f0 : wfr [(42, 9), (42, 13), (42, 14)] T H H := wfr.rf
  show wp _ _ 181 0 [(0, .ref r0), (1, vI a1)] [] _ H _
  have u1022 := RC_k hRC_r0
  refine wp_of e181 c181_0 (rw_aload_n (pc' := 1) (v := .ref r0) rfl rfl rfl ?_)
  refine wp_of e181 c181_1 (xg_I (pc' := 4) lf_9_75 hW g0 sh_42 (by decide) (by decide) ty_42_9 rfl rfl (fun b1023 b1024 => ?_))
  refine wp_of e181 c181_4 (rw_iconst (pc' := 5) rfl ?_)
  refine wp_of e181 c181_5 (rw_icmp_ne (p1 := 9) (p2 := 8) (by decide) rfl ⟨Int.le_trans (by decide) b1023, Int.le_trans b1024 (by decide)⟩ ⟨by decide, by decide⟩ (fun c1025 => ?_) (fun c1025 => ?_))
  · refine wp_of e181 c181_9 (rw_aload_n (pc' := 10) (v := .ref r0) rfl rfl rfl ?_)
    refine wp_of e181 c181_10 (rw_iload_n (pc' := 11) (z := a1) rfl rfl ?_)
    refine wp_of e181 c181_11 (xp_I (pc' := 14) lf_9_104 hW g0 sh_42 (by decide) (by decide) ty_42_13 rfl rfl (i1.1) (i1.2) ⟨i1.1, i1.2⟩ rfl (fun H1026 e1027 w1028 => ?_))
    have f1029 := f0.put' e1027 g0 rfl
    have k1030 : H1026 r0 13 = a1 := wq_u_s e1027
    refine wp_of e181 c181_14 (rw_aload_n (pc' := 15) (v := .ref r0) rfl rfl rfl ?_)
    refine wp_of e181 c181_15 (rw_aload_n (pc' := 16) (v := .ref r0) rfl rfl rfl ?_)
    have k1031 : H1026 r0 10 = H r0 10 := (wq_u_j e1027 rfl)
    refine wp_of e181 c181_16 (xg_I (pc' := 19) lf_9_84 w1028 g0 sh_42 (by decide) (by decide) ty_42_10 rfl rfl (fun b1032 b1033 => ?_))
    refine wp_of e181 c181_19 (xp_I (pc' := 22) lf_9_107 w1028 g0 sh_42 (by decide) (by decide) ty_42_14 rfl rfl (b1032) (b1033) ⟨b1032, b1033⟩ rfl (fun H1034 e1035 w1036 => ?_))
    have f1037 := f1029.put' e1035 g0 rfl
    have k1038 : H1034 r0 14 = H1026 r0 10 := wq_u_s e1035
    refine wp_of e181 c181_22 (rw_aload_n (pc' := 23) (v := .ref r0) rfl rfl rfl ?_)
    refine wp_of e181 c181_23 (rw_iconst (pc' := 24) rfl ?_)
    refine wp_of e181 c181_24 (xp_I (pc' := 27) lf_9_75 w1036 g0 sh_42 (by decide) (by decide) ty_42_9 rfl rfl (by decide) (by decide) ⟨by decide, by decide⟩ rfl (fun H1039 e1040 w1041 => ?_))
    have f1042 := f1037.put' e1040 g0 rfl
    have k1043 : H1039 r0 9 = 5 := wq_u_s e1040
    have k1044 : H1039 r0 13 = H1026 r0 13 := ((wq_u_j e1040 rfl).trans (wq_u_j e1035 rfl))
    have k1045 : H1039 r0 14 = H1034 r0 14 := (wq_u_j e1040 rfl)
    exact wp_return e181 c181_27 rfl ⟨rfl, w1041, f1042, rfl, (⟨by omega, by omega, by omega, by omega⟩)⟩
  · exfalso
    omega
/-! StrikeAwakeModel.wrong(I)V o -/
abbrev uq_181_o (r0 : Nat) (a1 : Int) (fo : Int) (po : Int) (T : wq_T) (H : wq_H) : Option Value → wq_T → wq_H → Prop := fun r T' H' => T = T' ∧ H = H' ∧ none = r ∧ ((RO T H r0 fo po))
set_option maxHeartbeats 4000000 in
theorem u_181_o {kt : Nat → Option mc_E} {T : wq_T} {H : wq_H} {r0 : Nat} {a1 : Int} {fo : Int} {po : Int} (hW : WT T H) (g0 : T.2.2.2 r0 = some 42) (i1 : (-2147483648) ≤ a1 ∧ a1 ≤ 2147483647) (hRO_r0 : RO T H r0 fo po) : wpc kt 1 181 [.ref r0, vI a1] T H (uq_181_o r0 a1 fo po T H) := by
  refine wp_enter e181 (Nat.le_of_ble_eq_true rfl) rfl ?_
  show wp _ _ 181 0 [(0, .ref r0), (1, vI a1)] [] _ H _
  have u1004 := RO_k hRO_r0
  refine wp_of e181 c181_0 (rw_aload_n (pc' := 1) (v := .ref r0) rfl rfl rfl ?_)
  refine wp_of e181 c181_1 (xg_I (pc' := 4) lf_9_75 hW g0 sh_42 (by decide) (by decide) ty_42_9 rfl rfl (fun b1005 b1006 => ?_))
  refine wp_of e181 c181_4 (rw_iconst (pc' := 5) rfl ?_)
  refine wp_of e181 c181_5 (rw_icmp_ne (p1 := 9) (p2 := 8) (by decide) rfl ⟨Int.le_trans (by decide) b1005, Int.le_trans b1006 (by decide)⟩ ⟨by decide, by decide⟩ (fun c1007 => ?_) (fun c1007 => ?_))
  · exfalso
    omega
  · exact wp_return e181 c181_8 rfl ⟨rfl, rfl, rfl, (hRO_r0)⟩
/-! StrikeAwakeModel.wordOf(Ljava/lang/String;)J  -/
abbrev uq_179 (s0 : Nat) (kk : Int) (T : wq_T) (H : wq_H) : Option Value → wq_T → wq_H → Prop := fun r T' H' => T = T' ∧ H = H' ∧ ∃ z : Int, some (vL z) = r ∧ ((-9223372036854775808) ≤ z ∧ z ≤ 9223372036854775807) ∧ (((z = kk)))
set_option maxHeartbeats 4000000 in
theorem u_179 {kt : Nat → Option mc_E} {T : wq_T} {H : wq_H} {s0 : Nat} {t0 : List Int32} {kk : Int} (hW : WT T H) (h0 : mc_find mc_sb s0 = some t0) (p0 : wkw t0 t0.length = kk) : wpc kt 1 179 [.ref s0] T H (uq_179 s0 kk T H) := by
  refine wp_enter e179 (Nat.le_of_ble_eq_true rfl) rfl ?_
  show wp _ _ 179 0 [(0, .ref s0)] [] _ H _
  refine wp_of e179 c179_0 (rw_lconst (pc' := 1) (z := 0) rfl rfl ?_)
  refine wp_of e179 c179_1 (rw_lstore_n (pc' := 2) (z := 0) (L' := [(1, vL 0), (0, .ref s0)]) rfl rfl rfl ?_)
  refine wp_of e179 c179_2 (rw_iconst (pc' := 3) rfl ?_)
  refine wp_of e179 c179_3 (rw_istore_n (pc' := 4) (z := 0) (L' := [(3, vI 0), (1, vL 0), (0, .ref s0)]) rfl rfl rfl ?_)
  have lp1182 : ∀ (n1183 : Nat) (v1185 : Int) (v1186 : Int), (0 ≤ v1185 ∧ v1185 ≤ 63) → ((-9223372036854775808) ≤ v1186 ∧ v1186 ≤ 9223372036854775807) → (v1186 = wkw t0 (v1185).toNat) → (v1185 ≤ (t0.length : Int)) → (63 - v1185).toNat = n1183 → wp kt 0 179 4 [(3, vI v1185), (1, vL v1186), (0, .ref s0)] [] T H (uq_179 s0 kk T H) := by
    intro n1183
    induction n1183 using Nat.strongRecOn with
    | _ n1183 ih1184 =>
      intro v1185 v1186 b1189 b1190 x1191 x1192 m1193
      refine wp_of e179 c179_4 (rw_iload_n (pc' := 5) (z := v1185) rfl rfl ?_)
      refine wp_of e179 c179_5 (rw_aload_n (pc' := 6) (v := .ref s0) rfl rfl rfl ?_)
      refine wp_of e179 c179_6 (rw_slen (pc' := 9) rfl rfl rfl h0 (Nat.le_of_ble_eq_true rfl) rfl ?_)
      have k1194 := (mc_sb_k h0).2.1
      show wp _ _ 179 9 [(3, vI v1185), (1, vL v1186), (0, .ref s0)] [vI ((t0.length : Int)), vI v1185] _ H _
      refine wp_of e179 c179_9 (rw_icmp_ge (p1 := 36) (p2 := 12) (by decide) rfl ⟨Int.le_trans (by decide) b1189.1, Int.le_trans b1189.2 (by decide)⟩ ⟨by omega, by omega⟩ (fun c1195 => ?_) (fun c1195 => ?_))
      · have : wkw t0 (v1185).toNat = kk := by
          rw [show (v1185).toNat = t0.length by omega]
          exact p0
        refine wp_of e179 c179_36 (rw_lload_n (pc' := 37) (z := v1186) rfl rfl ?_)
        exact wp_lreturn e179 c179_37 rfl ⟨rfl, rfl, v1186, rfl, ⟨b1190.1, b1190.2⟩, (by omega)⟩
      · refine wp_of e179 c179_12 (rw_ldc2 (pc' := 15) (z := 32) rfl rfl rfl ?_)
        refine wp_of e179 c179_15 (rw_lload_n (pc' := 16) (z := v1186) rfl rfl ?_)
        refine wp_of e179 c179_16 (rw_lmulw (pc' := 17) rfl ?_)
        obtain ⟨v1196, e1197⟩ : ∃ x : Int, x = wl_w (32 * v1186) := ⟨_, rfl⟩
        rw [← e1197]
        have b1198 : -9223372036854775808 ≤ v1196 ∧ v1196 ≤ 9223372036854775807 := by
          rw [e1197]
          exact wL_w _
        have b1199 : (-9223372036854775808 ≤ 32 * v1186 ∧ 32 * v1186 ≤ 9223372036854775807) → v1196 = 32 * v1186 := fun h => by rw [e1197]; exact wl_w_id h
        refine wp_of e179 c179_17 (rw_aload_n (pc' := 18) (v := .ref s0) rfl rfl rfl ?_)
        refine wp_of e179 c179_18 (rw_iload_n (pc' := 19) (z := v1185) rfl rfl ?_)
        refine wp_of e179 c179_19 (rw_schr (pc' := 22) rfl rfl rfl h0 (by omega) (by omega) (Nat.le_of_ble_eq_true rfl) rfl ?_)
        obtain ⟨v1200, e1201⟩ : ∃ x : Int, x = (t0.getD (v1185).toNat 0).toInt := ⟨_, rfl⟩
        rw [← e1201]
        have b1202 : -2147483648 ≤ v1200 ∧ v1200 ≤ 2147483647 := by
          rw [e1201]
          exact wI_of _
        refine wp_of e179 c179_22 (rw_bipush (pc' := 24) (z := 97) rfl (by decide) ?_)
        refine wp_of e179 c179_24 (rw_isubw (pc' := 25) rfl ?_)
        obtain ⟨v1203, e1204⟩ : ∃ x : Int, x = wq_w (v1200 - 97) := ⟨_, rfl⟩
        rw [← e1204]
        have b1205 : -2147483648 ≤ v1203 ∧ v1203 ≤ 2147483647 := by
          rw [e1204]
          exact wI_w _
        have b1206 : (-2147483648 ≤ v1200 - 97 ∧ v1200 - 97 ≤ 2147483647) → v1203 = v1200 - 97 := fun h => by rw [e1204]; exact wq_w_id h
        refine wp_of e179 c179_25 (rw_iconst (pc' := 26) rfl ?_)
        refine wp_of e179 c179_26 (rw_iaddw (pc' := 27) rfl ?_)
        obtain ⟨v1207, e1208⟩ : ∃ x : Int, x = wq_w (v1203 + 1) := ⟨_, rfl⟩
        rw [← e1208]
        have b1209 : -2147483648 ≤ v1207 ∧ v1207 ≤ 2147483647 := by
          rw [e1208]
          exact wI_w _
        have b1210 : (-2147483648 ≤ v1203 + 1 ∧ v1203 + 1 ≤ 2147483647) → v1207 = v1203 + 1 := fun h => by rw [e1208]; exact wq_w_id h
        refine wp_of e179 c179_27 (rw_i2l (pc' := 28) rfl ⟨b1209.1, b1209.2⟩ ?_)
        refine wp_of e179 c179_28 (rw_laddw (pc' := 29) rfl ?_)
        obtain ⟨v1211, e1212⟩ : ∃ x : Int, x = wl_w (v1196 + v1207) := ⟨_, rfl⟩
        rw [← e1212]
        have b1213 : -9223372036854775808 ≤ v1211 ∧ v1211 ≤ 9223372036854775807 := by
          rw [e1212]
          exact wL_w _
        have b1214 : (-9223372036854775808 ≤ v1196 + v1207 ∧ v1196 + v1207 ≤ 9223372036854775807) → v1211 = v1196 + v1207 := fun h => by rw [e1212]; exact wl_w_id h
        refine wp_of e179 c179_29 (rw_lstore_n (pc' := 30) (z := v1211) (L' := [(1, vL v1211), (3, vI v1185), (0, .ref s0)]) rfl rfl rfl ?_)
        refine wp_of e179 c179_30 (rw_iinc (pc' := 33) (z := v1185) (L' := [(3, vI (v1185 + 1)), (1, vL v1211), (0, .ref s0)]) rfl rfl rfl rfl ?_)
        refine wp_of e179 c179_33 (rw_goto (p1 := 4) (by decide) ?_)
        have : wkw t0 (v1185 + 1).toNat = v1211 := by
          subst_vars
          exact wkw_m (by omega)
        exact wp_lc (ks := [3, 1, 0]) (wl_c rfl (wl_c rfl (wl_c rfl wl_n))) rfl (by decide) (ih1184 _ (by omega) (v1185 + 1) v1211 ⟨by omega, by omega⟩ ⟨b1213.1, b1213.2⟩ (by omega) (by omega) rfl)
  have : wkw t0 (0 : Int).toNat = 0 := rfl
  exact wp_lc (ks := [3, 1, 0]) (wl_c rfl (wl_c rfl (wl_c rfl wl_n))) rfl (by decide) (lp1182 _ 0 0 ⟨by decide, by decide⟩ ⟨by decide, by decide⟩ (by omega) (by omega) rfl)
/-! StrikeAwakeModel.isWord(Ljava/lang/String;)Z k -/
abbrev uq_178_k (r0 : Nat) (s1 : Nat) (B : Nat → Int) (n : Int) (q : Int) (kk : Int) (T : wq_T) (H : wq_H) : Option Value → wq_T → wq_H → Prop := fun r T' H' => T = T' ∧ H = H' ∧ ∃ z : Int, some (vI z) = r ∧ (0 ≤ z ∧ z ≤ 1) ∧ (((z = 1) ∧ (xw B n q kk = 0) ∧ (xK B n q = 1)) ∨ ((z = 0) ∧ (xw B n q kk = 1)))
set_option maxHeartbeats 4000000 in
theorem u_178_k {kt : Nat → Option mc_E} {T : wq_T} {H : wq_H} {r0 : Nat} {s1 : Nat} {t1 : List Int32} {B : Nat → Int} {n : Int} {q : Int} {kk : Int} (hW : WT T H) (g0 : T.2.2.2 r0 = some 42) (h1 : mc_find mc_sb s1 = some t1) (p0 : wkw t1 t1.length = kk) (hRC_r0 : RC T H r0 B n q) : wpc kt 2 178 [.ref r0, .ref s1] T H (uq_178_k r0 s1 B n q kk T H) := by
  refine wp_enter e178 (Nat.le_of_ble_eq_true rfl) rfl ?_
  show wp _ _ 178 0 [(0, .ref r0), (1, .ref s1)] [] _ H _
  have u1019 := RC_k hRC_r0
  have _s := RC_s hRC_r0
  have _w := @xw_b B n q kk
  refine wp_of e178 c178_0 (rw_aload_n (pc' := 1) (v := .ref r0) rfl rfl rfl ?_)
  refine wp_of e178 c178_1 (xg_I (pc' := 4) lf_9_75 hW g0 sh_42 (by decide) (by decide) ty_42_9 rfl rfl (fun b1020 b1021 => ?_))
  refine wp_of e178 c178_4 (rw_iconst (pc' := 5) rfl ?_)
  refine wp_of e178 c178_5 (rw_icmp_ne (p1 := 24) (p2 := 8) (by decide) rfl ⟨Int.le_trans (by decide) b1020, Int.le_trans b1021 (by decide)⟩ ⟨by decide, by decide⟩ (fun c1022 => ?_) (fun c1022 => ?_))
  · refine wp_of e178 c178_24 (rw_iconst (pc' := 25) rfl ?_)
    exact wp_zreturn e178 c178_25 rfl (by omega) ⟨rfl, rfl, 0, rfl, ⟨by decide, by decide⟩, (Or.inr ⟨by omega, by omega⟩)⟩
  · refine wp_of e178 c178_8 (rw_aload_n (pc' := 9) (v := .ref r0) rfl rfl rfl ?_)
    refine wp_of e178 c178_9 (xg_L (pc' := 12) lf_9_94 hW g0 sh_42 (by decide) (by decide) ty_42_15 rfl rfl (fun b1023 b1024 => ?_))
    refine wp_of e178 c178_12 (rw_aload_n (pc' := 13) (v := .ref s1) rfl rfl rfl ?_)
    refine wp_of e178 c178_13 (xc_S (pc' := 16) (as := [.ref s1]) (st := [vL (H r0 15)]) (lm_9_110) rfl rfl (Nat.le_of_ble_eq_true rfl) rfl (by decide) (u_179 (kk := kk) hW h1 (by assumption)) (fun R1025 T1026 H1027 p1028 => ?_))
    obtain ⟨e1029, e1031, z1032, e1030, b1033, p1034⟩ := p1028
    subst e1029
    subst e1030
    subst e1031
    show wp _ _ 178 16 [(0, .ref r0), (1, .ref s1)] [vL z1032, vL (H r0 15)] _ H _
    refine wp_of e178 c178_16 (rw_lcmp (pc' := 17) rfl ⟨b1023, b1024⟩ ⟨b1033.1, b1033.2⟩ ?_)
    have b1036 := wq_cmp_b (H r0 15) z1032
    refine wp_of e178 c178_17 (rw_if_ne (p1 := 24) (p2 := 20) (by decide) rfl ⟨by omega, by omega⟩ (fun c1037 => ?_) (fun c1037 => ?_))
    · refine wp_of e178 c178_24 (rw_iconst (pc' := 25) rfl ?_)
      exact wp_zreturn e178 c178_25 rfl (by omega) ⟨rfl, rfl, 0, rfl, ⟨by decide, by decide⟩, (Or.inr ⟨by omega, by omega⟩)⟩
    · refine wp_of e178 c178_20 (rw_iconst (pc' := 21) rfl ?_)
      refine wp_of e178 c178_21 (rw_goto (p1 := 25) (by decide) ?_)
      exact wp_zreturn e178 c178_25 rfl (by omega) ⟨rfl, rfl, 1, rfl, ⟨by decide, by decide⟩, (Or.inl ⟨by omega, by omega, by omega⟩)⟩
/-! StrikeAwakeModel.isWord(Ljava/lang/String;)Z o -/
abbrev uq_178_o (r0 : Nat) (s1 : Nat) (fo : Int) (po : Int) (kk : Int) (T : wq_T) (H : wq_H) : Option Value → wq_T → wq_H → Prop := fun r T' H' => T = T' ∧ H = H' ∧ ∃ z : Int, some (vI z) = r ∧ (0 ≤ z ∧ z ≤ 1) ∧ (((z = 0)))
set_option maxHeartbeats 4000000 in
theorem u_178_o {kt : Nat → Option mc_E} {T : wq_T} {H : wq_H} {r0 : Nat} {s1 : Nat} {t1 : List Int32} {fo : Int} {po : Int} {kk : Int} (hW : WT T H) (g0 : T.2.2.2 r0 = some 42) (h1 : mc_find mc_sb s1 = some t1) (p0 : wkw t1 t1.length = kk) (hRO_r0 : RO T H r0 fo po) : wpc kt 2 178 [.ref r0, .ref s1] T H (uq_178_o r0 s1 fo po kk T H) := by
  refine wp_enter e178 (Nat.le_of_ble_eq_true rfl) rfl ?_
  show wp _ _ 178 0 [(0, .ref r0), (1, .ref s1)] [] _ H _
  have u1004 := RO_k hRO_r0
  refine wp_of e178 c178_0 (rw_aload_n (pc' := 1) (v := .ref r0) rfl rfl rfl ?_)
  refine wp_of e178 c178_1 (xg_I (pc' := 4) lf_9_75 hW g0 sh_42 (by decide) (by decide) ty_42_9 rfl rfl (fun b1005 b1006 => ?_))
  refine wp_of e178 c178_4 (rw_iconst (pc' := 5) rfl ?_)
  refine wp_of e178 c178_5 (rw_icmp_ne (p1 := 24) (p2 := 8) (by decide) rfl ⟨Int.le_trans (by decide) b1005, Int.le_trans b1006 (by decide)⟩ ⟨by decide, by decide⟩ (fun c1007 => ?_) (fun c1007 => ?_))
  · refine wp_of e178 c178_24 (rw_iconst (pc' := 25) rfl ?_)
    exact wp_zreturn e178 c178_25 rfl (by omega) ⟨rfl, rfl, 0, rfl, ⟨by decide, by decide⟩, (by omega)⟩
  · exfalso
    omega
/-! StrikeAwakeModel.eatsWord(Ljava/lang/String;)Z k -/
abbrev uq_192_k (r0 : Nat) (s1 : Nat) (rb : Nat) (B : Nat → Int) (n : Int) (q : Int) (kk : Int) (T : wq_T) (H : wq_H) : Option Value → wq_T → wq_H → Prop := fun r T' H' => T = T' ∧ WT T H' ∧ wfr [(42, 8), (42, 9), (42, 10), (42, 11), (42, 12), (42, 15)] T H H' ∧ ∃ z : Int, some (vI z) = r ∧ (0 ≤ z ∧ z ≤ 1) ∧ (((z = 1) ∧ (xw B n q kk = 0) ∧ RC T H' r0 B n (xN B n q)) ∨ ((z = 0) ∧ (xw B n q kk = 1) ∧ RC T H' r0 B n q))
set_option maxHeartbeats 4000000 in
theorem u_192_k {kt : Nat → Option mc_E} {T : wq_T} {H : wq_H} {r0 : Nat} {s1 : Nat} {t1 : List Int32} {rb : Nat} {B : Nat → Int} {n : Int} {q : Int} {kk : Int} (hW : WT T H) (g0 : T.2.2.2 r0 = some 42) (h1 : mc_find mc_sb s1 = some t1) (qrb : H r0 5 = (rb : Int)) (grb : T.2.2.2 rb = some 43) (p0 : wkw t1 t1.length = kk) (hRC_r0 : RC T H r0 B n q) : wpc kt 3 192 [.ref r0, .ref s1] T H (uq_192_k r0 s1 rb B n q kk T H) := by
  refine wp_enter e192 (Nat.le_of_ble_eq_true rfl) rfl ?_
  have f0 : wfr [(42, 8), (42, 9), (42, 10), (42, 11), (42, 12), (42, 15)] T H H := wfr.rf
  show wp _ _ 192 0 [(0, .ref r0), (1, .ref s1)] [] _ H _
  have u1029 := RC_k hRC_r0
  refine wp_of e192 c192_0 (rw_aload_n (pc' := 1) (v := .ref r0) rfl rfl rfl ?_)
  refine wp_of e192 c192_1 (rw_aload_n (pc' := 2) (v := .ref s1) rfl rfl rfl ?_)
  refine wp_of e192 c192_2 (xc_V (pc' := 5) (r := r0) (as := [.ref s1]) (st := []) (lm_9_114) rfl rfl (Nat.le_of_ble_eq_true rfl) hW g0 sh_42 (by decide) rfl (by decide) (u_178_k (B := B) (n := n) (q := q) (kk := kk) hW g0 h1 (by assumption) hRC_r0) (fun R1030 T1031 H1032 p1033 => ?_))
  obtain ⟨e1034, e1036, z1037, e1035, b1038, p1039⟩ := p1033
  subst e1034
  subst e1035
  subst e1036
  rcases p1039 with ⟨a1040, a1041, a1042⟩ | ⟨a1043, a1044⟩
  · show wp _ _ 192 5 [(0, .ref r0), (1, .ref s1)] [vI z1037] _ H _
    refine wp_of e192 c192_5 (rw_istore_n (pc' := 6) (z := z1037) (L' := [(2, vI z1037), (0, .ref r0), (1, .ref s1)]) rfl rfl rfl ?_)
    refine wp_of e192 c192_6 (rw_iload_n (pc' := 7) (z := z1037) rfl rfl ?_)
    refine wp_of e192 c192_7 (rw_if_eq (p1 := 14) (p2 := 10) (by decide) rfl ⟨Int.le_trans (by decide) b1038.1, Int.le_trans b1038.2 (by decide)⟩ (fun c1045 => ?_) (fun c1045 => ?_))
    · exfalso
      omega
    · refine wp_of e192 c192_10 (rw_aload_n (pc' := 11) (v := .ref r0) rfl rfl rfl ?_)
      have u1046 := RC_a hRC_r0
      have h1047 : TM T H rb B := RC_tm hRC_r0 qrb
      refine wp_of e192 c192_11 (xc_V (pc' := 14) (r := r0) (as := []) (st := []) (lm_9_118) rfl rfl (Nat.le_of_ble_eq_true rfl) hW g0 sh_42 (by decide) rfl (by decide) (u_172_k (B := B) (n := n) (a := (xE B n q)) (q := (xN B n q)) hW g0 qrb grb (by omega) (by omega) (by omega) (by omega) (by omega) (rfl) h1047) (fun R1048 T1049 H1050 p1051 => ?_))
      obtain ⟨e1052, w1054, f1055, e1053, p1056⟩ := p1051
      subst e1052
      subst e1053
      have f1058 := f0.tr f1055 rfl
      show wp _ _ 192 14 [(2, vI z1037), (0, .ref r0), (1, .ref s1)] [] _ H1050 _
      have u1059 := RC_k p1056
      refine wp_of e192 c192_14 (rw_iload_n (pc' := 15) (z := z1037) rfl rfl ?_)
      exact wp_zreturn e192 c192_15 rfl (by omega) ⟨rfl, w1054, f1058, z1037, rfl, ⟨b1038.1, b1038.2⟩, (Or.inl ⟨by omega, by omega, p1056⟩)⟩
  · show wp _ _ 192 5 [(0, .ref r0), (1, .ref s1)] [vI z1037] _ H _
    refine wp_of e192 c192_5 (rw_istore_n (pc' := 6) (z := z1037) (L' := [(2, vI z1037), (0, .ref r0), (1, .ref s1)]) rfl rfl rfl ?_)
    refine wp_of e192 c192_6 (rw_iload_n (pc' := 7) (z := z1037) rfl rfl ?_)
    refine wp_of e192 c192_7 (rw_if_eq (p1 := 14) (p2 := 10) (by decide) rfl ⟨Int.le_trans (by decide) b1038.1, Int.le_trans b1038.2 (by decide)⟩ (fun c1060 => ?_) (fun c1060 => ?_))
    · refine wp_of e192 c192_14 (rw_iload_n (pc' := 15) (z := z1037) rfl rfl ?_)
      exact wp_zreturn e192 c192_15 rfl (by omega) ⟨rfl, hW, f0, z1037, rfl, ⟨b1038.1, b1038.2⟩, (Or.inr ⟨by omega, by omega, hRC_r0⟩)⟩
    · exfalso
      omega
/-! StrikeAwakeModel.eatsWord(Ljava/lang/String;)Z o -/
abbrev uq_192_o (r0 : Nat) (s1 : Nat) (rb : Nat) (fo : Int) (po : Int) (kk : Int) (T : wq_T) (H : wq_H) : Option Value → wq_T → wq_H → Prop := fun r T' H' => T = T' ∧ H = H' ∧ ∃ z : Int, some (vI z) = r ∧ (0 ≤ z ∧ z ≤ 1) ∧ (((z = 0) ∧ RO T H r0 fo po))
set_option maxHeartbeats 4000000 in
theorem u_192_o {kt : Nat → Option mc_E} {T : wq_T} {H : wq_H} {r0 : Nat} {s1 : Nat} {t1 : List Int32} {rb : Nat} {fo : Int} {po : Int} {kk : Int} (hW : WT T H) (g0 : T.2.2.2 r0 = some 42) (h1 : mc_find mc_sb s1 = some t1) (qrb : H r0 5 = (rb : Int)) (grb : T.2.2.2 rb = some 43) (p0 : wkw t1 t1.length = kk) (hRO_r0 : RO T H r0 fo po) : wpc kt 3 192 [.ref r0, .ref s1] T H (uq_192_o r0 s1 rb fo po kk T H) := by
  refine wp_enter e192 (Nat.le_of_ble_eq_true rfl) rfl ?_
  show wp _ _ 192 0 [(0, .ref r0), (1, .ref s1)] [] _ H _
  have u1013 := RO_k hRO_r0
  refine wp_of e192 c192_0 (rw_aload_n (pc' := 1) (v := .ref r0) rfl rfl rfl ?_)
  refine wp_of e192 c192_1 (rw_aload_n (pc' := 2) (v := .ref s1) rfl rfl rfl ?_)
  refine wp_of e192 c192_2 (xc_V (pc' := 5) (r := r0) (as := [.ref s1]) (st := []) (lm_9_114) rfl rfl (Nat.le_of_ble_eq_true rfl) hW g0 sh_42 (by decide) rfl (by decide) (u_178_o (fo := fo) (po := po) (kk := kk) hW g0 h1 (by assumption) hRO_r0) (fun R1014 T1015 H1016 p1017 => ?_))
  obtain ⟨e1018, e1020, z1021, e1019, b1022, p1023⟩ := p1017
  subst e1018
  subst e1019
  subst e1020
  show wp _ _ 192 5 [(0, .ref r0), (1, .ref s1)] [vI z1021] _ H _
  refine wp_of e192 c192_5 (rw_istore_n (pc' := 6) (z := z1021) (L' := [(2, vI z1021), (0, .ref r0), (1, .ref s1)]) rfl rfl rfl ?_)
  refine wp_of e192 c192_6 (rw_iload_n (pc' := 7) (z := z1021) rfl rfl ?_)
  refine wp_of e192 c192_7 (rw_if_eq (p1 := 14) (p2 := 10) (by decide) rfl ⟨Int.le_trans (by decide) b1022.1, Int.le_trans b1022.2 (by decide)⟩ (fun c1025 => ?_) (fun c1025 => ?_))
  · refine wp_of e192 c192_14 (rw_iload_n (pc' := 15) (z := z1021) rfl rfl ?_)
    exact wp_zreturn e192 c192_15 rfl (by omega) ⟨rfl, rfl, z1021, rfl, ⟨b1022.1, b1022.2⟩, ⟨by omega, hRO_r0⟩⟩
  · exfalso
    omega
/-! StrikeAwakeModel.eatsSign(I)Z k -/
abbrev uq_204_k (r0 : Nat) (a1 : Int) (rb : Nat) (B : Nat → Int) (n : Int) (q : Int) (kd : Int) (T : wq_T) (H : wq_H) : Option Value → wq_T → wq_H → Prop := fun r T' H' => T = T' ∧ WT T H' ∧ wfr [(42, 8), (42, 9), (42, 10), (42, 11), (42, 12), (42, 15)] T H H' ∧ ∃ z : Int, some (vI z) = r ∧ (0 ≤ z ∧ z ≤ 1) ∧ (((z = 1) ∧ (xk B n q kd = 0) ∧ (xK B n q = kd) ∧ RC T H' r0 B n (xN B n q)) ∨ ((z = 0) ∧ (xk B n q kd = 1) ∧ (xK B n q ≠ kd) ∧ RC T H' r0 B n q))
set_option maxHeartbeats 4000000 in
theorem u_204_k {kt : Nat → Option mc_E} {T : wq_T} {H : wq_H} {r0 : Nat} {a1 : Int} {rb : Nat} {B : Nat → Int} {n : Int} {q : Int} {kd : Int} (hW : WT T H) (g0 : T.2.2.2 r0 = some 42) (i1 : (-2147483648) ≤ a1 ∧ a1 ≤ 2147483647) (qrb : H r0 5 = (rb : Int)) (grb : T.2.2.2 rb = some 43) (p0 : (a1 = 59 ∧ kd = 3) ∨ (a1 = 44 ∧ kd = 4)) (hRC_r0 : RC T H r0 B n q) : wpc kt 3 204 [.ref r0, vI a1] T H (uq_204_k r0 a1 rb B n q kd T H) := by
  refine wp_enter e204 (Nat.le_of_ble_eq_true rfl) rfl ?_
  have f0 : wfr [(42, 8), (42, 9), (42, 10), (42, 11), (42, 12), (42, 15)] T H H := wfr.rf
  show wp _ _ 204 0 [(0, .ref r0), (1, vI a1)] [] _ H _
  have u1021 := RC_k hRC_r0
  have _s := RC_s hRC_r0
  have _k := @xk_b B n q kd
  refine wp_of e204 c204_0 (rw_aload_n (pc' := 1) (v := .ref r0) rfl rfl rfl ?_)
  refine wp_of e204 c204_1 (xg_I (pc' := 4) lf_9_75 hW g0 sh_42 (by decide) (by decide) ty_42_9 rfl rfl (fun b1022 b1023 => ?_))
  refine wp_of e204 c204_4 (rw_iconst (pc' := 5) rfl ?_)
  refine wp_of e204 c204_5 (rw_icmp_ne (p1 := 20) (p2 := 8) (by decide) rfl ⟨Int.le_trans (by decide) b1022, Int.le_trans b1023 (by decide)⟩ ⟨by decide, by decide⟩ (fun c1024 => ?_) (fun c1024 => ?_))
  · refine wp_of e204 c204_20 (rw_iconst (pc' := 21) rfl ?_)
    refine wp_of e204 c204_21 (rw_istore_n (pc' := 22) (z := 0) (L' := [(2, vI 0), (0, .ref r0), (1, vI a1)]) rfl rfl rfl ?_)
    refine wp_of e204 c204_22 (rw_iload_n (pc' := 23) (z := 0) rfl rfl ?_)
    refine wp_of e204 c204_23 (rw_if_eq (p1 := 30) (p2 := 26) (by decide) rfl ⟨by decide, by decide⟩ (fun c1025 => ?_) (fun c1025 => ?_))
    · refine wp_of e204 c204_30 (rw_iload_n (pc' := 31) (z := 0) rfl rfl ?_)
      exact wp_zreturn e204 c204_31 rfl (by omega) ⟨rfl, hW, f0, 0, rfl, ⟨by decide, by decide⟩, (Or.inr ⟨by omega, by omega, by omega, hRC_r0⟩)⟩
    · exfalso
      omega
  · refine wp_of e204 c204_8 (rw_aload_n (pc' := 9) (v := .ref r0) rfl rfl rfl ?_)
    refine wp_of e204 c204_9 (xg_I (pc' := 12) lf_9_87 hW g0 sh_42 (by decide) (by decide) ty_42_11 rfl rfl (fun b1026 b1027 => ?_))
    refine wp_of e204 c204_12 (rw_iload_n (pc' := 13) (z := a1) rfl rfl ?_)
    refine wp_of e204 c204_13 (rw_icmp_ne (p1 := 20) (p2 := 16) (by decide) rfl ⟨b1026, b1027⟩ ⟨i1.1, i1.2⟩ (fun c1028 => ?_) (fun c1028 => ?_))
    · refine wp_of e204 c204_20 (rw_iconst (pc' := 21) rfl ?_)
      refine wp_of e204 c204_21 (rw_istore_n (pc' := 22) (z := 0) (L' := [(2, vI 0), (0, .ref r0), (1, vI a1)]) rfl rfl rfl ?_)
      refine wp_of e204 c204_22 (rw_iload_n (pc' := 23) (z := 0) rfl rfl ?_)
      refine wp_of e204 c204_23 (rw_if_eq (p1 := 30) (p2 := 26) (by decide) rfl ⟨by decide, by decide⟩ (fun c1029 => ?_) (fun c1029 => ?_))
      · refine wp_of e204 c204_30 (rw_iload_n (pc' := 31) (z := 0) rfl rfl ?_)
        exact wp_zreturn e204 c204_31 rfl (by omega) ⟨rfl, hW, f0, 0, rfl, ⟨by decide, by decide⟩, (Or.inr ⟨by omega, by omega, by omega, hRC_r0⟩)⟩
      · exfalso
        omega
    · refine wp_of e204 c204_16 (rw_iconst (pc' := 17) rfl ?_)
      refine wp_of e204 c204_17 (rw_goto (p1 := 21) (by decide) ?_)
      refine wp_of e204 c204_21 (rw_istore_n (pc' := 22) (z := 1) (L' := [(2, vI 1), (0, .ref r0), (1, vI a1)]) rfl rfl rfl ?_)
      refine wp_of e204 c204_22 (rw_iload_n (pc' := 23) (z := 1) rfl rfl ?_)
      refine wp_of e204 c204_23 (rw_if_eq (p1 := 30) (p2 := 26) (by decide) rfl ⟨by decide, by decide⟩ (fun c1030 => ?_) (fun c1030 => ?_))
      · exfalso
        omega
      · refine wp_of e204 c204_26 (rw_aload_n (pc' := 27) (v := .ref r0) rfl rfl rfl ?_)
        have u1031 := RC_a hRC_r0
        have h1032 : TM T H rb B := RC_tm hRC_r0 qrb
        refine wp_of e204 c204_27 (xc_V (pc' := 30) (r := r0) (as := []) (st := []) (lm_9_118) rfl rfl (Nat.le_of_ble_eq_true rfl) hW g0 sh_42 (by decide) rfl (by decide) (u_172_k (B := B) (n := n) (a := (xE B n q)) (q := (xN B n q)) hW g0 qrb grb (by omega) (by omega) (by omega) (by omega) (by omega) (rfl) h1032) (fun R1033 T1034 H1035 p1036 => ?_))
        obtain ⟨e1037, w1039, f1040, e1038, p1041⟩ := p1036
        subst e1037
        subst e1038
        have f1043 := f0.tr f1040 rfl
        show wp _ _ 204 30 [(2, vI 1), (0, .ref r0), (1, vI a1)] [] _ H1035 _
        have u1044 := RC_k p1041
        refine wp_of e204 c204_30 (rw_iload_n (pc' := 31) (z := 1) rfl rfl ?_)
        exact wp_zreturn e204 c204_31 rfl (by omega) ⟨rfl, w1039, f1043, 1, rfl, ⟨by decide, by decide⟩, (Or.inl ⟨by omega, by omega, by omega, p1041⟩)⟩
/-! StrikeAwakeModel.eatsSign(I)Z o -/
abbrev uq_204_o (r0 : Nat) (a1 : Int) (rb : Nat) (fo : Int) (po : Int) (T : wq_T) (H : wq_H) : Option Value → wq_T → wq_H → Prop := fun r T' H' => T = T' ∧ H = H' ∧ ∃ z : Int, some (vI z) = r ∧ (0 ≤ z ∧ z ≤ 1) ∧ (((z = 0) ∧ RO T H r0 fo po))
set_option maxHeartbeats 4000000 in
theorem u_204_o {kt : Nat → Option mc_E} {T : wq_T} {H : wq_H} {r0 : Nat} {a1 : Int} {rb : Nat} {fo : Int} {po : Int} (hW : WT T H) (g0 : T.2.2.2 r0 = some 42) (i1 : (-2147483648) ≤ a1 ∧ a1 ≤ 2147483647) (qrb : H r0 5 = (rb : Int)) (grb : T.2.2.2 rb = some 43) (hRO_r0 : RO T H r0 fo po) : wpc kt 3 204 [.ref r0, vI a1] T H (uq_204_o r0 a1 rb fo po T H) := by
  refine wp_enter e204 (Nat.le_of_ble_eq_true rfl) rfl ?_
  show wp _ _ 204 0 [(0, .ref r0), (1, vI a1)] [] _ H _
  have u1005 := RO_k hRO_r0
  refine wp_of e204 c204_0 (rw_aload_n (pc' := 1) (v := .ref r0) rfl rfl rfl ?_)
  refine wp_of e204 c204_1 (xg_I (pc' := 4) lf_9_75 hW g0 sh_42 (by decide) (by decide) ty_42_9 rfl rfl (fun b1006 b1007 => ?_))
  refine wp_of e204 c204_4 (rw_iconst (pc' := 5) rfl ?_)
  refine wp_of e204 c204_5 (rw_icmp_ne (p1 := 20) (p2 := 8) (by decide) rfl ⟨Int.le_trans (by decide) b1006, Int.le_trans b1007 (by decide)⟩ ⟨by decide, by decide⟩ (fun c1008 => ?_) (fun c1008 => ?_))
  · refine wp_of e204 c204_20 (rw_iconst (pc' := 21) rfl ?_)
    refine wp_of e204 c204_21 (rw_istore_n (pc' := 22) (z := 0) (L' := [(2, vI 0), (0, .ref r0), (1, vI a1)]) rfl rfl rfl ?_)
    refine wp_of e204 c204_22 (rw_iload_n (pc' := 23) (z := 0) rfl rfl ?_)
    refine wp_of e204 c204_23 (rw_if_eq (p1 := 30) (p2 := 26) (by decide) rfl ⟨by decide, by decide⟩ (fun c1009 => ?_) (fun c1009 => ?_))
    · refine wp_of e204 c204_30 (rw_iload_n (pc' := 31) (z := 0) rfl rfl ?_)
      exact wp_zreturn e204 c204_31 rfl (by omega) ⟨rfl, rfl, 0, rfl, ⟨by decide, by decide⟩, ⟨by omega, hRO_r0⟩⟩
    · exfalso
      omega
  · exfalso
    omega
/-! StrikeAwakeModel.needs(Ljava/lang/String;)V k -/
abbrev uq_183_k (r0 : Nat) (s1 : Nat) (rb : Nat) (B : Nat → Int) (n : Int) (q : Int) (kk : Int) (T : wq_T) (H : wq_H) : Option Value → wq_T → wq_H → Prop := fun r T' H' => T = T' ∧ WT T H' ∧ wfr [(42, 8), (42, 9), (42, 10), (42, 11), (42, 12), (42, 13), (42, 14), (42, 15)] T H H' ∧ none = r ∧ (((xw B n q kk = 0) ∧ RC T H' r0 B n (xN B n q)) ∨ ((xw B n q kk ≠ 0) ∧ RO T H' r0 (xw B n q kk) q))
set_option maxHeartbeats 4000000 in
theorem u_183_k {kt : Nat → Option mc_E} {T : wq_T} {H : wq_H} {r0 : Nat} {s1 : Nat} {t1 : List Int32} {rb : Nat} {B : Nat → Int} {n : Int} {q : Int} {kk : Int} (hW : WT T H) (g0 : T.2.2.2 r0 = some 42) (h1 : mc_find mc_sb s1 = some t1) (qrb : H r0 5 = (rb : Int)) (grb : T.2.2.2 rb = some 43) (p0 : wkw t1 t1.length = kk) (hRC_r0 : RC T H r0 B n q) : wpc kt 3 183 [.ref r0, .ref s1] T H (uq_183_k r0 s1 rb B n q kk T H) := by
  refine wp_enter e183 (Nat.le_of_ble_eq_true rfl) rfl ?_
  have f0 : wfr [(42, 8), (42, 9), (42, 10), (42, 11), (42, 12), (42, 13), (42, 14), (42, 15)] T H H := wfr.rf
  show wp _ _ 183 0 [(0, .ref r0), (1, .ref s1)] [] _ H _
  have u1049 := RC_k hRC_r0
  refine wp_of e183 c183_0 (rw_aload_n (pc' := 1) (v := .ref r0) rfl rfl rfl ?_)
  refine wp_of e183 c183_1 (rw_aload_n (pc' := 2) (v := .ref s1) rfl rfl rfl ?_)
  refine wp_of e183 c183_2 (xc_V (pc' := 5) (r := r0) (as := [.ref s1]) (st := []) (lm_9_114) rfl rfl (Nat.le_of_ble_eq_true rfl) hW g0 sh_42 (by decide) rfl (by decide) (u_178_k (B := B) (n := n) (q := q) (kk := kk) hW g0 h1 (by assumption) hRC_r0) (fun R1050 T1051 H1052 p1053 => ?_))
  obtain ⟨e1054, e1056, z1057, e1055, b1058, p1059⟩ := p1053
  subst e1054
  subst e1055
  subst e1056
  rcases p1059 with ⟨a1060, a1061, a1062⟩ | ⟨a1063, a1064⟩
  · show wp _ _ 183 5 [(0, .ref r0), (1, .ref s1)] [vI z1057] _ H _
    refine wp_of e183 c183_5 (rw_if_ne (p1 := 13) (p2 := 8) (by decide) rfl ⟨Int.le_trans (by decide) b1058.1, Int.le_trans b1058.2 (by decide)⟩ (fun c1065 => ?_) (fun c1065 => ?_))
    · refine wp_of e183 c183_13 (rw_aload_n (pc' := 14) (v := .ref r0) rfl rfl rfl ?_)
      have u1066 := RC_a hRC_r0
      have h1067 : TM T H rb B := RC_tm hRC_r0 qrb
      refine wp_of e183 c183_14 (xc_V (pc' := 17) (r := r0) (as := []) (st := []) (lm_9_118) rfl rfl (Nat.le_of_ble_eq_true rfl) hW g0 sh_42 (by decide) rfl (by decide) (u_172_k (B := B) (n := n) (a := (xE B n q)) (q := (xN B n q)) hW g0 qrb grb (by omega) (by omega) (by omega) (by omega) (by omega) (rfl) h1067) (fun R1068 T1069 H1070 p1071 => ?_))
      obtain ⟨e1072, w1074, f1075, e1073, p1076⟩ := p1071
      subst e1072
      subst e1073
      have f1078 := f0.tr f1075 rfl
      show wp _ _ 183 17 [(0, .ref r0), (1, .ref s1)] [] _ H1070 _
      have u1079 := RC_k p1076
      exact wp_return e183 c183_17 rfl ⟨rfl, w1074, f1078, rfl, (Or.inl ⟨by omega, p1076⟩)⟩
    · exfalso
      omega
  · show wp _ _ 183 5 [(0, .ref r0), (1, .ref s1)] [vI z1057] _ H _
    refine wp_of e183 c183_5 (rw_if_ne (p1 := 13) (p2 := 8) (by decide) rfl ⟨Int.le_trans (by decide) b1058.1, Int.le_trans b1058.2 (by decide)⟩ (fun c1080 => ?_) (fun c1080 => ?_))
    · exfalso
      omega
    · refine wp_of e183 c183_8 (rw_aload_n (pc' := 9) (v := .ref r0) rfl rfl rfl ?_)
      refine wp_of e183 c183_9 (rw_iconst (pc' := 10) rfl ?_)
      refine wp_of e183 c183_10 (xc_V (pc' := 13) (r := r0) (as := [vI 1]) (st := []) (lm_9_121) rfl rfl (Nat.le_of_ble_eq_true rfl) hW g0 sh_42 (by decide) rfl (by decide) (u_181_k (B := B) (n := n) (q := q) hW g0 ⟨by decide, by decide⟩ (by omega) hRC_r0) (fun R1081 T1082 H1083 p1084 => ?_))
      obtain ⟨e1085, w1087, f1088, e1086, p1089⟩ := p1084
      subst e1085
      subst e1086
      have f1091 := f0.tr f1088 rfl
      show wp _ _ 183 13 [(0, .ref r0), (1, .ref s1)] [] _ H1083 _
      have u1092 := RO_k p1089
      refine wp_of e183 c183_13 (rw_aload_n (pc' := 14) (v := .ref r0) rfl rfl rfl ?_)
      refine wp_of e183 c183_14 (xc_V (pc' := 17) (r := r0) (as := []) (st := []) (lm_9_118) rfl rfl (Nat.le_of_ble_eq_true rfl) w1087 g0 sh_42 (by decide) rfl (by decide) (u_172_o (fo := 1) (po := q) w1087 g0 p1089) (fun R1093 T1094 H1095 p1096 => ?_))
      obtain ⟨e1097, e1099, e1098, p1100⟩ := p1096
      subst e1097
      subst e1098
      subst e1099
      show wp _ _ 183 17 [(0, .ref r0), (1, .ref s1)] [] _ H1083 _
      have u1102 := RO_k p1100
      exact wp_return e183 c183_17 rfl ⟨rfl, w1087, f1091, rfl, (Or.inr ⟨by omega, RO_eq p1100 (by omega) (by omega)⟩)⟩
/-! StrikeAwakeModel.needs(Ljava/lang/String;)V o -/
abbrev uq_183_o (r0 : Nat) (s1 : Nat) (rb : Nat) (fo : Int) (po : Int) (kk : Int) (T : wq_T) (H : wq_H) : Option Value → wq_T → wq_H → Prop := fun r T' H' => T = T' ∧ H = H' ∧ none = r ∧ ((RO T H r0 fo po))
set_option maxHeartbeats 4000000 in
theorem u_183_o {kt : Nat → Option mc_E} {T : wq_T} {H : wq_H} {r0 : Nat} {s1 : Nat} {t1 : List Int32} {rb : Nat} {fo : Int} {po : Int} {kk : Int} (hW : WT T H) (g0 : T.2.2.2 r0 = some 42) (h1 : mc_find mc_sb s1 = some t1) (qrb : H r0 5 = (rb : Int)) (grb : T.2.2.2 rb = some 43) (p0 : wkw t1 t1.length = kk) (hRO_r0 : RO T H r0 fo po) : wpc kt 3 183 [.ref r0, .ref s1] T H (uq_183_o r0 s1 rb fo po kk T H) := by
  refine wp_enter e183 (Nat.le_of_ble_eq_true rfl) rfl ?_
  show wp _ _ 183 0 [(0, .ref r0), (1, .ref s1)] [] _ H _
  have u1031 := RO_k hRO_r0
  refine wp_of e183 c183_0 (rw_aload_n (pc' := 1) (v := .ref r0) rfl rfl rfl ?_)
  refine wp_of e183 c183_1 (rw_aload_n (pc' := 2) (v := .ref s1) rfl rfl rfl ?_)
  refine wp_of e183 c183_2 (xc_V (pc' := 5) (r := r0) (as := [.ref s1]) (st := []) (lm_9_114) rfl rfl (Nat.le_of_ble_eq_true rfl) hW g0 sh_42 (by decide) rfl (by decide) (u_178_o (fo := fo) (po := po) (kk := kk) hW g0 h1 (by assumption) hRO_r0) (fun R1032 T1033 H1034 p1035 => ?_))
  obtain ⟨e1036, e1038, z1039, e1037, b1040, p1041⟩ := p1035
  subst e1036
  subst e1037
  subst e1038
  show wp _ _ 183 5 [(0, .ref r0), (1, .ref s1)] [vI z1039] _ H _
  refine wp_of e183 c183_5 (rw_if_ne (p1 := 13) (p2 := 8) (by decide) rfl ⟨Int.le_trans (by decide) b1040.1, Int.le_trans b1040.2 (by decide)⟩ (fun c1043 => ?_) (fun c1043 => ?_))
  · exfalso
    omega
  · refine wp_of e183 c183_8 (rw_aload_n (pc' := 9) (v := .ref r0) rfl rfl rfl ?_)
    refine wp_of e183 c183_9 (rw_iconst (pc' := 10) rfl ?_)
    refine wp_of e183 c183_10 (xc_V (pc' := 13) (r := r0) (as := [vI 1]) (st := []) (lm_9_121) rfl rfl (Nat.le_of_ble_eq_true rfl) hW g0 sh_42 (by decide) rfl (by decide) (u_181_o (fo := fo) (po := po) hW g0 ⟨by decide, by decide⟩ hRO_r0) (fun R1044 T1045 H1046 p1047 => ?_))
    obtain ⟨e1048, e1050, e1049, p1051⟩ := p1047
    subst e1048
    subst e1049
    subst e1050
    show wp _ _ 183 13 [(0, .ref r0), (1, .ref s1)] [] _ H _
    have u1053 := RO_k p1051
    refine wp_of e183 c183_13 (rw_aload_n (pc' := 14) (v := .ref r0) rfl rfl rfl ?_)
    refine wp_of e183 c183_14 (xc_V (pc' := 17) (r := r0) (as := []) (st := []) (lm_9_118) rfl rfl (Nat.le_of_ble_eq_true rfl) hW g0 sh_42 (by decide) rfl (by decide) (u_172_o (fo := fo) (po := po) hW g0 p1051) (fun R1054 T1055 H1056 p1057 => ?_))
    obtain ⟨e1058, e1060, e1059, p1061⟩ := p1057
    subst e1058
    subst e1059
    subst e1060
    show wp _ _ 183 17 [(0, .ref r0), (1, .ref s1)] [] _ H _
    have u1063 := RO_k p1061
    exact wp_return e183 c183_17 rfl ⟨rfl, rfl, rfl, (p1061)⟩
/-! StrikeAwakeModel.needsSign(I)V k -/
abbrev uq_197_k (r0 : Nat) (a1 : Int) (rb : Nat) (B : Nat → Int) (n : Int) (q : Int) (kd : Int) (T : wq_T) (H : wq_H) : Option Value → wq_T → wq_H → Prop := fun r T' H' => T = T' ∧ WT T H' ∧ wfr [(42, 8), (42, 9), (42, 10), (42, 11), (42, 12), (42, 13), (42, 14), (42, 15)] T H H' ∧ none = r ∧ (((xk B n q kd = 0) ∧ RC T H' r0 B n (xN B n q)) ∨ ((xk B n q kd ≠ 0) ∧ RO T H' r0 (xk B n q kd) q))
set_option maxHeartbeats 4000000 in
theorem u_197_k {kt : Nat → Option mc_E} {T : wq_T} {H : wq_H} {r0 : Nat} {a1 : Int} {rb : Nat} {B : Nat → Int} {n : Int} {q : Int} {kd : Int} (hW : WT T H) (g0 : T.2.2.2 r0 = some 42) (i1 : (-2147483648) ≤ a1 ∧ a1 ≤ 2147483647) (qrb : H r0 5 = (rb : Int)) (grb : T.2.2.2 rb = some 43) (p0 : (a1 = 59 ∧ kd = 3) ∨ (a1 = 44 ∧ kd = 4)) (hRC_r0 : RC T H r0 B n q) : wpc kt 3 197 [.ref r0, vI a1] T H (uq_197_k r0 a1 rb B n q kd T H) := by
  refine wp_enter e197 (Nat.le_of_ble_eq_true rfl) rfl ?_
  have f0 : wfr [(42, 8), (42, 9), (42, 10), (42, 11), (42, 12), (42, 13), (42, 14), (42, 15)] T H H := wfr.rf
  show wp _ _ 197 0 [(0, .ref r0), (1, vI a1)] [] _ H _
  have u1058 := RC_k hRC_r0
  have _s := RC_s hRC_r0
  have _k := @xk_b B n q kd
  refine wp_of e197 c197_0 (rw_aload_n (pc' := 1) (v := .ref r0) rfl rfl rfl ?_)
  refine wp_of e197 c197_1 (xg_I (pc' := 4) lf_9_75 hW g0 sh_42 (by decide) (by decide) ty_42_9 rfl rfl (fun b1059 b1060 => ?_))
  refine wp_of e197 c197_4 (rw_iconst (pc' := 5) rfl ?_)
  refine wp_of e197 c197_5 (rw_icmp_ne (p1 := 16) (p2 := 8) (by decide) rfl ⟨Int.le_trans (by decide) b1059, Int.le_trans b1060 (by decide)⟩ ⟨by decide, by decide⟩ (fun c1061 => ?_) (fun c1061 => ?_))
  · refine wp_of e197 c197_16 (rw_aload_n (pc' := 17) (v := .ref r0) rfl rfl rfl ?_)
    refine wp_of e197 c197_17 (rw_iconst (pc' := 18) rfl ?_)
    refine wp_of e197 c197_18 (xc_V (pc' := 21) (r := r0) (as := [vI 1]) (st := []) (lm_9_121) rfl rfl (Nat.le_of_ble_eq_true rfl) hW g0 sh_42 (by decide) rfl (by decide) (u_181_k (B := B) (n := n) (q := q) hW g0 ⟨by decide, by decide⟩ (by omega) hRC_r0) (fun R1062 T1063 H1064 p1065 => ?_))
    obtain ⟨e1066, w1068, f1069, e1067, p1070⟩ := p1065
    subst e1066
    subst e1067
    have f1072 := f0.tr f1069 rfl
    show wp _ _ 197 21 [(0, .ref r0), (1, vI a1)] [] _ H1064 _
    have u1073 := RO_k p1070
    refine wp_of e197 c197_21 (rw_aload_n (pc' := 22) (v := .ref r0) rfl rfl rfl ?_)
    refine wp_of e197 c197_22 (xc_V (pc' := 25) (r := r0) (as := []) (st := []) (lm_9_118) rfl rfl (Nat.le_of_ble_eq_true rfl) w1068 g0 sh_42 (by decide) rfl (by decide) (u_172_o (fo := 1) (po := q) w1068 g0 p1070) (fun R1074 T1075 H1076 p1077 => ?_))
    obtain ⟨e1078, e1080, e1079, p1081⟩ := p1077
    subst e1078
    subst e1079
    subst e1080
    show wp _ _ 197 25 [(0, .ref r0), (1, vI a1)] [] _ H1064 _
    have u1083 := RO_k p1081
    exact wp_return e197 c197_25 rfl ⟨rfl, w1068, f1072, rfl, (Or.inr ⟨by omega, RO_eq p1081 (by omega) (by omega)⟩)⟩
  · refine wp_of e197 c197_8 (rw_aload_n (pc' := 9) (v := .ref r0) rfl rfl rfl ?_)
    refine wp_of e197 c197_9 (xg_I (pc' := 12) lf_9_87 hW g0 sh_42 (by decide) (by decide) ty_42_11 rfl rfl (fun b1084 b1085 => ?_))
    refine wp_of e197 c197_12 (rw_iload_n (pc' := 13) (z := a1) rfl rfl ?_)
    refine wp_of e197 c197_13 (rw_icmp_eq (p1 := 21) (p2 := 16) (by decide) rfl ⟨b1084, b1085⟩ ⟨i1.1, i1.2⟩ (fun c1086 => ?_) (fun c1086 => ?_))
    · refine wp_of e197 c197_21 (rw_aload_n (pc' := 22) (v := .ref r0) rfl rfl rfl ?_)
      have u1087 := RC_a hRC_r0
      have h1088 : TM T H rb B := RC_tm hRC_r0 qrb
      refine wp_of e197 c197_22 (xc_V (pc' := 25) (r := r0) (as := []) (st := []) (lm_9_118) rfl rfl (Nat.le_of_ble_eq_true rfl) hW g0 sh_42 (by decide) rfl (by decide) (u_172_k (B := B) (n := n) (a := (xE B n q)) (q := (xN B n q)) hW g0 qrb grb (by omega) (by omega) (by omega) (by omega) (by omega) (rfl) h1088) (fun R1089 T1090 H1091 p1092 => ?_))
      obtain ⟨e1093, w1095, f1096, e1094, p1097⟩ := p1092
      subst e1093
      subst e1094
      have f1099 := f0.tr f1096 rfl
      show wp _ _ 197 25 [(0, .ref r0), (1, vI a1)] [] _ H1091 _
      have u1100 := RC_k p1097
      exact wp_return e197 c197_25 rfl ⟨rfl, w1095, f1099, rfl, (Or.inl ⟨by omega, p1097⟩)⟩
    · refine wp_of e197 c197_16 (rw_aload_n (pc' := 17) (v := .ref r0) rfl rfl rfl ?_)
      refine wp_of e197 c197_17 (rw_iconst (pc' := 18) rfl ?_)
      refine wp_of e197 c197_18 (xc_V (pc' := 21) (r := r0) (as := [vI 1]) (st := []) (lm_9_121) rfl rfl (Nat.le_of_ble_eq_true rfl) hW g0 sh_42 (by decide) rfl (by decide) (u_181_k (B := B) (n := n) (q := q) hW g0 ⟨by decide, by decide⟩ (by omega) hRC_r0) (fun R1101 T1102 H1103 p1104 => ?_))
      obtain ⟨e1105, w1107, f1108, e1106, p1109⟩ := p1104
      subst e1105
      subst e1106
      have f1111 := f0.tr f1108 rfl
      show wp _ _ 197 21 [(0, .ref r0), (1, vI a1)] [] _ H1103 _
      have u1112 := RO_k p1109
      refine wp_of e197 c197_21 (rw_aload_n (pc' := 22) (v := .ref r0) rfl rfl rfl ?_)
      refine wp_of e197 c197_22 (xc_V (pc' := 25) (r := r0) (as := []) (st := []) (lm_9_118) rfl rfl (Nat.le_of_ble_eq_true rfl) w1107 g0 sh_42 (by decide) rfl (by decide) (u_172_o (fo := 1) (po := q) w1107 g0 p1109) (fun R1113 T1114 H1115 p1116 => ?_))
      obtain ⟨e1117, e1119, e1118, p1120⟩ := p1116
      subst e1117
      subst e1118
      subst e1119
      show wp _ _ 197 25 [(0, .ref r0), (1, vI a1)] [] _ H1103 _
      have u1122 := RO_k p1120
      exact wp_return e197 c197_25 rfl ⟨rfl, w1107, f1111, rfl, (Or.inr ⟨by omega, RO_eq p1120 (by omega) (by omega)⟩)⟩
/-! StrikeAwakeModel.needsSign(I)V o -/
abbrev uq_197_o (r0 : Nat) (a1 : Int) (rb : Nat) (fo : Int) (po : Int) (T : wq_T) (H : wq_H) : Option Value → wq_T → wq_H → Prop := fun r T' H' => T = T' ∧ H = H' ∧ none = r ∧ ((RO T H r0 fo po))
set_option maxHeartbeats 4000000 in
theorem u_197_o {kt : Nat → Option mc_E} {T : wq_T} {H : wq_H} {r0 : Nat} {a1 : Int} {rb : Nat} {fo : Int} {po : Int} (hW : WT T H) (g0 : T.2.2.2 r0 = some 42) (i1 : (-2147483648) ≤ a1 ∧ a1 ≤ 2147483647) (qrb : H r0 5 = (rb : Int)) (grb : T.2.2.2 rb = some 43) (hRO_r0 : RO T H r0 fo po) : wpc kt 3 197 [.ref r0, vI a1] T H (uq_197_o r0 a1 rb fo po T H) := by
  refine wp_enter e197 (Nat.le_of_ble_eq_true rfl) rfl ?_
  show wp _ _ 197 0 [(0, .ref r0), (1, vI a1)] [] _ H _
  have u1022 := RO_k hRO_r0
  refine wp_of e197 c197_0 (rw_aload_n (pc' := 1) (v := .ref r0) rfl rfl rfl ?_)
  refine wp_of e197 c197_1 (xg_I (pc' := 4) lf_9_75 hW g0 sh_42 (by decide) (by decide) ty_42_9 rfl rfl (fun b1023 b1024 => ?_))
  refine wp_of e197 c197_4 (rw_iconst (pc' := 5) rfl ?_)
  refine wp_of e197 c197_5 (rw_icmp_ne (p1 := 16) (p2 := 8) (by decide) rfl ⟨Int.le_trans (by decide) b1023, Int.le_trans b1024 (by decide)⟩ ⟨by decide, by decide⟩ (fun c1025 => ?_) (fun c1025 => ?_))
  · refine wp_of e197 c197_16 (rw_aload_n (pc' := 17) (v := .ref r0) rfl rfl rfl ?_)
    refine wp_of e197 c197_17 (rw_iconst (pc' := 18) rfl ?_)
    refine wp_of e197 c197_18 (xc_V (pc' := 21) (r := r0) (as := [vI 1]) (st := []) (lm_9_121) rfl rfl (Nat.le_of_ble_eq_true rfl) hW g0 sh_42 (by decide) rfl (by decide) (u_181_o (fo := fo) (po := po) hW g0 ⟨by decide, by decide⟩ hRO_r0) (fun R1026 T1027 H1028 p1029 => ?_))
    obtain ⟨e1030, e1032, e1031, p1033⟩ := p1029
    subst e1030
    subst e1031
    subst e1032
    show wp _ _ 197 21 [(0, .ref r0), (1, vI a1)] [] _ H _
    have u1035 := RO_k p1033
    refine wp_of e197 c197_21 (rw_aload_n (pc' := 22) (v := .ref r0) rfl rfl rfl ?_)
    refine wp_of e197 c197_22 (xc_V (pc' := 25) (r := r0) (as := []) (st := []) (lm_9_118) rfl rfl (Nat.le_of_ble_eq_true rfl) hW g0 sh_42 (by decide) rfl (by decide) (u_172_o (fo := fo) (po := po) hW g0 p1033) (fun R1036 T1037 H1038 p1039 => ?_))
    obtain ⟨e1040, e1042, e1041, p1043⟩ := p1039
    subst e1040
    subst e1041
    subst e1042
    show wp _ _ 197 25 [(0, .ref r0), (1, vI a1)] [] _ H _
    have u1045 := RO_k p1043
    exact wp_return e197 c197_25 rfl ⟨rfl, rfl, rfl, (p1043)⟩
  · exfalso
    omega
/-! StrikeAwakeModel.whole(II)I k -/
abbrev uq_185_k (r0 : Nat) (a1 : Int) (a2 : Int) (B : Nat → Int) (n : Int) (q : Int) (lo : Int) (hi : Int) (T : wq_T) (H : wq_H) : Option Value → wq_T → wq_H → Prop := fun r T' H' => T = T' ∧ WT T H' ∧ wfr [(42, 9), (42, 13), (42, 14)] T H H' ∧ ∃ z : Int, some (vI z) = r ∧ (0 ≤ z ∧ z ≤ 100) ∧ (((xh B n q lo hi = 0) ∧ (z = xV B n q) ∧ (lo ≤ z ∧ z ≤ hi) ∧ (xK B n q = 2) ∧ RC T H' r0 B n q) ∨ ((z = 0) ∧ (xh B n q lo hi ≠ 0) ∧ RO T H' r0 (xh B n q lo hi) q))
set_option maxHeartbeats 4000000 in
theorem u_185_k {kt : Nat → Option mc_E} {T : wq_T} {H : wq_H} {r0 : Nat} {a1 : Int} {a2 : Int} {B : Nat → Int} {n : Int} {q : Int} {lo : Int} {hi : Int} (hW : WT T H) (g0 : T.2.2.2 r0 = some 42) (i1 : 0 ≤ a1 ∧ a1 ≤ 100) (i2 : 0 ≤ a2 ∧ a2 ≤ 100) (p0 : a1 = lo) (p1 : a2 = hi) (hRC_r0 : RC T H r0 B n q) : wpc kt 2 185 [.ref r0, vI a1, vI a2] T H (uq_185_k r0 a1 a2 B n q lo hi T H) := by
  refine wp_enter e185 (Nat.le_of_ble_eq_true rfl) rfl ?_
  have f0 : wfr [(42, 9), (42, 13), (42, 14)] T H H := wfr.rf
  show wp _ _ 185 0 [(0, .ref r0), (1, vI a1), (2, vI a2)] [] _ H _
  have u1055 := RC_k hRC_r0
  have _s := RC_s hRC_r0
  have _h := @xh_b B n q lo hi
  refine wp_of e185 c185_0 (rw_aload_n (pc' := 1) (v := .ref r0) rfl rfl rfl ?_)
  refine wp_of e185 c185_1 (xg_I (pc' := 4) lf_9_75 hW g0 sh_42 (by decide) (by decide) ty_42_9 rfl rfl (fun b1056 b1057 => ?_))
  refine wp_of e185 c185_4 (rw_iconst (pc' := 5) rfl ?_)
  refine wp_of e185 c185_5 (rw_icmp_eq (p1 := 16) (p2 := 8) (by decide) rfl ⟨Int.le_trans (by decide) b1056, Int.le_trans b1057 (by decide)⟩ ⟨by decide, by decide⟩ (fun c1058 => ?_) (fun c1058 => ?_))
  · refine wp_of e185 c185_16 (rw_aload_n (pc' := 17) (v := .ref r0) rfl rfl rfl ?_)
    refine wp_of e185 c185_17 (xg_I (pc' := 20) lf_9_101 hW g0 sh_42 (by decide) (by decide) ty_42_12 rfl rfl (fun b1059 b1060 => ?_))
    refine wp_of e185 c185_20 (rw_iload_n (pc' := 21) (z := a1) rfl rfl ?_)
    refine wp_of e185 c185_21 (rw_iload_n (pc' := 22) (z := a2) rfl rfl ?_)
    refine wp_of e185 c185_22 (xc_S (pc' := 25) (as := [vI (H r0 12), vI a1, vI a2]) (st := []) (lm_9_125) rfl rfl (Nat.le_of_ble_eq_true rfl) rfl (by decide) (u_186  hW ⟨b1059, b1060⟩ ⟨Int.le_trans (by decide) i1.1, Int.le_trans i1.2 (by decide)⟩ ⟨Int.le_trans (by decide) i2.1, Int.le_trans i2.2 (by decide)⟩) (fun R1061 T1062 H1063 p1064 => ?_))
    obtain ⟨e1065, e1067, z1068, e1066, b1069, p1070⟩ := p1064
    subst e1065
    subst e1066
    subst e1067
    rcases p1070 with ⟨a1071, a1072⟩ | ⟨a1073, a1074⟩
    · show wp _ _ 185 25 [(0, .ref r0), (1, vI a1), (2, vI a2)] [vI z1068] _ H _
      refine wp_of e185 c185_25 (rw_if_ne (p1 := 33) (p2 := 28) (by decide) rfl ⟨Int.le_trans (by decide) b1069.1, Int.le_trans b1069.2 (by decide)⟩ (fun c1075 => ?_) (fun c1075 => ?_))
      · refine wp_of e185 c185_33 (rw_aload_n (pc' := 34) (v := .ref r0) rfl rfl rfl ?_)
        refine wp_of e185 c185_34 (xg_I (pc' := 37) lf_9_75 hW g0 sh_42 (by decide) (by decide) ty_42_9 rfl rfl (fun b1076 b1077 => ?_))
        refine wp_of e185 c185_37 (rw_iconst (pc' := 38) rfl ?_)
        refine wp_of e185 c185_38 (rw_icmp_ne (p1 := 45) (p2 := 41) (by decide) rfl ⟨Int.le_trans (by decide) b1076, Int.le_trans b1077 (by decide)⟩ ⟨by decide, by decide⟩ (fun c1078 => ?_) (fun c1078 => ?_))
        · refine wp_of e185 c185_45 (rw_aload_n (pc' := 46) (v := .ref r0) rfl rfl rfl ?_)
          refine wp_of e185 c185_46 (xg_I (pc' := 49) lf_9_101 hW g0 sh_42 (by decide) (by decide) ty_42_12 rfl rfl (fun b1079 b1080 => ?_))
          exact wp_ireturn e185 c185_49 rfl ⟨rfl, hW, f0, H r0 12, rfl, ⟨by omega, by omega⟩, (Or.inl ⟨by omega, by omega, by omega, by omega, hRC_r0⟩)⟩
        · exfalso
          omega
      · exfalso
        omega
    · show wp _ _ 185 25 [(0, .ref r0), (1, vI a1), (2, vI a2)] [vI z1068] _ H _
      refine wp_of e185 c185_25 (rw_if_ne (p1 := 33) (p2 := 28) (by decide) rfl ⟨Int.le_trans (by decide) b1069.1, Int.le_trans b1069.2 (by decide)⟩ (fun c1081 => ?_) (fun c1081 => ?_))
      · exfalso
        omega
      · refine wp_of e185 c185_28 (rw_aload_n (pc' := 29) (v := .ref r0) rfl rfl rfl ?_)
        refine wp_of e185 c185_29 (rw_iconst (pc' := 30) rfl ?_)
        refine wp_of e185 c185_30 (xc_V (pc' := 33) (r := r0) (as := [vI 4]) (st := []) (lm_9_121) rfl rfl (Nat.le_of_ble_eq_true rfl) hW g0 sh_42 (by decide) rfl (by decide) (u_181_k (B := B) (n := n) (q := q) hW g0 ⟨by decide, by decide⟩ (by omega) hRC_r0) (fun R1082 T1083 H1084 p1085 => ?_))
        obtain ⟨e1086, w1088, f1089, e1087, p1090⟩ := p1085
        subst e1086
        subst e1087
        have f1092 := f0.tr f1089 rfl
        show wp _ _ 185 33 [(0, .ref r0), (1, vI a1), (2, vI a2)] [] _ H1084 _
        have u1093 := RO_k p1090
        refine wp_of e185 c185_33 (rw_aload_n (pc' := 34) (v := .ref r0) rfl rfl rfl ?_)
        refine wp_of e185 c185_34 (xg_I (pc' := 37) lf_9_75 w1088 g0 sh_42 (by decide) (by decide) ty_42_9 rfl rfl (fun b1094 b1095 => ?_))
        refine wp_of e185 c185_37 (rw_iconst (pc' := 38) rfl ?_)
        refine wp_of e185 c185_38 (rw_icmp_ne (p1 := 45) (p2 := 41) (by decide) rfl ⟨Int.le_trans (by decide) b1094, Int.le_trans b1095 (by decide)⟩ ⟨by decide, by decide⟩ (fun c1096 => ?_) (fun c1096 => ?_))
        · exfalso
          omega
        · refine wp_of e185 c185_41 (rw_iconst (pc' := 42) rfl ?_)
          refine wp_of e185 c185_42 (rw_goto (p1 := 49) (by decide) ?_)
          exact wp_ireturn e185 c185_49 rfl ⟨rfl, w1088, f1092, 0, rfl, ⟨by decide, by decide⟩, (Or.inr ⟨by omega, by omega, RO_eq p1090 (by omega) (by omega)⟩)⟩
  · refine wp_of e185 c185_8 (rw_aload_n (pc' := 9) (v := .ref r0) rfl rfl rfl ?_)
    refine wp_of e185 c185_9 (rw_iconst (pc' := 10) rfl ?_)
    refine wp_of e185 c185_10 (xc_V (pc' := 13) (r := r0) (as := [vI 1]) (st := []) (lm_9_121) rfl rfl (Nat.le_of_ble_eq_true rfl) hW g0 sh_42 (by decide) rfl (by decide) (u_181_k (B := B) (n := n) (q := q) hW g0 ⟨by decide, by decide⟩ (by omega) hRC_r0) (fun R1097 T1098 H1099 p1100 => ?_))
    obtain ⟨e1101, w1103, f1104, e1102, p1105⟩ := p1100
    subst e1101
    subst e1102
    have f1107 := f0.tr f1104 rfl
    show wp _ _ 185 13 [(0, .ref r0), (1, vI a1), (2, vI a2)] [] _ H1099 _
    have u1108 := RO_k p1105
    refine wp_of e185 c185_13 (rw_goto (p1 := 33) (by decide) ?_)
    refine wp_of e185 c185_33 (rw_aload_n (pc' := 34) (v := .ref r0) rfl rfl rfl ?_)
    refine wp_of e185 c185_34 (xg_I (pc' := 37) lf_9_75 w1103 g0 sh_42 (by decide) (by decide) ty_42_9 rfl rfl (fun b1109 b1110 => ?_))
    refine wp_of e185 c185_37 (rw_iconst (pc' := 38) rfl ?_)
    refine wp_of e185 c185_38 (rw_icmp_ne (p1 := 45) (p2 := 41) (by decide) rfl ⟨Int.le_trans (by decide) b1109, Int.le_trans b1110 (by decide)⟩ ⟨by decide, by decide⟩ (fun c1111 => ?_) (fun c1111 => ?_))
    · exfalso
      omega
    · refine wp_of e185 c185_41 (rw_iconst (pc' := 42) rfl ?_)
      refine wp_of e185 c185_42 (rw_goto (p1 := 49) (by decide) ?_)
      exact wp_ireturn e185 c185_49 rfl ⟨rfl, w1103, f1107, 0, rfl, ⟨by decide, by decide⟩, (Or.inr ⟨by omega, by omega, RO_eq p1105 (by omega) (by omega)⟩)⟩
/-! StrikeAwakeModel.whole(II)I o -/
abbrev uq_185_o (r0 : Nat) (a1 : Int) (a2 : Int) (fo : Int) (po : Int) (T : wq_T) (H : wq_H) : Option Value → wq_T → wq_H → Prop := fun r T' H' => T = T' ∧ H = H' ∧ ∃ z : Int, some (vI z) = r ∧ (0 ≤ z ∧ z ≤ 100) ∧ (((z = 0) ∧ RO T H r0 fo po))
set_option maxHeartbeats 4000000 in
theorem u_185_o {kt : Nat → Option mc_E} {T : wq_T} {H : wq_H} {r0 : Nat} {a1 : Int} {a2 : Int} {fo : Int} {po : Int} (hW : WT T H) (g0 : T.2.2.2 r0 = some 42) (i1 : 0 ≤ a1 ∧ a1 ≤ 100) (i2 : 0 ≤ a2 ∧ a2 ≤ 100) (hRO_r0 : RO T H r0 fo po) : wpc kt 2 185 [.ref r0, vI a1, vI a2] T H (uq_185_o r0 a1 a2 fo po T H) := by
  refine wp_enter e185 (Nat.le_of_ble_eq_true rfl) rfl ?_
  show wp _ _ 185 0 [(0, .ref r0), (1, vI a1), (2, vI a2)] [] _ H _
  have u1016 := RO_k hRO_r0
  refine wp_of e185 c185_0 (rw_aload_n (pc' := 1) (v := .ref r0) rfl rfl rfl ?_)
  refine wp_of e185 c185_1 (xg_I (pc' := 4) lf_9_75 hW g0 sh_42 (by decide) (by decide) ty_42_9 rfl rfl (fun b1017 b1018 => ?_))
  refine wp_of e185 c185_4 (rw_iconst (pc' := 5) rfl ?_)
  refine wp_of e185 c185_5 (rw_icmp_eq (p1 := 16) (p2 := 8) (by decide) rfl ⟨Int.le_trans (by decide) b1017, Int.le_trans b1018 (by decide)⟩ ⟨by decide, by decide⟩ (fun c1019 => ?_) (fun c1019 => ?_))
  · exfalso
    omega
  · refine wp_of e185 c185_8 (rw_aload_n (pc' := 9) (v := .ref r0) rfl rfl rfl ?_)
    refine wp_of e185 c185_9 (rw_iconst (pc' := 10) rfl ?_)
    refine wp_of e185 c185_10 (xc_V (pc' := 13) (r := r0) (as := [vI 1]) (st := []) (lm_9_121) rfl rfl (Nat.le_of_ble_eq_true rfl) hW g0 sh_42 (by decide) rfl (by decide) (u_181_o (fo := fo) (po := po) hW g0 ⟨by decide, by decide⟩ hRO_r0) (fun R1020 T1021 H1022 p1023 => ?_))
    obtain ⟨e1024, e1026, e1025, p1027⟩ := p1023
    subst e1024
    subst e1025
    subst e1026
    show wp _ _ 185 13 [(0, .ref r0), (1, vI a1), (2, vI a2)] [] _ H _
    have u1029 := RO_k p1027
    refine wp_of e185 c185_13 (rw_goto (p1 := 33) (by decide) ?_)
    refine wp_of e185 c185_33 (rw_aload_n (pc' := 34) (v := .ref r0) rfl rfl rfl ?_)
    refine wp_of e185 c185_34 (xg_I (pc' := 37) lf_9_75 hW g0 sh_42 (by decide) (by decide) ty_42_9 rfl rfl (fun b1030 b1031 => ?_))
    refine wp_of e185 c185_37 (rw_iconst (pc' := 38) rfl ?_)
    refine wp_of e185 c185_38 (rw_icmp_ne (p1 := 45) (p2 := 41) (by decide) rfl ⟨Int.le_trans (by decide) b1030, Int.le_trans b1031 (by decide)⟩ ⟨by decide, by decide⟩ (fun c1032 => ?_) (fun c1032 => ?_))
    · exfalso
      omega
    · refine wp_of e185 c185_41 (rw_iconst (pc' := 42) rfl ?_)
      refine wp_of e185 c185_42 (rw_goto (p1 := 49) (by decide) ?_)
      exact wp_ireturn e185 c185_49 rfl ⟨rfl, rfl, 0, rfl, ⟨by decide, by decide⟩, ⟨by omega, p1027⟩⟩
/-! StrikeAwakeModel.readWhole(II)I k -/
abbrev uq_184_k (r0 : Nat) (a1 : Int) (a2 : Int) (rb : Nat) (B : Nat → Int) (n : Int) (q : Int) (lo : Int) (hi : Int) (T : wq_T) (H : wq_H) : Option Value → wq_T → wq_H → Prop := fun r T' H' => T = T' ∧ WT T H' ∧ wfr [(42, 8), (42, 9), (42, 10), (42, 11), (42, 12), (42, 13), (42, 14), (42, 15)] T H H' ∧ ∃ z : Int, some (vI z) = r ∧ (0 ≤ z ∧ z ≤ 100) ∧ (((xh B n q lo hi = 0) ∧ (z = xV B n q) ∧ (lo ≤ z ∧ z ≤ hi) ∧ RC T H' r0 B n (xN B n q)) ∨ ((z = 0) ∧ (xh B n q lo hi ≠ 0) ∧ RO T H' r0 (xh B n q lo hi) q))
set_option maxHeartbeats 4000000 in
theorem u_184_k {kt : Nat → Option mc_E} {T : wq_T} {H : wq_H} {r0 : Nat} {a1 : Int} {a2 : Int} {rb : Nat} {B : Nat → Int} {n : Int} {q : Int} {lo : Int} {hi : Int} (hW : WT T H) (g0 : T.2.2.2 r0 = some 42) (i1 : 0 ≤ a1 ∧ a1 ≤ 100) (i2 : 0 ≤ a2 ∧ a2 ≤ 100) (qrb : H r0 5 = (rb : Int)) (grb : T.2.2.2 rb = some 43) (p0 : a1 = lo) (p1 : a2 = hi) (hRC_r0 : RC T H r0 B n q) : wpc kt 3 184 [.ref r0, vI a1, vI a2] T H (uq_184_k r0 a1 a2 rb B n q lo hi T H) := by
  refine wp_enter e184 (Nat.le_of_ble_eq_true rfl) rfl ?_
  have f0 : wfr [(42, 8), (42, 9), (42, 10), (42, 11), (42, 12), (42, 13), (42, 14), (42, 15)] T H H := wfr.rf
  show wp _ _ 184 0 [(0, .ref r0), (1, vI a1), (2, vI a2)] [] _ H _
  have u1044 := RC_k hRC_r0
  refine wp_of e184 c184_0 (rw_aload_n (pc' := 1) (v := .ref r0) rfl rfl rfl ?_)
  refine wp_of e184 c184_1 (rw_iload_n (pc' := 2) (z := a1) rfl rfl ?_)
  refine wp_of e184 c184_2 (rw_iload_n (pc' := 3) (z := a2) rfl rfl ?_)
  refine wp_of e184 c184_3 (xc_V (pc' := 6) (r := r0) (as := [vI a1, vI a2]) (st := []) (lm_9_129) rfl rfl (Nat.le_of_ble_eq_true rfl) hW g0 sh_42 (by decide) rfl (by decide) (u_185_k (B := B) (n := n) (q := q) (lo := lo) (hi := hi) hW g0 ⟨i1.1, i1.2⟩ ⟨i2.1, i2.2⟩ (by omega) (by omega) hRC_r0) (fun R1045 T1046 H1047 p1048 => ?_))
  obtain ⟨e1049, w1051, f1052, z1053, e1050, b1054, p1055⟩ := p1048
  subst e1049
  subst e1050
  rcases p1055 with ⟨a1056, a1057, a1058, a1059, a1060⟩ | ⟨a1061, a1062, a1063⟩
  · have f1064 := f0.tr f1052 rfl
    show wp _ _ 184 6 [(0, .ref r0), (1, vI a1), (2, vI a2)] [vI z1053] _ H1047 _
    have u1065 := RC_k a1060
    refine wp_of e184 c184_6 (rw_istore_n (pc' := 7) (z := z1053) (L' := [(3, vI z1053), (0, .ref r0), (1, vI a1), (2, vI a2)]) rfl rfl rfl ?_)
    refine wp_of e184 c184_7 (rw_aload_n (pc' := 8) (v := .ref r0) rfl rfl rfl ?_)
    have k1066 : H1047 r0 5 = H r0 5 := (f1052 r0 5 _ g0 rfl)
    have q1067 : H1047 r0 5 = (rb : Int) := k1066.trans qrb
    have u1068 := RC_a a1060
    have h1069 : TM T H1047 rb B := RC_tm a1060 q1067
    refine wp_of e184 c184_8 (xc_V (pc' := 11) (r := r0) (as := []) (st := []) (lm_9_118) rfl rfl (Nat.le_of_ble_eq_true rfl) w1051 g0 sh_42 (by decide) rfl (by decide) (u_172_k (B := B) (n := n) (a := (xE B n q)) (q := (xN B n q)) w1051 g0 q1067 grb (by omega) (by omega) (by omega) (by omega) (by omega) (rfl) h1069) (fun R1070 T1071 H1072 p1073 => ?_))
    obtain ⟨e1074, w1076, f1077, e1075, p1078⟩ := p1073
    subst e1074
    subst e1075
    have f1080 := f1064.tr f1077 rfl
    show wp _ _ 184 11 [(3, vI z1053), (0, .ref r0), (1, vI a1), (2, vI a2)] [] _ H1072 _
    have u1081 := RC_k p1078
    refine wp_of e184 c184_11 (rw_iload_n (pc' := 12) (z := z1053) rfl rfl ?_)
    exact wp_ireturn e184 c184_12 rfl ⟨rfl, w1076, f1080, z1053, rfl, ⟨b1054.1, b1054.2⟩, (Or.inl ⟨by omega, by omega, by omega, p1078⟩)⟩
  · have f1082 := f0.tr f1052 rfl
    show wp _ _ 184 6 [(0, .ref r0), (1, vI a1), (2, vI a2)] [vI z1053] _ H1047 _
    have u1083 := RO_k a1063
    refine wp_of e184 c184_6 (rw_istore_n (pc' := 7) (z := z1053) (L' := [(3, vI z1053), (0, .ref r0), (1, vI a1), (2, vI a2)]) rfl rfl rfl ?_)
    refine wp_of e184 c184_7 (rw_aload_n (pc' := 8) (v := .ref r0) rfl rfl rfl ?_)
    refine wp_of e184 c184_8 (xc_V (pc' := 11) (r := r0) (as := []) (st := []) (lm_9_118) rfl rfl (Nat.le_of_ble_eq_true rfl) w1051 g0 sh_42 (by decide) rfl (by decide) (u_172_o (fo := (xh B n q lo hi)) (po := q) w1051 g0 a1063) (fun R1084 T1085 H1086 p1087 => ?_))
    obtain ⟨e1088, e1090, e1089, p1091⟩ := p1087
    subst e1088
    subst e1089
    subst e1090
    show wp _ _ 184 11 [(3, vI z1053), (0, .ref r0), (1, vI a1), (2, vI a2)] [] _ H1047 _
    have u1093 := RO_k p1091
    refine wp_of e184 c184_11 (rw_iload_n (pc' := 12) (z := z1053) rfl rfl ?_)
    exact wp_ireturn e184 c184_12 rfl ⟨rfl, w1051, f1082, z1053, rfl, ⟨b1054.1, b1054.2⟩, (Or.inr ⟨by omega, by omega, RO_eq p1091 (by omega) (by omega)⟩)⟩
/-! StrikeAwakeModel.readWhole(II)I o -/
abbrev uq_184_o (r0 : Nat) (a1 : Int) (a2 : Int) (rb : Nat) (fo : Int) (po : Int) (T : wq_T) (H : wq_H) : Option Value → wq_T → wq_H → Prop := fun r T' H' => T = T' ∧ H = H' ∧ ∃ z : Int, some (vI z) = r ∧ (0 ≤ z ∧ z ≤ 100) ∧ (((z = 0) ∧ RO T H r0 fo po))
set_option maxHeartbeats 4000000 in
theorem u_184_o {kt : Nat → Option mc_E} {T : wq_T} {H : wq_H} {r0 : Nat} {a1 : Int} {a2 : Int} {rb : Nat} {fo : Int} {po : Int} (hW : WT T H) (g0 : T.2.2.2 r0 = some 42) (i1 : 0 ≤ a1 ∧ a1 ≤ 100) (i2 : 0 ≤ a2 ∧ a2 ≤ 100) (qrb : H r0 5 = (rb : Int)) (grb : T.2.2.2 rb = some 43) (hRO_r0 : RO T H r0 fo po) : wpc kt 3 184 [.ref r0, vI a1, vI a2] T H (uq_184_o r0 a1 a2 rb fo po T H) := by
  refine wp_enter e184 (Nat.le_of_ble_eq_true rfl) rfl ?_
  show wp _ _ 184 0 [(0, .ref r0), (1, vI a1), (2, vI a2)] [] _ H _
  have u1022 := RO_k hRO_r0
  refine wp_of e184 c184_0 (rw_aload_n (pc' := 1) (v := .ref r0) rfl rfl rfl ?_)
  refine wp_of e184 c184_1 (rw_iload_n (pc' := 2) (z := a1) rfl rfl ?_)
  refine wp_of e184 c184_2 (rw_iload_n (pc' := 3) (z := a2) rfl rfl ?_)
  refine wp_of e184 c184_3 (xc_V (pc' := 6) (r := r0) (as := [vI a1, vI a2]) (st := []) (lm_9_129) rfl rfl (Nat.le_of_ble_eq_true rfl) hW g0 sh_42 (by decide) rfl (by decide) (u_185_o (fo := fo) (po := po) hW g0 ⟨i1.1, i1.2⟩ ⟨i2.1, i2.2⟩ hRO_r0) (fun R1023 T1024 H1025 p1026 => ?_))
  obtain ⟨e1027, e1029, z1030, e1028, b1031, p1032⟩ := p1026
  subst e1027
  subst e1028
  subst e1029
  obtain ⟨a1033, a1034⟩ := p1032
  show wp _ _ 184 6 [(0, .ref r0), (1, vI a1), (2, vI a2)] [vI z1030] _ H _
  have u1035 := RO_k a1034
  refine wp_of e184 c184_6 (rw_istore_n (pc' := 7) (z := z1030) (L' := [(3, vI z1030), (0, .ref r0), (1, vI a1), (2, vI a2)]) rfl rfl rfl ?_)
  refine wp_of e184 c184_7 (rw_aload_n (pc' := 8) (v := .ref r0) rfl rfl rfl ?_)
  refine wp_of e184 c184_8 (xc_V (pc' := 11) (r := r0) (as := []) (st := []) (lm_9_118) rfl rfl (Nat.le_of_ble_eq_true rfl) hW g0 sh_42 (by decide) rfl (by decide) (u_172_o (fo := fo) (po := po) hW g0 a1034) (fun R1036 T1037 H1038 p1039 => ?_))
  obtain ⟨e1040, e1042, e1041, p1043⟩ := p1039
  subst e1040
  subst e1041
  subst e1042
  show wp _ _ 184 11 [(3, vI z1030), (0, .ref r0), (1, vI a1), (2, vI a2)] [] _ H _
  have u1045 := RO_k p1043
  refine wp_of e184 c184_11 (rw_iload_n (pc' := 12) (z := z1030) rfl rfl ?_)
  exact wp_ireturn e184 c184_12 rfl ⟨rfl, rfl, z1030, rfl, ⟨b1031.1, b1031.2⟩, ⟨by omega, p1043⟩⟩
