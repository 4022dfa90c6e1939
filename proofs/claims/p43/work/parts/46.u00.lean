/-! what methods do (own work, written by wip/gen3/sx3.py) -/
/-! StrikeAwakeModel.byteAt(I)I  -/
abbrev uq_173 (r0 : Nat) (a1 : Int) (rb : Nat) (B : Nat → Int) (n : Int) (y : Int) (T : wq_T) (H : wq_H) : Option Value → wq_T → wq_H → Prop := fun r T' H' => T = T' ∧ H = H' ∧ ∃ z : Int, some (vI z) = r ∧ ((-2147483648) ≤ z ∧ z ≤ 2147483647) ∧ (((z = -1) ∧ (n ≤ y)) ∨ ((0 ≤ z ∧ z ≤ 255) ∧ (y < n) ∧ (-128 ≤ B y.toNat) ∧ ((0 ≤ B y.toNat ∧ z = B y.toNat) ∨ (B y.toNat < 0 ∧ z = B y.toNat + 256))))
set_option maxHeartbeats 4000000 in
theorem u_173 {kt : Nat → Option mc_E} {T : wq_T} {H : wq_H} {r0 : Nat} {a1 : Int} {rb : Nat} {B : Nat → Int} {n : Int} {y : Int} (hW : WT T H) (g0 : T.2.2.2 r0 = some 42) (i1 : 0 ≤ a1 ∧ a1 ≤ 900) (qrb : H r0 5 = (rb : Int)) (grb : T.2.2.2 rb = some 43) (p0 : a1 = y) (p1 : H r0 7 = n) (hTM_rb : TM T H rb B) : wpc kt 1 173 [.ref r0, vI a1] T H (uq_173 r0 a1 rb B n y T H) := by
  refine wp_enter e173 (Nat.le_of_ble_eq_true rfl) rfl ?_
  show wp _ _ 173 0 [(0, .ref r0), (1, vI a1)] [] _ H _
  have b1008 : 0 ≤ H r0 7 ∧ H r0 7 ≤ 900 := hW.box g0 (n := 33) rfl (by decide) rfl
  have _e : B y.toNat = B a1.toNat := by rw [p0]
  refine wp_of e173 c173_0 (rw_iload_n (pc' := 1) (z := a1) rfl rfl ?_)
  refine wp_of e173 c173_1 (rw_aload_n (pc' := 2) (v := .ref r0) rfl rfl rfl ?_)
  refine wp_of e173 c173_2 (xg_I (pc' := 5) lf_9_61 hW g0 sh_42 (by decide) (by decide) ty_42_7 rfl rfl (fun b1009 b1010 => ?_))
  refine wp_of e173 c173_5 (rw_icmp_ge (p1 := 21) (p2 := 8) (by decide) rfl ⟨Int.le_trans (by decide) i1.1, Int.le_trans i1.2 (by decide)⟩ ⟨Int.le_trans (by decide) b1009, Int.le_trans b1010 (by decide)⟩ (fun c1011 => ?_) (fun c1011 => ?_))
  · refine wp_of e173 c173_21 (rw_iconst (pc' := 22) rfl ?_)
    exact wp_ireturn e173 c173_22 rfl ⟨rfl, rfl, -1, rfl, ⟨by decide, by decide⟩, (Or.inl ⟨by omega, by omega⟩)⟩
  · refine wp_of e173 c173_8 (rw_aload_n (pc' := 9) (v := .ref r0) rfl rfl rfl ?_)
    refine wp_of e173 c173_9 (xg_K (pc' := 12) lf_9_13 hW g0 sh_42 (by decide) (by decide) rfl qrb rfl ?_)
    refine wp_of e173 c173_12 (rw_iload_n (pc' := 13) (z := a1) rfl rfl ?_)
    refine wp_of e173 c173_13 (xa_B (by decide) (pc' := 14) hW grb sh_43 (by decide) (ty_43 _) (i1.1) (by omega) rfl (fun b1012 b1013 => ?_))
    have _b := hTM_rb (a1.toNat) (by omega)
    have _y := @by_ok (H rb (a1.toNat)) (by omega) (by omega)
    refine wp_of e173 c173_14 (rw_sipush (pc' := 17) (z := 255) rfl (by decide) ?_)
    refine wp_of e173 c173_17 (rw_iand (pc' := 18) rfl ?_)
    obtain ⟨v1014, e1015⟩ : ∃ x : Int, x = wq_and (H rb (a1.toNat)) 255 := ⟨_, rfl⟩
    rw [← e1015]
    have b1016 : 0 ≤ v1014 ∧ v1014 ≤ 255 := by
      rw [e1015]
      exact wq_and_b _ (by omega) (by omega)
    refine wp_of e173 c173_18 (rw_goto (p1 := 22) (by decide) ?_)
    exact wp_ireturn e173 c173_22 rfl ⟨rfl, rfl, v1014, rfl, ⟨Int.le_trans (by decide) b1016.1, Int.le_trans b1016.2 (by decide)⟩, (Or.inr ⟨by omega, by omega, by omega, by omega⟩)⟩
/-! StrikeAwakeModel.isLetter(I)Z  -/
abbrev uq_174 (a0 : Int) (T : wq_T) (H : wq_H) : Option Value → wq_T → wq_H → Prop := fun r T' H' => T = T' ∧ H = H' ∧ ∃ z : Int, some (vI z) = r ∧ (0 ≤ z ∧ z ≤ 1) ∧ (((z = 1) ∧ (97 ≤ a0 ∧ a0 ≤ 122)) ∨ ((z = 0) ∧ (a0 < 97 ∨ 122 < a0)))
set_option maxHeartbeats 4000000 in
theorem u_174 {kt : Nat → Option mc_E} {T : wq_T} {H : wq_H} {a0 : Int} (hW : WT T H) (i0 : (-2147483648) ≤ a0 ∧ a0 ≤ 2147483647) : wpc kt 1 174 [vI a0] T H (uq_174 a0 T H) := by
  refine wp_enter e174 (Nat.le_of_ble_eq_true rfl) rfl ?_
  show wp _ _ 174 0 [(0, vI a0)] [] _ H _
  refine wp_of e174 c174_0 (rw_iload_n (pc' := 1) (z := a0) rfl rfl ?_)
  refine wp_of e174 c174_1 (rw_bipush (pc' := 3) (z := 97) rfl (by decide) ?_)
  refine wp_of e174 c174_3 (rw_icmp_lt (p1 := 16) (p2 := 6) (by decide) rfl ⟨i0.1, i0.2⟩ ⟨by decide, by decide⟩ (fun c1003 => ?_) (fun c1003 => ?_))
  · refine wp_of e174 c174_16 (rw_iconst (pc' := 17) rfl ?_)
    exact wp_zreturn e174 c174_17 rfl (by omega) ⟨rfl, rfl, 0, rfl, ⟨by decide, by decide⟩, (Or.inr ⟨by omega, by omega⟩)⟩
  · refine wp_of e174 c174_6 (rw_iload_n (pc' := 7) (z := a0) rfl rfl ?_)
    refine wp_of e174 c174_7 (rw_bipush (pc' := 9) (z := 122) rfl (by decide) ?_)
    refine wp_of e174 c174_9 (rw_icmp_gt (p1 := 16) (p2 := 12) (by decide) rfl ⟨i0.1, i0.2⟩ ⟨by decide, by decide⟩ (fun c1004 => ?_) (fun c1004 => ?_))
    · refine wp_of e174 c174_16 (rw_iconst (pc' := 17) rfl ?_)
      exact wp_zreturn e174 c174_17 rfl (by omega) ⟨rfl, rfl, 0, rfl, ⟨by decide, by decide⟩, (Or.inr ⟨by omega, by omega⟩)⟩
    · refine wp_of e174 c174_12 (rw_iconst (pc' := 13) rfl ?_)
      refine wp_of e174 c174_13 (rw_goto (p1 := 17) (by decide) ?_)
      exact wp_zreturn e174 c174_17 rfl (by omega) ⟨rfl, rfl, 1, rfl, ⟨by decide, by decide⟩, (Or.inl ⟨by omega, by omega⟩)⟩
/-! StrikeAwakeModel.isDigit(I)Z  -/
abbrev uq_175 (a0 : Int) (T : wq_T) (H : wq_H) : Option Value → wq_T → wq_H → Prop := fun r T' H' => T = T' ∧ H = H' ∧ ∃ z : Int, some (vI z) = r ∧ (0 ≤ z ∧ z ≤ 1) ∧ (((z = 1) ∧ (48 ≤ a0 ∧ a0 ≤ 57)) ∨ ((z = 0) ∧ (a0 < 48 ∨ 57 < a0)))
set_option maxHeartbeats 4000000 in
theorem u_175 {kt : Nat → Option mc_E} {T : wq_T} {H : wq_H} {a0 : Int} (hW : WT T H) (i0 : (-2147483648) ≤ a0 ∧ a0 ≤ 2147483647) : wpc kt 1 175 [vI a0] T H (uq_175 a0 T H) := by
  refine wp_enter e175 (Nat.le_of_ble_eq_true rfl) rfl ?_
  show wp _ _ 175 0 [(0, vI a0)] [] _ H _
  refine wp_of e175 c175_0 (rw_iload_n (pc' := 1) (z := a0) rfl rfl ?_)
  refine wp_of e175 c175_1 (rw_bipush (pc' := 3) (z := 48) rfl (by decide) ?_)
  refine wp_of e175 c175_3 (rw_icmp_lt (p1 := 16) (p2 := 6) (by decide) rfl ⟨i0.1, i0.2⟩ ⟨by decide, by decide⟩ (fun c1003 => ?_) (fun c1003 => ?_))
  · refine wp_of e175 c175_16 (rw_iconst (pc' := 17) rfl ?_)
    exact wp_zreturn e175 c175_17 rfl (by omega) ⟨rfl, rfl, 0, rfl, ⟨by decide, by decide⟩, (Or.inr ⟨by omega, by omega⟩)⟩
  · refine wp_of e175 c175_6 (rw_iload_n (pc' := 7) (z := a0) rfl rfl ?_)
    refine wp_of e175 c175_7 (rw_bipush (pc' := 9) (z := 57) rfl (by decide) ?_)
    refine wp_of e175 c175_9 (rw_icmp_gt (p1 := 16) (p2 := 12) (by decide) rfl ⟨i0.1, i0.2⟩ ⟨by decide, by decide⟩ (fun c1004 => ?_) (fun c1004 => ?_))
    · refine wp_of e175 c175_16 (rw_iconst (pc' := 17) rfl ?_)
      exact wp_zreturn e175 c175_17 rfl (by omega) ⟨rfl, rfl, 0, rfl, ⟨by decide, by decide⟩, (Or.inr ⟨by omega, by omega⟩)⟩
    · refine wp_of e175 c175_12 (rw_iconst (pc' := 13) rfl ?_)
      refine wp_of e175 c175_13 (rw_goto (p1 := 17) (by decide) ?_)
      exact wp_zreturn e175 c175_17 rfl (by omega) ⟨rfl, rfl, 1, rfl, ⟨by decide, by decide⟩, (Or.inl ⟨by omega, by omega⟩)⟩
/-! StrikeAwakeModel.in(III)Z  -/
abbrev uq_186 (a0 : Int) (a1 : Int) (a2 : Int) (T : wq_T) (H : wq_H) : Option Value → wq_T → wq_H → Prop := fun r T' H' => T = T' ∧ H = H' ∧ ∃ z : Int, some (vI z) = r ∧ (0 ≤ z ∧ z ≤ 1) ∧ (((z = 1) ∧ (a1 ≤ a0 ∧ a0 ≤ a2)) ∨ ((z = 0) ∧ (a0 < a1 ∨ a2 < a0)))
set_option maxHeartbeats 4000000 in
theorem u_186 {kt : Nat → Option mc_E} {T : wq_T} {H : wq_H} {a0 : Int} {a1 : Int} {a2 : Int} (hW : WT T H) (i0 : (-2147483648) ≤ a0 ∧ a0 ≤ 2147483647) (i1 : (-2147483648) ≤ a1 ∧ a1 ≤ 2147483647) (i2 : (-2147483648) ≤ a2 ∧ a2 ≤ 2147483647) : wpc kt 1 186 [vI a0, vI a1, vI a2] T H (uq_186 a0 a1 a2 T H) := by
  refine wp_enter e186 (Nat.le_of_ble_eq_true rfl) rfl ?_
  show wp _ _ 186 0 [(0, vI a0), (1, vI a1), (2, vI a2)] [] _ H _
  refine wp_of e186 c186_0 (rw_iload_n (pc' := 1) (z := a0) rfl rfl ?_)
  refine wp_of e186 c186_1 (rw_iload_n (pc' := 2) (z := a1) rfl rfl ?_)
  refine wp_of e186 c186_2 (rw_icmp_lt (p1 := 14) (p2 := 5) (by decide) rfl ⟨i0.1, i0.2⟩ ⟨i1.1, i1.2⟩ (fun c1003 => ?_) (fun c1003 => ?_))
  · refine wp_of e186 c186_14 (rw_iconst (pc' := 15) rfl ?_)
    exact wp_zreturn e186 c186_15 rfl (by omega) ⟨rfl, rfl, 0, rfl, ⟨by decide, by decide⟩, (Or.inr ⟨by omega, by omega⟩)⟩
  · refine wp_of e186 c186_5 (rw_iload_n (pc' := 6) (z := a0) rfl rfl ?_)
    refine wp_of e186 c186_6 (rw_iload_n (pc' := 7) (z := a2) rfl rfl ?_)
    refine wp_of e186 c186_7 (rw_icmp_gt (p1 := 14) (p2 := 10) (by decide) rfl ⟨i0.1, i0.2⟩ ⟨i2.1, i2.2⟩ (fun c1004 => ?_) (fun c1004 => ?_))
    · refine wp_of e186 c186_14 (rw_iconst (pc' := 15) rfl ?_)
      exact wp_zreturn e186 c186_15 rfl (by omega) ⟨rfl, rfl, 0, rfl, ⟨by decide, by decide⟩, (Or.inr ⟨by omega, by omega⟩)⟩
    · refine wp_of e186 c186_10 (rw_iconst (pc' := 11) rfl ?_)
      refine wp_of e186 c186_11 (rw_goto (p1 := 15) (by decide) ?_)
      exact wp_zreturn e186 c186_15 rfl (by omega) ⟨rfl, rfl, 1, rfl, ⟨by decide, by decide⟩, (Or.inl ⟨by omega, by omega⟩)⟩
/-! StrikeAwakeModel.least(II)I  -/
abbrev uq_191 (a0 : Int) (a1 : Int) (T : wq_T) (H : wq_H) : Option Value → wq_T → wq_H → Prop := fun r T' H' => T = T' ∧ H = H' ∧ ∃ z : Int, some (vI z) = r ∧ (0 ≤ z ∧ z ≤ 100) ∧ ((((a0 ≤ a1 ∧ z = a0) ∨ (a1 < a0 ∧ z = a1))))
set_option maxHeartbeats 4000000 in
theorem u_191 {kt : Nat → Option mc_E} {T : wq_T} {H : wq_H} {a0 : Int} {a1 : Int} (hW : WT T H) (i0 : 0 ≤ a0 ∧ a0 ≤ 100) (i1 : 0 ≤ a1 ∧ a1 ≤ 100) : wpc kt 1 191 [vI a0, vI a1] T H (uq_191 a0 a1 T H) := by
  refine wp_enter e191 (Nat.le_of_ble_eq_true rfl) rfl ?_
  show wp _ _ 191 0 [(0, vI a0), (1, vI a1)] [] _ H _
  refine wp_of e191 c191_0 (rw_iload_n (pc' := 1) (z := a0) rfl rfl ?_)
  refine wp_of e191 c191_1 (rw_iload_n (pc' := 2) (z := a1) rfl rfl ?_)
  refine wp_of e191 c191_2 (rw_icmp_ge (p1 := 9) (p2 := 5) (by decide) rfl ⟨Int.le_trans (by decide) i0.1, Int.le_trans i0.2 (by decide)⟩ ⟨Int.le_trans (by decide) i1.1, Int.le_trans i1.2 (by decide)⟩ (fun c1002 => ?_) (fun c1002 => ?_))
  · refine wp_of e191 c191_9 (rw_iload_n (pc' := 10) (z := a1) rfl rfl ?_)
    exact wp_ireturn e191 c191_10 rfl ⟨rfl, rfl, a1, rfl, ⟨i1.1, i1.2⟩, (by omega)⟩
  · refine wp_of e191 c191_5 (rw_iload_n (pc' := 6) (z := a0) rfl rfl ?_)
    refine wp_of e191 c191_6 (rw_goto (p1 := 10) (by decide) ?_)
    exact wp_ireturn e191 c191_10 rfl ⟨rfl, rfl, a0, rfl, ⟨i0.1, i0.2⟩, (by omega)⟩
/-! StrikeAwakeModel.goesOn()V k -/
abbrev uq_172_k (r0 : Nat) (rb : Nat) (B : Nat → Int) (n : Int) (a : Int) (q : Int) (T : wq_T) (H : wq_H) : Option Value → wq_T → wq_H → Prop := fun r T' H' => T = T' ∧ WT T H' ∧ wfr [(42, 8), (42, 9), (42, 10), (42, 11), (42, 12), (42, 15)] T H H' ∧ none = r ∧ ((RC T H' r0 B n q))
set_option maxHeartbeats 4000000 in
theorem u_172_k {kt : Nat → Option mc_E} {T : wq_T} {H : wq_H} {r0 : Nat} {rb : Nat} {B : Nat → Int} {n : Int} {a : Int} {q : Int} (hW : WT T H) (g0 : T.2.2.2 r0 = some 42) (qrb : H r0 5 = (rb : Int)) (grb : T.2.2.2 rb = some 43) (p0 : H r0 9 ≤ 4) (p1 : H r0 8 = a) (p2 : a ≤ n) (p3 : H r0 7 = n) (p4 : H r0 13 = 0) (p5 : q = xG 32 32 B n a) (hTM_rb : TM T H rb B) : wpc kt 2 172 [.ref r0] T H (uq_172_k r0 rb B n a q T H) := by
  refine wp_enter e172 (Nat.le_of_ble_eq_true rfl) rfl ?_
  have f0 : wfr [(42, 8), (42, 9), (42, 10), (42, 11), (42, 12), (42, 15)] T H H := wfr.rf
  show wp _ _ 172 0 [(0, .ref r0)] [] _ H _
  have b7407 : 0 ≤ H r0 9 ∧ H r0 9 ≤ 5 := hW.box g0 (n := 33) rfl (by decide) rfl
  have b7408 : 0 ≤ H r0 8 ∧ H r0 8 ≤ 900 := hW.box g0 (n := 33) rfl (by decide) rfl
  have b7409 : 0 ≤ H r0 7 ∧ H r0 7 ≤ 900 := hW.box g0 (n := 33) rfl (by decide) rfl
  have b7410 : (-2147483648) ≤ H r0 13 ∧ H r0 13 ≤ 2147483647 := hW.box g0 (n := 33) rfl (by decide) rfl
  have _x0 := @xG_b2 32 32 B n a (by omega)
  have _q : q ≤ n := by omega
  have _x1 := @xG_b2 97 122 B n q _q
  have _x2 := @xG_b2 48 57 B n q _q
  have _o : xso 0 = 1 ∧ xso 1 = 2 ∧ xso 2 = 3 ∧ xso 3 = 4 ∧ xso 4 = 4 ∧ xso 5 = 0 := ⟨rfl, rfl, rfl, rfl, rfl, rfl⟩
  refine wp_of e172 c172_0 (rw_aload_n (pc' := 1) (v := .ref r0) rfl rfl rfl ?_)
  refine wp_of e172 c172_1 (xg_I (pc' := 4) lf_9_75 hW g0 sh_42 (by decide) (by decide) ty_42_9 rfl rfl (fun b7411 b7412 => ?_))
  refine wp_of e172 c172_4 (rw_iconst (pc' := 5) rfl ?_)
  have jn7507 : ∀  (H7506 : wq_H), WT T H7506 → wfr [(42, 8)] T H H7506 → (H7506 r0 8 = q) → wp kt 1 172 35 [(0, .ref r0)] [] T H7506 (uq_172_k r0 rb B n a q T H) := by
    intro H7506 w7508 f7509 x7510
    have f7511 := f0.tr f7509 rfl
    refine wp_of e172 c172_35 (rw_aload_n (pc' := 36) (v := .ref r0) rfl rfl rfl ?_)
    refine wp_of e172 c172_36 (rw_aload_n (pc' := 37) (v := .ref r0) rfl rfl rfl ?_)
    refine wp_of e172 c172_37 (xg_I (pc' := 40) lf_9_78 w7508 g0 sh_42 (by decide) (by decide) ty_42_8 rfl rfl (fun b7512 b7513 => ?_))
    refine wp_of e172 c172_40 (xp_I (pc' := 43) lf_9_84 w7508 g0 sh_42 (by decide) (by decide) ty_42_10 rfl rfl (Int.le_trans (by decide) b7512) (Int.le_trans b7513 (by decide)) ⟨Int.le_trans (by decide) b7512, Int.le_trans b7513 (by decide)⟩ rfl (fun H7514 e7515 w7516 => ?_))
    have f7517 := f7511.put' e7515 g0 rfl
    have k7518 : H7514 r0 10 = H7506 r0 8 := wq_u_s e7515
    refine wp_of e172 c172_43 (rw_aload_n (pc' := 44) (v := .ref r0) rfl rfl rfl ?_)
    refine wp_of e172 c172_44 (rw_iconst (pc' := 45) rfl ?_)
    refine wp_of e172 c172_45 (xp_I (pc' := 48) lf_9_75 w7516 g0 sh_42 (by decide) (by decide) ty_42_9 rfl rfl (by decide) (by decide) ⟨by decide, by decide⟩ rfl (fun H7519 e7520 w7521 => ?_))
    have f7522 := f7517.put' e7520 g0 rfl
    have k7523 : H7519 r0 9 = 0 := wq_u_s e7520
    refine wp_of e172 c172_48 (rw_aload_n (pc' := 49) (v := .ref r0) rfl rfl rfl ?_)
    refine wp_of e172 c172_49 (rw_iconst (pc' := 50) rfl ?_)
    refine wp_of e172 c172_50 (xp_I (pc' := 53) lf_9_87 w7521 g0 sh_42 (by decide) (by decide) ty_42_11 rfl rfl (by decide) (by decide) ⟨by decide, by decide⟩ rfl (fun H7524 e7525 w7526 => ?_))
    have f7527 := f7522.put' e7525 g0 rfl
    have k7528 : H7524 r0 11 = 0 := wq_u_s e7525
    refine wp_of e172 c172_53 (rw_aload_n (pc' := 54) (v := .ref r0) rfl rfl rfl ?_)
    refine wp_of e172 c172_54 (rw_aload_n (pc' := 55) (v := .ref r0) rfl rfl rfl ?_)
    have k7529 : H7524 r0 8 = H7506 r0 8 := ((wq_u_j e7525 rfl).trans ((wq_u_j e7520 rfl).trans (wq_u_j e7515 rfl)))
    refine wp_of e172 c172_55 (xg_I (pc' := 58) lf_9_78 w7526 g0 sh_42 (by decide) (by decide) ty_42_8 rfl rfl (fun b7530 b7531 => ?_))
    have k7532 : H7524 r0 5 = H r0 5 := ((wq_u_j e7525 rfl).trans ((wq_u_j e7520 rfl).trans ((wq_u_j e7515 rfl).trans (f7509 r0 5 _ g0 rfl))))
    have q7533 : H7524 r0 5 = (rb : Int) := k7532.trans qrb
    have k7534 : H7524 r0 7 = H r0 7 := ((wq_u_j e7525 rfl).trans ((wq_u_j e7520 rfl).trans ((wq_u_j e7515 rfl).trans (f7509 r0 7 _ g0 rfl))))
    have h7535 : TM T H7524 rb B := (TM_fr w7521 grb ((wfr.rf (l := [(42, 11)])).put' e7525 g0 rfl) rfl (TM_fr w7516 grb ((wfr.rf (l := [(42, 9)])).put' e7520 g0 rfl) rfl (TM_fr w7508 grb ((wfr.rf (l := [(42, 10)])).put' e7515 g0 rfl) rfl (TM_fr hW grb f7509 rfl hTM_rb))))
    refine wp_of e172 c172_58 (xc_V (pc' := 61) (r := r0) (as := [vI (H7524 r0 8)]) (st := []) (lm_9_81) rfl rfl (Nat.le_of_ble_eq_true rfl) w7526 g0 sh_42 (by decide) rfl (by decide) (u_173 (B := B) (n := n) (y := q) w7526 g0 ⟨b7530, b7531⟩ q7533 grb (by omega) (by omega) h7535) (fun R7536 T7537 H7538 p7539 => ?_))
    obtain ⟨e7540, e7542, z7543, e7541, b7544, p7545⟩ := p7539
    subst e7540
    subst e7541
    subst e7542
    rcases p7545 with ⟨a7546, a7547⟩ | ⟨a7548, a7549, a7550, a7551⟩
    · show wp _ _ 172 61 [(0, .ref r0)] [vI z7543] _ H7524 _
      refine wp_of e172 c172_61 (rw_istore_n (pc' := 62) (z := z7543) (L' := [(1, vI z7543), (0, .ref r0)]) rfl rfl rfl ?_)
      refine wp_of e172 c172_62 (rw_iconst (pc' := 63) rfl ?_)
      refine wp_of e172 c172_63 (rw_istore_n (pc' := 64) (z := 0) (L' := [(2, vI 0), (1, vI z7543), (0, .ref r0)]) rfl rfl rfl ?_)
      refine wp_of e172 c172_64 (rw_iload_n (pc' := 65) (z := z7543) rfl rfl ?_)
      refine wp_of e172 c172_65 (rw_iconst (pc' := 66) rfl ?_)
      refine wp_of e172 c172_66 (rw_icmp_ne (p1 := 77) (p2 := 69) (by decide) rfl ⟨b7544.1, b7544.2⟩ ⟨by decide, by decide⟩ (fun c7552 => ?_) (fun c7552 => ?_))
      · exfalso
        omega
      · refine wp_of e172 c172_69 (rw_aload_n (pc' := 70) (v := .ref r0) rfl rfl rfl ?_)
        refine wp_of e172 c172_70 (rw_iconst (pc' := 71) rfl ?_)
        refine wp_of e172 c172_71 (xp_I (pc' := 74) lf_9_75 w7526 g0 sh_42 (by decide) (by decide) ty_42_9 rfl rfl (by decide) (by decide) ⟨by decide, by decide⟩ rfl (fun H7553 e7554 w7555 => ?_))
        have f7556 := f7527.put' e7554 g0 rfl
        have k7557 : H7553 r0 9 = 1 := wq_u_s e7554
        refine wp_of e172 c172_74 (rw_goto (p1 := 281) (by decide) ?_)
        have k7558 : H7553 r0 8 = H7524 r0 8 := (wq_u_j e7554 rfl)
        have k7559 : H7553 r0 7 = H7524 r0 7 := (wq_u_j e7554 rfl)
        have k7560 : H7553 r0 13 = H r0 13 := ((wq_u_j e7554 rfl).trans ((wq_u_j e7525 rfl).trans ((wq_u_j e7520 rfl).trans ((wq_u_j e7515 rfl).trans (f7509 r0 13 _ g0 rfl)))))
        have k7561 : H7553 r0 10 = H7514 r0 10 := ((wq_u_j e7554 rfl).trans ((wq_u_j e7525 rfl).trans (wq_u_j e7520 rfl)))
        have k7562 : H7553 r0 11 = H7524 r0 11 := (wq_u_j e7554 rfl)
        obtain ⟨kk, hk⟩ : ∃ x : Int, xK B n q = x := ⟨_, rfl⟩
        obtain ⟨ke, he⟩ : ∃ x : Int, xE B n q = x := ⟨_, rfl⟩
        first
          | have hl := @xM1 B n q (by omega -splitDisjunctions) (by omega -splitDisjunctions) (by omega -splitDisjunctions) (by omega -splitDisjunctions)
          | have hl := @xM5 B n q (by omega -splitDisjunctions) (by omega -splitDisjunctions) (by omega -splitDisjunctions) (by omega -splitDisjunctions)
          | have hl := @xM2 B n q (by omega -splitDisjunctions) (by omega -splitDisjunctions) (by omega -splitDisjunctions) (by omega -splitDisjunctions)
          | have hl := @xM6 B n q (by omega -splitDisjunctions) (by omega -splitDisjunctions) (by omega -splitDisjunctions) (by omega -splitDisjunctions)
          | have hl := @xM0 B n q (by omega -splitDisjunctions)
          | have hl := @xM3 B n q (by omega -splitDisjunctions) (by omega -splitDisjunctions)
          | have hl := @xM4 B n q (by omega -splitDisjunctions) (by omega -splitDisjunctions)
          | have hl := @xM7 B n q (by omega -splitDisjunctions) (by omega) (by omega) (by omega) (by omega)
          | have hl := @xM1 B n q (by omega) (by omega) (by omega) (by omega)
          | have hl := @xM5 B n q (by omega) (by omega) (by omega) (by omega)
          | have hl := @xM2 B n q (by omega) (by omega) (by omega) (by omega)
          | have hl := @xM6 B n q (by omega) (by omega) (by omega) (by omega)
          | have hl := @xM0 B n q (by omega)
          | have hl := @xM3 B n q (by omega) (by omega)
          | have hl := @xM4 B n q (by omega) (by omega)
          | have hl := @xM7 B n q (by omega) (by omega) (by omega) (by omega) (by omega)
        have hk2 := hl.1.symm
        have he2 := hl.2.symm
        rw [hk] at hk2
        rw [he] at he2
        have k7563 : H7553 r0 5 = H7524 r0 5 := (wq_u_j e7554 rfl)
        have q7564 : H7553 r0 5 = (rb : Int) := k7563.trans q7533
        have h7565 : TM T H7553 rb B := (TM_fr w7526 grb ((wfr.rf (l := [(42, 9)])).put' e7554 g0 rfl) rfl h7535)
        exact wp_return e172 c172_281 rfl ⟨rfl, w7555, f7556, rfl, (RC_mk q7564 grb h7565 (by omega) (by rw [hk, ← hk2]; omega) (by omega) (by omega) (by omega) (by omega) (by omega))⟩
    · show wp _ _ 172 61 [(0, .ref r0)] [vI z7543] _ H7524 _
      refine wp_of e172 c172_61 (rw_istore_n (pc' := 62) (z := z7543) (L' := [(1, vI z7543), (0, .ref r0)]) rfl rfl rfl ?_)
      refine wp_of e172 c172_62 (rw_iconst (pc' := 63) rfl ?_)
      refine wp_of e172 c172_63 (rw_istore_n (pc' := 64) (z := 0) (L' := [(2, vI 0), (1, vI z7543), (0, .ref r0)]) rfl rfl rfl ?_)
      refine wp_of e172 c172_64 (rw_iload_n (pc' := 65) (z := z7543) rfl rfl ?_)
      refine wp_of e172 c172_65 (rw_iconst (pc' := 66) rfl ?_)
      refine wp_of e172 c172_66 (rw_icmp_ne (p1 := 77) (p2 := 69) (by decide) rfl ⟨b7544.1, b7544.2⟩ ⟨by decide, by decide⟩ (fun c7566 => ?_) (fun c7566 => ?_))
      · refine wp_of e172 c172_77 (rw_iload_n (pc' := 78) (z := z7543) rfl rfl ?_)
        refine wp_of e172 c172_78 (xc_S (pc' := 81) (as := [vI z7543]) (st := []) (lm_9_90) rfl rfl (Nat.le_of_ble_eq_true rfl) rfl (by decide) (u_174  w7526 ⟨b7544.1, b7544.2⟩) (fun R7567 T7568 H7569 p7570 => ?_))
        obtain ⟨e7571, e7573, z7574, e7572, b7575, p7576⟩ := p7570
        subst e7571
        subst e7572
        subst e7573
        rcases p7576 with ⟨a7577, a7578⟩ | ⟨a7579, a7580⟩
        · show wp _ _ 172 81 [(2, vI 0), (1, vI z7543), (0, .ref r0)] [vI z7574] _ H7524 _
          refine wp_of e172 c172_81 (rw_if_eq (p1 := 166) (p2 := 84) (by decide) rfl ⟨Int.le_trans (by decide) b7575.1, Int.le_trans b7575.2 (by decide)⟩ (fun c7581 => ?_) (fun c7581 => ?_))
          · exfalso
            omega
          · have jn9040 : ∀ (v9038 : Int) (H9039 : wq_H), WT T H9039 → wfr [(42, 8), (42, 15)] T H7524 H9039 → (0 ≤ v9038 ∧ v9038 ≤ 900) → (H9039 r0 8 = xG 97 122 B n q) → (v9038 = H9039 r0 8 - q) → (8 < v9038 ∨ H9039 r0 15 = xY B n q) → wp kt 1 172 152 [(2, vI v9038), (0, .ref r0)] [] T H9039 (uq_172_k r0 rb B n a q T H) := by
              intro v9038 H9039 w9041 f9042 b9043 x9044 x9045 x9046
              have f9047 := f7527.tr f9042 rfl
              refine wp_of e172 c172_152 (rw_iload_n (pc' := 153) (z := v9038) rfl rfl ?_)
              refine wp_of e172 c172_153 (rw_bipush (pc' := 155) (z := 8) rfl (by decide) ?_)
              refine wp_of e172 c172_155 (rw_icmp_gt (p1 := 281) (p2 := 158) (by decide) rfl ⟨by omega, by omega⟩ ⟨by decide, by decide⟩ (fun c9048 => ?_) (fun c9048 => ?_))
              · have k9049 : H9039 r0 9 = H7519 r0 9 := ((f9042 r0 9 _ g0 rfl).trans (wq_u_j e7525 rfl))
                have k9050 : H9039 r0 7 = H7524 r0 7 := (f9042 r0 7 _ g0 rfl)
                have k9051 : H9039 r0 13 = H r0 13 := ((f9042 r0 13 _ g0 rfl).trans ((wq_u_j e7525 rfl).trans ((wq_u_j e7520 rfl).trans ((wq_u_j e7515 rfl).trans (f7509 r0 13 _ g0 rfl)))))
                have k9052 : H9039 r0 10 = H7514 r0 10 := ((f9042 r0 10 _ g0 rfl).trans ((wq_u_j e7525 rfl).trans (wq_u_j e7520 rfl)))
                have k9053 : H9039 r0 11 = H7524 r0 11 := (f9042 r0 11 _ g0 rfl)
                obtain ⟨kk, hk⟩ : ∃ x : Int, xK B n q = x := ⟨_, rfl⟩
                obtain ⟨ke, he⟩ : ∃ x : Int, xE B n q = x := ⟨_, rfl⟩
                first
                  | have hl := @xM1 B n q (by omega -splitDisjunctions) (by omega -splitDisjunctions) (by omega -splitDisjunctions) (by omega -splitDisjunctions)
                  | have hl := @xM5 B n q (by omega -splitDisjunctions) (by omega -splitDisjunctions) (by omega -splitDisjunctions) (by omega -splitDisjunctions)
                  | have hl := @xM2 B n q (by omega -splitDisjunctions) (by omega -splitDisjunctions) (by omega -splitDisjunctions) (by omega -splitDisjunctions)
                  | have hl := @xM6 B n q (by omega -splitDisjunctions) (by omega -splitDisjunctions) (by omega -splitDisjunctions) (by omega -splitDisjunctions)
                  | have hl := @xM0 B n q (by omega -splitDisjunctions)
                  | have hl := @xM3 B n q (by omega -splitDisjunctions) (by omega -splitDisjunctions)
                  | have hl := @xM4 B n q (by omega -splitDisjunctions) (by omega -splitDisjunctions)
                  | have hl := @xM7 B n q (by omega -splitDisjunctions) (by omega) (by omega) (by omega) (by omega)
                  | have hl := @xM1 B n q (by omega) (by omega) (by omega) (by omega)
                  | have hl := @xM5 B n q (by omega) (by omega) (by omega) (by omega)
                  | have hl := @xM2 B n q (by omega) (by omega) (by omega) (by omega)
                  | have hl := @xM6 B n q (by omega) (by omega) (by omega) (by omega)
                  | have hl := @xM0 B n q (by omega)
                  | have hl := @xM3 B n q (by omega) (by omega)
                  | have hl := @xM4 B n q (by omega) (by omega)
                  | have hl := @xM7 B n q (by omega) (by omega) (by omega) (by omega) (by omega)
                have hk2 := hl.1.symm
                have he2 := hl.2.symm
                rw [hk] at hk2
                rw [he] at he2
                have k9054 : H9039 r0 5 = H7524 r0 5 := (f9042 r0 5 _ g0 rfl)
                have q9055 : H9039 r0 5 = (rb : Int) := k9054.trans q7533
                have h9056 : TM T H9039 rb B := (TM_fr w7526 grb f9042 rfl h7535)
                exact wp_return e172 c172_281 rfl ⟨rfl, w9041, f9047, rfl, (RC_mk q9055 grb h9056 (by omega) (by rw [hk, ← hk2]; omega) (by omega) (by omega) (by omega) (by omega) (by omega))⟩
              · refine wp_of e172 c172_158 (rw_aload_n (pc' := 159) (v := .ref r0) rfl rfl rfl ?_)
                refine wp_of e172 c172_159 (rw_iconst (pc' := 160) rfl ?_)
                refine wp_of e172 c172_160 (xp_I (pc' := 163) lf_9_75 w9041 g0 sh_42 (by decide) (by decide) ty_42_9 rfl rfl (by decide) (by decide) ⟨by decide, by decide⟩ rfl (fun H9057 e9058 w9059 => ?_))
                have f9060 := f9047.put' e9058 g0 rfl
                have k9061 : H9057 r0 9 = 2 := wq_u_s e9058
                refine wp_of e172 c172_163 (rw_goto (p1 := 281) (by decide) ?_)
                have k9062 : H9057 r0 8 = H9039 r0 8 := (wq_u_j e9058 rfl)
                have k9063 : H9057 r0 7 = H7524 r0 7 := ((wq_u_j e9058 rfl).trans (f9042 r0 7 _ g0 rfl))
                have k9064 : H9057 r0 13 = H r0 13 := ((wq_u_j e9058 rfl).trans ((f9042 r0 13 _ g0 rfl).trans ((wq_u_j e7525 rfl).trans ((wq_u_j e7520 rfl).trans ((wq_u_j e7515 rfl).trans (f7509 r0 13 _ g0 rfl))))))
                have k9065 : H9057 r0 10 = H7514 r0 10 := ((wq_u_j e9058 rfl).trans ((f9042 r0 10 _ g0 rfl).trans ((wq_u_j e7525 rfl).trans (wq_u_j e7520 rfl))))
                have k9066 : H9057 r0 15 = H9039 r0 15 := (wq_u_j e9058 rfl)
                have k9067 : H9057 r0 11 = H7524 r0 11 := ((wq_u_j e9058 rfl).trans (f9042 r0 11 _ g0 rfl))
                obtain ⟨kk, hk⟩ : ∃ x : Int, xK B n q = x := ⟨_, rfl⟩
                obtain ⟨ke, he⟩ : ∃ x : Int, xE B n q = x := ⟨_, rfl⟩
                first
                  | have hl := @xM1 B n q (by omega -splitDisjunctions) (by omega -splitDisjunctions) (by omega -splitDisjunctions) (by omega -splitDisjunctions)
                  | have hl := @xM5 B n q (by omega -splitDisjunctions) (by omega -splitDisjunctions) (by omega -splitDisjunctions) (by omega -splitDisjunctions)
                  | have hl := @xM2 B n q (by omega -splitDisjunctions) (by omega -splitDisjunctions) (by omega -splitDisjunctions) (by omega -splitDisjunctions)
                  | have hl := @xM6 B n q (by omega -splitDisjunctions) (by omega -splitDisjunctions) (by omega -splitDisjunctions) (by omega -splitDisjunctions)
                  | have hl := @xM0 B n q (by omega -splitDisjunctions)
                  | have hl := @xM3 B n q (by omega -splitDisjunctions) (by omega -splitDisjunctions)
                  | have hl := @xM4 B n q (by omega -splitDisjunctions) (by omega -splitDisjunctions)
                  | have hl := @xM7 B n q (by omega -splitDisjunctions) (by omega) (by omega) (by omega) (by omega)
                  | have hl := @xM1 B n q (by omega) (by omega) (by omega) (by omega)
                  | have hl := @xM5 B n q (by omega) (by omega) (by omega) (by omega)
                  | have hl := @xM2 B n q (by omega) (by omega) (by omega) (by omega)
                  | have hl := @xM6 B n q (by omega) (by omega) (by omega) (by omega)
                  | have hl := @xM0 B n q (by omega)
                  | have hl := @xM3 B n q (by omega) (by omega)
                  | have hl := @xM4 B n q (by omega) (by omega)
                  | have hl := @xM7 B n q (by omega) (by omega) (by omega) (by omega) (by omega)
                have hk2 := hl.1.symm
                have he2 := hl.2.symm
                rw [hk] at hk2
                rw [he] at he2
                have k9068 : H9057 r0 5 = H7524 r0 5 := ((wq_u_j e9058 rfl).trans (f9042 r0 5 _ g0 rfl))
                have q9069 : H9057 r0 5 = (rb : Int) := k9068.trans q7533
                have h9070 : TM T H9057 rb B := (TM_fr w9041 grb ((wfr.rf (l := [(42, 9)])).put' e9058 g0 rfl) rfl (TM_fr w7526 grb f9042 rfl h7535))
                exact wp_return e172 c172_281 rfl ⟨rfl, w9059, f9060, rfl, (RC_mk q9069 grb h9070 (by omega) (by rw [hk, ← hk2]; omega) (by omega) (by omega) (by omega) (by omega) (by omega))⟩
            have f9071 : wfr [(42, 8), (42, 15)] T H7524 H7524 := wfr.rf
            refine wp_of e172 c172_84 (rw_aload_n (pc' := 85) (v := .ref r0) rfl rfl rfl ?_)
            refine wp_of e172 c172_85 (rw_lconst (pc' := 86) (z := 0) rfl rfl ?_)
            refine wp_of e172 c172_86 (xp_L (pc' := 89) lf_9_94 w7526 g0 sh_42 (by decide) (by decide) ty_42_15 rfl rfl (by decide) (by decide) ⟨by decide, by decide⟩ rfl (fun H9072 e9073 w9074 => ?_))
            have f9075 := f7527.put' e9073 g0 rfl
            have f9076 := f9071.put' e9073 g0 rfl
            have k9077 : H9072 r0 15 = 0 := wq_u_s e9073
            have k10427 : H9072 r0 8 = H7524 r0 8 := (wq_u_j e9073 rfl)
            have lp10421 : ∀ (n10422 : Nat) (v10424 : Int) (H10425 : wq_H) (p10426 : Int), WT T H10425 → wfr [(42, 8), (42, 15)] T H9072 H10425 → (0 ≤ v10424 ∧ v10424 ≤ 900) → (H10425 r0 8 = p10426) → (xG 97 122 B n p10426 = xG 97 122 B n q) → (q ≤ p10426) → (p10426 ≤ n) → (v10424 = p10426 - q) → (8 < p10426 - q ∨ H10425 r0 15 = xkf 32 96 B q (p10426 - q).toNat) → (900 - p10426).toNat = n10422 → wp kt 1 172 89 [(2, vI v10424), (0, .ref r0)] [] T H10425 (uq_172_k r0 rb B n a q T H) := by
              intro n10422
              induction n10422 using Nat.strongRecOn with
              | _ n10422 ih10423 =>
                intro v10424 H10425 p10426 w10428 f10429 b10430 x10432 x10433 x10434 x10435 x10436 x10437 m10431
                have f10438 := f9075.tr f10429 rfl
                have f10439 := f9076.tr f10429 rfl
                have := @xG_b2 97 122 B n p10426 (by omega)
                have := @xkf_Y2 B n q p10426 (by omega) (by omega)
                refine wp_of e172 c172_89 (rw_aload_n (pc' := 90) (v := .ref r0) rfl rfl rfl ?_)
                refine wp_of e172 c172_90 (rw_aload_n (pc' := 91) (v := .ref r0) rfl rfl rfl ?_)
                refine wp_of e172 c172_91 (xg_I (pc' := 94) lf_9_78 w10428 g0 sh_42 (by decide) (by decide) ty_42_8 rfl rfl (fun b10440 b10441 => ?_))
                have k10442 : H10425 r0 5 = H7524 r0 5 := ((f10429 r0 5 _ g0 rfl).trans (wq_u_j e9073 rfl))
                have q10443 : H10425 r0 5 = (rb : Int) := k10442.trans q7533
                have k10444 : H10425 r0 7 = H7524 r0 7 := ((f10429 r0 7 _ g0 rfl).trans (wq_u_j e9073 rfl))
                have h10445 : TM T H10425 rb B := (TM_fr w9074 grb f10429 rfl (TM_fr w7526 grb ((wfr.rf (l := [(42, 15)])).put' e9073 g0 rfl) rfl h7535))
                refine wp_of e172 c172_94 (xc_V (pc' := 97) (r := r0) (as := [vI (H10425 r0 8)]) (st := []) (lm_9_81) rfl rfl (Nat.le_of_ble_eq_true rfl) w10428 g0 sh_42 (by decide) rfl (by decide) (u_173 (B := B) (n := n) (y := p10426) w10428 g0 ⟨b10440, b10441⟩ q10443 grb (by omega) (by omega) h10445) (fun R10446 T10447 H10448 p10449 => ?_))
                obtain ⟨e10450, e10452, z10453, e10451, b10454, p10455⟩ := p10449
                subst e10450
                subst e10451
                subst e10452
                rcases p10455 with ⟨a10456, a10457⟩ | ⟨a10458, a10459, a10460, a10461⟩
                · show wp _ _ 172 97 [(2, vI v10424), (0, .ref r0)] [vI z10453] _ H10425 _
                  refine wp_of e172 c172_97 (xc_S (pc' := 100) (as := [vI z10453]) (st := []) (lm_9_90) rfl rfl (Nat.le_of_ble_eq_true rfl) rfl (by decide) (u_174  w10428 ⟨b10454.1, b10454.2⟩) (fun R10462 T10463 H10464 p10465 => ?_))
                  obtain ⟨e10466, e10468, z10469, e10467, b10470, p10471⟩ := p10465
                  subst e10466
                  subst e10467
                  subst e10468
                  rcases p10471 with ⟨a10472, a10473⟩ | ⟨a10474, a10475⟩
                  · show wp _ _ 172 100 [(2, vI v10424), (0, .ref r0)] [vI z10469] _ H10425 _
                    refine wp_of e172 c172_100 (rw_if_eq (p1 := 152) (p2 := 103) (by decide) rfl ⟨Int.le_trans (by decide) b10470.1, Int.le_trans b10470.2 (by decide)⟩ (fun c10476 => ?_) (fun c10476 => ?_))
                    · exfalso
                      omega
                    · refine wp_of e172 c172_103 (rw_iload_n (pc' := 104) (z := v10424) rfl rfl ?_)
                      refine wp_of e172 c172_104 (rw_bipush (pc' := 106) (z := 8) rfl (by decide) ?_)
                      refine wp_of e172 c172_106 (rw_icmp_ge (p1 := 136) (p2 := 109) (by decide) rfl ⟨Int.le_trans (by decide) b10430.1, Int.le_trans b10430.2 (by decide)⟩ ⟨by decide, by decide⟩ (fun c10477 => ?_) (fun c10477 => ?_))
                      · refine wp_of e172 c172_136 (rw_iinc (pc' := 139) (z := v10424) (L' := [(2, vI (v10424 + 1)), (0, .ref r0)]) rfl rfl rfl rfl ?_)
                        refine wp_of e172 c172_139 (rw_aload_n (pc' := 140) (v := .ref r0) rfl rfl rfl ?_)
                        refine wp_of e172 c172_140 (rw_dup (pc' := 141) rfl rfl ?_)
                        refine wp_of e172 c172_141 (xg_I (pc' := 144) lf_9_78 w10428 g0 sh_42 (by decide) (by decide) ty_42_8 rfl rfl (fun b10478 b10479 => ?_))
                        refine wp_of e172 c172_144 (rw_iconst (pc' := 145) rfl ?_)
                        refine wp_of e172 c172_145 (rw_iadd (pc' := 146) rfl ?_)
                        refine wp_of e172 c172_146 (xp_I (pc' := 149) lf_9_78 w10428 g0 sh_42 (by decide) (by decide) ty_42_8 rfl rfl (by omega) (by omega) ⟨by omega, by omega⟩ rfl (fun H10480 e10481 w10482 => ?_))
                        have f10483 := f10438.put' e10481 g0 rfl
                        have f10484 := f10439.put' e10481 g0 rfl
                        have f10485 := f10429.put' e10481 g0 rfl
                        have k10486 : H10480 r0 8 = (H10425 r0 8) + 1 := wq_u_s e10481
                        refine wp_of e172 c172_149 (rw_goto (p1 := 89) (by decide) ?_)
                        have k10487 : H10480 r0 15 = H10425 r0 15 := (wq_u_j e10481 rfl)
                        have := @xG_s 97 122 B n p10426 (by omega) (by omega) (by omega)
                        have := @xkf_s B q 32 96 p10426 (by omega)
                        exact wp_lc (ks := [2, 0]) (wl_c rfl (wl_c rfl wl_n)) rfl (by decide) (ih10423 _ (by omega) (v10424 + 1) H10480 ((p10426 + 1)) w10482 f10485 ⟨by omega, by omega⟩ (by omega) (by omega) (by omega) (by omega) (by omega) (by omega) rfl)
                      · refine wp_of e172 c172_109 (rw_aload_n (pc' := 110) (v := .ref r0) rfl rfl rfl ?_)
                        refine wp_of e172 c172_110 (rw_ldc2 (pc' := 113) (z := 32) rfl rfl rfl ?_)
                        refine wp_of e172 c172_113 (rw_aload_n (pc' := 114) (v := .ref r0) rfl rfl rfl ?_)
                        refine wp_of e172 c172_114 (xg_L (pc' := 117) lf_9_94 w10428 g0 sh_42 (by decide) (by decide) ty_42_15 rfl rfl (fun b10488 b10489 => ?_))
                        refine wp_of e172 c172_117 (rw_lmulw (pc' := 118) rfl ?_)
                        obtain ⟨v10490, e10491⟩ : ∃ x : Int, x = wl_w (32 * (H10425 r0 15)) := ⟨_, rfl⟩
                        rw [← e10491]
                        have b10492 : -9223372036854775808 ≤ v10490 ∧ v10490 ≤ 9223372036854775807 := by
                          rw [e10491]
                          exact wL_w _
                        have b10493 : (-9223372036854775808 ≤ 32 * (H10425 r0 15) ∧ 32 * (H10425 r0 15) ≤ 9223372036854775807) → v10490 = 32 * (H10425 r0 15) := fun h => by rw [e10491]; exact wl_w_id h
                        refine wp_of e172 c172_118 (rw_aload_n (pc' := 119) (v := .ref r0) rfl rfl rfl ?_)
                        refine wp_of e172 c172_119 (rw_aload_n (pc' := 120) (v := .ref r0) rfl rfl rfl ?_)
                        refine wp_of e172 c172_120 (xg_I (pc' := 123) lf_9_78 w10428 g0 sh_42 (by decide) (by decide) ty_42_8 rfl rfl (fun b10494 b10495 => ?_))
                        refine wp_of e172 c172_123 (xc_V (pc' := 126) (r := r0) (as := [vI (H10425 r0 8)]) (st := [vL v10490, .ref r0]) (lm_9_81) rfl rfl (Nat.le_of_ble_eq_true rfl) w10428 g0 sh_42 (by decide) rfl (by decide) (u_173 (B := B) (n := n) (y := p10426) w10428 g0 ⟨b10494, b10495⟩ q10443 grb (by omega) (by omega) h10445) (fun R10496 T10497 H10498 p10499 => ?_))
                        obtain ⟨e10500, e10502, z10503, e10501, b10504, p10505⟩ := p10499
                        subst e10500
                        subst e10501
                        subst e10502
                        rcases p10505 with ⟨a10506, a10507⟩ | ⟨a10508, a10509, a10510, a10511⟩
                        · show wp _ _ 172 126 [(2, vI v10424), (0, .ref r0)] [vI z10503, vL v10490, .ref r0] _ H10425 _
                          refine wp_of e172 c172_126 (rw_bipush (pc' := 128) (z := 97) rfl (by decide) ?_)
                          refine wp_of e172 c172_128 (rw_isub (pc' := 129) rfl ?_)
                          refine wp_of e172 c172_129 (rw_iconst (pc' := 130) rfl ?_)
                          refine wp_of e172 c172_130 (rw_iadd (pc' := 131) rfl ?_)
                          refine wp_of e172 c172_131 (rw_i2l (pc' := 132) rfl ⟨by omega, by omega⟩ ?_)
                          refine wp_of e172 c172_132 (rw_laddw (pc' := 133) rfl ?_)
                          obtain ⟨v10512, e10513⟩ : ∃ x : Int, x = wl_w (v10490 + ((z10503 - 97) + 1)) := ⟨_, rfl⟩
                          rw [← e10513]
                          have b10514 : -9223372036854775808 ≤ v10512 ∧ v10512 ≤ 9223372036854775807 := by
                            rw [e10513]
                            exact wL_w _
                          have b10515 : (-9223372036854775808 ≤ v10490 + ((z10503 - 97) + 1) ∧ v10490 + ((z10503 - 97) + 1) ≤ 9223372036854775807) → v10512 = v10490 + ((z10503 - 97) + 1) := fun h => by rw [e10513]; exact wl_w_id h
                          refine wp_of e172 c172_133 (xp_L (pc' := 136) lf_9_94 w10428 g0 sh_42 (by decide) (by decide) ty_42_15 rfl rfl (b10514.1) (b10514.2) ⟨b10514.1, b10514.2⟩ rfl (fun H10516 e10517 w10518 => ?_))
                          have f10519 := f10438.put' e10517 g0 rfl
                          have f10520 := f10439.put' e10517 g0 rfl
                          have f10521 := f10429.put' e10517 g0 rfl
                          have k10522 : H10516 r0 15 = v10512 := wq_u_s e10517
                          refine wp_of e172 c172_136 (rw_iinc (pc' := 139) (z := v10424) (L' := [(2, vI (v10424 + 1)), (0, .ref r0)]) rfl rfl rfl rfl ?_)
                          refine wp_of e172 c172_139 (rw_aload_n (pc' := 140) (v := .ref r0) rfl rfl rfl ?_)
                          refine wp_of e172 c172_140 (rw_dup (pc' := 141) rfl rfl ?_)
                          have k10523 : H10516 r0 8 = H10425 r0 8 := (wq_u_j e10517 rfl)
                          refine wp_of e172 c172_141 (xg_I (pc' := 144) lf_9_78 w10518 g0 sh_42 (by decide) (by decide) ty_42_8 rfl rfl (fun b10524 b10525 => ?_))
                          refine wp_of e172 c172_144 (rw_iconst (pc' := 145) rfl ?_)
                          refine wp_of e172 c172_145 (rw_iadd (pc' := 146) rfl ?_)
                          refine wp_of e172 c172_146 (xp_I (pc' := 149) lf_9_78 w10518 g0 sh_42 (by decide) (by decide) ty_42_8 rfl rfl (by omega) (by omega) ⟨by omega, by omega⟩ rfl (fun H10526 e10527 w10528 => ?_))
                          have f10529 := f10519.put' e10527 g0 rfl
                          have f10530 := f10520.put' e10527 g0 rfl
                          have f10531 := f10521.put' e10527 g0 rfl
                          have k10532 : H10526 r0 8 = (H10516 r0 8) + 1 := wq_u_s e10527
                          refine wp_of e172 c172_149 (rw_goto (p1 := 89) (by decide) ?_)
                          have k10533 : H10526 r0 15 = H10516 r0 15 := (wq_u_j e10527 rfl)
                          have := @xG_s 97 122 B n p10426 (by omega) (by omega) (by omega)
                          have := @xkf_s B q 32 96 p10426 (by omega)
                          exact wp_lc (ks := [2, 0]) (wl_c rfl (wl_c rfl wl_n)) rfl (by decide) (ih10423 _ (by omega) (v10424 + 1) H10526 ((p10426 + 1)) w10528 f10531 ⟨by omega, by omega⟩ (by omega) (by omega) (by omega) (by omega) (by omega) (by omega) rfl)
                        · show wp _ _ 172 126 [(2, vI v10424), (0, .ref r0)] [vI z10503, vL v10490, .ref r0] _ H10425 _
                          refine wp_of e172 c172_126 (rw_bipush (pc' := 128) (z := 97) rfl (by decide) ?_)
                          refine wp_of e172 c172_128 (rw_isub (pc' := 129) rfl ?_)
                          refine wp_of e172 c172_129 (rw_iconst (pc' := 130) rfl ?_)
                          refine wp_of e172 c172_130 (rw_iadd (pc' := 131) rfl ?_)
                          refine wp_of e172 c172_131 (rw_i2l (pc' := 132) rfl ⟨by omega, by omega⟩ ?_)
                          refine wp_of e172 c172_132 (rw_laddw (pc' := 133) rfl ?_)
                          obtain ⟨v10534, e10535⟩ : ∃ x : Int, x = wl_w (v10490 + ((z10503 - 97) + 1)) := ⟨_, rfl⟩
                          rw [← e10535]
                          have b10536 : -9223372036854775808 ≤ v10534 ∧ v10534 ≤ 9223372036854775807 := by
                            rw [e10535]
                            exact wL_w _
                          have b10537 : (-9223372036854775808 ≤ v10490 + ((z10503 - 97) + 1) ∧ v10490 + ((z10503 - 97) + 1) ≤ 9223372036854775807) → v10534 = v10490 + ((z10503 - 97) + 1) := fun h => by rw [e10535]; exact wl_w_id h
                          refine wp_of e172 c172_133 (xp_L (pc' := 136) lf_9_94 w10428 g0 sh_42 (by decide) (by decide) ty_42_15 rfl rfl (b10536.1) (b10536.2) ⟨b10536.1, b10536.2⟩ rfl (fun H10538 e10539 w10540 => ?_))
                          have f10541 := f10438.put' e10539 g0 rfl
                          have f10542 := f10439.put' e10539 g0 rfl
                          have f10543 := f10429.put' e10539 g0 rfl
                          have k10544 : H10538 r0 15 = v10534 := wq_u_s e10539
                          refine wp_of e172 c172_136 (rw_iinc (pc' := 139) (z := v10424) (L' := [(2, vI (v10424 + 1)), (0, .ref r0)]) rfl rfl rfl rfl ?_)
                          refine wp_of e172 c172_139 (rw_aload_n (pc' := 140) (v := .ref r0) rfl rfl rfl ?_)
                          refine wp_of e172 c172_140 (rw_dup (pc' := 141) rfl rfl ?_)
                          have k10545 : H10538 r0 8 = H10425 r0 8 := (wq_u_j e10539 rfl)
                          refine wp_of e172 c172_141 (xg_I (pc' := 144) lf_9_78 w10540 g0 sh_42 (by decide) (by decide) ty_42_8 rfl rfl (fun b10546 b10547 => ?_))
                          refine wp_of e172 c172_144 (rw_iconst (pc' := 145) rfl ?_)
                          refine wp_of e172 c172_145 (rw_iadd (pc' := 146) rfl ?_)
                          refine wp_of e172 c172_146 (xp_I (pc' := 149) lf_9_78 w10540 g0 sh_42 (by decide) (by decide) ty_42_8 rfl rfl (by omega) (by omega) ⟨by omega, by omega⟩ rfl (fun H10548 e10549 w10550 => ?_))
                          have f10551 := f10541.put' e10549 g0 rfl
                          have f10552 := f10542.put' e10549 g0 rfl
                          have f10553 := f10543.put' e10549 g0 rfl
                          have k10554 : H10548 r0 8 = (H10538 r0 8) + 1 := wq_u_s e10549
                          refine wp_of e172 c172_149 (rw_goto (p1 := 89) (by decide) ?_)
                          have k10555 : H10548 r0 15 = H10538 r0 15 := (wq_u_j e10549 rfl)
                          have := @xG_s 97 122 B n p10426 (by omega) (by omega) (by omega)
                          have := @xkf_s B q 32 96 p10426 (by omega)
                          exact wp_lc (ks := [2, 0]) (wl_c rfl (wl_c rfl wl_n)) rfl (by decide) (ih10423 _ (by omega) (v10424 + 1) H10548 ((p10426 + 1)) w10550 f10553 ⟨by omega, by omega⟩ (by omega) (by omega) (by omega) (by omega) (by omega) (by omega) rfl)
                  · show wp _ _ 172 100 [(2, vI v10424), (0, .ref r0)] [vI z10469] _ H10425 _
                    refine wp_of e172 c172_100 (rw_if_eq (p1 := 152) (p2 := 103) (by decide) rfl ⟨Int.le_trans (by decide) b10470.1, Int.le_trans b10470.2 (by decide)⟩ (fun c10556 => ?_) (fun c10556 => ?_))
                    · have := @xG_e 97 122 B n p10426 (by omega)
                      have := @xY_of B n q p10426
                      exact wp_lc (ks := [2, 0]) (wl_c rfl (wl_c rfl wl_n)) rfl (by decide) (jn9040 v10424 H10425 w10428 f10439 ⟨by omega, by omega⟩ (by omega) (by omega) (by omega))
                    · exfalso
                      omega
                · show wp _ _ 172 97 [(2, vI v10424), (0, .ref r0)] [vI z10453] _ H10425 _
                  refine wp_of e172 c172_97 (xc_S (pc' := 100) (as := [vI z10453]) (st := []) (lm_9_90) rfl rfl (Nat.le_of_ble_eq_true rfl) rfl (by decide) (u_174  w10428 ⟨b10454.1, b10454.2⟩) (fun R10557 T10558 H10559 p10560 => ?_))
                  obtain ⟨e10561, e10563, z10564, e10562, b10565, p10566⟩ := p10560
                  subst e10561
                  subst e10562
                  subst e10563
                  rcases p10566 with ⟨a10567, a10568⟩ | ⟨a10569, a10570⟩
                  · show wp _ _ 172 100 [(2, vI v10424), (0, .ref r0)] [vI z10564] _ H10425 _
                    refine wp_of e172 c172_100 (rw_if_eq (p1 := 152) (p2 := 103) (by decide) rfl ⟨Int.le_trans (by decide) b10565.1, Int.le_trans b10565.2 (by decide)⟩ (fun c10571 => ?_) (fun c10571 => ?_))
                    · exfalso
                      omega
                    · refine wp_of e172 c172_103 (rw_iload_n (pc' := 104) (z := v10424) rfl rfl ?_)
                      refine wp_of e172 c172_104 (rw_bipush (pc' := 106) (z := 8) rfl (by decide) ?_)
                      refine wp_of e172 c172_106 (rw_icmp_ge (p1 := 136) (p2 := 109) (by decide) rfl ⟨Int.le_trans (by decide) b10430.1, Int.le_trans b10430.2 (by decide)⟩ ⟨by decide, by decide⟩ (fun c10572 => ?_) (fun c10572 => ?_))
                      · refine wp_of e172 c172_136 (rw_iinc (pc' := 139) (z := v10424) (L' := [(2, vI (v10424 + 1)), (0, .ref r0)]) rfl rfl rfl rfl ?_)
                        refine wp_of e172 c172_139 (rw_aload_n (pc' := 140) (v := .ref r0) rfl rfl rfl ?_)
                        refine wp_of e172 c172_140 (rw_dup (pc' := 141) rfl rfl ?_)
                        refine wp_of e172 c172_141 (xg_I (pc' := 144) lf_9_78 w10428 g0 sh_42 (by decide) (by decide) ty_42_8 rfl rfl (fun b10573 b10574 => ?_))
                        refine wp_of e172 c172_144 (rw_iconst (pc' := 145) rfl ?_)
                        refine wp_of e172 c172_145 (rw_iadd (pc' := 146) rfl ?_)
                        refine wp_of e172 c172_146 (xp_I (pc' := 149) lf_9_78 w10428 g0 sh_42 (by decide) (by decide) ty_42_8 rfl rfl (by omega) (by omega) ⟨by omega, by omega⟩ rfl (fun H10575 e10576 w10577 => ?_))
                        have f10578 := f10438.put' e10576 g0 rfl
                        have f10579 := f10439.put' e10576 g0 rfl
                        have f10580 := f10429.put' e10576 g0 rfl
                        have k10581 : H10575 r0 8 = (H10425 r0 8) + 1 := wq_u_s e10576
                        refine wp_of e172 c172_149 (rw_goto (p1 := 89) (by decide) ?_)
                        have k10582 : H10575 r0 15 = H10425 r0 15 := (wq_u_j e10576 rfl)
                        have := @xG_s 97 122 B n p10426 (by omega) (by omega) (by omega)
                        have := @xkf_s B q 32 96 p10426 (by omega)
                        exact wp_lc (ks := [2, 0]) (wl_c rfl (wl_c rfl wl_n)) rfl (by decide) (ih10423 _ (by omega) (v10424 + 1) H10575 ((p10426 + 1)) w10577 f10580 ⟨by omega, by omega⟩ (by omega) (by omega) (by omega) (by omega) (by omega) (by omega) rfl)
                      · refine wp_of e172 c172_109 (rw_aload_n (pc' := 110) (v := .ref r0) rfl rfl rfl ?_)
                        refine wp_of e172 c172_110 (rw_ldc2 (pc' := 113) (z := 32) rfl rfl rfl ?_)
                        refine wp_of e172 c172_113 (rw_aload_n (pc' := 114) (v := .ref r0) rfl rfl rfl ?_)
                        refine wp_of e172 c172_114 (xg_L (pc' := 117) lf_9_94 w10428 g0 sh_42 (by decide) (by decide) ty_42_15 rfl rfl (fun b10583 b10584 => ?_))
                        refine wp_of e172 c172_117 (rw_lmulw (pc' := 118) rfl ?_)
                        obtain ⟨v10585, e10586⟩ : ∃ x : Int, x = wl_w (32 * (H10425 r0 15)) := ⟨_, rfl⟩
                        rw [← e10586]
                        have b10587 : -9223372036854775808 ≤ v10585 ∧ v10585 ≤ 9223372036854775807 := by
                          rw [e10586]
                          exact wL_w _
                        have b10588 : (-9223372036854775808 ≤ 32 * (H10425 r0 15) ∧ 32 * (H10425 r0 15) ≤ 9223372036854775807) → v10585 = 32 * (H10425 r0 15) := fun h => by rw [e10586]; exact wl_w_id h
                        refine wp_of e172 c172_118 (rw_aload_n (pc' := 119) (v := .ref r0) rfl rfl rfl ?_)
                        refine wp_of e172 c172_119 (rw_aload_n (pc' := 120) (v := .ref r0) rfl rfl rfl ?_)
                        refine wp_of e172 c172_120 (xg_I (pc' := 123) lf_9_78 w10428 g0 sh_42 (by decide) (by decide) ty_42_8 rfl rfl (fun b10589 b10590 => ?_))
                        refine wp_of e172 c172_123 (xc_V (pc' := 126) (r := r0) (as := [vI (H10425 r0 8)]) (st := [vL v10585, .ref r0]) (lm_9_81) rfl rfl (Nat.le_of_ble_eq_true rfl) w10428 g0 sh_42 (by decide) rfl (by decide) (u_173 (B := B) (n := n) (y := p10426) w10428 g0 ⟨b10589, b10590⟩ q10443 grb (by omega) (by omega) h10445) (fun R10591 T10592 H10593 p10594 => ?_))
                        obtain ⟨e10595, e10597, z10598, e10596, b10599, p10600⟩ := p10594
                        subst e10595
                        subst e10596
                        subst e10597
                        rcases p10600 with ⟨a10601, a10602⟩ | ⟨a10603, a10604, a10605, a10606⟩
                        · show wp _ _ 172 126 [(2, vI v10424), (0, .ref r0)] [vI z10598, vL v10585, .ref r0] _ H10425 _
                          refine wp_of e172 c172_126 (rw_bipush (pc' := 128) (z := 97) rfl (by decide) ?_)
                          refine wp_of e172 c172_128 (rw_isub (pc' := 129) rfl ?_)
                          refine wp_of e172 c172_129 (rw_iconst (pc' := 130) rfl ?_)
                          refine wp_of e172 c172_130 (rw_iadd (pc' := 131) rfl ?_)
                          refine wp_of e172 c172_131 (rw_i2l (pc' := 132) rfl ⟨by omega, by omega⟩ ?_)
                          refine wp_of e172 c172_132 (rw_laddw (pc' := 133) rfl ?_)
                          obtain ⟨v10607, e10608⟩ : ∃ x : Int, x = wl_w (v10585 + ((z10598 - 97) + 1)) := ⟨_, rfl⟩
                          rw [← e10608]
                          have b10609 : -9223372036854775808 ≤ v10607 ∧ v10607 ≤ 9223372036854775807 := by
                            rw [e10608]
                            exact wL_w _
                          have b10610 : (-9223372036854775808 ≤ v10585 + ((z10598 - 97) + 1) ∧ v10585 + ((z10598 - 97) + 1) ≤ 9223372036854775807) → v10607 = v10585 + ((z10598 - 97) + 1) := fun h => by rw [e10608]; exact wl_w_id h
                          refine wp_of e172 c172_133 (xp_L (pc' := 136) lf_9_94 w10428 g0 sh_42 (by decide) (by decide) ty_42_15 rfl rfl (b10609.1) (b10609.2) ⟨b10609.1, b10609.2⟩ rfl (fun H10611 e10612 w10613 => ?_))
                          have f10614 := f10438.put' e10612 g0 rfl
                          have f10615 := f10439.put' e10612 g0 rfl
                          have f10616 := f10429.put' e10612 g0 rfl
                          have k10617 : H10611 r0 15 = v10607 := wq_u_s e10612
                          refine wp_of e172 c172_136 (rw_iinc (pc' := 139) (z := v10424) (L' := [(2, vI (v10424 + 1)), (0, .ref r0)]) rfl rfl rfl rfl ?_)
                          refine wp_of e172 c172_139 (rw_aload_n (pc' := 140) (v := .ref r0) rfl rfl rfl ?_)
                          refine wp_of e172 c172_140 (rw_dup (pc' := 141) rfl rfl ?_)
                          have k10618 : H10611 r0 8 = H10425 r0 8 := (wq_u_j e10612 rfl)
                          refine wp_of e172 c172_141 (xg_I (pc' := 144) lf_9_78 w10613 g0 sh_42 (by decide) (by decide) ty_42_8 rfl rfl (fun b10619 b10620 => ?_))
                          refine wp_of e172 c172_144 (rw_iconst (pc' := 145) rfl ?_)
                          refine wp_of e172 c172_145 (rw_iadd (pc' := 146) rfl ?_)
                          refine wp_of e172 c172_146 (xp_I (pc' := 149) lf_9_78 w10613 g0 sh_42 (by decide) (by decide) ty_42_8 rfl rfl (by omega) (by omega) ⟨by omega, by omega⟩ rfl (fun H10621 e10622 w10623 => ?_))
                          have f10624 := f10614.put' e10622 g0 rfl
                          have f10625 := f10615.put' e10622 g0 rfl
                          have f10626 := f10616.put' e10622 g0 rfl
                          have k10627 : H10621 r0 8 = (H10611 r0 8) + 1 := wq_u_s e10622
                          refine wp_of e172 c172_149 (rw_goto (p1 := 89) (by decide) ?_)
                          have k10628 : H10621 r0 15 = H10611 r0 15 := (wq_u_j e10622 rfl)
                          have := @xG_s 97 122 B n p10426 (by omega) (by omega) (by omega)
                          have := @xkf_s B q 32 96 p10426 (by omega)
                          exact wp_lc (ks := [2, 0]) (wl_c rfl (wl_c rfl wl_n)) rfl (by decide) (ih10423 _ (by omega) (v10424 + 1) H10621 ((p10426 + 1)) w10623 f10626 ⟨by omega, by omega⟩ (by omega) (by omega) (by omega) (by omega) (by omega) (by omega) rfl)
                        · show wp _ _ 172 126 [(2, vI v10424), (0, .ref r0)] [vI z10598, vL v10585, .ref r0] _ H10425 _
                          refine wp_of e172 c172_126 (rw_bipush (pc' := 128) (z := 97) rfl (by decide) ?_)
                          refine wp_of e172 c172_128 (rw_isub (pc' := 129) rfl ?_)
                          refine wp_of e172 c172_129 (rw_iconst (pc' := 130) rfl ?_)
                          refine wp_of e172 c172_130 (rw_iadd (pc' := 131) rfl ?_)
                          refine wp_of e172 c172_131 (rw_i2l (pc' := 132) rfl ⟨by omega, by omega⟩ ?_)
                          refine wp_of e172 c172_132 (rw_laddw (pc' := 133) rfl ?_)
                          obtain ⟨v10629, e10630⟩ : ∃ x : Int, x = wl_w (v10585 + ((z10598 - 97) + 1)) := ⟨_, rfl⟩
                          rw [← e10630]
                          have b10631 : -9223372036854775808 ≤ v10629 ∧ v10629 ≤ 9223372036854775807 := by
                            rw [e10630]
                            exact wL_w _
                          have b10632 : (-9223372036854775808 ≤ v10585 + ((z10598 - 97) + 1) ∧ v10585 + ((z10598 - 97) + 1) ≤ 9223372036854775807) → v10629 = v10585 + ((z10598 - 97) + 1) := fun h => by rw [e10630]; exact wl_w_id h
                          refine wp_of e172 c172_133 (xp_L (pc' := 136) lf_9_94 w10428 g0 sh_42 (by decide) (by decide) ty_42_15 rfl rfl (b10631.1) (b10631.2) ⟨b10631.1, b10631.2⟩ rfl (fun H10633 e10634 w10635 => ?_))
                          have f10636 := f10438.put' e10634 g0 rfl
                          have f10637 := f10439.put' e10634 g0 rfl
                          have f10638 := f10429.put' e10634 g0 rfl
                          have k10639 : H10633 r0 15 = v10629 := wq_u_s e10634
                          refine wp_of e172 c172_136 (rw_iinc (pc' := 139) (z := v10424) (L' := [(2, vI (v10424 + 1)), (0, .ref r0)]) rfl rfl rfl rfl ?_)
                          refine wp_of e172 c172_139 (rw_aload_n (pc' := 140) (v := .ref r0) rfl rfl rfl ?_)
                          refine wp_of e172 c172_140 (rw_dup (pc' := 141) rfl rfl ?_)
                          have k10640 : H10633 r0 8 = H10425 r0 8 := (wq_u_j e10634 rfl)
                          refine wp_of e172 c172_141 (xg_I (pc' := 144) lf_9_78 w10635 g0 sh_42 (by decide) (by decide) ty_42_8 rfl rfl (fun b10641 b10642 => ?_))
                          refine wp_of e172 c172_144 (rw_iconst (pc' := 145) rfl ?_)
                          refine wp_of e172 c172_145 (rw_iadd (pc' := 146) rfl ?_)
                          refine wp_of e172 c172_146 (xp_I (pc' := 149) lf_9_78 w10635 g0 sh_42 (by decide) (by decide) ty_42_8 rfl rfl (by omega) (by omega) ⟨by omega, by omega⟩ rfl (fun H10643 e10644 w10645 => ?_))
                          have f10646 := f10636.put' e10644 g0 rfl
                          have f10647 := f10637.put' e10644 g0 rfl
                          have f10648 := f10638.put' e10644 g0 rfl
                          have k10649 : H10643 r0 8 = (H10633 r0 8) + 1 := wq_u_s e10644
                          refine wp_of e172 c172_149 (rw_goto (p1 := 89) (by decide) ?_)
                          have k10650 : H10643 r0 15 = H10633 r0 15 := (wq_u_j e10644 rfl)
                          have := @xG_s 97 122 B n p10426 (by omega) (by omega) (by omega)
                          have := @xkf_s B q 32 96 p10426 (by omega)
                          exact wp_lc (ks := [2, 0]) (wl_c rfl (wl_c rfl wl_n)) rfl (by decide) (ih10423 _ (by omega) (v10424 + 1) H10643 ((p10426 + 1)) w10645 f10648 ⟨by omega, by omega⟩ (by omega) (by omega) (by omega) (by omega) (by omega) (by omega) rfl)
                  · show wp _ _ 172 100 [(2, vI v10424), (0, .ref r0)] [vI z10564] _ H10425 _
                    refine wp_of e172 c172_100 (rw_if_eq (p1 := 152) (p2 := 103) (by decide) rfl ⟨Int.le_trans (by decide) b10565.1, Int.le_trans b10565.2 (by decide)⟩ (fun c10651 => ?_) (fun c10651 => ?_))
                    · have := @xG_e 97 122 B n p10426 (by omega)
                      have := @xY_of B n q p10426
                      exact wp_lc (ks := [2, 0]) (wl_c rfl (wl_c rfl wl_n)) rfl (by decide) (jn9040 v10424 H10425 w10428 f10439 ⟨by omega, by omega⟩ (by omega) (by omega) (by omega))
                    · exfalso
                      omega
            have := @xkf_q B q q 32 96
            exact wp_lc (ks := [2, 1, 0]) (wl_c rfl (wl_c rfl wl_n)) rfl (by decide) (lp10421 _ 0 H9072 q w9074 wfr.rf ⟨by decide, by decide⟩ (by omega) (by omega) (by omega) (by omega) (by omega) (by omega) rfl)
        · show wp _ _ 172 81 [(2, vI 0), (1, vI z7543), (0, .ref r0)] [vI z7574] _ H7524 _
          refine wp_of e172 c172_81 (rw_if_eq (p1 := 166) (p2 := 84) (by decide) rfl ⟨Int.le_trans (by decide) b7575.1, Int.le_trans b7575.2 (by decide)⟩ (fun c10652 => ?_) (fun c10652 => ?_))
          · refine wp_of e172 c172_166 (rw_iload_n (pc' := 167) (z := z7543) rfl rfl ?_)
            refine wp_of e172 c172_167 (xc_S (pc' := 170) (as := [vI z7543]) (st := []) (lm_9_98) rfl rfl (Nat.le_of_ble_eq_true rfl) rfl (by decide) (u_175  w7526 ⟨b7544.1, b7544.2⟩) (fun R10653 T10654 H10655 p10656 => ?_))
            obtain ⟨e10657, e10659, z10660, e10658, b10661, p10662⟩ := p10656
            subst e10657
            subst e10658
            subst e10659
            rcases p10662 with ⟨a10663, a10664⟩ | ⟨a10665, a10666⟩
            · show wp _ _ 172 170 [(2, vI 0), (1, vI z7543), (0, .ref r0)] [vI z10660] _ H7524 _
              refine wp_of e172 c172_170 (rw_if_eq (p1 := 249) (p2 := 173) (by decide) rfl ⟨Int.le_trans (by decide) b10661.1, Int.le_trans b10661.2 (by decide)⟩ (fun c10667 => ?_) (fun c10667 => ?_))
              · exfalso
                omega
              · have jn12246 : ∀ (v12244 : Int) (H12245 : wq_H), WT T H12245 → wfr [(42, 8), (42, 12)] T H7524 H12245 → (0 ≤ v12244 ∧ v12244 ≤ 900) → (H12245 r0 8 = xG 48 57 B n q) → (v12244 = H12245 r0 8 - q) → (3 < v12244 ∨ H12245 r0 12 = xV B n q) → wp kt 1 172 236 [(2, vI v12244), (0, .ref r0)] [] T H12245 (uq_172_k r0 rb B n a q T H) := by
                  intro v12244 H12245 w12247 f12248 b12249 x12250 x12251 x12252
                  have f12253 := f7527.tr f12248 rfl
                  refine wp_of e172 c172_236 (rw_iload_n (pc' := 237) (z := v12244) rfl rfl ?_)
                  refine wp_of e172 c172_237 (rw_iconst (pc' := 238) rfl ?_)
                  refine wp_of e172 c172_238 (rw_icmp_gt (p1 := 281) (p2 := 241) (by decide) rfl ⟨by omega, by omega⟩ ⟨by decide, by decide⟩ (fun c12254 => ?_) (fun c12254 => ?_))
                  · have k12255 : H12245 r0 9 = H7519 r0 9 := ((f12248 r0 9 _ g0 rfl).trans (wq_u_j e7525 rfl))
                    have k12256 : H12245 r0 7 = H7524 r0 7 := (f12248 r0 7 _ g0 rfl)
                    have k12257 : H12245 r0 13 = H r0 13 := ((f12248 r0 13 _ g0 rfl).trans ((wq_u_j e7525 rfl).trans ((wq_u_j e7520 rfl).trans ((wq_u_j e7515 rfl).trans (f7509 r0 13 _ g0 rfl)))))
                    have k12258 : H12245 r0 10 = H7514 r0 10 := ((f12248 r0 10 _ g0 rfl).trans ((wq_u_j e7525 rfl).trans (wq_u_j e7520 rfl)))
                    have k12259 : H12245 r0 11 = H7524 r0 11 := (f12248 r0 11 _ g0 rfl)
                    obtain ⟨kk, hk⟩ : ∃ x : Int, xK B n q = x := ⟨_, rfl⟩
                    obtain ⟨ke, he⟩ : ∃ x : Int, xE B n q = x := ⟨_, rfl⟩
                    first
                      | have hl := @xM1 B n q (by omega -splitDisjunctions) (by omega -splitDisjunctions) (by omega -splitDisjunctions) (by omega -splitDisjunctions)
                      | have hl := @xM5 B n q (by omega -splitDisjunctions) (by omega -splitDisjunctions) (by omega -splitDisjunctions) (by omega -splitDisjunctions)
                      | have hl := @xM2 B n q (by omega -splitDisjunctions) (by omega -splitDisjunctions) (by omega -splitDisjunctions) (by omega -splitDisjunctions)
                      | have hl := @xM6 B n q (by omega -splitDisjunctions) (by omega -splitDisjunctions) (by omega -splitDisjunctions) (by omega -splitDisjunctions)
                      | have hl := @xM0 B n q (by omega -splitDisjunctions)
                      | have hl := @xM3 B n q (by omega -splitDisjunctions) (by omega -splitDisjunctions)
                      | have hl := @xM4 B n q (by omega -splitDisjunctions) (by omega -splitDisjunctions)
                      | have hl := @xM7 B n q (by omega -splitDisjunctions) (by omega) (by omega) (by omega) (by omega)
                      | have hl := @xM1 B n q (by omega) (by omega) (by omega) (by omega)
                      | have hl := @xM5 B n q (by omega) (by omega) (by omega) (by omega)
                      | have hl := @xM2 B n q (by omega) (by omega) (by omega) (by omega)
                      | have hl := @xM6 B n q (by omega) (by omega) (by omega) (by omega)
                      | have hl := @xM0 B n q (by omega)
                      | have hl := @xM3 B n q (by omega) (by omega)
                      | have hl := @xM4 B n q (by omega) (by omega)
                      | have hl := @xM7 B n q (by omega) (by omega) (by omega) (by omega) (by omega)
                    have hk2 := hl.1.symm
                    have he2 := hl.2.symm
                    rw [hk] at hk2
                    rw [he] at he2
                    have k12260 : H12245 r0 5 = H7524 r0 5 := (f12248 r0 5 _ g0 rfl)
                    have q12261 : H12245 r0 5 = (rb : Int) := k12260.trans q7533
                    have h12262 : TM T H12245 rb B := (TM_fr w7526 grb f12248 rfl h7535)
                    exact wp_return e172 c172_281 rfl ⟨rfl, w12247, f12253, rfl, (RC_mk q12261 grb h12262 (by omega) (by rw [hk, ← hk2]; omega) (by omega) (by omega) (by omega) (by omega) (by omega))⟩
                  · refine wp_of e172 c172_241 (rw_aload_n (pc' := 242) (v := .ref r0) rfl rfl rfl ?_)
                    refine wp_of e172 c172_242 (rw_iconst (pc' := 243) rfl ?_)
                    refine wp_of e172 c172_243 (xp_I (pc' := 246) lf_9_75 w12247 g0 sh_42 (by decide) (by decide) ty_42_9 rfl rfl (by decide) (by decide) ⟨by decide, by decide⟩ rfl (fun H12263 e12264 w12265 => ?_))
                    have f12266 := f12253.put' e12264 g0 rfl
                    have k12267 : H12263 r0 9 = 3 := wq_u_s e12264
                    refine wp_of e172 c172_246 (rw_goto (p1 := 281) (by decide) ?_)
                    have k12268 : H12263 r0 8 = H12245 r0 8 := (wq_u_j e12264 rfl)
                    have k12269 : H12263 r0 7 = H7524 r0 7 := ((wq_u_j e12264 rfl).trans (f12248 r0 7 _ g0 rfl))
                    have k12270 : H12263 r0 13 = H r0 13 := ((wq_u_j e12264 rfl).trans ((f12248 r0 13 _ g0 rfl).trans ((wq_u_j e7525 rfl).trans ((wq_u_j e7520 rfl).trans ((wq_u_j e7515 rfl).trans (f7509 r0 13 _ g0 rfl))))))
                    have k12271 : H12263 r0 10 = H7514 r0 10 := ((wq_u_j e12264 rfl).trans ((f12248 r0 10 _ g0 rfl).trans ((wq_u_j e7525 rfl).trans (wq_u_j e7520 rfl))))
                    have k12272 : H12263 r0 12 = H12245 r0 12 := (wq_u_j e12264 rfl)
                    have k12273 : H12263 r0 11 = H7524 r0 11 := ((wq_u_j e12264 rfl).trans (f12248 r0 11 _ g0 rfl))
                    obtain ⟨kk, hk⟩ : ∃ x : Int, xK B n q = x := ⟨_, rfl⟩
                    obtain ⟨ke, he⟩ : ∃ x : Int, xE B n q = x := ⟨_, rfl⟩
                    first
                      | have hl := @xM1 B n q (by omega -splitDisjunctions) (by omega -splitDisjunctions) (by omega -splitDisjunctions) (by omega -splitDisjunctions)
                      | have hl := @xM5 B n q (by omega -splitDisjunctions) (by omega -splitDisjunctions) (by omega -splitDisjunctions) (by omega -splitDisjunctions)
                      | have hl := @xM2 B n q (by omega -splitDisjunctions) (by omega -splitDisjunctions) (by omega -splitDisjunctions) (by omega -splitDisjunctions)
                      | have hl := @xM6 B n q (by omega -splitDisjunctions) (by omega -splitDisjunctions) (by omega -splitDisjunctions) (by omega -splitDisjunctions)
                      | have hl := @xM0 B n q (by omega -splitDisjunctions)
                      | have hl := @xM3 B n q (by omega -splitDisjunctions) (by omega -splitDisjunctions)
                      | have hl := @xM4 B n q (by omega -splitDisjunctions) (by omega -splitDisjunctions)
                      | have hl := @xM7 B n q (by omega -splitDisjunctions) (by omega) (by omega) (by omega) (by omega)
                      | have hl := @xM1 B n q (by omega) (by omega) (by omega) (by omega)
                      | have hl := @xM5 B n q (by omega) (by omega) (by omega) (by omega)
                      | have hl := @xM2 B n q (by omega) (by omega) (by omega) (by omega)
                      | have hl := @xM6 B n q (by omega) (by omega) (by omega) (by omega)
                      | have hl := @xM0 B n q (by omega)
                      | have hl := @xM3 B n q (by omega) (by omega)
                      | have hl := @xM4 B n q (by omega) (by omega)
                      | have hl := @xM7 B n q (by omega) (by omega) (by omega) (by omega) (by omega)
                    have hk2 := hl.1.symm
                    have he2 := hl.2.symm
                    rw [hk] at hk2
                    rw [he] at he2
                    have k12274 : H12263 r0 5 = H7524 r0 5 := ((wq_u_j e12264 rfl).trans (f12248 r0 5 _ g0 rfl))
                    have q12275 : H12263 r0 5 = (rb : Int) := k12274.trans q7533
                    have h12276 : TM T H12263 rb B := (TM_fr w12247 grb ((wfr.rf (l := [(42, 9)])).put' e12264 g0 rfl) rfl (TM_fr w7526 grb f12248 rfl h7535))
                    exact wp_return e172 c172_281 rfl ⟨rfl, w12265, f12266, rfl, (RC_mk q12275 grb h12276 (by omega) (by rw [hk, ← hk2]; omega) (by omega) (by omega) (by omega) (by omega) (by omega))⟩
                have f12277 : wfr [(42, 8), (42, 12)] T H7524 H7524 := wfr.rf
                refine wp_of e172 c172_173 (rw_aload_n (pc' := 174) (v := .ref r0) rfl rfl rfl ?_)
                refine wp_of e172 c172_174 (rw_iconst (pc' := 175) rfl ?_)
                refine wp_of e172 c172_175 (xp_I (pc' := 178) lf_9_101 w7526 g0 sh_42 (by decide) (by decide) ty_42_12 rfl rfl (by decide) (by decide) ⟨by decide, by decide⟩ rfl (fun H12278 e12279 w12280 => ?_))
                have f12281 := f7527.put' e12279 g0 rfl
                have f12282 := f12277.put' e12279 g0 rfl
                have k12283 : H12278 r0 12 = 0 := wq_u_s e12279
                have k13753 : H12278 r0 8 = H7524 r0 8 := (wq_u_j e12279 rfl)
                have lp13747 : ∀ (n13748 : Nat) (v13750 : Int) (H13751 : wq_H) (p13752 : Int), WT T H13751 → wfr [(42, 8), (42, 12)] T H12278 H13751 → (0 ≤ v13750 ∧ v13750 ≤ 900) → (H13751 r0 8 = p13752) → (xG 48 57 B n p13752 = xG 48 57 B n q) → (q ≤ p13752) → (p13752 ≤ n) → (v13750 = p13752 - q) → (3 < p13752 - q ∨ H13751 r0 12 = xkf 10 48 B q (p13752 - q).toNat) → (900 - p13752).toNat = n13748 → wp kt 1 172 178 [(2, vI v13750), (0, .ref r0)] [] T H13751 (uq_172_k r0 rb B n a q T H) := by
                  intro n13748
                  induction n13748 using Nat.strongRecOn with
                  | _ n13748 ih13749 =>
                    intro v13750 H13751 p13752 w13754 f13755 b13756 x13758 x13759 x13760 x13761 x13762 x13763 m13757
                    have f13764 := f12281.tr f13755 rfl
                    have f13765 := f12282.tr f13755 rfl
                    have := @xG_b2 48 57 B n p13752 (by omega)
                    have := @xkf_V2 B n q p13752 (by omega)
                    refine wp_of e172 c172_178 (rw_aload_n (pc' := 179) (v := .ref r0) rfl rfl rfl ?_)
                    refine wp_of e172 c172_179 (rw_aload_n (pc' := 180) (v := .ref r0) rfl rfl rfl ?_)
                    refine wp_of e172 c172_180 (xg_I (pc' := 183) lf_9_78 w13754 g0 sh_42 (by decide) (by decide) ty_42_8 rfl rfl (fun b13766 b13767 => ?_))
                    have k13768 : H13751 r0 5 = H7524 r0 5 := ((f13755 r0 5 _ g0 rfl).trans (wq_u_j e12279 rfl))
                    have q13769 : H13751 r0 5 = (rb : Int) := k13768.trans q7533
                    have k13770 : H13751 r0 7 = H7524 r0 7 := ((f13755 r0 7 _ g0 rfl).trans (wq_u_j e12279 rfl))
                    have h13771 : TM T H13751 rb B := (TM_fr w12280 grb f13755 rfl (TM_fr w7526 grb ((wfr.rf (l := [(42, 12)])).put' e12279 g0 rfl) rfl h7535))
                    refine wp_of e172 c172_183 (xc_V (pc' := 186) (r := r0) (as := [vI (H13751 r0 8)]) (st := []) (lm_9_81) rfl rfl (Nat.le_of_ble_eq_true rfl) w13754 g0 sh_42 (by decide) rfl (by decide) (u_173 (B := B) (n := n) (y := p13752) w13754 g0 ⟨b13766, b13767⟩ q13769 grb (by omega) (by omega) h13771) (fun R13772 T13773 H13774 p13775 => ?_))
                    obtain ⟨e13776, e13778, z13779, e13777, b13780, p13781⟩ := p13775
                    subst e13776
                    subst e13777
                    subst e13778
                    rcases p13781 with ⟨a13782, a13783⟩ | ⟨a13784, a13785, a13786, a13787⟩
                    · show wp _ _ 172 186 [(2, vI v13750), (0, .ref r0)] [vI z13779] _ H13751 _
                      refine wp_of e172 c172_186 (xc_S (pc' := 189) (as := [vI z13779]) (st := []) (lm_9_98) rfl rfl (Nat.le_of_ble_eq_true rfl) rfl (by decide) (u_175  w13754 ⟨b13780.1, b13780.2⟩) (fun R13788 T13789 H13790 p13791 => ?_))
                      obtain ⟨e13792, e13794, z13795, e13793, b13796, p13797⟩ := p13791
                      subst e13792
                      subst e13793
                      subst e13794
                      rcases p13797 with ⟨a13798, a13799⟩ | ⟨a13800, a13801⟩
                      · show wp _ _ 172 189 [(2, vI v13750), (0, .ref r0)] [vI z13795] _ H13751 _
                        refine wp_of e172 c172_189 (rw_if_eq (p1 := 236) (p2 := 192) (by decide) rfl ⟨Int.le_trans (by decide) b13796.1, Int.le_trans b13796.2 (by decide)⟩ (fun c13802 => ?_) (fun c13802 => ?_))
                        · exfalso
                          omega
                        · refine wp_of e172 c172_192 (rw_iload_n (pc' := 193) (z := v13750) rfl rfl ?_)
                          refine wp_of e172 c172_193 (rw_iconst (pc' := 194) rfl ?_)
                          refine wp_of e172 c172_194 (rw_icmp_ge (p1 := 220) (p2 := 197) (by decide) rfl ⟨Int.le_trans (by decide) b13756.1, Int.le_trans b13756.2 (by decide)⟩ ⟨by decide, by decide⟩ (fun c13803 => ?_) (fun c13803 => ?_))
                          · refine wp_of e172 c172_220 (rw_iinc (pc' := 223) (z := v13750) (L' := [(2, vI (v13750 + 1)), (0, .ref r0)]) rfl rfl rfl rfl ?_)
                            refine wp_of e172 c172_223 (rw_aload_n (pc' := 224) (v := .ref r0) rfl rfl rfl ?_)
                            refine wp_of e172 c172_224 (rw_dup (pc' := 225) rfl rfl ?_)
                            refine wp_of e172 c172_225 (xg_I (pc' := 228) lf_9_78 w13754 g0 sh_42 (by decide) (by decide) ty_42_8 rfl rfl (fun b13804 b13805 => ?_))
                            refine wp_of e172 c172_228 (rw_iconst (pc' := 229) rfl ?_)
                            refine wp_of e172 c172_229 (rw_iadd (pc' := 230) rfl ?_)
                            refine wp_of e172 c172_230 (xp_I (pc' := 233) lf_9_78 w13754 g0 sh_42 (by decide) (by decide) ty_42_8 rfl rfl (by omega) (by omega) ⟨by omega, by omega⟩ rfl (fun H13806 e13807 w13808 => ?_))
                            have f13809 := f13764.put' e13807 g0 rfl
                            have f13810 := f13765.put' e13807 g0 rfl
                            have f13811 := f13755.put' e13807 g0 rfl
                            have k13812 : H13806 r0 8 = (H13751 r0 8) + 1 := wq_u_s e13807
                            refine wp_of e172 c172_233 (rw_goto (p1 := 178) (by decide) ?_)
                            have k13813 : H13806 r0 12 = H13751 r0 12 := (wq_u_j e13807 rfl)
                            have := @xG_s 48 57 B n p13752 (by omega) (by omega) (by omega)
                            have := @xkf_s B q 10 48 p13752 (by omega)
                            exact wp_lc (ks := [2, 0]) (wl_c rfl (wl_c rfl wl_n)) rfl (by decide) (ih13749 _ (by omega) (v13750 + 1) H13806 ((p13752 + 1)) w13808 f13811 ⟨by omega, by omega⟩ (by omega) (by omega) (by omega) (by omega) (by omega) (by omega) rfl)
                          · refine wp_of e172 c172_197 (rw_aload_n (pc' := 198) (v := .ref r0) rfl rfl rfl ?_)
                            refine wp_of e172 c172_198 (rw_bipush (pc' := 200) (z := 10) rfl (by decide) ?_)
                            refine wp_of e172 c172_200 (rw_aload_n (pc' := 201) (v := .ref r0) rfl rfl rfl ?_)
                            refine wp_of e172 c172_201 (xg_I (pc' := 204) lf_9_101 w13754 g0 sh_42 (by decide) (by decide) ty_42_12 rfl rfl (fun b13814 b13815 => ?_))
                            refine wp_of e172 c172_204 (rw_imulw (pc' := 205) rfl ?_)
                            obtain ⟨v13816, e13817⟩ : ∃ x : Int, x = wq_w (10 * (H13751 r0 12)) := ⟨_, rfl⟩
                            rw [← e13817]
                            have b13818 : -2147483648 ≤ v13816 ∧ v13816 ≤ 2147483647 := by
                              rw [e13817]
                              exact wI_w _
                            have b13819 : (-2147483648 ≤ 10 * (H13751 r0 12) ∧ 10 * (H13751 r0 12) ≤ 2147483647) → v13816 = 10 * (H13751 r0 12) := fun h => by rw [e13817]; exact wq_w_id h
                            refine wp_of e172 c172_205 (rw_aload_n (pc' := 206) (v := .ref r0) rfl rfl rfl ?_)
                            refine wp_of e172 c172_206 (rw_aload_n (pc' := 207) (v := .ref r0) rfl rfl rfl ?_)
                            refine wp_of e172 c172_207 (xg_I (pc' := 210) lf_9_78 w13754 g0 sh_42 (by decide) (by decide) ty_42_8 rfl rfl (fun b13820 b13821 => ?_))
                            refine wp_of e172 c172_210 (xc_V (pc' := 213) (r := r0) (as := [vI (H13751 r0 8)]) (st := [vI v13816, .ref r0]) (lm_9_81) rfl rfl (Nat.le_of_ble_eq_true rfl) w13754 g0 sh_42 (by decide) rfl (by decide) (u_173 (B := B) (n := n) (y := p13752) w13754 g0 ⟨b13820, b13821⟩ q13769 grb (by omega) (by omega) h13771) (fun R13822 T13823 H13824 p13825 => ?_))
                            obtain ⟨e13826, e13828, z13829, e13827, b13830, p13831⟩ := p13825
                            subst e13826
                            subst e13827
                            subst e13828
                            rcases p13831 with ⟨a13832, a13833⟩ | ⟨a13834, a13835, a13836, a13837⟩
                            · show wp _ _ 172 213 [(2, vI v13750), (0, .ref r0)] [vI z13829, vI v13816, .ref r0] _ H13751 _
                              refine wp_of e172 c172_213 (rw_iaddw (pc' := 214) rfl ?_)
                              obtain ⟨v13838, e13839⟩ : ∃ x : Int, x = wq_w (v13816 + z13829) := ⟨_, rfl⟩
                              rw [← e13839]
                              have b13840 : -2147483648 ≤ v13838 ∧ v13838 ≤ 2147483647 := by
                                rw [e13839]
                                exact wI_w _
                              have b13841 : (-2147483648 ≤ v13816 + z13829 ∧ v13816 + z13829 ≤ 2147483647) → v13838 = v13816 + z13829 := fun h => by rw [e13839]; exact wq_w_id h
                              refine wp_of e172 c172_214 (rw_bipush (pc' := 216) (z := 48) rfl (by decide) ?_)
                              refine wp_of e172 c172_216 (rw_isubw (pc' := 217) rfl ?_)
                              obtain ⟨v13842, e13843⟩ : ∃ x : Int, x = wq_w (v13838 - 48) := ⟨_, rfl⟩
                              rw [← e13843]
                              have b13844 : -2147483648 ≤ v13842 ∧ v13842 ≤ 2147483647 := by
                                rw [e13843]
                                exact wI_w _
                              have b13845 : (-2147483648 ≤ v13838 - 48 ∧ v13838 - 48 ≤ 2147483647) → v13842 = v13838 - 48 := fun h => by rw [e13843]; exact wq_w_id h
                              refine wp_of e172 c172_217 (xp_I (pc' := 220) lf_9_101 w13754 g0 sh_42 (by decide) (by decide) ty_42_12 rfl rfl (b13844.1) (b13844.2) ⟨b13844.1, b13844.2⟩ rfl (fun H13846 e13847 w13848 => ?_))
                              have f13849 := f13764.put' e13847 g0 rfl
                              have f13850 := f13765.put' e13847 g0 rfl
                              have f13851 := f13755.put' e13847 g0 rfl
                              have k13852 : H13846 r0 12 = v13842 := wq_u_s e13847
                              refine wp_of e172 c172_220 (rw_iinc (pc' := 223) (z := v13750) (L' := [(2, vI (v13750 + 1)), (0, .ref r0)]) rfl rfl rfl rfl ?_)
                              refine wp_of e172 c172_223 (rw_aload_n (pc' := 224) (v := .ref r0) rfl rfl rfl ?_)
                              refine wp_of e172 c172_224 (rw_dup (pc' := 225) rfl rfl ?_)
                              have k13853 : H13846 r0 8 = H13751 r0 8 := (wq_u_j e13847 rfl)
                              refine wp_of e172 c172_225 (xg_I (pc' := 228) lf_9_78 w13848 g0 sh_42 (by decide) (by decide) ty_42_8 rfl rfl (fun b13854 b13855 => ?_))
                              refine wp_of e172 c172_228 (rw_iconst (pc' := 229) rfl ?_)
                              refine wp_of e172 c172_229 (rw_iadd (pc' := 230) rfl ?_)
                              refine wp_of e172 c172_230 (xp_I (pc' := 233) lf_9_78 w13848 g0 sh_42 (by decide) (by decide) ty_42_8 rfl rfl (by omega) (by omega) ⟨by omega, by omega⟩ rfl (fun H13856 e13857 w13858 => ?_))
                              have f13859 := f13849.put' e13857 g0 rfl
                              have f13860 := f13850.put' e13857 g0 rfl
                              have f13861 := f13851.put' e13857 g0 rfl
                              have k13862 : H13856 r0 8 = (H13846 r0 8) + 1 := wq_u_s e13857
                              refine wp_of e172 c172_233 (rw_goto (p1 := 178) (by decide) ?_)
                              have k13863 : H13856 r0 12 = H13846 r0 12 := (wq_u_j e13857 rfl)
                              have := @xG_s 48 57 B n p13752 (by omega) (by omega) (by omega)
                              have := @xkf_s B q 10 48 p13752 (by omega)
                              exact wp_lc (ks := [2, 0]) (wl_c rfl (wl_c rfl wl_n)) rfl (by decide) (ih13749 _ (by omega) (v13750 + 1) H13856 ((p13752 + 1)) w13858 f13861 ⟨by omega, by omega⟩ (by omega) (by omega) (by omega) (by omega) (by omega) (by omega) rfl)
                            · show wp _ _ 172 213 [(2, vI v13750), (0, .ref r0)] [vI z13829, vI v13816, .ref r0] _ H13751 _
                              refine wp_of e172 c172_213 (rw_iaddw (pc' := 214) rfl ?_)
                              obtain ⟨v13864, e13865⟩ : ∃ x : Int, x = wq_w (v13816 + z13829) := ⟨_, rfl⟩
                              rw [← e13865]
                              have b13866 : -2147483648 ≤ v13864 ∧ v13864 ≤ 2147483647 := by
                                rw [e13865]
                                exact wI_w _
                              have b13867 : (-2147483648 ≤ v13816 + z13829 ∧ v13816 + z13829 ≤ 2147483647) → v13864 = v13816 + z13829 := fun h => by rw [e13865]; exact wq_w_id h
                              refine wp_of e172 c172_214 (rw_bipush (pc' := 216) (z := 48) rfl (by decide) ?_)
                              refine wp_of e172 c172_216 (rw_isubw (pc' := 217) rfl ?_)
                              obtain ⟨v13868, e13869⟩ : ∃ x : Int, x = wq_w (v13864 - 48) := ⟨_, rfl⟩
                              rw [← e13869]
                              have b13870 : -2147483648 ≤ v13868 ∧ v13868 ≤ 2147483647 := by
                                rw [e13869]
                                exact wI_w _
                              have b13871 : (-2147483648 ≤ v13864 - 48 ∧ v13864 - 48 ≤ 2147483647) → v13868 = v13864 - 48 := fun h => by rw [e13869]; exact wq_w_id h
                              refine wp_of e172 c172_217 (xp_I (pc' := 220) lf_9_101 w13754 g0 sh_42 (by decide) (by decide) ty_42_12 rfl rfl (b13870.1) (b13870.2) ⟨b13870.1, b13870.2⟩ rfl (fun H13872 e13873 w13874 => ?_))
                              have f13875 := f13764.put' e13873 g0 rfl
                              have f13876 := f13765.put' e13873 g0 rfl
                              have f13877 := f13755.put' e13873 g0 rfl
                              have k13878 : H13872 r0 12 = v13868 := wq_u_s e13873
                              refine wp_of e172 c172_220 (rw_iinc (pc' := 223) (z := v13750) (L' := [(2, vI (v13750 + 1)), (0, .ref r0)]) rfl rfl rfl rfl ?_)
                              refine wp_of e172 c172_223 (rw_aload_n (pc' := 224) (v := .ref r0) rfl rfl rfl ?_)
                              refine wp_of e172 c172_224 (rw_dup (pc' := 225) rfl rfl ?_)
                              have k13879 : H13872 r0 8 = H13751 r0 8 := (wq_u_j e13873 rfl)
                              refine wp_of e172 c172_225 (xg_I (pc' := 228) lf_9_78 w13874 g0 sh_42 (by decide) (by decide) ty_42_8 rfl rfl (fun b13880 b13881 => ?_))
                              refine wp_of e172 c172_228 (rw_iconst (pc' := 229) rfl ?_)
                              refine wp_of e172 c172_229 (rw_iadd (pc' := 230) rfl ?_)
                              refine wp_of e172 c172_230 (xp_I (pc' := 233) lf_9_78 w13874 g0 sh_42 (by decide) (by decide) ty_42_8 rfl rfl (by omega) (by omega) ⟨by omega, by omega⟩ rfl (fun H13882 e13883 w13884 => ?_))
                              have f13885 := f13875.put' e13883 g0 rfl
                              have f13886 := f13876.put' e13883 g0 rfl
                              have f13887 := f13877.put' e13883 g0 rfl
                              have k13888 : H13882 r0 8 = (H13872 r0 8) + 1 := wq_u_s e13883
                              refine wp_of e172 c172_233 (rw_goto (p1 := 178) (by decide) ?_)
                              have k13889 : H13882 r0 12 = H13872 r0 12 := (wq_u_j e13883 rfl)
                              have := @xG_s 48 57 B n p13752 (by omega) (by omega) (by omega)
                              have := @xkf_s B q 10 48 p13752 (by omega)
                              exact wp_lc (ks := [2, 0]) (wl_c rfl (wl_c rfl wl_n)) rfl (by decide) (ih13749 _ (by omega) (v13750 + 1) H13882 ((p13752 + 1)) w13884 f13887 ⟨by omega, by omega⟩ (by omega) (by omega) (by omega) (by omega) (by omega) (by omega) rfl)
                      · show wp _ _ 172 189 [(2, vI v13750), (0, .ref r0)] [vI z13795] _ H13751 _
                        refine wp_of e172 c172_189 (rw_if_eq (p1 := 236) (p2 := 192) (by decide) rfl ⟨Int.le_trans (by decide) b13796.1, Int.le_trans b13796.2 (by decide)⟩ (fun c13890 => ?_) (fun c13890 => ?_))
                        · have := @xG_e 48 57 B n p13752 (by omega)
                          have := @xV_of B n q p13752
                          exact wp_lc (ks := [2, 0]) (wl_c rfl (wl_c rfl wl_n)) rfl (by decide) (jn12246 v13750 H13751 w13754 f13765 ⟨by omega, by omega⟩ (by omega) (by omega) (by omega))
                        · exfalso
                          omega
                    · show wp _ _ 172 186 [(2, vI v13750), (0, .ref r0)] [vI z13779] _ H13751 _
                      refine wp_of e172 c172_186 (xc_S (pc' := 189) (as := [vI z13779]) (st := []) (lm_9_98) rfl rfl (Nat.le_of_ble_eq_true rfl) rfl (by decide) (u_175  w13754 ⟨b13780.1, b13780.2⟩) (fun R13891 T13892 H13893 p13894 => ?_))
                      obtain ⟨e13895, e13897, z13898, e13896, b13899, p13900⟩ := p13894
                      subst e13895
                      subst e13896
                      subst e13897
                      rcases p13900 with ⟨a13901, a13902⟩ | ⟨a13903, a13904⟩
                      · show wp _ _ 172 189 [(2, vI v13750), (0, .ref r0)] [vI z13898] _ H13751 _
                        refine wp_of e172 c172_189 (rw_if_eq (p1 := 236) (p2 := 192) (by decide) rfl ⟨Int.le_trans (by decide) b13899.1, Int.le_trans b13899.2 (by decide)⟩ (fun c13905 => ?_) (fun c13905 => ?_))
                        · exfalso
                          omega
                        · refine wp_of e172 c172_192 (rw_iload_n (pc' := 193) (z := v13750) rfl rfl ?_)
                          refine wp_of e172 c172_193 (rw_iconst (pc' := 194) rfl ?_)
                          refine wp_of e172 c172_194 (rw_icmp_ge (p1 := 220) (p2 := 197) (by decide) rfl ⟨Int.le_trans (by decide) b13756.1, Int.le_trans b13756.2 (by decide)⟩ ⟨by decide, by decide⟩ (fun c13906 => ?_) (fun c13906 => ?_))
                          · refine wp_of e172 c172_220 (rw_iinc (pc' := 223) (z := v13750) (L' := [(2, vI (v13750 + 1)), (0, .ref r0)]) rfl rfl rfl rfl ?_)
                            refine wp_of e172 c172_223 (rw_aload_n (pc' := 224) (v := .ref r0) rfl rfl rfl ?_)
                            refine wp_of e172 c172_224 (rw_dup (pc' := 225) rfl rfl ?_)
                            refine wp_of e172 c172_225 (xg_I (pc' := 228) lf_9_78 w13754 g0 sh_42 (by decide) (by decide) ty_42_8 rfl rfl (fun b13907 b13908 => ?_))
                            refine wp_of e172 c172_228 (rw_iconst (pc' := 229) rfl ?_)
                            refine wp_of e172 c172_229 (rw_iadd (pc' := 230) rfl ?_)
                            refine wp_of e172 c172_230 (xp_I (pc' := 233) lf_9_78 w13754 g0 sh_42 (by decide) (by decide) ty_42_8 rfl rfl (by omega) (by omega) ⟨by omega, by omega⟩ rfl (fun H13909 e13910 w13911 => ?_))
                            have f13912 := f13764.put' e13910 g0 rfl
                            have f13913 := f13765.put' e13910 g0 rfl
                            have f13914 := f13755.put' e13910 g0 rfl
                            have k13915 : H13909 r0 8 = (H13751 r0 8) + 1 := wq_u_s e13910
                            refine wp_of e172 c172_233 (rw_goto (p1 := 178) (by decide) ?_)
                            have k13916 : H13909 r0 12 = H13751 r0 12 := (wq_u_j e13910 rfl)
                            have := @xG_s 48 57 B n p13752 (by omega) (by omega) (by omega)
                            have := @xkf_s B q 10 48 p13752 (by omega)
                            exact wp_lc (ks := [2, 0]) (wl_c rfl (wl_c rfl wl_n)) rfl (by decide) (ih13749 _ (by omega) (v13750 + 1) H13909 ((p13752 + 1)) w13911 f13914 ⟨by omega, by omega⟩ (by omega) (by omega) (by omega) (by omega) (by omega) (by omega) rfl)
                          · refine wp_of e172 c172_197 (rw_aload_n (pc' := 198) (v := .ref r0) rfl rfl rfl ?_)
                            refine wp_of e172 c172_198 (rw_bipush (pc' := 200) (z := 10) rfl (by decide) ?_)
                            refine wp_of e172 c172_200 (rw_aload_n (pc' := 201) (v := .ref r0) rfl rfl rfl ?_)
                            refine wp_of e172 c172_201 (xg_I (pc' := 204) lf_9_101 w13754 g0 sh_42 (by decide) (by decide) ty_42_12 rfl rfl (fun b13917 b13918 => ?_))
                            refine wp_of e172 c172_204 (rw_imulw (pc' := 205) rfl ?_)
                            obtain ⟨v13919, e13920⟩ : ∃ x : Int, x = wq_w (10 * (H13751 r0 12)) := ⟨_, rfl⟩
                            rw [← e13920]
                            have b13921 : -2147483648 ≤ v13919 ∧ v13919 ≤ 2147483647 := by
                              rw [e13920]
                              exact wI_w _
                            have b13922 : (-2147483648 ≤ 10 * (H13751 r0 12) ∧ 10 * (H13751 r0 12) ≤ 2147483647) → v13919 = 10 * (H13751 r0 12) := fun h => by rw [e13920]; exact wq_w_id h
                            refine wp_of e172 c172_205 (rw_aload_n (pc' := 206) (v := .ref r0) rfl rfl rfl ?_)
                            refine wp_of e172 c172_206 (rw_aload_n (pc' := 207) (v := .ref r0) rfl rfl rfl ?_)
                            refine wp_of e172 c172_207 (xg_I (pc' := 210) lf_9_78 w13754 g0 sh_42 (by decide) (by decide) ty_42_8 rfl rfl (fun b13923 b13924 => ?_))
                            refine wp_of e172 c172_210 (xc_V (pc' := 213) (r := r0) (as := [vI (H13751 r0 8)]) (st := [vI v13919, .ref r0]) (lm_9_81) rfl rfl (Nat.le_of_ble_eq_true rfl) w13754 g0 sh_42 (by decide) rfl (by decide) (u_173 (B := B) (n := n) (y := p13752) w13754 g0 ⟨b13923, b13924⟩ q13769 grb (by omega) (by omega) h13771) (fun R13925 T13926 H13927 p13928 => ?_))
                            obtain ⟨e13929, e13931, z13932, e13930, b13933, p13934⟩ := p13928
                            subst e13929
                            subst e13930
                            subst e13931
                            rcases p13934 with ⟨a13935, a13936⟩ | ⟨a13937, a13938, a13939, a13940⟩
                            · show wp _ _ 172 213 [(2, vI v13750), (0, .ref r0)] [vI z13932, vI v13919, .ref r0] _ H13751 _
                              refine wp_of e172 c172_213 (rw_iaddw (pc' := 214) rfl ?_)
                              obtain ⟨v13941, e13942⟩ : ∃ x : Int, x = wq_w (v13919 + z13932) := ⟨_, rfl⟩
                              rw [← e13942]
                              have b13943 : -2147483648 ≤ v13941 ∧ v13941 ≤ 2147483647 := by
                                rw [e13942]
                                exact wI_w _
                              have b13944 : (-2147483648 ≤ v13919 + z13932 ∧ v13919 + z13932 ≤ 2147483647) → v13941 = v13919 + z13932 := fun h => by rw [e13942]; exact wq_w_id h
                              refine wp_of e172 c172_214 (rw_bipush (pc' := 216) (z := 48) rfl (by decide) ?_)
                              refine wp_of e172 c172_216 (rw_isubw (pc' := 217) rfl ?_)
                              obtain ⟨v13945, e13946⟩ : ∃ x : Int, x = wq_w (v13941 - 48) := ⟨_, rfl⟩
                              rw [← e13946]
                              have b13947 : -2147483648 ≤ v13945 ∧ v13945 ≤ 2147483647 := by
                                rw [e13946]
                                exact wI_w _
                              have b13948 : (-2147483648 ≤ v13941 - 48 ∧ v13941 - 48 ≤ 2147483647) → v13945 = v13941 - 48 := fun h => by rw [e13946]; exact wq_w_id h
                              refine wp_of e172 c172_217 (xp_I (pc' := 220) lf_9_101 w13754 g0 sh_42 (by decide) (by decide) ty_42_12 rfl rfl (b13947.1) (b13947.2) ⟨b13947.1, b13947.2⟩ rfl (fun H13949 e13950 w13951 => ?_))
                              have f13952 := f13764.put' e13950 g0 rfl
                              have f13953 := f13765.put' e13950 g0 rfl
                              have f13954 := f13755.put' e13950 g0 rfl
                              have k13955 : H13949 r0 12 = v13945 := wq_u_s e13950
                              refine wp_of e172 c172_220 (rw_iinc (pc' := 223) (z := v13750) (L' := [(2, vI (v13750 + 1)), (0, .ref r0)]) rfl rfl rfl rfl ?_)
                              refine wp_of e172 c172_223 (rw_aload_n (pc' := 224) (v := .ref r0) rfl rfl rfl ?_)
                              refine wp_of e172 c172_224 (rw_dup (pc' := 225) rfl rfl ?_)
                              have k13956 : H13949 r0 8 = H13751 r0 8 := (wq_u_j e13950 rfl)
                              refine wp_of e172 c172_225 (xg_I (pc' := 228) lf_9_78 w13951 g0 sh_42 (by decide) (by decide) ty_42_8 rfl rfl (fun b13957 b13958 => ?_))
                              refine wp_of e172 c172_228 (rw_iconst (pc' := 229) rfl ?_)
                              refine wp_of e172 c172_229 (rw_iadd (pc' := 230) rfl ?_)
                              refine wp_of e172 c172_230 (xp_I (pc' := 233) lf_9_78 w13951 g0 sh_42 (by decide) (by decide) ty_42_8 rfl rfl (by omega) (by omega) ⟨by omega, by omega⟩ rfl (fun H13959 e13960 w13961 => ?_))
                              have f13962 := f13952.put' e13960 g0 rfl
                              have f13963 := f13953.put' e13960 g0 rfl
                              have f13964 := f13954.put' e13960 g0 rfl
                              have k13965 : H13959 r0 8 = (H13949 r0 8) + 1 := wq_u_s e13960
                              refine wp_of e172 c172_233 (rw_goto (p1 := 178) (by decide) ?_)
                              have k13966 : H13959 r0 12 = H13949 r0 12 := (wq_u_j e13960 rfl)
                              have := @xG_s 48 57 B n p13752 (by omega) (by omega) (by omega)
                              have := @xkf_s B q 10 48 p13752 (by omega)
                              exact wp_lc (ks := [2, 0]) (wl_c rfl (wl_c rfl wl_n)) rfl (by decide) (ih13749 _ (by omega) (v13750 + 1) H13959 ((p13752 + 1)) w13961 f13964 ⟨by omega, by omega⟩ (by omega) (by omega) (by omega) (by omega) (by omega) (by omega) rfl)
                            · show wp _ _ 172 213 [(2, vI v13750), (0, .ref r0)] [vI z13932, vI v13919, .ref r0] _ H13751 _
                              refine wp_of e172 c172_213 (rw_iaddw (pc' := 214) rfl ?_)
                              obtain ⟨v13967, e13968⟩ : ∃ x : Int, x = wq_w (v13919 + z13932) := ⟨_, rfl⟩
                              rw [← e13968]
                              have b13969 : -2147483648 ≤ v13967 ∧ v13967 ≤ 2147483647 := by
                                rw [e13968]
                                exact wI_w _
                              have b13970 : (-2147483648 ≤ v13919 + z13932 ∧ v13919 + z13932 ≤ 2147483647) → v13967 = v13919 + z13932 := fun h => by rw [e13968]; exact wq_w_id h
                              refine wp_of e172 c172_214 (rw_bipush (pc' := 216) (z := 48) rfl (by decide) ?_)
                              refine wp_of e172 c172_216 (rw_isubw (pc' := 217) rfl ?_)
                              obtain ⟨v13971, e13972⟩ : ∃ x : Int, x = wq_w (v13967 - 48) := ⟨_, rfl⟩
                              rw [← e13972]
                              have b13973 : -2147483648 ≤ v13971 ∧ v13971 ≤ 2147483647 := by
                                rw [e13972]
                                exact wI_w _
                              have b13974 : (-2147483648 ≤ v13967 - 48 ∧ v13967 - 48 ≤ 2147483647) → v13971 = v13967 - 48 := fun h => by rw [e13972]; exact wq_w_id h
                              refine wp_of e172 c172_217 (xp_I (pc' := 220) lf_9_101 w13754 g0 sh_42 (by decide) (by decide) ty_42_12 rfl rfl (b13973.1) (b13973.2) ⟨b13973.1, b13973.2⟩ rfl (fun H13975 e13976 w13977 => ?_))
                              have f13978 := f13764.put' e13976 g0 rfl
                              have f13979 := f13765.put' e13976 g0 rfl
                              have f13980 := f13755.put' e13976 g0 rfl
                              have k13981 : H13975 r0 12 = v13971 := wq_u_s e13976
                              refine wp_of e172 c172_220 (rw_iinc (pc' := 223) (z := v13750) (L' := [(2, vI (v13750 + 1)), (0, .ref r0)]) rfl rfl rfl rfl ?_)
                              refine wp_of e172 c172_223 (rw_aload_n (pc' := 224) (v := .ref r0) rfl rfl rfl ?_)
                              refine wp_of e172 c172_224 (rw_dup (pc' := 225) rfl rfl ?_)
                              have k13982 : H13975 r0 8 = H13751 r0 8 := (wq_u_j e13976 rfl)
                              refine wp_of e172 c172_225 (xg_I (pc' := 228) lf_9_78 w13977 g0 sh_42 (by decide) (by decide) ty_42_8 rfl rfl (fun b13983 b13984 => ?_))
                              refine wp_of e172 c172_228 (rw_iconst (pc' := 229) rfl ?_)
                              refine wp_of e172 c172_229 (rw_iadd (pc' := 230) rfl ?_)
                              refine wp_of e172 c172_230 (xp_I (pc' := 233) lf_9_78 w13977 g0 sh_42 (by decide) (by decide) ty_42_8 rfl rfl (by omega) (by omega) ⟨by omega, by omega⟩ rfl (fun H13985 e13986 w13987 => ?_))
                              have f13988 := f13978.put' e13986 g0 rfl
                              have f13989 := f13979.put' e13986 g0 rfl
                              have f13990 := f13980.put' e13986 g0 rfl
                              have k13991 : H13985 r0 8 = (H13975 r0 8) + 1 := wq_u_s e13986
                              refine wp_of e172 c172_233 (rw_goto (p1 := 178) (by decide) ?_)
                              have k13992 : H13985 r0 12 = H13975 r0 12 := (wq_u_j e13986 rfl)
                              have := @xG_s 48 57 B n p13752 (by omega) (by omega) (by omega)
                              have := @xkf_s B q 10 48 p13752 (by omega)
                              exact wp_lc (ks := [2, 0]) (wl_c rfl (wl_c rfl wl_n)) rfl (by decide) (ih13749 _ (by omega) (v13750 + 1) H13985 ((p13752 + 1)) w13987 f13990 ⟨by omega, by omega⟩ (by omega) (by omega) (by omega) (by omega) (by omega) (by omega) rfl)
                      · show wp _ _ 172 189 [(2, vI v13750), (0, .ref r0)] [vI z13898] _ H13751 _
                        refine wp_of e172 c172_189 (rw_if_eq (p1 := 236) (p2 := 192) (by decide) rfl ⟨Int.le_trans (by decide) b13899.1, Int.le_trans b13899.2 (by decide)⟩ (fun c13993 => ?_) (fun c13993 => ?_))
                        · have := @xG_e 48 57 B n p13752 (by omega)
                          have := @xV_of B n q p13752
                          exact wp_lc (ks := [2, 0]) (wl_c rfl (wl_c rfl wl_n)) rfl (by decide) (jn12246 v13750 H13751 w13754 f13765 ⟨by omega, by omega⟩ (by omega) (by omega) (by omega))
                        · exfalso
                          omega
                have := @xkf_q B q q 10 48
                exact wp_lc (ks := [2, 1, 0]) (wl_c rfl (wl_c rfl wl_n)) rfl (by decide) (lp13747 _ 0 H12278 q w12280 wfr.rf ⟨by decide, by decide⟩ (by omega) (by omega) (by omega) (by omega) (by omega) (by omega) rfl)
            · show wp _ _ 172 170 [(2, vI 0), (1, vI z7543), (0, .ref r0)] [vI z10660] _ H7524 _
              refine wp_of e172 c172_170 (rw_if_eq (p1 := 249) (p2 := 173) (by decide) rfl ⟨Int.le_trans (by decide) b10661.1, Int.le_trans b10661.2 (by decide)⟩ (fun c13994 => ?_) (fun c13994 => ?_))
              · refine wp_of e172 c172_249 (rw_iload_n (pc' := 250) (z := z7543) rfl rfl ?_)
                refine wp_of e172 c172_250 (rw_bipush (pc' := 252) (z := 59) rfl (by decide) ?_)
                refine wp_of e172 c172_252 (rw_icmp_eq (p1 := 261) (p2 := 255) (by decide) rfl ⟨b7544.1, b7544.2⟩ ⟨by decide, by decide⟩ (fun c13995 => ?_) (fun c13995 => ?_))
                · refine wp_of e172 c172_261 (rw_aload_n (pc' := 262) (v := .ref r0) rfl rfl rfl ?_)
                  refine wp_of e172 c172_262 (rw_iconst (pc' := 263) rfl ?_)
                  refine wp_of e172 c172_263 (xp_I (pc' := 266) lf_9_75 w7526 g0 sh_42 (by decide) (by decide) ty_42_9 rfl rfl (by decide) (by decide) ⟨by decide, by decide⟩ rfl (fun H13996 e13997 w13998 => ?_))
                  have f13999 := f7527.put' e13997 g0 rfl
                  have k14000 : H13996 r0 9 = 4 := wq_u_s e13997
                  refine wp_of e172 c172_266 (rw_aload_n (pc' := 267) (v := .ref r0) rfl rfl rfl ?_)
                  refine wp_of e172 c172_267 (rw_iload_n (pc' := 268) (z := z7543) rfl rfl ?_)
                  refine wp_of e172 c172_268 (xp_I (pc' := 271) lf_9_87 w13998 g0 sh_42 (by decide) (by decide) ty_42_11 rfl rfl (b7544.1) (b7544.2) ⟨b7544.1, b7544.2⟩ rfl (fun H14001 e14002 w14003 => ?_))
                  have f14004 := f13999.put' e14002 g0 rfl
                  have k14005 : H14001 r0 11 = z7543 := wq_u_s e14002
                  refine wp_of e172 c172_271 (rw_aload_n (pc' := 272) (v := .ref r0) rfl rfl rfl ?_)
                  refine wp_of e172 c172_272 (rw_dup (pc' := 273) rfl rfl ?_)
                  have k14006 : H14001 r0 8 = H7524 r0 8 := ((wq_u_j e14002 rfl).trans (wq_u_j e13997 rfl))
                  refine wp_of e172 c172_273 (xg_I (pc' := 276) lf_9_78 w14003 g0 sh_42 (by decide) (by decide) ty_42_8 rfl rfl (fun b14007 b14008 => ?_))
                  refine wp_of e172 c172_276 (rw_iconst (pc' := 277) rfl ?_)
                  refine wp_of e172 c172_277 (rw_iadd (pc' := 278) rfl ?_)
                  refine wp_of e172 c172_278 (xp_I (pc' := 281) lf_9_78 w14003 g0 sh_42 (by decide) (by decide) ty_42_8 rfl rfl (by omega) (by omega) ⟨by omega, by omega⟩ rfl (fun H14009 e14010 w14011 => ?_))
                  have f14012 := f14004.put' e14010 g0 rfl
                  have k14013 : H14009 r0 8 = (H14001 r0 8) + 1 := wq_u_s e14010
                  have k14014 : H14009 r0 9 = H13996 r0 9 := ((wq_u_j e14010 rfl).trans (wq_u_j e14002 rfl))
                  have k14015 : H14009 r0 7 = H7524 r0 7 := ((wq_u_j e14010 rfl).trans ((wq_u_j e14002 rfl).trans (wq_u_j e13997 rfl)))
                  have k14016 : H14009 r0 13 = H r0 13 := ((wq_u_j e14010 rfl).trans ((wq_u_j e14002 rfl).trans ((wq_u_j e13997 rfl).trans ((wq_u_j e7525 rfl).trans ((wq_u_j e7520 rfl).trans ((wq_u_j e7515 rfl).trans (f7509 r0 13 _ g0 rfl)))))))
                  have k14017 : H14009 r0 10 = H7514 r0 10 := ((wq_u_j e14010 rfl).trans ((wq_u_j e14002 rfl).trans ((wq_u_j e13997 rfl).trans ((wq_u_j e7525 rfl).trans (wq_u_j e7520 rfl)))))
                  have k14018 : H14009 r0 11 = H14001 r0 11 := (wq_u_j e14010 rfl)
                  obtain ⟨kk, hk⟩ : ∃ x : Int, xK B n q = x := ⟨_, rfl⟩
                  obtain ⟨ke, he⟩ : ∃ x : Int, xE B n q = x := ⟨_, rfl⟩
                  first
                    | have hl := @xM1 B n q (by omega -splitDisjunctions) (by omega -splitDisjunctions) (by omega -splitDisjunctions) (by omega -splitDisjunctions)
                    | have hl := @xM5 B n q (by omega -splitDisjunctions) (by omega -splitDisjunctions) (by omega -splitDisjunctions) (by omega -splitDisjunctions)
                    | have hl := @xM2 B n q (by omega -splitDisjunctions) (by omega -splitDisjunctions) (by omega -splitDisjunctions) (by omega -splitDisjunctions)
                    | have hl := @xM6 B n q (by omega -splitDisjunctions) (by omega -splitDisjunctions) (by omega -splitDisjunctions) (by omega -splitDisjunctions)
                    | have hl := @xM0 B n q (by omega -splitDisjunctions)
                    | have hl := @xM3 B n q (by omega -splitDisjunctions) (by omega -splitDisjunctions)
                    | have hl := @xM4 B n q (by omega -splitDisjunctions) (by omega -splitDisjunctions)
                    | have hl := @xM7 B n q (by omega -splitDisjunctions) (by omega) (by omega) (by omega) (by omega)
                    | have hl := @xM1 B n q (by omega) (by omega) (by omega) (by omega)
                    | have hl := @xM5 B n q (by omega) (by omega) (by omega) (by omega)
                    | have hl := @xM2 B n q (by omega) (by omega) (by omega) (by omega)
                    | have hl := @xM6 B n q (by omega) (by omega) (by omega) (by omega)
                    | have hl := @xM0 B n q (by omega)
                    | have hl := @xM3 B n q (by omega) (by omega)
                    | have hl := @xM4 B n q (by omega) (by omega)
                    | have hl := @xM7 B n q (by omega) (by omega) (by omega) (by omega) (by omega)
                  have hk2 := hl.1.symm
                  have he2 := hl.2.symm
                  rw [hk] at hk2
                  rw [he] at he2
                  have k14019 : H14009 r0 5 = H7524 r0 5 := ((wq_u_j e14010 rfl).trans ((wq_u_j e14002 rfl).trans (wq_u_j e13997 rfl)))
                  have q14020 : H14009 r0 5 = (rb : Int) := k14019.trans q7533
                  have h14021 : TM T H14009 rb B := (TM_fr w14003 grb ((wfr.rf (l := [(42, 8)])).put' e14010 g0 rfl) rfl (TM_fr w13998 grb ((wfr.rf (l := [(42, 11)])).put' e14002 g0 rfl) rfl (TM_fr w7526 grb ((wfr.rf (l := [(42, 9)])).put' e13997 g0 rfl) rfl h7535)))
                  exact wp_return e172 c172_281 rfl ⟨rfl, w14011, f14012, rfl, (RC_mk q14020 grb h14021 (by omega) (by rw [hk, ← hk2]; omega) (by omega) (by omega) (by omega) (by omega) (by omega))⟩
                · refine wp_of e172 c172_255 (rw_iload_n (pc' := 256) (z := z7543) rfl rfl ?_)
                  refine wp_of e172 c172_256 (rw_bipush (pc' := 258) (z := 44) rfl (by decide) ?_)
                  refine wp_of e172 c172_258 (rw_icmp_ne (p1 := 281) (p2 := 261) (by decide) rfl ⟨b7544.1, b7544.2⟩ ⟨by decide, by decide⟩ (fun c14022 => ?_) (fun c14022 => ?_))
                  · have k14023 : H7524 r0 9 = H7519 r0 9 := (wq_u_j e7525 rfl)
                    have k14024 : H7524 r0 13 = H r0 13 := ((wq_u_j e7525 rfl).trans ((wq_u_j e7520 rfl).trans ((wq_u_j e7515 rfl).trans (f7509 r0 13 _ g0 rfl))))
                    have k14025 : H7524 r0 10 = H7514 r0 10 := ((wq_u_j e7525 rfl).trans (wq_u_j e7520 rfl))
                    obtain ⟨kk, hk⟩ : ∃ x : Int, xK B n q = x := ⟨_, rfl⟩
                    obtain ⟨ke, he⟩ : ∃ x : Int, xE B n q = x := ⟨_, rfl⟩
                    first
                      | have hl := @xM1 B n q (by omega -splitDisjunctions) (by omega -splitDisjunctions) (by omega -splitDisjunctions) (by omega -splitDisjunctions)
                      | have hl := @xM5 B n q (by omega -splitDisjunctions) (by omega -splitDisjunctions) (by omega -splitDisjunctions) (by omega -splitDisjunctions)
                      | have hl := @xM2 B n q (by omega -splitDisjunctions) (by omega -splitDisjunctions) (by omega -splitDisjunctions) (by omega -splitDisjunctions)
                      | have hl := @xM6 B n q (by omega -splitDisjunctions) (by omega -splitDisjunctions) (by omega -splitDisjunctions) (by omega -splitDisjunctions)
                      | have hl := @xM0 B n q (by omega -splitDisjunctions)
                      | have hl := @xM3 B n q (by omega -splitDisjunctions) (by omega -splitDisjunctions)
                      | have hl := @xM4 B n q (by omega -splitDisjunctions) (by omega -splitDisjunctions)
                      | have hl := @xM7 B n q (by omega -splitDisjunctions) (by omega) (by omega) (by omega) (by omega)
                      | have hl := @xM1 B n q (by omega) (by omega) (by omega) (by omega)
                      | have hl := @xM5 B n q (by omega) (by omega) (by omega) (by omega)
                      | have hl := @xM2 B n q (by omega) (by omega) (by omega) (by omega)
                      | have hl := @xM6 B n q (by omega) (by omega) (by omega) (by omega)
                      | have hl := @xM0 B n q (by omega)
                      | have hl := @xM3 B n q (by omega) (by omega)
                      | have hl := @xM4 B n q (by omega) (by omega)
                      | have hl := @xM7 B n q (by omega) (by omega) (by omega) (by omega) (by omega)
                    have hk2 := hl.1.symm
                    have he2 := hl.2.symm
                    rw [hk] at hk2
                    rw [he] at he2
                    exact wp_return e172 c172_281 rfl ⟨rfl, w7526, f7527, rfl, (RC_mk q7533 grb h7535 (by omega) (by rw [hk, ← hk2]; omega) (by omega) (by omega) (by omega) (by omega) (by omega))⟩
                  · refine wp_of e172 c172_261 (rw_aload_n (pc' := 262) (v := .ref r0) rfl rfl rfl ?_)
                    refine wp_of e172 c172_262 (rw_iconst (pc' := 263) rfl ?_)
                    refine wp_of e172 c172_263 (xp_I (pc' := 266) lf_9_75 w7526 g0 sh_42 (by decide) (by decide) ty_42_9 rfl rfl (by decide) (by decide) ⟨by decide, by decide⟩ rfl (fun H14026 e14027 w14028 => ?_))
                    have f14029 := f7527.put' e14027 g0 rfl
                    have k14030 : H14026 r0 9 = 4 := wq_u_s e14027
                    refine wp_of e172 c172_266 (rw_aload_n (pc' := 267) (v := .ref r0) rfl rfl rfl ?_)
                    refine wp_of e172 c172_267 (rw_iload_n (pc' := 268) (z := z7543) rfl rfl ?_)
                    refine wp_of e172 c172_268 (xp_I (pc' := 271) lf_9_87 w14028 g0 sh_42 (by decide) (by decide) ty_42_11 rfl rfl (b7544.1) (b7544.2) ⟨b7544.1, b7544.2⟩ rfl (fun H14031 e14032 w14033 => ?_))
                    have f14034 := f14029.put' e14032 g0 rfl
                    have k14035 : H14031 r0 11 = z7543 := wq_u_s e14032
                    refine wp_of e172 c172_271 (rw_aload_n (pc' := 272) (v := .ref r0) rfl rfl rfl ?_)
                    refine wp_of e172 c172_272 (rw_dup (pc' := 273) rfl rfl ?_)
                    have k14036 : H14031 r0 8 = H7524 r0 8 := ((wq_u_j e14032 rfl).trans (wq_u_j e14027 rfl))
                    refine wp_of e172 c172_273 (xg_I (pc' := 276) lf_9_78 w14033 g0 sh_42 (by decide) (by decide) ty_42_8 rfl rfl (fun b14037 b14038 => ?_))
                    refine wp_of e172 c172_276 (rw_iconst (pc' := 277) rfl ?_)
                    refine wp_of e172 c172_277 (rw_iadd (pc' := 278) rfl ?_)
                    refine wp_of e172 c172_278 (xp_I (pc' := 281) lf_9_78 w14033 g0 sh_42 (by decide) (by decide) ty_42_8 rfl rfl (by omega) (by omega) ⟨by omega, by omega⟩ rfl (fun H14039 e14040 w14041 => ?_))
                    have f14042 := f14034.put' e14040 g0 rfl
                    have k14043 : H14039 r0 8 = (H14031 r0 8) + 1 := wq_u_s e14040
                    have k14044 : H14039 r0 9 = H14026 r0 9 := ((wq_u_j e14040 rfl).trans (wq_u_j e14032 rfl))
                    have k14045 : H14039 r0 7 = H7524 r0 7 := ((wq_u_j e14040 rfl).trans ((wq_u_j e14032 rfl).trans (wq_u_j e14027 rfl)))
                    have k14046 : H14039 r0 13 = H r0 13 := ((wq_u_j e14040 rfl).trans ((wq_u_j e14032 rfl).trans ((wq_u_j e14027 rfl).trans ((wq_u_j e7525 rfl).trans ((wq_u_j e7520 rfl).trans ((wq_u_j e7515 rfl).trans (f7509 r0 13 _ g0 rfl)))))))
                    have k14047 : H14039 r0 10 = H7514 r0 10 := ((wq_u_j e14040 rfl).trans ((wq_u_j e14032 rfl).trans ((wq_u_j e14027 rfl).trans ((wq_u_j e7525 rfl).trans (wq_u_j e7520 rfl)))))
                    have k14048 : H14039 r0 11 = H14031 r0 11 := (wq_u_j e14040 rfl)
                    obtain ⟨kk, hk⟩ : ∃ x : Int, xK B n q = x := ⟨_, rfl⟩
                    obtain ⟨ke, he⟩ : ∃ x : Int, xE B n q = x := ⟨_, rfl⟩
                    first
                      | have hl := @xM1 B n q (by omega -splitDisjunctions) (by omega -splitDisjunctions) (by omega -splitDisjunctions) (by omega -splitDisjunctions)
                      | have hl := @xM5 B n q (by omega -splitDisjunctions) (by omega -splitDisjunctions) (by omega -splitDisjunctions) (by omega -splitDisjunctions)
                      | have hl := @xM2 B n q (by omega -splitDisjunctions) (by omega -splitDisjunctions) (by omega -splitDisjunctions) (by omega -splitDisjunctions)
                      | have hl := @xM6 B n q (by omega -splitDisjunctions) (by omega -splitDisjunctions) (by omega -splitDisjunctions) (by omega -splitDisjunctions)
                      | have hl := @xM0 B n q (by omega -splitDisjunctions)
                      | have hl := @xM3 B n q (by omega -splitDisjunctions) (by omega -splitDisjunctions)
                      | have hl := @xM4 B n q (by omega -splitDisjunctions) (by omega -splitDisjunctions)
                      | have hl := @xM7 B n q (by omega -splitDisjunctions) (by omega) (by omega) (by omega) (by omega)
                      | have hl := @xM1 B n q (by omega) (by omega) (by omega) (by omega)
                      | have hl := @xM5 B n q (by omega) (by omega) (by omega) (by omega)
                      | have hl := @xM2 B n q (by omega) (by omega) (by omega) (by omega)
                      | have hl := @xM6 B n q (by omega) (by omega) (by omega) (by omega)
                      | have hl := @xM0 B n q (by omega)
                      | have hl := @xM3 B n q (by omega) (by omega)
                      | have hl := @xM4 B n q (by omega) (by omega)
                      | have hl := @xM7 B n q (by omega) (by omega) (by omega) (by omega) (by omega)
                    have hk2 := hl.1.symm
                    have he2 := hl.2.symm
                    rw [hk] at hk2
                    rw [he] at he2
                    have k14049 : H14039 r0 5 = H7524 r0 5 := ((wq_u_j e14040 rfl).trans ((wq_u_j e14032 rfl).trans (wq_u_j e14027 rfl)))
                    have q14050 : H14039 r0 5 = (rb : Int) := k14049.trans q7533
                    have h14051 : TM T H14039 rb B := (TM_fr w14033 grb ((wfr.rf (l := [(42, 8)])).put' e14040 g0 rfl) rfl (TM_fr w14028 grb ((wfr.rf (l := [(42, 11)])).put' e14032 g0 rfl) rfl (TM_fr w7526 grb ((wfr.rf (l := [(42, 9)])).put' e14027 g0 rfl) rfl h7535)))
                    exact wp_return e172 c172_281 rfl ⟨rfl, w14041, f14042, rfl, (RC_mk q14050 grb h14051 (by omega) (by rw [hk, ← hk2]; omega) (by omega) (by omega) (by omega) (by omega) (by omega))⟩
              · exfalso
                omega
          · exfalso
            omega
      · exfalso
        omega
  have f14052 : wfr [(42, 8)] T H H := wfr.rf
  refine wp_of e172 c172_5 (rw_icmp_ne (p1 := 9) (p2 := 8) (by decide) rfl ⟨Int.le_trans (by decide) b7411, Int.le_trans b7412 (by decide)⟩ ⟨by decide, by decide⟩ (fun c14053 => ?_) (fun c14053 => ?_))
  · have lp14117 : ∀ (n14118 : Nat)  (H14120 : wq_H) (p14121 : Int), WT T H14120 → wfr [(42, 8)] T H H14120 → (H14120 r0 8 = p14121) → (xG 32 32 B n p14121 = q) → (p14121 ≤ n) → (a ≤ p14121) → (900 - p14121).toNat = n14118 → wp kt 1 172 9 [(0, .ref r0)] [] T H14120 (uq_172_k r0 rb B n a q T H) := by
      intro n14118
      induction n14118 using Nat.strongRecOn with
      | _ n14118 ih14119 =>
        intro H14120 p14121 w14122 f14123 x14125 x14126 x14127 x14128 m14124
        have f14129 := f0.tr f14123 rfl
        have f14130 := f14052.tr f14123 rfl
        refine wp_of e172 c172_9 (rw_aload_n (pc' := 10) (v := .ref r0) rfl rfl rfl ?_)
        refine wp_of e172 c172_10 (rw_aload_n (pc' := 11) (v := .ref r0) rfl rfl rfl ?_)
        refine wp_of e172 c172_11 (xg_I (pc' := 14) lf_9_78 w14122 g0 sh_42 (by decide) (by decide) ty_42_8 rfl rfl (fun b14131 b14132 => ?_))
        have k14133 : H14120 r0 5 = H r0 5 := (f14123 r0 5 _ g0 rfl)
        have q14134 : H14120 r0 5 = (rb : Int) := k14133.trans qrb
        have k14135 : H14120 r0 7 = H r0 7 := (f14123 r0 7 _ g0 rfl)
        have h14136 : TM T H14120 rb B := (TM_fr hW grb f14123 rfl hTM_rb)
        refine wp_of e172 c172_14 (xc_V (pc' := 17) (r := r0) (as := [vI (H14120 r0 8)]) (st := []) (lm_9_81) rfl rfl (Nat.le_of_ble_eq_true rfl) w14122 g0 sh_42 (by decide) rfl (by decide) (u_173 (B := B) (n := n) (y := p14121) w14122 g0 ⟨b14131, b14132⟩ q14134 grb (by omega) (by omega) h14136) (fun R14137 T14138 H14139 p14140 => ?_))
        obtain ⟨e14141, e14143, z14144, e14142, b14145, p14146⟩ := p14140
        subst e14141
        subst e14142
        subst e14143
        rcases p14146 with ⟨a14147, a14148⟩ | ⟨a14149, a14150, a14151, a14152⟩
        · show wp _ _ 172 17 [(0, .ref r0)] [vI z14144] _ H14120 _
          refine wp_of e172 c172_17 (rw_bipush (pc' := 19) (z := 32) rfl (by decide) ?_)
          refine wp_of e172 c172_19 (rw_icmp_ne (p1 := 35) (p2 := 22) (by decide) rfl ⟨b14145.1, b14145.2⟩ ⟨by decide, by decide⟩ (fun c14153 => ?_) (fun c14153 => ?_))
          · have := @xG_e 32 32 B n p14121 (by omega)
            exact wp_lc (ks := [0]) (wl_c rfl wl_n) rfl (by decide) (jn7507 H14120 w14122 f14130 (by omega))
          · exfalso
            omega
        · show wp _ _ 172 17 [(0, .ref r0)] [vI z14144] _ H14120 _
          refine wp_of e172 c172_17 (rw_bipush (pc' := 19) (z := 32) rfl (by decide) ?_)
          refine wp_of e172 c172_19 (rw_icmp_ne (p1 := 35) (p2 := 22) (by decide) rfl ⟨b14145.1, b14145.2⟩ ⟨by decide, by decide⟩ (fun c14154 => ?_) (fun c14154 => ?_))
          · have := @xG_e 32 32 B n p14121 (by omega)
            exact wp_lc (ks := [0]) (wl_c rfl wl_n) rfl (by decide) (jn7507 H14120 w14122 f14130 (by omega))
          · refine wp_of e172 c172_22 (rw_aload_n (pc' := 23) (v := .ref r0) rfl rfl rfl ?_)
            refine wp_of e172 c172_23 (rw_dup (pc' := 24) rfl rfl ?_)
            refine wp_of e172 c172_24 (xg_I (pc' := 27) lf_9_78 w14122 g0 sh_42 (by decide) (by decide) ty_42_8 rfl rfl (fun b14155 b14156 => ?_))
            refine wp_of e172 c172_27 (rw_iconst (pc' := 28) rfl ?_)
            refine wp_of e172 c172_28 (rw_iadd (pc' := 29) rfl ?_)
            refine wp_of e172 c172_29 (xp_I (pc' := 32) lf_9_78 w14122 g0 sh_42 (by decide) (by decide) ty_42_8 rfl rfl (by omega) (by omega) ⟨by omega, by omega⟩ rfl (fun H14157 e14158 w14159 => ?_))
            have f14160 := f14129.put' e14158 g0 rfl
            have f14161 := f14130.put' e14158 g0 rfl
            have f14162 := f14123.put' e14158 g0 rfl
            have k14163 : H14157 r0 8 = (H14120 r0 8) + 1 := wq_u_s e14158
            refine wp_of e172 c172_32 (rw_goto (p1 := 9) (by decide) ?_)
            have := @xG_s 32 32 B n p14121 (by omega) (by omega) (by omega)
            exact wp_lc (ks := [0]) (wl_c rfl wl_n) rfl (by decide) (ih14119 _ (by omega) H14157 ((p14121 + 1)) w14159 f14162 (by omega) (by omega) (by omega) (by omega) rfl)
    exact wp_lc (ks := [0]) (wl_c rfl wl_n) rfl (by decide) (lp14117 _ H a hW wfr.rf (by omega) (by omega) (by omega) (by omega) rfl)
  · exfalso
    omega
/-! StrikeAwakeModel.goesOn()V o -/
abbrev uq_172_o (r0 : Nat) (fo : Int) (po : Int) (T : wq_T) (H : wq_H) : Option Value → wq_T → wq_H → Prop := fun r T' H' => T = T' ∧ H = H' ∧ none = r ∧ ((RO T H r0 fo po))
set_option maxHeartbeats 4000000 in
theorem u_172_o {kt : Nat → Option mc_E} {T : wq_T} {H : wq_H} {r0 : Nat} {fo : Int} {po : Int} (hW : WT T H) (g0 : T.2.2.2 r0 = some 42) (hRO_r0 : RO T H r0 fo po) : wpc kt 2 172 [.ref r0] T H (uq_172_o r0 fo po T H) := by
  refine wp_enter e172 (Nat.le_of_ble_eq_true rfl) rfl ?_
  show wp _ _ 172 0 [(0, .ref r0)] [] _ H _
  have u1004 := RO_k hRO_r0
  refine wp_of e172 c172_0 (rw_aload_n (pc' := 1) (v := .ref r0) rfl rfl rfl ?_)
  refine wp_of e172 c172_1 (xg_I (pc' := 4) lf_9_75 hW g0 sh_42 (by decide) (by decide) ty_42_9 rfl rfl (fun b1005 b1006 => ?_))
  refine wp_of e172 c172_4 (rw_iconst (pc' := 5) rfl ?_)
  refine wp_of e172 c172_5 (rw_icmp_ne (p1 := 9) (p2 := 8) (by decide) rfl ⟨Int.le_trans (by decide) b1005, Int.le_trans b1006 (by decide)⟩ ⟨by decide, by decide⟩ (fun c1007 => ?_) (fun c1007 => ?_))
  · exfalso
    omega
  · exact wp_return e172 c172_8 rfl ⟨rfl, rfl, rfl, (hRO_r0)⟩
/-! StrikeAwakeModel.wrong(I)V k -/
abbrev uq_181_k (r0 : Nat) (a1 : Int) (B : Nat → Int) (n : Int) (q : Int) (T : wq_T) (H : wq_H) : Option Value → wq_T → wq_H → Prop := fun r T' H' => T = T' ∧ WT T H' ∧ wfr [(42, 9), (42, 13), (42, 14)] T H H' ∧ none = r ∧ ((RO T H' r0 a1 q))
set_option maxHeartbeats 4000000 in
theorem u_181_k {kt : Nat → Option mc_E} {T : wq_T} {H : wq_H} {r0 : Nat} {a1 : Int} {B : Nat → Int} {n : Int} {q : Int} (hW : WT T H) (g0 : T.2.2.2 r0 = some 42) (i1 : (-2147483648) ≤ a1 ∧ a1 ≤ 2147483647) (p0 : 1 ≤ a1) (hRC_r0 : RC T H r0 B n q) : wpc kt 1 181 [.ref r0, vI a1] T H (uq_181_k r0 a1 B n q T H) := by
  refine wp_enter e181 (Nat.le_of_ble_eq_true rfl) rfl ?_
  have f0 : wfr [(42, 9), (42, 13), (42, 14)] T H H := wfr.rf
  show wp _ _ 181 0 [(0, .ref r0), (1, vI a1)] [] _ H _
  have u1022 := RC_k hRC_r0
  refine wp_of e181 c181_0 (rw_aload_n (pc' := 1) (v := .ref r0) rfl rfl rfl ?_)
  refine wp_of e181 c181_1 (xg_I (pc' := 4) lf_9_75 hW g0 sh_42 (by decide) (by decide) ty_42_9 rfl rfl (fun b1023 b1024 => ?_))
  refine wp_of e181 c181_4 (rw_iconst (pc' := 5) rfl ?_)
  refine wp_of e181 c181_5 (rw_icmp_ne (p1 := 9) (p2 := 8) (by decide) rfl ⟨Int.le_trans (by decide) b1023, Int.le_trans b1024 (by decide)⟩ ⟨by decide, by decide⟩ (fun c1025 => ?_) (fun c1025 => ?_))
  · refine wp_of e181 c181_9 (rw_aload_n (pc' := 10) (v := .ref r0) rfl rfl rfl ?_)
    refine wp_of e181 c181_10 (rw_iload_n (pc' := 11) (z := a1) rfl rfl ?_)
    refine wp_of e181 c181_11 (xp_I (pc' := 14) lf_9_104 hW g0 sh_42 (by decide) (by decide) ty_42_13 rfl rfl (i1.1) (i1.2) ⟨i1.1, i1.2⟩ rfl (fun H1026 e1027 w1028 => ?_))
    have f1029 := f0.put' e1027 g0 rfl
    have k1030 : H1026 r0 13 = a1 := wq_u_s e1027
    refine wp_of e181 c181_14 (rw_aload_n (pc' := 15) (v := .ref r0) rfl rfl rfl ?_)
    refine wp_of e181 c181_15 (rw_aload_n (pc' := 16) (v := .ref r0) rfl rfl rfl ?_)
    have k1031 : H1026 r0 10 = H r0 10 := (wq_u_j e1027 rfl)
    refine wp_of e181 c181_16 (xg_I (pc' := 19) lf_9_84 w1028 g0 sh_42 (by decide) (by decide) ty_42_10 rfl rfl (fun b1032 b1033 => ?_))
    refine wp_of e181 c181_19 (xp_I (pc' := 22) lf_9_107 w1028 g0 sh_42 (by decide) (by decide) ty_42_14 rfl rfl (b1032) (b1033) ⟨b1032, b1033⟩ rfl (fun H1034 e1035 w1036 => ?_))
    have f1037 := f1029.put' e1035 g0 rfl
    have k1038 : H1034 r0 14 = H1026 r0 10 := wq_u_s e1035
    refine wp_of e181 c181_22 (rw_aload_n (pc' := 23) (v := .ref r0) rfl rfl rfl ?_)
    refine wp_of e181 c181_23 (rw_iconst (pc' := 24) rfl ?_)
    refine wp_of e181 c181_24 (xp_I (pc' := 27) lf_9_75 w1036 g0 sh_42 (by decide) (by decide) ty_42_9 rfl rfl (by decide) (by decide) ⟨by decide, by decide⟩ rfl (fun H1039 e1040 w1041 => ?_))
    have f1042 := f1037.put' e1040 g0 rfl
    have k1043 : H1039 r0 9 = 5 := wq_u_s e1040
    have k1044 : H1039 r0 13 = H1026 r0 13 := ((wq_u_j e1040 rfl).trans (wq_u_j e1035 rfl))
    have k1045 : H1039 r0 14 = H1034 r0 14 := (wq_u_j e1040 rfl)
    exact wp_return e181 c181_27 rfl ⟨rfl, w1041, f1042, rfl, (⟨by omega, by omega, by omega, by omega⟩)⟩
  · exfalso
    omega
/-! StrikeAwakeModel.wrong(I)V o -/
abbrev uq_181_o (r0 : Nat) (a1 : Int) (fo : Int) (po : Int) (T : wq_T) (H : wq_H) : Option Value → wq_T → wq_H → Prop := fun r T' H' => T = T' ∧ H = H' ∧ none = r ∧ ((RO T H r0 fo po))
set_option maxHeartbeats 4000000 in
theorem u_181_o {kt : Nat → Option mc_E} {T : wq_T} {H : wq_H} {r0 : Nat} {a1 : Int} {fo : Int} {po : Int} (hW : WT T H) (g0 : T.2.2.2 r0 = some 42) (i1 : (-2147483648) ≤ a1 ∧ a1 ≤ 2147483647) (hRO_r0 : RO T H r0 fo po) : wpc kt 1 181 [.ref r0, vI a1] T H (uq_181_o r0 a1 fo po T H) := by
  refine wp_enter e181 (Nat.le_of_ble_eq_true rfl) rfl ?_
  show wp _ _ 181 0 [(0, .ref r0), (1, vI a1)] [] _ H _
  have u1004 := RO_k hRO_r0
  refine wp_of e181 c181_0 (rw_aload_n (pc' := 1) (v := .ref r0) rfl rfl rfl ?_)
  refine wp_of e181 c181_1 (xg_I (pc' := 4) lf_9_75 hW g0 sh_42 (by decide) (by decide) ty_42_9 rfl rfl (fun b1005 b1006 => ?_))
  refine wp_of e181 c181_4 (rw_iconst (pc' := 5) rfl ?_)
  refine wp_of e181 c181_5 (rw_icmp_ne (p1 := 9) (p2 := 8) (by decide) rfl ⟨Int.le_trans (by decide) b1005, Int.le_trans b1006 (by decide)⟩ ⟨by decide, by decide⟩ (fun c1007 => ?_) (fun c1007 => ?_))
  · exfalso
    omega
  · exact wp_return e181 c181_8 rfl ⟨rfl, rfl, rfl, (hRO_r0)⟩
/-! StrikeAwakeModel.wordOf(Ljava/lang/String;)J  -/
abbrev uq_179 (s0 : Nat) (kk : Int) (T : wq_T) (H : wq_H) : Option Value → wq_T → wq_H → Prop := fun r T' H' => T = T' ∧ H = H' ∧ ∃ z : Int, some (vL z) = r ∧ ((-9223372036854775808) ≤ z ∧ z ≤ 9223372036854775807) ∧ (((z = kk)))
set_option maxHeartbeats 4000000 in
theorem u_179 {kt : Nat → Option mc_E} {T : wq_T} {H : wq_H} {s0 : Nat} {t0 : List Int32} {kk : Int} (hW : WT T H) (h0 : mc_find mc_sb s0 = some t0) (p0 : wkw t0 t0.length = kk) : wpc kt 1 179 [.ref s0] T H (uq_179 s0 kk T H) := by
  refine wp_enter e179 (Nat.le_of_ble_eq_true rfl) rfl ?_
  show wp _ _ 179 0 [(0, .ref s0)] [] _ H _
  refine wp_of e179 c179_0 (rw_lconst (pc' := 1) (z := 0) rfl rfl ?_)
  refine wp_of e179 c179_1 (rw_lstore_n (pc' := 2) (z := 0) (L' := [(1, vL 0), (0, .ref s0)]) rfl rfl rfl ?_)
  refine wp_of e179 c179_2 (rw_iconst (pc' := 3) rfl ?_)
  refine wp_of e179 c179_3 (rw_istore_n (pc' := 4) (z := 0) (L' := [(3, vI 0), (1, vL 0), (0, .ref s0)]) rfl rfl rfl ?_)
  have lp1182 : ∀ (n1183 : Nat) (v1185 : Int) (v1186 : Int), (0 ≤ v1185 ∧ v1185 ≤ 63) → ((-9223372036854775808) ≤ v1186 ∧ v1186 ≤ 9223372036854775807) → (v1186 = wkw t0 (v1185).toNat) → (v1185 ≤ (t0.length : Int)) → (63 - v1185).toNat = n1183 → wp kt 0 179 4 [(3, vI v1185), (1, vL v1186), (0, .ref s0)] [] T H (uq_179 s0 kk T H) := by
    intro n1183
    induction n1183 using Nat.strongRecOn with
    | _ n1183 ih1184 =>
      intro v1185 v1186 b1189 b1190 x1191 x1192 m1193
      refine wp_of e179 c179_4 (rw_iload_n (pc' := 5) (z := v1185) rfl rfl ?_)
      refine wp_of e179 c179_5 (rw_aload_n (pc' := 6) (v := .ref s0) rfl rfl rfl ?_)
      refine wp_of e179 c179_6 (rw_slen (pc' := 9) rfl rfl rfl h0 (Nat.le_of_ble_eq_true rfl) rfl ?_)
      have k1194 := (mc_sb_k h0).2.1
      show wp _ _ 179 9 [(3, vI v1185), (1, vL v1186), (0, .ref s0)] [vI ((t0.length : Int)), vI v1185] _ H _
      refine wp_of e179 c179_9 (rw_icmp_ge (p1 := 36) (p2 := 12) (by decide) rfl ⟨Int.le_trans (by decide) b1189.1, Int.le_trans b1189.2 (by decide)⟩ ⟨by omega, by omega⟩ (fun c1195 => ?_) (fun c1195 => ?_))
      · have : wkw t0 (v1185).toNat = kk := by
          rw [show (v1185).toNat = t0.length by omega]
          exact p0
        refine wp_of e179 c179_36 (rw_lload_n (pc' := 37) (z := v1186) rfl rfl ?_)
        exact wp_lreturn e179 c179_37 rfl ⟨rfl, rfl, v1186, rfl, ⟨b1190.1, b1190.2⟩, (by omega)⟩
      · refine wp_of e179 c179_12 (rw_ldc2 (pc' := 15) (z := 32) rfl rfl rfl ?_)
        refine wp_of e179 c179_15 (rw_lload_n (pc' := 16) (z := v1186) rfl rfl ?_)
        refine wp_of e179 c179_16 (rw_lmulw (pc' := 17) rfl ?_)
        obtain ⟨v1196, e1197⟩ : ∃ x : Int, x = wl_w (32 * v1186) := ⟨_, rfl⟩
        rw [← e1197]
        have b1198 : -9223372036854775808 ≤ v1196 ∧ v1196 ≤ 9223372036854775807 := by
          rw [e1197]
          exact wL_w _
        have b1199 : (-9223372036854775808 ≤ 32 * v1186 ∧ 32 * v1186 ≤ 9223372036854775807) → v1196 = 32 * v1186 := fun h => by rw [e1197]; exact wl_w_id h
        refine wp_of e179 c179_17 (rw_aload_n (pc' := 18) (v := .ref s0) rfl rfl rfl ?_)
        refine wp_of e179 c179_18 (rw_iload_n (pc' := 19) (z := v1185) rfl rfl ?_)
        refine wp_of e179 c179_19 (rw_schr (pc' := 22) rfl rfl rfl h0 (by omega) (by omega) (Nat.le_of_ble_eq_true rfl) rfl ?_)
        obtain ⟨v1200, e1201⟩ : ∃ x : Int, x = (t0.getD (v1185).toNat 0).toInt := ⟨_, rfl⟩
        rw [← e1201]
        have b1202 : -2147483648 ≤ v1200 ∧ v1200 ≤ 2147483647 := by
          rw [e1201]
          exact wI_of _
        refine wp_of e179 c179_22 (rw_bipush (pc' := 24) (z := 97) rfl (by decide) ?_)
        refine wp_of e179 c179_24 (rw_isubw (pc' := 25) rfl ?_)
        obtain ⟨v1203, e1204⟩ : ∃ x : Int, x = wq_w (v1200 - 97) := ⟨_, rfl⟩
        rw [← e1204]
        have b1205 : -2147483648 ≤ v1203 ∧ v1203 ≤ 2147483647 := by
          rw [e1204]
          exact wI_w _
        have b1206 : (-2147483648 ≤ v1200 - 97 ∧ v1200 - 97 ≤ 2147483647) → v1203 = v1200 - 97 := fun h => by rw [e1204]; exact wq_w_id h
        refine wp_of e179 c179_25 (rw_iconst (pc' := 26) rfl ?_)
        refine wp_of e179 c179_26 (rw_iaddw (pc' := 27) rfl ?_)
        obtain ⟨v1207, e1208⟩ : ∃ x : Int, x = wq_w (v1203 + 1) := ⟨_, rfl⟩
        rw [← e1208]
        have b1209 : -2147483648 ≤ v1207 ∧ v1207 ≤ 2147483647 := by
          rw [e1208]
          exact wI_w _
        have b1210 : (-2147483648 ≤ v1203 + 1 ∧ v1203 + 1 ≤ 2147483647) → v1207 = v1203 + 1 := fun h => by rw [e1208]; exact wq_w_id h
        refine wp_of e179 c179_27 (rw_i2l (pc' := 28) rfl ⟨b1209.1, b1209.2⟩ ?_)
        refine wp_of e179 c179_28 (rw_laddw (pc' := 29) rfl ?_)
        obtain ⟨v1211, e1212⟩ : ∃ x : Int, x = wl_w (v1196 + v1207) := ⟨_, rfl⟩
        rw [← e1212]
        have b1213 : -9223372036854775808 ≤ v1211 ∧ v1211 ≤ 9223372036854775807 := by
          rw [e1212]
          exact wL_w _
        have b1214 : (-9223372036854775808 ≤ v1196 + v1207 ∧ v1196 + v1207 ≤ 9223372036854775807) → v1211 = v1196 + v1207 := fun h => by rw [e1212]; exact wl_w_id h
        refine wp_of e179 c179_29 (rw_lstore_n (pc' := 30) (z := v1211) (L' := [(1, vL v1211), (3, vI v1185), (0, .ref s0)]) rfl rfl rfl ?_)
        refine wp_of e179 c179_30 (rw_iinc (pc' := 33) (z := v1185) (L' := [(3, vI (v1185 + 1)), (1, vL v1211), (0, .ref s0)]) rfl rfl rfl rfl ?_)
        refine wp_of e179 c179_33 (rw_goto (p1 := 4) (by decide) ?_)
        have : wkw t0 (v1185 + 1).toNat = v1211 := by
          subst_vars
          exact wkw_m (by omega)
        exact wp_lc (ks := [3, 1, 0]) (wl_c rfl (wl_c rfl (wl_c rfl wl_n))) rfl (by decide) (ih1184 _ (by omega) (v1185 + 1) v1211 ⟨by omega, by omega⟩ ⟨b1213.1, b1213.2⟩ (by omega) (by omega) rfl)
  have : wkw t0 (0 : Int).toNat = 0 := rfl
  exact wp_lc (ks := [3, 1, 0]) (wl_c rfl (wl_c rfl (wl_c rfl wl_n))) rfl (by decide) (lp1182 _ 0 0 ⟨by decide, by decide⟩ ⟨by decide, by decide⟩ (by omega) (by omega) rfl)
/-! StrikeAwakeModel.isWord(Ljava/lang/String;)Z k -/
abbrev uq_178_k (r0 : Nat) (s1 : Nat) (B : Nat → Int) (n : Int) (q : Int) (kk : Int) (T : wq_T) (H : wq_H) : Option Value → wq_T → wq_H → Prop := fun r T' H' => T = T' ∧ H = H' ∧ ∃ z : Int, some (vI z) = r ∧ (0 ≤ z ∧ z ≤ 1) ∧ (((z = 1) ∧ (xw B n q kk = 0) ∧ (xK B n q = 1)) ∨ ((z = 0) ∧ (xw B n q kk = 1)))
set_option maxHeartbeats 4000000 in
theorem u_178_k {kt : Nat → Option mc_E} {T : wq_T} {H : wq_H} {r0 : Nat} {s1 : Nat} {t1 : List Int32} {B : Nat → Int} {n : Int} {q : Int} {kk : Int} (hW : WT T H) (g0 : T.2.2.2 r0 = some 42) (h1 : mc_find mc_sb s1 = some t1) (p0 : wkw t1 t1.length = kk) (hRC_r0 : RC T H r0 B n q) : wpc kt 2 178 [.ref r0, .ref s1] T H (uq_178_k r0 s1 B n q kk T H) := by
  refine wp_enter e178 (Nat.le_of_ble_eq_true rfl) rfl ?_
  show wp _ _ 178 0 [(0, .ref r0), (1, .ref s1)] [] _ H _
  have u1019 := RC_k hRC_r0
  have _s := RC_s hRC_r0
  have _w := @xw_b B n q kk
  refine wp_of e178 c178_0 (rw_aload_n (pc' := 1) (v := .ref r0) rfl rfl rfl ?_)
  refine wp_of e178 c178_1 (xg_I (pc' := 4) lf_9_75 hW g0 sh_42 (by decide) (by decide) ty_42_9 rfl rfl (fun b1020 b1021 => ?_))
  refine wp_of e178 c178_4 (rw_iconst (pc' := 5) rfl ?_)
  refine wp_of e178 c178_5 (rw_icmp_ne (p1 := 24) (p2 := 8) (by decide) rfl ⟨Int.le_trans (by decide) b1020, Int.le_trans b1021 (by decide)⟩ ⟨by decide, by decide⟩ (fun c1022 => ?_) (fun c1022 => ?_))
  · refine wp_of e178 c178_24 (rw_iconst (pc' := 25) rfl ?_)
    exact wp_zreturn e178 c178_25 rfl (by omega) ⟨rfl, rfl, 0, rfl, ⟨by decide, by decide⟩, (Or.inr ⟨by omega, by omega⟩)⟩
  · refine wp_of e178 c178_8 (rw_aload_n (pc' := 9) (v := .ref r0) rfl rfl rfl ?_)
    refine wp_of e178 c178_9 (xg_L (pc' := 12) lf_9_94 hW g0 sh_42 (by decide) (by decide) ty_42_15 rfl rfl (fun b1023 b1024 => ?_))
    refine wp_of e178 c178_12 (rw_aload_n (pc' := 13) (v := .ref s1) rfl rfl rfl ?_)
    refine wp_of e178 c178_13 (xc_S (pc' := 16) (as := [.ref s1]) (st := [vL (H r0 15)]) (lm_9_110) rfl rfl (Nat.le_of_ble_eq_true rfl) rfl (by decide) (u_179 (kk := kk) hW h1 (by assumption)) (fun R1025 T1026 H1027 p1028 => ?_))
    obtain ⟨e1029, e1031, z1032, e1030, b1033, p1034⟩ := p1028
    subst e1029
    subst e1030
    subst e1031
    show wp _ _ 178 16 [(0, .ref r0), (1, .ref s1)] [vL z1032, vL (H r0 15)] _ H _
    refine wp_of e178 c178_16 (rw_lcmp (pc' := 17) rfl ⟨b1023, b1024⟩ ⟨b1033.1, b1033.2⟩ ?_)
    have b1036 := wq_cmp_b (H r0 15) z1032
    refine wp_of e178 c178_17 (rw_if_ne (p1 := 24) (p2 := 20) (by decide) rfl ⟨by omega, by omega⟩ (fun c1037 => ?_) (fun c1037 => ?_))
    · refine wp_of e178 c178_24 (rw_iconst (pc' := 25) rfl ?_)
      exact wp_zreturn e178 c178_25 rfl (by omega) ⟨rfl, rfl, 0, rfl, ⟨by decide, by decide⟩, (Or.inr ⟨by omega, by omega⟩)⟩
    · refine wp_of e178 c178_20 (rw_iconst (pc' := 21) rfl ?_)
      refine wp_of e178 c178_21 (rw_goto (p1 := 25) (by decide) ?_)
      exact wp_zreturn e178 c178_25 rfl (by omega) ⟨rfl, rfl, 1, rfl, ⟨by decide, by decide⟩, (Or.inl ⟨by omega, by omega, by omega⟩)⟩
/-! StrikeAwakeModel.isWord(Ljava/lang/String;)Z o -/
abbrev uq_178_o (r0 : Nat) (s1 : Nat) (fo : Int) (po : Int) (kk : Int) (T : wq_T) (H : wq_H) : Option Value → wq_T → wq_H → Prop := fun r T' H' => T = T' ∧ H = H' ∧ ∃ z : Int, some (vI z) = r ∧ (0 ≤ z ∧ z ≤ 1) ∧ (((z = 0)))
set_option maxHeartbeats 4000000 in
theorem u_178_o {kt : Nat → Option mc_E} {T : wq_T} {H : wq_H} {r0 : Nat} {s1 : Nat} {t1 : List Int32} {fo : Int} {po : Int} {kk : Int} (hW : WT T H) (g0 : T.2.2.2 r0 = some 42) (h1 : mc_find mc_sb s1 = some t1) (p0 : wkw t1 t1.length = kk) (hRO_r0 : RO T H r0 fo po) : wpc kt 2 178 [.ref r0, .ref s1] T H (uq_178_o r0 s1 fo po kk T H) := by
  refine wp_enter e178 (Nat.le_of_ble_eq_true rfl) rfl ?_
  show wp _ _ 178 0 [(0, .ref r0), (1, .ref s1)] [] _ H _
  have u1004 := RO_k hRO_r0
  refine wp_of e178 c178_0 (rw_aload_n (pc' := 1) (v := .ref r0) rfl rfl rfl ?_)
  refine wp_of e178 c178_1 (xg_I (pc' := 4) lf_9_75 hW g0 sh_42 (by decide) (by decide) ty_42_9 rfl rfl (fun b1005 b1006 => ?_))
  refine wp_of e178 c178_4 (rw_iconst (pc' := 5) rfl ?_)
  refine wp_of e178 c178_5 (rw_icmp_ne (p1 := 24) (p2 := 8) (by decide) rfl ⟨Int.le_trans (by decide) b1005, Int.le_trans b1006 (by decide)⟩ ⟨by decide, by decide⟩ (fun c1007 => ?_) (fun c1007 => ?_))
  · refine wp_of e178 c178_24 (rw_iconst (pc' := 25) rfl ?_)
    exact wp_zreturn e178 c178_25 rfl (by omega) ⟨rfl, rfl, 0, rfl, ⟨by decide, by decide⟩, (by omega)⟩
  · exfalso
    omega
/-! StrikeAwakeModel.eatsWord(Ljava/lang/String;)Z k -/
abbrev uq_192_k (r0 : Nat) (s1 : Nat) (rb : Nat) (B : Nat → Int) (n : Int) (q : Int) (kk : Int) (T : wq_T) (H : wq_H) : Option Value → wq_T → wq_H → Prop := fun r T' H' => T = T' ∧ WT T H' ∧ wfr [(42, 8), (42, 9), (42, 10), (42, 11), (42, 12), (42, 15)] T H H' ∧ ∃ z : Int, some (vI z) = r ∧ (0 ≤ z ∧ z ≤ 1) ∧ (((z = 1) ∧ (xw B n q kk = 0) ∧ RC T H' r0 B n (xN B n q)) ∨ ((z = 0) ∧ (xw B n q kk = 1) ∧ RC T H' r0 B n q))
set_option maxHeartbeats 4000000 in
theorem u_192_k {kt : Nat → Option mc_E} {T : wq_T} {H : wq_H} {r0 : Nat} {s1 : Nat} {t1 : List Int32} {rb : Nat} {B : Nat → Int} {n : Int} {q : Int} {kk : Int} (hW : WT T H) (g0 : T.2.2.2 r0 = some 42) (h1 : mc_find mc_sb s1 = some t1) (qrb : H r0 5 = (rb : Int)) (grb : T.2.2.2 rb = some 43) (p0 : wkw t1 t1.length = kk) (hRC_r0 : RC T H r0 B n q) : wpc kt 3 192 [.ref r0, .ref s1] T H (uq_192_k r0 s1 rb B n q kk T H) := by
  refine wp_enter e192 (Nat.le_of_ble_eq_true rfl) rfl ?_
  have f0 : wfr [(42, 8), (42, 9), (42, 10), (42, 11), (42, 12), (42, 15)] T H H := wfr.rf
  show wp _ _ 192 0 [(0, .ref r0), (1, .ref s1)] [] _ H _
  have u1029 := RC_k hRC_r0
  refine wp_of e192 c192_0 (rw_aload_n (pc' := 1) (v := .ref r0) rfl rfl rfl ?_)
  refine wp_of e192 c192_1 (rw_aload_n (pc' := 2) (v := .ref s1) rfl rfl rfl ?_)
  refine wp_of e192 c192_2 (xc_V (pc' := 5) (r := r0) (as := [.ref s1]) (st := []) (lm_9_114) rfl rfl (Nat.le_of_ble_eq_true rfl) hW g0 sh_42 (by decide) rfl (by decide) (u_178_k (B := B) (n := n) (q := q) (kk := kk) hW g0 h1 (by assumption) hRC_r0) (fun R1030 T1031 H1032 p1033 => ?_))
  obtain ⟨e1034, e1036, z1037, e1035, b1038, p1039⟩ := p1033
  subst e1034
  subst e1035
  subst e1036
  rcases p1039 with ⟨a1040, a1041, a1042⟩ | ⟨a1043, a1044⟩
  · show wp _ _ 192 5 [(0, .ref r0), (1, .ref s1)] [vI z1037] _ H _
    refine wp_of e192 c192_5 (rw_istore_n (pc' := 6) (z := z1037) (L' := [(2, vI z1037), (0, .ref r0), (1, .ref s1)]) rfl rfl rfl ?_)
    refine wp_of e192 c192_6 (rw_iload_n (pc' := 7) (z := z1037) rfl rfl ?_)
    refine wp_of e192 c192_7 (rw_if_eq (p1 := 14) (p2 := 10) (by decide) rfl ⟨Int.le_trans (by decide) b1038.1, Int.le_trans b1038.2 (by decide)⟩ (fun c1045 => ?_) (fun c1045 => ?_))
    · exfalso
      omega
    · refine wp_of e192 c192_10 (rw_aload_n (pc' := 11) (v := .ref r0) rfl rfl rfl ?_)
      have u1046 := RC_a hRC_r0
      have h1047 : TM T H rb B := RC_tm hRC_r0 qrb
      refine wp_of e192 c192_11 (xc_V (pc' := 14) (r := r0) (as := []) (st := []) (lm_9_118) rfl rfl (Nat.le_of_ble_eq_true rfl) hW g0 sh_42 (by decide) rfl (by decide) (u_172_k (B := B) (n := n) (a := (xE B n q)) (q := (xN B n q)) hW g0 qrb grb (by omega) (by omega) (by omega) (by omega) (by omega) (rfl) h1047) (fun R1048 T1049 H1050 p1051 => ?_))
      obtain ⟨e1052, w1054, f1055, e1053, p1056⟩ := p1051
      subst e1052
      subst e1053
      have f1058 := f0.tr f1055 rfl
      show wp _ _ 192 14 [(2, vI z1037), (0, .ref r0), (1, .ref s1)] [] _ H1050 _
      have u1059 := RC_k p1056
      refine wp_of e192 c192_14 (rw_iload_n (pc' := 15) (z := z1037) rfl rfl ?_)
      exact wp_zreturn e192 c192_15 rfl (by omega) ⟨rfl, w1054, f1058, z1037, rfl, ⟨b1038.1, b1038.2⟩, (Or.inl ⟨by omega, by omega, p1056⟩)⟩
  · show wp _ _ 192 5 [(0, .ref r0), (1, .ref s1)] [vI z1037] _ H _
    refine wp_of e192 c192_5 (rw_istore_n (pc' := 6) (z := z1037) (L' := [(2, vI z1037), (0, .ref r0), (1, .ref s1)]) rfl rfl rfl ?_)
    refine wp_of e192 c192_6 (rw_iload_n (pc' := 7) (z := z1037) rfl rfl ?_)
    refine wp_of e192 c192_7 (rw_if_eq (p1 := 14) (p2 := 10) (by decide) rfl ⟨Int.le_trans (by decide) b1038.1, Int.le_trans b1038.2 (by decide)⟩ (fun c1060 => ?_) (fun c1060 => ?_))
    · refine wp_of e192 c192_14 (rw_iload_n (pc' := 15) (z := z1037) rfl rfl ?_)
      exact wp_zreturn e192 c192_15 rfl (by omega) ⟨rfl, hW, f0, z1037, rfl, ⟨b1038.1, b1038.2⟩, (Or.inr ⟨by omega, by omega, hRC_r0⟩)⟩
    · exfalso
      omega
/-! StrikeAwakeModel.eatsWord(Ljava/lang/String;)Z o -/
abbrev uq_192_o (r0 : Nat) (s1 : Nat) (rb : Nat) (fo : Int) (po : Int) (kk : Int) (T : wq_T) (H : wq_H) : Option Value → wq_T → wq_H → Prop := fun r T' H' => T = T' ∧ H = H' ∧ ∃ z : Int, some (vI z) = r ∧ (0 ≤ z ∧ z ≤ 1) ∧ (((z = 0) ∧ RO T H r0 fo po))
set_option maxHeartbeats 4000000 in
theorem u_192_o {kt : Nat → Option mc_E} {T : wq_T} {H : wq_H} {r0 : Nat} {s1 : Nat} {t1 : List Int32} {rb : Nat} {fo : Int} {po : Int} {kk : Int} (hW : WT T H) (g0 : T.2.2.2 r0 = some 42) (h1 : mc_find mc_sb s1 = some t1) (qrb : H r0 5 = (rb : Int)) (grb : T.2.2.2 rb = some 43) (p0 : wkw t1 t1.length = kk) (hRO_r0 : RO T H r0 fo po) : wpc kt 3 192 [.ref r0, .ref s1] T H (uq_192_o r0 s1 rb fo po kk T H) := by
  refine wp_enter e192 (Nat.le_of_ble_eq_true rfl) rfl ?_
  show wp _ _ 192 0 [(0, .ref r0), (1, .ref s1)] [] _ H _
  have u1013 := RO_k hRO_r0
  refine wp_of e192 c192_0 (rw_aload_n (pc' := 1) (v := .ref r0) rfl rfl rfl ?_)
  refine wp_of e192 c192_1 (rw_aload_n (pc' := 2) (v := .ref s1) rfl rfl rfl ?_)
  refine wp_of e192 c192_2 (xc_V (pc' := 5) (r := r0) (as := [.ref s1]) (st := []) (lm_9_114) rfl rfl (Nat.le_of_ble_eq_true rfl) hW g0 sh_42 (by decide) rfl (by decide) (u_178_o (fo := fo) (po := po) (kk := kk) hW g0 h1 (by assumption) hRO_r0) (fun R1014 T1015 H1016 p1017 => ?_))
  obtain ⟨e1018, e1020, z1021, e1019, b1022, p1023⟩ := p1017
  subst e1018
  subst e1019
  subst e1020
  show wp _ _ 192 5 [(0, .ref r0), (1, .ref s1)] [vI z1021] _ H _
  refine wp_of e192 c192_5 (rw_istore_n (pc' := 6) (z := z1021) (L' := [(2, vI z1021), (0, .ref r0), (1, .ref s1)]) rfl rfl rfl ?_)
  refine wp_of e192 c192_6 (rw_iload_n (pc' := 7) (z := z1021) rfl rfl ?_)
  refine wp_of e192 c192_7 (rw_if_eq (p1 := 14) (p2 := 10) (by decide) rfl ⟨Int.le_trans (by decide) b1022.1, Int.le_trans b1022.2 (by decide)⟩ (fun c1025 => ?_) (fun c1025 => ?_))
  · refine wp_of e192 c192_14 (rw_iload_n (pc' := 15) (z := z1021) rfl rfl ?_)
    exact wp_zreturn e192 c192_15 rfl (by omega) ⟨rfl, rfl, z1021, rfl, ⟨b1022.1, b1022.2⟩, ⟨by omega, hRO_r0⟩⟩
  · exfalso
    omega
/-! StrikeAwakeModel.eatsSign(I)Z k -/
abbrev uq_204_k (r0 : Nat) (a1 : Int) (rb : Nat) (B : Nat → Int) (n : Int) (q : Int) (kd : Int) (T : wq_T) (H : wq_H) : Option Value → wq_T → wq_H → Prop := fun r T' H' => T = T' ∧ WT T H' ∧ wfr [(42, 8), (42, 9), (42, 10), (42, 11), (42, 12), (42, 15)] T H H' ∧ ∃ z : Int, some (vI z) = r ∧ (0 ≤ z ∧ z ≤ 1) ∧ (((z = 1) ∧ (xk B n q kd = 0) ∧ (xK B n q = kd) ∧ RC T H' r0 B n (xN B n q)) ∨ ((z = 0) ∧ (xk B n q kd = 1) ∧ (xK B n q ≠ kd) ∧ RC T H' r0 B n q))
set_option maxHeartbeats 4000000 in
theorem u_204_k {kt : Nat → Option mc_E} {T : wq_T} {H : wq_H} {r0 : Nat} {a1 : Int} {rb : Nat} {B : Nat → Int} {n : Int} {q : Int} {kd : Int} (hW : WT T H) (g0 : T.2.2.2 r0 = some 42) (i1 : (-2147483648) ≤ a1 ∧ a1 ≤ 2147483647) (qrb : H r0 5 = (rb : Int)) (grb : T.2.2.2 rb = some 43) (p0 : (a1 = 59 ∧ kd = 3) ∨ (a1 = 44 ∧ kd = 4)) (hRC_r0 : RC T H r0 B n q) : wpc kt 3 204 [.ref r0, vI a1] T H (uq_204_k r0 a1 rb B n q kd T H) := by
  refine wp_enter e204 (Nat.le_of_ble_eq_true rfl) rfl ?_
  have f0 : wfr [(42, 8), (42, 9), (42, 10), (42, 11), (42, 12), (42, 15)] T H H := wfr.rf
  show wp _ _ 204 0 [(0, .ref r0), (1, vI a1)] [] _ H _
  have u1021 := RC_k hRC_r0
  have _s := RC_s hRC_r0
  have _k := @xk_b B n q kd
  refine wp_of e204 c204_0 (rw_aload_n (pc' := 1) (v := .ref r0) rfl rfl rfl ?_)
  refine wp_of e204 c204_1 (xg_I (pc' := 4) lf_9_75 hW g0 sh_42 (by decide) (by decide) ty_42_9 rfl rfl (fun b1022 b1023 => ?_))
  refine wp_of e204 c204_4 (rw_iconst (pc' := 5) rfl ?_)
  refine wp_of e204 c204_5 (rw_icmp_ne (p1 := 20) (p2 := 8) (by decide) rfl ⟨Int.le_trans (by decide) b1022, Int.le_trans b1023 (by decide)⟩ ⟨by decide, by decide⟩ (fun c1024 => ?_) (fun c1024 => ?_))
  · refine wp_of e204 c204_20 (rw_iconst (pc' := 21) rfl ?_)
    refine wp_of e204 c204_21 (rw_istore_n (pc' := 22) (z := 0) (L' := [(2, vI 0), (0, .ref r0), (1, vI a1)]) rfl rfl rfl ?_)
    refine wp_of e204 c204_22 (rw_iload_n (pc' := 23) (z := 0) rfl rfl ?_)
    refine wp_of e204 c204_23 (rw_if_eq (p1 := 30) (p2 := 26) (by decide) rfl ⟨by decide, by decide⟩ (fun c1025 => ?_) (fun c1025 => ?_))
    · refine wp_of e204 c204_30 (rw_iload_n (pc' := 31) (z := 0) rfl rfl ?_)
      exact wp_zreturn e204 c204_31 rfl (by omega) ⟨rfl, hW, f0, 0, rfl, ⟨by decide, by decide⟩, (Or.inr ⟨by omega, by omega, by omega, hRC_r0⟩)⟩
    · exfalso
      omega
  · refine wp_of e204 c204_8 (rw_aload_n (pc' := 9) (v := .ref r0) rfl rfl rfl ?_)
    refine wp_of e204 c204_9 (xg_I (pc' := 12) lf_9_87 hW g0 sh_42 (by decide) (by decide) ty_42_11 rfl rfl (fun b1026 b1027 => ?_))
    refine wp_of e204 c204_12 (rw_iload_n (pc' := 13) (z := a1) rfl rfl ?_)
    refine wp_of e204 c204_13 (rw_icmp_ne (p1 := 20) (p2 := 16) (by decide) rfl ⟨b1026, b1027⟩ ⟨i1.1, i1.2⟩ (fun c1028 => ?_) (fun c1028 => ?_))
    · refine wp_of e204 c204_20 (rw_iconst (pc' := 21) rfl ?_)
      refine wp_of e204 c204_21 (rw_istore_n (pc' := 22) (z := 0) (L' := [(2, vI 0), (0, .ref r0), (1, vI a1)]) rfl rfl rfl ?_)
      refine wp_of e204 c204_22 (rw_iload_n (pc' := 23) (z := 0) rfl rfl ?_)
      refine wp_of e204 c204_23 (rw_if_eq (p1 := 30) (p2 := 26) (by decide) rfl ⟨by decide, by decide⟩ (fun c1029 => ?_) (fun c1029 => ?_))
      · refine wp_of e204 c204_30 (rw_iload_n (pc' := 31) (z := 0) rfl rfl ?_)
        exact wp_zreturn e204 c204_31 rfl (by omega) ⟨rfl, hW, f0, 0, rfl, ⟨by decide, by decide⟩, (Or.inr ⟨by omega, by omega, by omega, hRC_r0⟩)⟩
      · exfalso
        omega
    · refine wp_of e204 c204_16 (rw_iconst (pc' := 17) rfl ?_)
      refine wp_of e204 c204_17 (rw_goto (p1 := 21) (by decide) ?_)
      refine wp_of e204 c204_21 (rw_istore_n (pc' := 22) (z := 1) (L' := [(2, vI 1), (0, .ref r0), (1, vI a1)]) rfl rfl rfl ?_)
      refine wp_of e204 c204_22 (rw_iload_n (pc' := 23) (z := 1) rfl rfl ?_)
      refine wp_of e204 c204_23 (rw_if_eq (p1 := 30) (p2 := 26) (by decide) rfl ⟨by decide, by decide⟩ (fun c1030 => ?_) (fun c1030 => ?_))
      · exfalso
        omega
      · refine wp_of e204 c204_26 (rw_aload_n (pc' := 27) (v := .ref r0) rfl rfl rfl ?_)
        have u1031 := RC_a hRC_r0
        have h1032 : TM T H rb B := RC_tm hRC_r0 qrb
        refine wp_of e204 c204_27 (xc_V (pc' := 30) (r := r0) (as := []) (st := []) (lm_9_118) rfl rfl (Nat.le_of_ble_eq_true rfl) hW g0 sh_42 (by decide) rfl (by decide) (u_172_k (B := B) (n := n) (a := (xE B n q)) (q := (xN B n q)) hW g0 qrb grb (by omega) (by omega) (by omega) (by omega) (by omega) (rfl) h1032) (fun R1033 T1034 H1035 p1036 => ?_))
        obtain ⟨e1037, w1039, f1040, e1038, p1041⟩ := p1036
        subst e1037
        subst e1038
        have f1043 := f0.tr f1040 rfl
        show wp _ _ 204 30 [(2, vI 1), (0, .ref r0), (1, vI a1)] [] _ H1035 _
        have u1044 := RC_k p1041
        refine wp_of e204 c204_30 (rw_iload_n (pc' := 31) (z := 1) rfl rfl ?_)
        exact wp_zreturn e204 c204_31 rfl (by omega) ⟨rfl, w1039, f1043, 1, rfl, ⟨by decide, by decide⟩, (Or.inl ⟨by omega, by omega, by omega, p1041⟩)⟩
/-! StrikeAwakeModel.eatsSign(I)Z o -/
abbrev uq_204_o (r0 : Nat) (a1 : Int) (rb : Nat) (fo : Int) (po : Int) (T : wq_T) (H : wq_H) : Option Value → wq_T → wq_H → Prop := fun r T' H' => T = T' ∧ H = H' ∧ ∃ z : Int, some (vI z) = r ∧ (0 ≤ z ∧ z ≤ 1) ∧ (((z = 0) ∧ RO T H r0 fo po))
set_option maxHeartbeats 4000000 in
theorem u_204_o {kt : Nat → Option mc_E} {T : wq_T} {H : wq_H} {r0 : Nat} {a1 : Int} {rb : Nat} {fo : Int} {po : Int} (hW : WT T H) (g0 : T.2.2.2 r0 = some 42) (i1 : (-2147483648) ≤ a1 ∧ a1 ≤ 2147483647) (qrb : H r0 5 = (rb : Int)) (grb : T.2.2.2 rb = some 43) (hRO_r0 : RO T H r0 fo po) : wpc kt 3 204 [.ref r0, vI a1] T H (uq_204_o r0 a1 rb fo po T H) := by
  refine wp_enter e204 (Nat.le_of_ble_eq_true rfl) rfl ?_
  show wp _ _ 204 0 [(0, .ref r0), (1, vI a1)] [] _ H _
  have u1005 := RO_k hRO_r0
  refine wp_of e204 c204_0 (rw_aload_n (pc' := 1) (v := .ref r0) rfl rfl rfl ?_)
  refine wp_of e204 c204_1 (xg_I (pc' := 4) lf_9_75 hW g0 sh_42 (by decide) (by decide) ty_42_9 rfl rfl (fun b1006 b1007 => ?_))
  refine wp_of e204 c204_4 (rw_iconst (pc' := 5) rfl ?_)
  refine wp_of e204 c204_5 (rw_icmp_ne (p1 := 20) (p2 := 8) (by decide) rfl ⟨Int.le_trans (by decide) b1006, Int.le_trans b1007 (by decide)⟩ ⟨by decide, by decide⟩ (fun c1008 => ?_) (fun c1008 => ?_))
  · refine wp_of e204 c204_20 (rw_iconst (pc' := 21) rfl ?_)
    refine wp_of e204 c204_21 (rw_istore_n (pc' := 22) (z := 0) (L' := [(2, vI 0), (0, .ref r0), (1, vI a1)]) rfl rfl rfl ?_)
    refine wp_of e204 c204_22 (rw_iload_n (pc' := 23) (z := 0) rfl rfl ?_)
    refine wp_of e204 c204_23 (rw_if_eq (p1 := 30) (p2 := 26) (by decide) rfl ⟨by decide, by decide⟩ (fun c1009 => ?_) (fun c1009 => ?_))
    · refine wp_of e204 c204_30 (rw_iload_n (pc' := 31) (z := 0) rfl rfl ?_)
      exact wp_zreturn e204 c204_31 rfl (by omega) ⟨rfl, rfl, 0, rfl, ⟨by decide, by decide⟩, ⟨by omega, hRO_r0⟩⟩
    · exfalso
      omega
  · exfalso
    omega
