/-! what methods do (own work, written by wip/gen3/sx3.py) -/
/-! StrikeAwakeModel.byteAt(I)I  -/
abbrev uq_173 (r0 : Nat) (a1 : Int) (rb : Nat) (B : Nat → Int) (n : Int) (y : Int) (T : wq_T) (H : wq_H) : Option Value → wq_T → wq_H → Prop := fun r T' H' => T = T' ∧ H = H' ∧ ∃ z : Int, some (vI z) = r ∧ ((-2147483648) ≤ z ∧ z ≤ 2147483647) ∧ (((z = -1) ∧ (n ≤ y)) ∨ ((0 ≤ z ∧ z ≤ 127) ∧ (y < n) ∧ (z = B y.toNat)) ∨ ((128 ≤ z ∧ z ≤ 255) ∧ (y < n) ∧ (-128 ≤ B y.toNat) ∧ (z = B y.toNat + 256)))
set_option maxHeartbeats 4000000 in
theorem u_173 {kt : Nat → Option mc_E} {T : wq_T} {H : wq_H} {r0 : Nat} {a1 : Int} {rb : Nat} {B : Nat → Int} {n : Int} {y : Int} (hW : WT T H) (g0 : T.2.2.2 r0 = some 42) (i1 : 0 ≤ a1 ∧ a1 ≤ 900) (qrb : H r0 5 = (rb : Int)) (grb : T.2.2.2 rb = some 43) (p0 : a1 = y) (p1 : H r0 7 = n) (hTM_rb : TM T H rb B) : wpc kt 1 173 [.ref r0, vI a1] T H (uq_173 r0 a1 rb B n y T H) := by
  refine wp_enter e173 (Nat.le_of_ble_eq_true rfl) rfl ?_
  show wp _ _ 173 0 [(0, .ref r0), (1, vI a1)] [] _ H _
  have b1008 : 0 ≤ H r0 7 ∧ H r0 7 ≤ 900 := hW.box g0 (n := 33) rfl (by decide) rfl
  have _e : B y.toNat = B a1.toNat := by rw [p0]
  refine wp_of e173 c173_0 (rw_iload_n (pc' := 1) (z := a1) rfl rfl ?_)
  refine wp_of e173 c173_1 (rw_aload_n (pc' := 2) (v := .ref r0) rfl rfl rfl ?_)
  refine wp_of e173 c173_2 (xg_I (pc' := 5) lf_9_61 hW g0 sh_42 (by decide) (by decide) ty_42_7 rfl rfl (fun b1009 b1010 => ?_))
  refine wp_of e173 c173_5 (rw_icmp_ge (p1 := 21) (p2 := 8) (by decide) rfl ⟨Int.le_trans (by decide) i1.1, Int.le_trans i1.2 (by decide)⟩ ⟨Int.le_trans (by decide) b1009, Int.le_trans b1010 (by decide)⟩ (fun c1011 => ?_) (fun c1011 => ?_))
  · refine wp_of e173 c173_21 (rw_iconst (pc' := 22) rfl ?_)
    exact wp_ireturn e173 c173_22 rfl ⟨rfl, rfl, -1, rfl, ⟨by decide, by decide⟩, (Or.inl ⟨by omega, by omega⟩)⟩
  · refine wp_of e173 c173_8 (rw_aload_n (pc' := 9) (v := .ref r0) rfl rfl rfl ?_)
    refine wp_of e173 c173_9 (xg_K (pc' := 12) lf_9_13 hW g0 sh_42 (by decide) (by decide) rfl qrb rfl ?_)
    refine wp_of e173 c173_12 (rw_iload_n (pc' := 13) (z := a1) rfl rfl ?_)
    refine wp_of e173 c173_13 (xa_B (by decide) (pc' := 14) hW grb sh_43 (by decide) (ty_43 _) (i1.1) (by omega) rfl (fun b1012 b1013 => ?_))
    have _b := hTM_rb (a1.toNat) (by omega)
    have _y := @by_ok (H rb (a1.toNat)) (by omega) (by omega)
    refine wp_of e173 c173_14 (rw_sipush (pc' := 17) (z := 255) rfl (by decide) ?_)
    refine wp_of e173 c173_17 (rw_iand (pc' := 18) rfl ?_)
    obtain ⟨v1014, e1015⟩ : ∃ x : Int, x = wq_and (H rb (a1.toNat)) 255 := ⟨_, rfl⟩
    rw [← e1015]
    have b1016 : 0 ≤ v1014 ∧ v1014 ≤ 255 := by
      rw [e1015]
      exact wq_and_b _ (by omega) (by omega)
    refine wp_of e173 c173_18 (rw_goto (p1 := 22) (by decide) ?_)
    have c1017 : v1014 ≤ 127 ∨ 128 ≤ v1014 := by omega
    rcases c1017 with c1017 | c1017
    · exact wp_ireturn e173 c173_22 rfl ⟨rfl, rfl, v1014, rfl, ⟨Int.le_trans (by decide) b1016.1, Int.le_trans b1016.2 (by decide)⟩, (Or.inr (Or.inl ⟨by omega, by omega, by omega⟩))⟩
    · exact wp_ireturn e173 c173_22 rfl ⟨rfl, rfl, v1014, rfl, ⟨Int.le_trans (by decide) b1016.1, Int.le_trans b1016.2 (by decide)⟩, (Or.inr (Or.inr ⟨by omega, by omega, by omega, by omega⟩))⟩
/-! StrikeAwakeModel.isLetter(I)Z  -/
abbrev uq_174 (a0 : Int) (T : wq_T) (H : wq_H) : Option Value → wq_T → wq_H → Prop := fun r T' H' => T = T' ∧ H = H' ∧ ∃ z : Int, some (vI z) = r ∧ (0 ≤ z ∧ z ≤ 1) ∧ (((z = 1) ∧ (97 ≤ a0 ∧ a0 ≤ 122)) ∨ ((z = 0) ∧ (a0 < 97 ∨ 122 < a0)))
set_option maxHeartbeats 4000000 in
theorem u_174 {kt : Nat → Option mc_E} {T : wq_T} {H : wq_H} {a0 : Int} (hW : WT T H) (i0 : (-2147483648) ≤ a0 ∧ a0 ≤ 2147483647) : wpc kt 1 174 [vI a0] T H (uq_174 a0 T H) := by
  refine wp_enter e174 (Nat.le_of_ble_eq_true rfl) rfl ?_
  show wp _ _ 174 0 [(0, vI a0)] [] _ H _
  refine wp_of e174 c174_0 (rw_iload_n (pc' := 1) (z := a0) rfl rfl ?_)
  refine wp_of e174 c174_1 (rw_bipush (pc' := 3) (z := 97) rfl (by decide) ?_)
  refine wp_of e174 c174_3 (rw_icmp_lt (p1 := 16) (p2 := 6) (by decide) rfl ⟨i0.1, i0.2⟩ ⟨by decide, by decide⟩ (fun c1003 => ?_) (fun c1003 => ?_))
  · refine wp_of e174 c174_16 (rw_iconst (pc' := 17) rfl ?_)
    exact wp_zreturn e174 c174_17 rfl (by omega) ⟨rfl, rfl, 0, rfl, ⟨by decide, by decide⟩, (Or.inr ⟨by omega, by omega⟩)⟩
  · refine wp_of e174 c174_6 (rw_iload_n (pc' := 7) (z := a0) rfl rfl ?_)
    refine wp_of e174 c174_7 (rw_bipush (pc' := 9) (z := 122) rfl (by decide) ?_)
    refine wp_of e174 c174_9 (rw_icmp_gt (p1 := 16) (p2 := 12) (by decide) rfl ⟨i0.1, i0.2⟩ ⟨by decide, by decide⟩ (fun c1004 => ?_) (fun c1004 => ?_))
    · refine wp_of e174 c174_16 (rw_iconst (pc' := 17) rfl ?_)
      exact wp_zreturn e174 c174_17 rfl (by omega) ⟨rfl, rfl, 0, rfl, ⟨by decide, by decide⟩, (Or.inr ⟨by omega, by omega⟩)⟩
    · refine wp_of e174 c174_12 (rw_iconst (pc' := 13) rfl ?_)
      refine wp_of e174 c174_13 (rw_goto (p1 := 17) (by decide) ?_)
      exact wp_zreturn e174 c174_17 rfl (by omega) ⟨rfl, rfl, 1, rfl, ⟨by decide, by decide⟩, (Or.inl ⟨by omega, by omega⟩)⟩
/-! StrikeAwakeModel.isDigit(I)Z  -/
abbrev uq_175 (a0 : Int) (T : wq_T) (H : wq_H) : Option Value → wq_T → wq_H → Prop := fun r T' H' => T = T' ∧ H = H' ∧ ∃ z : Int, some (vI z) = r ∧ (0 ≤ z ∧ z ≤ 1) ∧ (((z = 1) ∧ (48 ≤ a0 ∧ a0 ≤ 57)) ∨ ((z = 0) ∧ (a0 < 48 ∨ 57 < a0)))
set_option maxHeartbeats 4000000 in
theorem u_175 {kt : Nat → Option mc_E} {T : wq_T} {H : wq_H} {a0 : Int} (hW : WT T H) (i0 : (-2147483648) ≤ a0 ∧ a0 ≤ 2147483647) : wpc kt 1 175 [vI a0] T H (uq_175 a0 T H) := by
  refine wp_enter e175 (Nat.le_of_ble_eq_true rfl) rfl ?_
  show wp _ _ 175 0 [(0, vI a0)] [] _ H _
  refine wp_of e175 c175_0 (rw_iload_n (pc' := 1) (z := a0) rfl rfl ?_)
  refine wp_of e175 c175_1 (rw_bipush (pc' := 3) (z := 48) rfl (by decide) ?_)
  refine wp_of e175 c175_3 (rw_icmp_lt (p1 := 16) (p2 := 6) (by decide) rfl ⟨i0.1, i0.2⟩ ⟨by decide, by decide⟩ (fun c1003 => ?_) (fun c1003 => ?_))
  · refine wp_of e175 c175_16 (rw_iconst (pc' := 17) rfl ?_)
    exact wp_zreturn e175 c175_17 rfl (by omega) ⟨rfl, rfl, 0, rfl, ⟨by decide, by decide⟩, (Or.inr ⟨by omega, by omega⟩)⟩
  · refine wp_of e175 c175_6 (rw_iload_n (pc' := 7) (z := a0) rfl rfl ?_)
    refine wp_of e175 c175_7 (rw_bipush (pc' := 9) (z := 57) rfl (by decide) ?_)
    refine wp_of e175 c175_9 (rw_icmp_gt (p1 := 16) (p2 := 12) (by decide) rfl ⟨i0.1, i0.2⟩ ⟨by decide, by decide⟩ (fun c1004 => ?_) (fun c1004 => ?_))
    · refine wp_of e175 c175_16 (rw_iconst (pc' := 17) rfl ?_)
      exact wp_zreturn e175 c175_17 rfl (by omega) ⟨rfl, rfl, 0, rfl, ⟨by decide, by decide⟩, (Or.inr ⟨by omega, by omega⟩)⟩
    · refine wp_of e175 c175_12 (rw_iconst (pc' := 13) rfl ?_)
      refine wp_of e175 c175_13 (rw_goto (p1 := 17) (by decide) ?_)
      exact wp_zreturn e175 c175_17 rfl (by omega) ⟨rfl, rfl, 1, rfl, ⟨by decide, by decide⟩, (Or.inl ⟨by omega, by omega⟩)⟩
/-! StrikeAwakeModel.in(III)Z  -/
abbrev uq_186 (a0 : Int) (a1 : Int) (a2 : Int) (T : wq_T) (H : wq_H) : Option Value → wq_T → wq_H → Prop := fun r T' H' => T = T' ∧ H = H' ∧ ∃ z : Int, some (vI z) = r ∧ (0 ≤ z ∧ z ≤ 1) ∧ (((z = 1) ∧ (a1 ≤ a0 ∧ a0 ≤ a2)) ∨ ((z = 0) ∧ (a0 < a1 ∨ a2 < a0)))
set_option maxHeartbeats 4000000 in
theorem u_186 {kt : Nat → Option mc_E} {T : wq_T} {H : wq_H} {a0 : Int} {a1 : Int} {a2 : Int} (hW : WT T H) (i0 : (-2147483648) ≤ a0 ∧ a0 ≤ 2147483647) (i1 : (-2147483648) ≤ a1 ∧ a1 ≤ 2147483647) (i2 : (-2147483648) ≤ a2 ∧ a2 ≤ 2147483647) : wpc kt 1 186 [vI a0, vI a1, vI a2] T H (uq_186 a0 a1 a2 T H) := by
  refine wp_enter e186 (Nat.le_of_ble_eq_true rfl) rfl ?_
  show wp _ _ 186 0 [(0, vI a0), (1, vI a1), (2, vI a2)] [] _ H _
  refine wp_of e186 c186_0 (rw_iload_n (pc' := 1) (z := a0) rfl rfl ?_)
  refine wp_of e186 c186_1 (rw_iload_n (pc' := 2) (z := a1) rfl rfl ?_)
  refine wp_of e186 c186_2 (rw_icmp_lt (p1 := 14) (p2 := 5) (by decide) rfl ⟨i0.1, i0.2⟩ ⟨i1.1, i1.2⟩ (fun c1003 => ?_) (fun c1003 => ?_))
  · refine wp_of e186 c186_14 (rw_iconst (pc' := 15) rfl ?_)
    exact wp_zreturn e186 c186_15 rfl (by omega) ⟨rfl, rfl, 0, rfl, ⟨by decide, by decide⟩, (Or.inr ⟨by omega, by omega⟩)⟩
  · refine wp_of e186 c186_5 (rw_iload_n (pc' := 6) (z := a0) rfl rfl ?_)
    refine wp_of e186 c186_6 (rw_iload_n (pc' := 7) (z := a2) rfl rfl ?_)
    refine wp_of e186 c186_7 (rw_icmp_gt (p1 := 14) (p2 := 10) (by decide) rfl ⟨i0.1, i0.2⟩ ⟨i2.1, i2.2⟩ (fun c1004 => ?_) (fun c1004 => ?_))
    · refine wp_of e186 c186_14 (rw_iconst (pc' := 15) rfl ?_)
      exact wp_zreturn e186 c186_15 rfl (by omega) ⟨rfl, rfl, 0, rfl, ⟨by decide, by decide⟩, (Or.inr ⟨by omega, by omega⟩)⟩
    · refine wp_of e186 c186_10 (rw_iconst (pc' := 11) rfl ?_)
      refine wp_of e186 c186_11 (rw_goto (p1 := 15) (by decide) ?_)
      exact wp_zreturn e186 c186_15 rfl (by omega) ⟨rfl, rfl, 1, rfl, ⟨by decide, by decide⟩, (Or.inl ⟨by omega, by omega⟩)⟩
/-! StrikeAwakeModel.least(II)I  -/
abbrev uq_191 (a0 : Int) (a1 : Int) (T : wq_T) (H : wq_H) : Option Value → wq_T → wq_H → Prop := fun r T' H' => T = T' ∧ H = H' ∧ ∃ z : Int, some (vI z) = r ∧ (0 ≤ z ∧ z ≤ 100) ∧ ((((a0 ≤ a1 ∧ z = a0) ∨ (a1 < a0 ∧ z = a1))))
set_option maxHeartbeats 4000000 in
theorem u_191 {kt : Nat → Option mc_E} {T : wq_T} {H : wq_H} {a0 : Int} {a1 : Int} (hW : WT T H) (i0 : 0 ≤ a0 ∧ a0 ≤ 100) (i1 : 0 ≤ a1 ∧ a1 ≤ 100) : wpc kt 1 191 [vI a0, vI a1] T H (uq_191 a0 a1 T H) := by
  refine wp_enter e191 (Nat.le_of_ble_eq_true rfl) rfl ?_
  show wp _ _ 191 0 [(0, vI a0), (1, vI a1)] [] _ H _
  refine wp_of e191 c191_0 (rw_iload_n (pc' := 1) (z := a0) rfl rfl ?_)
  refine wp_of e191 c191_1 (rw_iload_n (pc' := 2) (z := a1) rfl rfl ?_)
  refine wp_of e191 c191_2 (rw_icmp_ge (p1 := 9) (p2 := 5) (by decide) rfl ⟨Int.le_trans (by decide) i0.1, Int.le_trans i0.2 (by decide)⟩ ⟨Int.le_trans (by decide) i1.1, Int.le_trans i1.2 (by decide)⟩ (fun c1002 => ?_) (fun c1002 => ?_))
  · refine wp_of e191 c191_9 (rw_iload_n (pc' := 10) (z := a1) rfl rfl ?_)
    exact wp_ireturn e191 c191_10 rfl ⟨rfl, rfl, a1, rfl, ⟨i1.1, i1.2⟩, (by omega)⟩
  · refine wp_of e191 c191_5 (rw_iload_n (pc' := 6) (z := a0) rfl rfl ?_)
    refine wp_of e191 c191_6 (rw_goto (p1 := 10) (by decide) ?_)
    exact wp_ireturn e191 c191_10 rfl ⟨rfl, rfl, a0, rfl, ⟨i0.1, i0.2⟩, (by omega)⟩
/-! StrikeAwakeModel.goesOn()V k -/
abbrev uq_172_k (r0 : Nat) (rb : Nat) (B : Nat → Int) (n : Int) (a : Int) (q : Int) (T : wq_T) (H : wq_H) : Option Value → wq_T → wq_H → Prop := fun r T' H' => T = T' ∧ WT T H' ∧ wfr [(42, 8), (42, 9), (42, 10), (42, 11), (42, 12), (42, 15)] T H H' ∧ none = r ∧ ((RC T H' r0 B n q))
set_option maxHeartbeats 4000000 in
theorem u_172_k {kt : Nat → Option mc_E} {T : wq_T} {H : wq_H} {r0 : Nat} {rb : Nat} {B : Nat → Int} {n : Int} {a : Int} {q : Int} (hW : WT T H) (g0 : T.2.2.2 r0 = some 42) (qrb : H r0 5 = (rb : Int)) (grb : T.2.2.2 rb = some 43) (p0 : H r0 9 ≤ 4) (p1 : H r0 8 = a) (p2 : a ≤ n) (p3 : H r0 7 = n) (p4 : H r0 13 = 0) (p5 : q = xG 32 32 B n a) (hTM_rb : TM T H rb B) : wpc kt 2 172 [.ref r0] T H (uq_172_k r0 rb B n a q T H) := by
  refine wp_enter e172 (Nat.le_of_ble_eq_true rfl) rfl ?_
  have f0 : wfr [(42, 8), (42, 9), (42, 10), (42, 11), (42, 12), (42, 15)] T H H := wfr.rf
  show wp _ _ 172 0 [(0, .ref r0)] [] _ H _
  have b23093 : 0 ≤ H r0 9 ∧ H r0 9 ≤ 5 := hW.box g0 (n := 33) rfl (by decide) rfl
  have b23094 : 0 ≤ H r0 8 ∧ H r0 8 ≤ 900 := hW.box g0 (n := 33) rfl (by decide) rfl
  have b23095 : 0 ≤ H r0 7 ∧ H r0 7 ≤ 900 := hW.box g0 (n := 33) rfl (by decide) rfl
  have b23096 : (-2147483648) ≤ H r0 13 ∧ H r0 13 ≤ 2147483647 := hW.box g0 (n := 33) rfl (by decide) rfl
  have _x0 := @xG_b2 32 32 B n a (by omega)
  have _q : q ≤ n := by omega
  have _x1 := @xG_b2 97 122 B n q _q
  have _x2 := @xG_b2 48 57 B n q _q
  have _o : xso 0 = 1 ∧ xso 1 = 2 ∧ xso 2 = 3 ∧ xso 3 = 4 ∧ xso 4 = 4 ∧ xso 5 = 0 := ⟨rfl, rfl, rfl, rfl, rfl, rfl⟩
  refine wp_of e172 c172_0 (rw_aload_n (pc' := 1) (v := .ref r0) rfl rfl rfl ?_)
  refine wp_of e172 c172_1 (xg_I (pc' := 4) lf_9_75 hW g0 sh_42 (by decide) (by decide) ty_42_9 rfl rfl (fun b23097 b23098 => ?_))
  refine wp_of e172 c172_4 (rw_iconst (pc' := 5) rfl ?_)
  have jn23205 : ∀  (H23204 : wq_H), WT T H23204 → wfr [(42, 8)] T H H23204 → (H23204 r0 8 = q) → wp kt 1 172 35 [(0, .ref r0)] [] T H23204 (uq_172_k r0 rb B n a q T H) := by
    intro H23204 w23206 f23207 x23208
    have f23209 := f0.tr f23207 rfl
    refine wp_of e172 c172_35 (rw_aload_n (pc' := 36) (v := .ref r0) rfl rfl rfl ?_)
    refine wp_of e172 c172_36 (rw_aload_n (pc' := 37) (v := .ref r0) rfl rfl rfl ?_)
    refine wp_of e172 c172_37 (xg_I (pc' := 40) lf_9_78 w23206 g0 sh_42 (by decide) (by decide) ty_42_8 rfl rfl (fun b23210 b23211 => ?_))
    refine wp_of e172 c172_40 (xp_I (pc' := 43) lf_9_84 w23206 g0 sh_42 (by decide) (by decide) ty_42_10 rfl rfl (Int.le_trans (by decide) b23210) (Int.le_trans b23211 (by decide)) ⟨Int.le_trans (by decide) b23210, Int.le_trans b23211 (by decide)⟩ rfl (fun H23212 e23213 w23214 => ?_))
    have f23215 := f23209.put' e23213 g0 rfl
    have k23216 : H23212 r0 10 = H23204 r0 8 := wq_u_s e23213
    refine wp_of e172 c172_43 (rw_aload_n (pc' := 44) (v := .ref r0) rfl rfl rfl ?_)
    refine wp_of e172 c172_44 (rw_iconst (pc' := 45) rfl ?_)
    refine wp_of e172 c172_45 (xp_I (pc' := 48) lf_9_75 w23214 g0 sh_42 (by decide) (by decide) ty_42_9 rfl rfl (by decide) (by decide) ⟨by decide, by decide⟩ rfl (fun H23217 e23218 w23219 => ?_))
    have f23220 := f23215.put' e23218 g0 rfl
    have k23221 : H23217 r0 9 = 0 := wq_u_s e23218
    refine wp_of e172 c172_48 (rw_aload_n (pc' := 49) (v := .ref r0) rfl rfl rfl ?_)
    refine wp_of e172 c172_49 (rw_iconst (pc' := 50) rfl ?_)
    refine wp_of e172 c172_50 (xp_I (pc' := 53) lf_9_87 w23219 g0 sh_42 (by decide) (by decide) ty_42_11 rfl rfl (by decide) (by decide) ⟨by decide, by decide⟩ rfl (fun H23222 e23223 w23224 => ?_))
    have f23225 := f23220.put' e23223 g0 rfl
    have k23226 : H23222 r0 11 = 0 := wq_u_s e23223
    refine wp_of e172 c172_53 (rw_aload_n (pc' := 54) (v := .ref r0) rfl rfl rfl ?_)
    refine wp_of e172 c172_54 (rw_aload_n (pc' := 55) (v := .ref r0) rfl rfl rfl ?_)
    have k23227 : H23222 r0 8 = H23204 r0 8 := ((wq_u_j e23223 rfl).trans ((wq_u_j e23218 rfl).trans (wq_u_j e23213 rfl)))
    refine wp_of e172 c172_55 (xg_I (pc' := 58) lf_9_78 w23224 g0 sh_42 (by decide) (by decide) ty_42_8 rfl rfl (fun b23228 b23229 => ?_))
    have k23230 : H23222 r0 5 = H r0 5 := ((wq_u_j e23223 rfl).trans ((wq_u_j e23218 rfl).trans ((wq_u_j e23213 rfl).trans (f23207 r0 5 _ g0 rfl))))
    have q23231 : H23222 r0 5 = (rb : Int) := k23230.trans qrb
    have k23232 : H23222 r0 7 = H r0 7 := ((wq_u_j e23223 rfl).trans ((wq_u_j e23218 rfl).trans ((wq_u_j e23213 rfl).trans (f23207 r0 7 _ g0 rfl))))
    have h23233 : TM T H23222 rb B := (TM_fr w23219 grb ((wfr.rf (l := [(42, 11)])).put' e23223 g0 rfl) rfl (TM_fr w23214 grb ((wfr.rf (l := [(42, 9)])).put' e23218 g0 rfl) rfl (TM_fr w23206 grb ((wfr.rf (l := [(42, 10)])).put' e23213 g0 rfl) rfl (TM_fr hW grb f23207 rfl hTM_rb))))
    refine wp_of e172 c172_58 (xc_V (pc' := 61) (r := r0) (as := [vI (H23222 r0 8)]) (st := []) (lm_9_81) rfl rfl (Nat.le_of_ble_eq_true rfl) w23224 g0 sh_42 (by decide) rfl (by decide) (u_173 (B := B) (n := n) (y := q) w23224 g0 ⟨b23228, b23229⟩ q23231 grb (by omega) (by omega) h23233) (fun R23234 T23235 H23236 p23237 => ?_))
    obtain ⟨e23238, e23240, z23241, e23239, b23242, p23243⟩ := p23237
    subst e23238
    subst e23239
    subst e23240
    rcases p23243 with ⟨a23244, a23245⟩ | ⟨a23246, a23247, a23248⟩ | ⟨a23249, a23250, a23251, a23252⟩
    · show wp _ _ 172 61 [(0, .ref r0)] [vI z23241] _ H23222 _
      refine wp_of e172 c172_61 (rw_istore_n (pc' := 62) (z := z23241) (L' := [(1, vI z23241), (0, .ref r0)]) rfl rfl rfl ?_)
      refine wp_of e172 c172_62 (rw_iconst (pc' := 63) rfl ?_)
      refine wp_of e172 c172_63 (rw_istore_n (pc' := 64) (z := 0) (L' := [(2, vI 0), (1, vI z23241), (0, .ref r0)]) rfl rfl rfl ?_)
      refine wp_of e172 c172_64 (rw_iload_n (pc' := 65) (z := z23241) rfl rfl ?_)
      refine wp_of e172 c172_65 (rw_iconst (pc' := 66) rfl ?_)
      refine wp_of e172 c172_66 (rw_icmp_ne (p1 := 77) (p2 := 69) (by decide) rfl ⟨b23242.1, b23242.2⟩ ⟨by decide, by decide⟩ (fun c23253 => ?_) (fun c23253 => ?_))
      · exfalso
        omega
      · refine wp_of e172 c172_69 (rw_aload_n (pc' := 70) (v := .ref r0) rfl rfl rfl ?_)
        refine wp_of e172 c172_70 (rw_iconst (pc' := 71) rfl ?_)
        refine wp_of e172 c172_71 (xp_I (pc' := 74) lf_9_75 w23224 g0 sh_42 (by decide) (by decide) ty_42_9 rfl rfl (by decide) (by decide) ⟨by decide, by decide⟩ rfl (fun H23254 e23255 w23256 => ?_))
        have f23257 := f23225.put' e23255 g0 rfl
        have k23258 : H23254 r0 9 = 1 := wq_u_s e23255
        refine wp_of e172 c172_74 (rw_goto (p1 := 281) (by decide) ?_)
        have k23259 : H23254 r0 8 = H23222 r0 8 := (wq_u_j e23255 rfl)
        have k23260 : H23254 r0 7 = H23222 r0 7 := (wq_u_j e23255 rfl)
        have k23261 : H23254 r0 13 = H r0 13 := ((wq_u_j e23255 rfl).trans ((wq_u_j e23223 rfl).trans ((wq_u_j e23218 rfl).trans ((wq_u_j e23213 rfl).trans (f23207 r0 13 _ g0 rfl)))))
        have k23262 : H23254 r0 10 = H23212 r0 10 := ((wq_u_j e23255 rfl).trans ((wq_u_j e23223 rfl).trans (wq_u_j e23218 rfl)))
        have k23263 : H23254 r0 11 = H23222 r0 11 := (wq_u_j e23255 rfl)
        obtain ⟨kk, hk⟩ : ∃ x : Int, xK B n q = x := ⟨_, rfl⟩
        obtain ⟨ke, he⟩ : ∃ x : Int, xE B n q = x := ⟨_, rfl⟩
        first
          | have hl := @xM1 B n q (by omega -splitDisjunctions) (by omega -splitDisjunctions) (by omega -splitDisjunctions) (by omega -splitDisjunctions)
          | have hl := @xM5 B n q (by omega -splitDisjunctions) (by omega -splitDisjunctions) (by omega -splitDisjunctions) (by omega -splitDisjunctions)
          | have hl := @xM2 B n q (by omega -splitDisjunctions) (by omega -splitDisjunctions) (by omega -splitDisjunctions) (by omega -splitDisjunctions)
          | have hl := @xM6 B n q (by omega -splitDisjunctions) (by omega -splitDisjunctions) (by omega -splitDisjunctions) (by omega -splitDisjunctions)
          | have hl := @xM0 B n q (by omega -splitDisjunctions)
          | have hl := @xM3 B n q (by omega -splitDisjunctions) (by omega -splitDisjunctions) (by omega -splitDisjunctions)
          | have hl := @xM4 B n q (by omega -splitDisjunctions) (by omega -splitDisjunctions) (by omega -splitDisjunctions)
          | have hl := @xM7 B n q (by omega -splitDisjunctions) (by omega) (by omega) (by omega) (by omega)
          | have hl := @xM1 B n q (by omega) (by omega) (by omega) (by omega)
          | have hl := @xM5 B n q (by omega) (by omega) (by omega) (by omega)
          | have hl := @xM2 B n q (by omega) (by omega) (by omega) (by omega)
          | have hl := @xM6 B n q (by omega) (by omega) (by omega) (by omega)
          | have hl := @xM0 B n q (by omega)
          | have hl := @xM3 B n q (by omega) (by omega) (by omega)
          | have hl := @xM4 B n q (by omega) (by omega) (by omega)
          | have hl := @xM7 B n q (by omega) (by omega) (by omega) (by omega) (by omega)
        have hk2 := hl.1.symm
        have he2 := hl.2.symm
        rw [hk] at hk2
        rw [he] at he2
        have k23264 : H23254 r0 5 = H23222 r0 5 := (wq_u_j e23255 rfl)
        have q23265 : H23254 r0 5 = (rb : Int) := k23264.trans q23231
        have h23266 : TM T H23254 rb B := (TM_fr w23224 grb ((wfr.rf (l := [(42, 9)])).put' e23255 g0 rfl) rfl h23233)
        exact wp_return e172 c172_281 rfl ⟨rfl, w23256, f23257, rfl, (RC_mk q23265 grb h23266 (by omega) (by rw [hk, ← hk2]; omega) (by omega) (by omega) (by omega) (by omega) (by omega))⟩
    · show wp _ _ 172 61 [(0, .ref r0)] [vI z23241] _ H23222 _
      refine wp_of e172 c172_61 (rw_istore_n (pc' := 62) (z := z23241) (L' := [(1, vI z23241), (0, .ref r0)]) rfl rfl rfl ?_)
      refine wp_of e172 c172_62 (rw_iconst (pc' := 63) rfl ?_)
      refine wp_of e172 c172_63 (rw_istore_n (pc' := 64) (z := 0) (L' := [(2, vI 0), (1, vI z23241), (0, .ref r0)]) rfl rfl rfl ?_)
      refine wp_of e172 c172_64 (rw_iload_n (pc' := 65) (z := z23241) rfl rfl ?_)
      refine wp_of e172 c172_65 (rw_iconst (pc' := 66) rfl ?_)
      refine wp_of e172 c172_66 (rw_icmp_ne (p1 := 77) (p2 := 69) (by decide) rfl ⟨b23242.1, b23242.2⟩ ⟨by decide, by decide⟩ (fun c23267 => ?_) (fun c23267 => ?_))
      · refine wp_of e172 c172_77 (rw_iload_n (pc' := 78) (z := z23241) rfl rfl ?_)
        refine wp_of e172 c172_78 (xc_S (pc' := 81) (as := [vI z23241]) (st := []) (lm_9_90) rfl rfl (Nat.le_of_ble_eq_true rfl) rfl (by decide) (u_174  w23224 ⟨b23242.1, b23242.2⟩) (fun R23268 T23269 H23270 p23271 => ?_))
        obtain ⟨e23272, e23274, z23275, e23273, b23276, p23277⟩ := p23271
        subst e23272
        subst e23273
        subst e23274
        rcases p23277 with ⟨a23278, a23279⟩ | ⟨a23280, a23281⟩
        · show wp _ _ 172 81 [(2, vI 0), (1, vI z23241), (0, .ref r0)] [vI z23275] _ H23222 _
          refine wp_of e172 c172_81 (rw_if_eq (p1 := 166) (p2 := 84) (by decide) rfl ⟨Int.le_trans (by decide) b23276.1, Int.le_trans b23276.2 (by decide)⟩ (fun c23282 => ?_) (fun c23282 => ?_))
          · exfalso
            omega
          · have jn25878 : ∀ (v25876 : Int) (H25877 : wq_H), WT T H25877 → wfr [(42, 8), (42, 15)] T H23222 H25877 → (0 ≤ v25876 ∧ v25876 ≤ 900) → (H25877 r0 8 = xG 97 122 B n q) → (v25876 = H25877 r0 8 - q) → (8 < v25876 ∨ H25877 r0 15 = xY B n q) → wp kt 1 172 152 [(2, vI v25876), (0, .ref r0)] [] T H25877 (uq_172_k r0 rb B n a q T H) := by
              intro v25876 H25877 w25879 f25880 b25881 x25882 x25883 x25884
              have f25885 := f23225.tr f25880 rfl
              refine wp_of e172 c172_152 (rw_iload_n (pc' := 153) (z := v25876) rfl rfl ?_)
              refine wp_of e172 c172_153 (rw_bipush (pc' := 155) (z := 8) rfl (by decide) ?_)
              refine wp_of e172 c172_155 (rw_icmp_gt (p1 := 281) (p2 := 158) (by decide) rfl ⟨by omega, by omega⟩ ⟨by decide, by decide⟩ (fun c25886 => ?_) (fun c25886 => ?_))
              · have k25887 : H25877 r0 9 = H23217 r0 9 := ((f25880 r0 9 _ g0 rfl).trans (wq_u_j e23223 rfl))
                have k25888 : H25877 r0 7 = H23222 r0 7 := (f25880 r0 7 _ g0 rfl)
                have k25889 : H25877 r0 13 = H r0 13 := ((f25880 r0 13 _ g0 rfl).trans ((wq_u_j e23223 rfl).trans ((wq_u_j e23218 rfl).trans ((wq_u_j e23213 rfl).trans (f23207 r0 13 _ g0 rfl)))))
                have k25890 : H25877 r0 10 = H23212 r0 10 := ((f25880 r0 10 _ g0 rfl).trans ((wq_u_j e23223 rfl).trans (wq_u_j e23218 rfl)))
                have k25891 : H25877 r0 11 = H23222 r0 11 := (f25880 r0 11 _ g0 rfl)
                obtain ⟨kk, hk⟩ : ∃ x : Int, xK B n q = x := ⟨_, rfl⟩
                obtain ⟨ke, he⟩ : ∃ x : Int, xE B n q = x := ⟨_, rfl⟩
                first
                  | have hl := @xM1 B n q (by omega -splitDisjunctions) (by omega -splitDisjunctions) (by omega -splitDisjunctions) (by omega -splitDisjunctions)
                  | have hl := @xM5 B n q (by omega -splitDisjunctions) (by omega -splitDisjunctions) (by omega -splitDisjunctions) (by omega -splitDisjunctions)
                  | have hl := @xM2 B n q (by omega -splitDisjunctions) (by omega -splitDisjunctions) (by omega -splitDisjunctions) (by omega -splitDisjunctions)
                  | have hl := @xM6 B n q (by omega -splitDisjunctions) (by omega -splitDisjunctions) (by omega -splitDisjunctions) (by omega -splitDisjunctions)
                  | have hl := @xM0 B n q (by omega -splitDisjunctions)
                  | have hl := @xM3 B n q (by omega -splitDisjunctions) (by omega -splitDisjunctions) (by omega -splitDisjunctions)
                  | have hl := @xM4 B n q (by omega -splitDisjunctions) (by omega -splitDisjunctions) (by omega -splitDisjunctions)
                  | have hl := @xM7 B n q (by omega -splitDisjunctions) (by omega) (by omega) (by omega) (by omega)
                  | have hl := @xM1 B n q (by omega) (by omega) (by omega) (by omega)
                  | have hl := @xM5 B n q (by omega) (by omega) (by omega) (by omega)
                  | have hl := @xM2 B n q (by omega) (by omega) (by omega) (by omega)
                  | have hl := @xM6 B n q (by omega) (by omega) (by omega) (by omega)
                  | have hl := @xM0 B n q (by omega)
                  | have hl := @xM3 B n q (by omega) (by omega) (by omega)
                  | have hl := @xM4 B n q (by omega) (by omega) (by omega)
                  | have hl := @xM7 B n q (by omega) (by omega) (by omega) (by omega) (by omega)
                have hk2 := hl.1.symm
                have he2 := hl.2.symm
                rw [hk] at hk2
                rw [he] at he2
                have k25892 : H25877 r0 5 = H23222 r0 5 := (f25880 r0 5 _ g0 rfl)
                have q25893 : H25877 r0 5 = (rb : Int) := k25892.trans q23231
                have h25894 : TM T H25877 rb B := (TM_fr w23224 grb f25880 rfl h23233)
                exact wp_return e172 c172_281 rfl ⟨rfl, w25879, f25885, rfl, (RC_mk q25893 grb h25894 (by omega) (by rw [hk, ← hk2]; omega) (by omega) (by omega) (by omega) (by omega) (by omega))⟩
              · refine wp_of e172 c172_158 (rw_aload_n (pc' := 159) (v := .ref r0) rfl rfl rfl ?_)
                refine wp_of e172 c172_159 (rw_iconst (pc' := 160) rfl ?_)
                refine wp_of e172 c172_160 (xp_I (pc' := 163) lf_9_75 w25879 g0 sh_42 (by decide) (by decide) ty_42_9 rfl rfl (by decide) (by decide) ⟨by decide, by decide⟩ rfl (fun H25895 e25896 w25897 => ?_))
                have f25898 := f25885.put' e25896 g0 rfl
                have k25899 : H25895 r0 9 = 2 := wq_u_s e25896
                refine wp_of e172 c172_163 (rw_goto (p1 := 281) (by decide) ?_)
                have k25900 : H25895 r0 8 = H25877 r0 8 := (wq_u_j e25896 rfl)
                have k25901 : H25895 r0 7 = H23222 r0 7 := ((wq_u_j e25896 rfl).trans (f25880 r0 7 _ g0 rfl))
                have k25902 : H25895 r0 13 = H r0 13 := ((wq_u_j e25896 rfl).trans ((f25880 r0 13 _ g0 rfl).trans ((wq_u_j e23223 rfl).trans ((wq_u_j e23218 rfl).trans ((wq_u_j e23213 rfl).trans (f23207 r0 13 _ g0 rfl))))))
                have k25903 : H25895 r0 10 = H23212 r0 10 := ((wq_u_j e25896 rfl).trans ((f25880 r0 10 _ g0 rfl).trans ((wq_u_j e23223 rfl).trans (wq_u_j e23218 rfl))))
                have k25904 : H25895 r0 15 = H25877 r0 15 := (wq_u_j e25896 rfl)
                have k25905 : H25895 r0 11 = H23222 r0 11 := ((wq_u_j e25896 rfl).trans (f25880 r0 11 _ g0 rfl))
                obtain ⟨kk, hk⟩ : ∃ x : Int, xK B n q = x := ⟨_, rfl⟩
                obtain ⟨ke, he⟩ : ∃ x : Int, xE B n q = x := ⟨_, rfl⟩
                first
                  | have hl := @xM1 B n q (by omega -splitDisjunctions) (by omega -splitDisjunctions) (by omega -splitDisjunctions) (by omega -splitDisjunctions)
                  | have hl := @xM5 B n q (by omega -splitDisjunctions) (by omega -splitDisjunctions) (by omega -splitDisjunctions) (by omega -splitDisjunctions)
                  | have hl := @xM2 B n q (by omega -splitDisjunctions) (by omega -splitDisjunctions) (by omega -splitDisjunctions) (by omega -splitDisjunctions)
                  | have hl := @xM6 B n q (by omega -splitDisjunctions) (by omega -splitDisjunctions) (by omega -splitDisjunctions) (by omega -splitDisjunctions)
                  | have hl := @xM0 B n q (by omega -splitDisjunctions)
                  | have hl := @xM3 B n q (by omega -splitDisjunctions) (by omega -splitDisjunctions) (by omega -splitDisjunctions)
                  | have hl := @xM4 B n q (by omega -splitDisjunctions) (by omega -splitDisjunctions) (by omega -splitDisjunctions)
                  | have hl := @xM7 B n q (by omega -splitDisjunctions) (by omega) (by omega) (by omega) (by omega)
                  | have hl := @xM1 B n q (by omega) (by omega) (by omega) (by omega)
                  | have hl := @xM5 B n q (by omega) (by omega) (by omega) (by omega)
                  | have hl := @xM2 B n q (by omega) (by omega) (by omega) (by omega)
                  | have hl := @xM6 B n q (by omega) (by omega) (by omega) (by omega)
                  | have hl := @xM0 B n q (by omega)
                  | have hl := @xM3 B n q (by omega) (by omega) (by omega)
                  | have hl := @xM4 B n q (by omega) (by omega) (by omega)
                  | have hl := @xM7 B n q (by omega) (by omega) (by omega) (by omega) (by omega)
                have hk2 := hl.1.symm
                have he2 := hl.2.symm
                rw [hk] at hk2
                rw [he] at he2
                have k25906 : H25895 r0 5 = H23222 r0 5 := ((wq_u_j e25896 rfl).trans (f25880 r0 5 _ g0 rfl))
                have q25907 : H25895 r0 5 = (rb : Int) := k25906.trans q23231
                have h25908 : TM T H25895 rb B := (TM_fr w25879 grb ((wfr.rf (l := [(42, 9)])).put' e25896 g0 rfl) rfl (TM_fr w23224 grb f25880 rfl h23233))
                exact wp_return e172 c172_281 rfl ⟨rfl, w25897, f25898, rfl, (RC_mk q25907 grb h25908 (by omega) (by rw [hk, ← hk2]; omega) (by omega) (by omega) (by omega) (by omega) (by omega))⟩
            have f25909 : wfr [(42, 8), (42, 15)] T H23222 H23222 := wfr.rf
            refine wp_of e172 c172_84 (rw_aload_n (pc' := 85) (v := .ref r0) rfl rfl rfl ?_)
            refine wp_of e172 c172_85 (rw_lconst (pc' := 86) (z := 0) rfl rfl ?_)
            refine wp_of e172 c172_86 (xp_L (pc' := 89) lf_9_94 w23224 g0 sh_42 (by decide) (by decide) ty_42_15 rfl rfl (by decide) (by decide) ⟨by decide, by decide⟩ rfl (fun H25910 e25911 w25912 => ?_))
            have f25913 := f23225.put' e25911 g0 rfl
            have f25914 := f25909.put' e25911 g0 rfl
            have k25915 : H25910 r0 15 = 0 := wq_u_s e25911
            have k28350 : H25910 r0 8 = H23222 r0 8 := (wq_u_j e25911 rfl)
            have lp28344 : ∀ (n28345 : Nat) (v28347 : Int) (H28348 : wq_H) (p28349 : Int), WT T H28348 → wfr [(42, 8), (42, 15)] T H25910 H28348 → (0 ≤ v28347 ∧ v28347 ≤ 900) → (H28348 r0 8 = p28349) → (xG 97 122 B n p28349 = xG 97 122 B n q) → (q ≤ p28349) → (p28349 ≤ n) → (v28347 = p28349 - q) → (8 < p28349 - q ∨ H28348 r0 15 = xkf 32 96 B q (p28349 - q).toNat) → (900 - p28349).toNat = n28345 → wp kt 1 172 89 [(2, vI v28347), (0, .ref r0)] [] T H28348 (uq_172_k r0 rb B n a q T H) := by
              intro n28345
              induction n28345 using Nat.strongRecOn with
              | _ n28345 ih28346 =>
                intro v28347 H28348 p28349 w28351 f28352 b28353 x28355 x28356 x28357 x28358 x28359 x28360 m28354
                have f28361 := f25913.tr f28352 rfl
                have f28362 := f25914.tr f28352 rfl
                have := @xG_b2 97 122 B n p28349 (by omega)
                have := @xkf_Y2 B n q p28349 (by omega) (by omega)
                refine wp_of e172 c172_89 (rw_aload_n (pc' := 90) (v := .ref r0) rfl rfl rfl ?_)
                refine wp_of e172 c172_90 (rw_aload_n (pc' := 91) (v := .ref r0) rfl rfl rfl ?_)
                refine wp_of e172 c172_91 (xg_I (pc' := 94) lf_9_78 w28351 g0 sh_42 (by decide) (by decide) ty_42_8 rfl rfl (fun b28363 b28364 => ?_))
                have k28365 : H28348 r0 5 = H23222 r0 5 := ((f28352 r0 5 _ g0 rfl).trans (wq_u_j e25911 rfl))
                have q28366 : H28348 r0 5 = (rb : Int) := k28365.trans q23231
                have k28367 : H28348 r0 7 = H23222 r0 7 := ((f28352 r0 7 _ g0 rfl).trans (wq_u_j e25911 rfl))
                have h28368 : TM T H28348 rb B := (TM_fr w25912 grb f28352 rfl (TM_fr w23224 grb ((wfr.rf (l := [(42, 15)])).put' e25911 g0 rfl) rfl h23233))
                refine wp_of e172 c172_94 (xc_V (pc' := 97) (r := r0) (as := [vI (H28348 r0 8)]) (st := []) (lm_9_81) rfl rfl (Nat.le_of_ble_eq_true rfl) w28351 g0 sh_42 (by decide) rfl (by decide) (u_173 (B := B) (n := n) (y := p28349) w28351 g0 ⟨b28363, b28364⟩ q28366 grb (by omega) (by omega) h28368) (fun R28369 T28370 H28371 p28372 => ?_))
                obtain ⟨e28373, e28375, z28376, e28374, b28377, p28378⟩ := p28372
                subst e28373
                subst e28374
                subst e28375
                rcases p28378 with ⟨a28379, a28380⟩ | ⟨a28381, a28382, a28383⟩ | ⟨a28384, a28385, a28386, a28387⟩
                · show wp _ _ 172 97 [(2, vI v28347), (0, .ref r0)] [vI z28376] _ H28348 _
                  refine wp_of e172 c172_97 (xc_S (pc' := 100) (as := [vI z28376]) (st := []) (lm_9_90) rfl rfl (Nat.le_of_ble_eq_true rfl) rfl (by decide) (u_174  w28351 ⟨b28377.1, b28377.2⟩) (fun R28388 T28389 H28390 p28391 => ?_))
                  obtain ⟨e28392, e28394, z28395, e28393, b28396, p28397⟩ := p28391
                  subst e28392
                  subst e28393
                  subst e28394
                  rcases p28397 with ⟨a28398, a28399⟩ | ⟨a28400, a28401⟩
                  · exfalso
                    omega
                  · show wp _ _ 172 100 [(2, vI v28347), (0, .ref r0)] [vI z28395] _ H28348 _
                    refine wp_of e172 c172_100 (rw_if_eq (p1 := 152) (p2 := 103) (by decide) rfl ⟨Int.le_trans (by decide) b28396.1, Int.le_trans b28396.2 (by decide)⟩ (fun c28402 => ?_) (fun c28402 => ?_))
                    · have := @xG_e 97 122 B n p28349 (by omega)
                      have := @xY_of B n q p28349
                      exact wp_lc (ks := [2, 0]) (wl_c rfl (wl_c rfl wl_n)) rfl (by decide) (jn25878 v28347 H28348 w28351 f28362 ⟨by omega, by omega⟩ (by omega) (by omega) (by omega))
                    · exfalso
                      omega
                · show wp _ _ 172 97 [(2, vI v28347), (0, .ref r0)] [vI z28376] _ H28348 _
                  refine wp_of e172 c172_97 (xc_S (pc' := 100) (as := [vI z28376]) (st := []) (lm_9_90) rfl rfl (Nat.le_of_ble_eq_true rfl) rfl (by decide) (u_174  w28351 ⟨b28377.1, b28377.2⟩) (fun R28403 T28404 H28405 p28406 => ?_))
                  obtain ⟨e28407, e28409, z28410, e28408, b28411, p28412⟩ := p28406
                  subst e28407
                  subst e28408
                  subst e28409
                  rcases p28412 with ⟨a28413, a28414⟩ | ⟨a28415, a28416⟩
                  · show wp _ _ 172 100 [(2, vI v28347), (0, .ref r0)] [vI z28410] _ H28348 _
                    refine wp_of e172 c172_100 (rw_if_eq (p1 := 152) (p2 := 103) (by decide) rfl ⟨Int.le_trans (by decide) b28411.1, Int.le_trans b28411.2 (by decide)⟩ (fun c28417 => ?_) (fun c28417 => ?_))
                    · exfalso
                      omega
                    · refine wp_of e172 c172_103 (rw_iload_n (pc' := 104) (z := v28347) rfl rfl ?_)
                      refine wp_of e172 c172_104 (rw_bipush (pc' := 106) (z := 8) rfl (by decide) ?_)
                      refine wp_of e172 c172_106 (rw_icmp_ge (p1 := 136) (p2 := 109) (by decide) rfl ⟨Int.le_trans (by decide) b28353.1, Int.le_trans b28353.2 (by decide)⟩ ⟨by decide, by decide⟩ (fun c28418 => ?_) (fun c28418 => ?_))
                      · refine wp_of e172 c172_136 (rw_iinc (pc' := 139) (z := v28347) (L' := [(2, vI (v28347 + 1)), (0, .ref r0)]) rfl rfl rfl rfl ?_)
                        refine wp_of e172 c172_139 (rw_aload_n (pc' := 140) (v := .ref r0) rfl rfl rfl ?_)
                        refine wp_of e172 c172_140 (rw_dup (pc' := 141) rfl rfl ?_)
                        refine wp_of e172 c172_141 (xg_I (pc' := 144) lf_9_78 w28351 g0 sh_42 (by decide) (by decide) ty_42_8 rfl rfl (fun b28419 b28420 => ?_))
                        refine wp_of e172 c172_144 (rw_iconst (pc' := 145) rfl ?_)
                        refine wp_of e172 c172_145 (rw_iadd (pc' := 146) rfl ?_)
                        refine wp_of e172 c172_146 (xp_I (pc' := 149) lf_9_78 w28351 g0 sh_42 (by decide) (by decide) ty_42_8 rfl rfl (by omega) (by omega) ⟨by omega, by omega⟩ rfl (fun H28421 e28422 w28423 => ?_))
                        have f28424 := f28361.put' e28422 g0 rfl
                        have f28425 := f28362.put' e28422 g0 rfl
                        have f28426 := f28352.put' e28422 g0 rfl
                        have k28427 : H28421 r0 8 = (H28348 r0 8) + 1 := wq_u_s e28422
                        refine wp_of e172 c172_149 (rw_goto (p1 := 89) (by decide) ?_)
                        have k28428 : H28421 r0 15 = H28348 r0 15 := (wq_u_j e28422 rfl)
                        have := @xG_s 97 122 B n p28349 (by omega) (by omega) (by omega)
                        have := @xkf_s B q 32 96 p28349 (by omega)
                        exact wp_lc (ks := [2, 0]) (wl_c rfl (wl_c rfl wl_n)) rfl (by decide) (ih28346 _ (by omega) (v28347 + 1) H28421 ((p28349 + 1)) w28423 f28426 ⟨by omega, by omega⟩ (by omega) (by omega) (by omega) (by omega) (by omega) (by omega) rfl)
                      · refine wp_of e172 c172_109 (rw_aload_n (pc' := 110) (v := .ref r0) rfl rfl rfl ?_)
                        refine wp_of e172 c172_110 (rw_ldc2 (pc' := 113) (z := 32) rfl rfl rfl ?_)
                        refine wp_of e172 c172_113 (rw_aload_n (pc' := 114) (v := .ref r0) rfl rfl rfl ?_)
                        refine wp_of e172 c172_114 (xg_L (pc' := 117) lf_9_94 w28351 g0 sh_42 (by decide) (by decide) ty_42_15 rfl rfl (fun b28429 b28430 => ?_))
                        refine wp_of e172 c172_117 (rw_lmulw (pc' := 118) rfl ?_)
                        obtain ⟨v28431, e28432⟩ : ∃ x : Int, x = wl_w (32 * (H28348 r0 15)) := ⟨_, rfl⟩
                        rw [← e28432]
                        have b28433 : -9223372036854775808 ≤ v28431 ∧ v28431 ≤ 9223372036854775807 := by
                          rw [e28432]
                          exact wL_w _
                        have b28434 : (-9223372036854775808 ≤ 32 * (H28348 r0 15) ∧ 32 * (H28348 r0 15) ≤ 9223372036854775807) → v28431 = 32 * (H28348 r0 15) := fun h => by rw [e28432]; exact wl_w_id h
                        refine wp_of e172 c172_118 (rw_aload_n (pc' := 119) (v := .ref r0) rfl rfl rfl ?_)
                        refine wp_of e172 c172_119 (rw_aload_n (pc' := 120) (v := .ref r0) rfl rfl rfl ?_)
                        refine wp_of e172 c172_120 (xg_I (pc' := 123) lf_9_78 w28351 g0 sh_42 (by decide) (by decide) ty_42_8 rfl rfl (fun b28435 b28436 => ?_))
                        refine wp_of e172 c172_123 (xc_V (pc' := 126) (r := r0) (as := [vI (H28348 r0 8)]) (st := [vL v28431, .ref r0]) (lm_9_81) rfl rfl (Nat.le_of_ble_eq_true rfl) w28351 g0 sh_42 (by decide) rfl (by decide) (u_173 (B := B) (n := n) (y := p28349) w28351 g0 ⟨b28435, b28436⟩ q28366 grb (by omega) (by omega) h28368) (fun R28437 T28438 H28439 p28440 => ?_))
                        obtain ⟨e28441, e28443, z28444, e28442, b28445, p28446⟩ := p28440
                        subst e28441
                        subst e28442
                        subst e28443
                        rcases p28446 with ⟨a28447, a28448⟩ | ⟨a28449, a28450, a28451⟩ | ⟨a28452, a28453, a28454, a28455⟩
                        · exfalso
                          omega
                        · show wp _ _ 172 126 [(2, vI v28347), (0, .ref r0)] [vI z28444, vL v28431, .ref r0] _ H28348 _
                          refine wp_of e172 c172_126 (rw_bipush (pc' := 128) (z := 97) rfl (by decide) ?_)
                          refine wp_of e172 c172_128 (rw_isub (pc' := 129) rfl ?_)
                          refine wp_of e172 c172_129 (rw_iconst (pc' := 130) rfl ?_)
                          refine wp_of e172 c172_130 (rw_iadd (pc' := 131) rfl ?_)
                          refine wp_of e172 c172_131 (rw_i2l (pc' := 132) rfl ⟨by omega, by omega⟩ ?_)
                          refine wp_of e172 c172_132 (rw_laddw (pc' := 133) rfl ?_)
                          obtain ⟨v28456, e28457⟩ : ∃ x : Int, x = wl_w (v28431 + ((z28444 - 97) + 1)) := ⟨_, rfl⟩
                          rw [← e28457]
                          have b28458 : -9223372036854775808 ≤ v28456 ∧ v28456 ≤ 9223372036854775807 := by
                            rw [e28457]
                            exact wL_w _
                          have b28459 : (-9223372036854775808 ≤ v28431 + ((z28444 - 97) + 1) ∧ v28431 + ((z28444 - 97) + 1) ≤ 9223372036854775807) → v28456 = v28431 + ((z28444 - 97) + 1) := fun h => by rw [e28457]; exact wl_w_id h
                          refine wp_of e172 c172_133 (xp_L (pc' := 136) lf_9_94 w28351 g0 sh_42 (by decide) (by decide) ty_42_15 rfl rfl (b28458.1) (b28458.2) ⟨b28458.1, b28458.2⟩ rfl (fun H28460 e28461 w28462 => ?_))
                          have f28463 := f28361.put' e28461 g0 rfl
                          have f28464 := f28362.put' e28461 g0 rfl
                          have f28465 := f28352.put' e28461 g0 rfl
                          have k28466 : H28460 r0 15 = v28456 := wq_u_s e28461
                          refine wp_of e172 c172_136 (rw_iinc (pc' := 139) (z := v28347) (L' := [(2, vI (v28347 + 1)), (0, .ref r0)]) rfl rfl rfl rfl ?_)
                          refine wp_of e172 c172_139 (rw_aload_n (pc' := 140) (v := .ref r0) rfl rfl rfl ?_)
                          refine wp_of e172 c172_140 (rw_dup (pc' := 141) rfl rfl ?_)
                          have k28467 : H28460 r0 8 = H28348 r0 8 := (wq_u_j e28461 rfl)
                          refine wp_of e172 c172_141 (xg_I (pc' := 144) lf_9_78 w28462 g0 sh_42 (by decide) (by decide) ty_42_8 rfl rfl (fun b28468 b28469 => ?_))
                          refine wp_of e172 c172_144 (rw_iconst (pc' := 145) rfl ?_)
                          refine wp_of e172 c172_145 (rw_iadd (pc' := 146) rfl ?_)
                          refine wp_of e172 c172_146 (xp_I (pc' := 149) lf_9_78 w28462 g0 sh_42 (by decide) (by decide) ty_42_8 rfl rfl (by omega) (by omega) ⟨by omega, by omega⟩ rfl (fun H28470 e28471 w28472 => ?_))
                          have f28473 := f28463.put' e28471 g0 rfl
                          have f28474 := f28464.put' e28471 g0 rfl
                          have f28475 := f28465.put' e28471 g0 rfl
                          have k28476 : H28470 r0 8 = (H28460 r0 8) + 1 := wq_u_s e28471
                          refine wp_of e172 c172_149 (rw_goto (p1 := 89) (by decide) ?_)
                          have k28477 : H28470 r0 15 = H28460 r0 15 := (wq_u_j e28471 rfl)
                          have := @xG_s 97 122 B n p28349 (by omega) (by omega) (by omega)
                          have := @xkf_s B q 32 96 p28349 (by omega)
                          exact wp_lc (ks := [2, 0]) (wl_c rfl (wl_c rfl wl_n)) rfl (by decide) (ih28346 _ (by omega) (v28347 + 1) H28470 ((p28349 + 1)) w28472 f28475 ⟨by omega, by omega⟩ (by omega) (by omega) (by omega) (by omega) (by omega) (by omega) rfl)
                        · exfalso
                          omega
                  · show wp _ _ 172 100 [(2, vI v28347), (0, .ref r0)] [vI z28410] _ H28348 _
                    refine wp_of e172 c172_100 (rw_if_eq (p1 := 152) (p2 := 103) (by decide) rfl ⟨Int.le_trans (by decide) b28411.1, Int.le_trans b28411.2 (by decide)⟩ (fun c28478 => ?_) (fun c28478 => ?_))
                    · have := @xG_e 97 122 B n p28349 (by omega)
                      have := @xY_of B n q p28349
                      exact wp_lc (ks := [2, 0]) (wl_c rfl (wl_c rfl wl_n)) rfl (by decide) (jn25878 v28347 H28348 w28351 f28362 ⟨by omega, by omega⟩ (by omega) (by omega) (by omega))
                    · exfalso
                      omega
                · show wp _ _ 172 97 [(2, vI v28347), (0, .ref r0)] [vI z28376] _ H28348 _
                  refine wp_of e172 c172_97 (xc_S (pc' := 100) (as := [vI z28376]) (st := []) (lm_9_90) rfl rfl (Nat.le_of_ble_eq_true rfl) rfl (by decide) (u_174  w28351 ⟨b28377.1, b28377.2⟩) (fun R28479 T28480 H28481 p28482 => ?_))
                  obtain ⟨e28483, e28485, z28486, e28484, b28487, p28488⟩ := p28482
                  subst e28483
                  subst e28484
                  subst e28485
                  rcases p28488 with ⟨a28489, a28490⟩ | ⟨a28491, a28492⟩
                  · exfalso
                    omega
                  · show wp _ _ 172 100 [(2, vI v28347), (0, .ref r0)] [vI z28486] _ H28348 _
                    refine wp_of e172 c172_100 (rw_if_eq (p1 := 152) (p2 := 103) (by decide) rfl ⟨Int.le_trans (by decide) b28487.1, Int.le_trans b28487.2 (by decide)⟩ (fun c28493 => ?_) (fun c28493 => ?_))
                    · have := @xG_e 97 122 B n p28349 (by omega)
                      have := @xY_of B n q p28349
                      exact wp_lc (ks := [2, 0]) (wl_c rfl (wl_c rfl wl_n)) rfl (by decide) (jn25878 v28347 H28348 w28351 f28362 ⟨by omega, by omega⟩ (by omega) (by omega) (by omega))
                    · exfalso
                      omega
            have := @xkf_q B q q 32 96
            exact wp_lc (ks := [2, 1, 0]) (wl_c rfl (wl_c rfl wl_n)) rfl (by decide) (lp28344 _ 0 H25910 q w25912 wfr.rf ⟨by decide, by decide⟩ (by omega) (by omega) (by omega) (by omega) (by omega) (by omega) rfl)
        · show wp _ _ 172 81 [(2, vI 0), (1, vI z23241), (0, .ref r0)] [vI z23275] _ H23222 _
          refine wp_of e172 c172_81 (rw_if_eq (p1 := 166) (p2 := 84) (by decide) rfl ⟨Int.le_trans (by decide) b23276.1, Int.le_trans b23276.2 (by decide)⟩ (fun c28494 => ?_) (fun c28494 => ?_))
          · refine wp_of e172 c172_166 (rw_iload_n (pc' := 167) (z := z23241) rfl rfl ?_)
            refine wp_of e172 c172_167 (xc_S (pc' := 170) (as := [vI z23241]) (st := []) (lm_9_98) rfl rfl (Nat.le_of_ble_eq_true rfl) rfl (by decide) (u_175  w23224 ⟨b23242.1, b23242.2⟩) (fun R28495 T28496 H28497 p28498 => ?_))
            obtain ⟨e28499, e28501, z28502, e28500, b28503, p28504⟩ := p28498
            subst e28499
            subst e28500
            subst e28501
            rcases p28504 with ⟨a28505, a28506⟩ | ⟨a28507, a28508⟩
            · show wp _ _ 172 170 [(2, vI 0), (1, vI z23241), (0, .ref r0)] [vI z28502] _ H23222 _
              refine wp_of e172 c172_170 (rw_if_eq (p1 := 249) (p2 := 173) (by decide) rfl ⟨Int.le_trans (by decide) b28503.1, Int.le_trans b28503.2 (by decide)⟩ (fun c28509 => ?_) (fun c28509 => ?_))
              · exfalso
                omega
              · have jn31333 : ∀ (v31331 : Int) (H31332 : wq_H), WT T H31332 → wfr [(42, 8), (42, 12)] T H23222 H31332 → (0 ≤ v31331 ∧ v31331 ≤ 900) → (H31332 r0 8 = xG 48 57 B n q) → (v31331 = H31332 r0 8 - q) → (3 < v31331 ∨ H31332 r0 12 = xV B n q) → wp kt 1 172 236 [(2, vI v31331), (0, .ref r0)] [] T H31332 (uq_172_k r0 rb B n a q T H) := by
                  intro v31331 H31332 w31334 f31335 b31336 x31337 x31338 x31339
                  have f31340 := f23225.tr f31335 rfl
                  refine wp_of e172 c172_236 (rw_iload_n (pc' := 237) (z := v31331) rfl rfl ?_)
                  refine wp_of e172 c172_237 (rw_iconst (pc' := 238) rfl ?_)
                  refine wp_of e172 c172_238 (rw_icmp_gt (p1 := 281) (p2 := 241) (by decide) rfl ⟨by omega, by omega⟩ ⟨by decide, by decide⟩ (fun c31341 => ?_) (fun c31341 => ?_))
                  · have k31342 : H31332 r0 9 = H23217 r0 9 := ((f31335 r0 9 _ g0 rfl).trans (wq_u_j e23223 rfl))
                    have k31343 : H31332 r0 7 = H23222 r0 7 := (f31335 r0 7 _ g0 rfl)
                    have k31344 : H31332 r0 13 = H r0 13 := ((f31335 r0 13 _ g0 rfl).trans ((wq_u_j e23223 rfl).trans ((wq_u_j e23218 rfl).trans ((wq_u_j e23213 rfl).trans (f23207 r0 13 _ g0 rfl)))))
                    have k31345 : H31332 r0 10 = H23212 r0 10 := ((f31335 r0 10 _ g0 rfl).trans ((wq_u_j e23223 rfl).trans (wq_u_j e23218 rfl)))
                    have k31346 : H31332 r0 11 = H23222 r0 11 := (f31335 r0 11 _ g0 rfl)
                    obtain ⟨kk, hk⟩ : ∃ x : Int, xK B n q = x := ⟨_, rfl⟩
                    obtain ⟨ke, he⟩ : ∃ x : Int, xE B n q = x := ⟨_, rfl⟩
                    first
                      | have hl := @xM1 B n q (by omega -splitDisjunctions) (by omega -splitDisjunctions) (by omega -splitDisjunctions) (by omega -splitDisjunctions)
                      | have hl := @xM5 B n q (by omega -splitDisjunctions) (by omega -splitDisjunctions) (by omega -splitDisjunctions) (by omega -splitDisjunctions)
                      | have hl := @xM2 B n q (by omega -splitDisjunctions) (by omega -splitDisjunctions) (by omega -splitDisjunctions) (by omega -splitDisjunctions)
                      | have hl := @xM6 B n q (by omega -splitDisjunctions) (by omega -splitDisjunctions) (by omega -splitDisjunctions) (by omega -splitDisjunctions)
                      | have hl := @xM0 B n q (by omega -splitDisjunctions)
                      | have hl := @xM3 B n q (by omega -splitDisjunctions) (by omega -splitDisjunctions) (by omega -splitDisjunctions)
                      | have hl := @xM4 B n q (by omega -splitDisjunctions) (by omega -splitDisjunctions) (by omega -splitDisjunctions)
                      | have hl := @xM7 B n q (by omega -splitDisjunctions) (by omega) (by omega) (by omega) (by omega)
                      | have hl := @xM1 B n q (by omega) (by omega) (by omega) (by omega)
                      | have hl := @xM5 B n q (by omega) (by omega) (by omega) (by omega)
                      | have hl := @xM2 B n q (by omega) (by omega) (by omega) (by omega)
                      | have hl := @xM6 B n q (by omega) (by omega) (by omega) (by omega)
                      | have hl := @xM0 B n q (by omega)
                      | have hl := @xM3 B n q (by omega) (by omega) (by omega)
                      | have hl := @xM4 B n q (by omega) (by omega) (by omega)
                      | have hl := @xM7 B n q (by omega) (by omega) (by omega) (by omega) (by omega)
                    have hk2 := hl.1.symm
                    have he2 := hl.2.symm
                    rw [hk] at hk2
                    rw [he] at he2
                    have k31347 : H31332 r0 5 = H23222 r0 5 := (f31335 r0 5 _ g0 rfl)
                    have q31348 : H31332 r0 5 = (rb : Int) := k31347.trans q23231
                    have h31349 : TM T H31332 rb B := (TM_fr w23224 grb f31335 rfl h23233)
                    exact wp_return e172 c172_281 rfl ⟨rfl, w31334, f31340, rfl, (RC_mk q31348 grb h31349 (by omega) (by rw [hk, ← hk2]; omega) (by omega) (by omega) (by omega) (by omega) (by omega))⟩
                  · refine wp_of e172 c172_241 (rw_aload_n (pc' := 242) (v := .ref r0) rfl rfl rfl ?_)
                    refine wp_of e172 c172_242 (rw_iconst (pc' := 243) rfl ?_)
                    refine wp_of e172 c172_243 (xp_I (pc' := 246) lf_9_75 w31334 g0 sh_42 (by decide) (by decide) ty_42_9 rfl rfl (by decide) (by decide) ⟨by decide, by decide⟩ rfl (fun H31350 e31351 w31352 => ?_))
                    have f31353 := f31340.put' e31351 g0 rfl
                    have k31354 : H31350 r0 9 = 3 := wq_u_s e31351
                    refine wp_of e172 c172_246 (rw_goto (p1 := 281) (by decide) ?_)
                    have k31355 : H31350 r0 8 = H31332 r0 8 := (wq_u_j e31351 rfl)
                    have k31356 : H31350 r0 7 = H23222 r0 7 := ((wq_u_j e31351 rfl).trans (f31335 r0 7 _ g0 rfl))
                    have k31357 : H31350 r0 13 = H r0 13 := ((wq_u_j e31351 rfl).trans ((f31335 r0 13 _ g0 rfl).trans ((wq_u_j e23223 rfl).trans ((wq_u_j e23218 rfl).trans ((wq_u_j e23213 rfl).trans (f23207 r0 13 _ g0 rfl))))))
                    have k31358 : H31350 r0 10 = H23212 r0 10 := ((wq_u_j e31351 rfl).trans ((f31335 r0 10 _ g0 rfl).trans ((wq_u_j e23223 rfl).trans (wq_u_j e23218 rfl))))
                    have k31359 : H31350 r0 12 = H31332 r0 12 := (wq_u_j e31351 rfl)
                    have k31360 : H31350 r0 11 = H23222 r0 11 := ((wq_u_j e31351 rfl).trans (f31335 r0 11 _ g0 rfl))
                    obtain ⟨kk, hk⟩ : ∃ x : Int, xK B n q = x := ⟨_, rfl⟩
                    obtain ⟨ke, he⟩ : ∃ x : Int, xE B n q = x := ⟨_, rfl⟩
                    first
                      | have hl := @xM1 B n q (by omega -splitDisjunctions) (by omega -splitDisjunctions) (by omega -splitDisjunctions) (by omega -splitDisjunctions)
                      | have hl := @xM5 B n q (by omega -splitDisjunctions) (by omega -splitDisjunctions) (by omega -splitDisjunctions) (by omega -splitDisjunctions)
                      | have hl := @xM2 B n q (by omega -splitDisjunctions) (by omega -splitDisjunctions) (by omega -splitDisjunctions) (by omega -splitDisjunctions)
                      | have hl := @xM6 B n q (by omega -splitDisjunctions) (by omega -splitDisjunctions) (by omega -splitDisjunctions) (by omega -splitDisjunctions)
                      | have hl := @xM0 B n q (by omega -splitDisjunctions)
                      | have hl := @xM3 B n q (by omega -splitDisjunctions) (by omega -splitDisjunctions) (by omega -splitDisjunctions)
                      | have hl := @xM4 B n q (by omega -splitDisjunctions) (by omega -splitDisjunctions) (by omega -splitDisjunctions)
                      | have hl := @xM7 B n q (by omega -splitDisjunctions) (by omega) (by omega) (by omega) (by omega)
                      | have hl := @xM1 B n q (by omega) (by omega) (by omega) (by omega)
                      | have hl := @xM5 B n q (by omega) (by omega) (by omega) (by omega)
                      | have hl := @xM2 B n q (by omega) (by omega) (by omega) (by omega)
                      | have hl := @xM6 B n q (by omega) (by omega) (by omega) (by omega)
                      | have hl := @xM0 B n q (by omega)
                      | have hl := @xM3 B n q (by omega) (by omega) (by omega)
                      | have hl := @xM4 B n q (by omega) (by omega) (by omega)
                      | have hl := @xM7 B n q (by omega) (by omega) (by omega) (by omega) (by omega)
                    have hk2 := hl.1.symm
                    have he2 := hl.2.symm
                    rw [hk] at hk2
                    rw [he] at he2
                    have k31361 : H31350 r0 5 = H23222 r0 5 := ((wq_u_j e31351 rfl).trans (f31335 r0 5 _ g0 rfl))
                    have q31362 : H31350 r0 5 = (rb : Int) := k31361.trans q23231
                    have h31363 : TM T H31350 rb B := (TM_fr w31334 grb ((wfr.rf (l := [(42, 9)])).put' e31351 g0 rfl) rfl (TM_fr w23224 grb f31335 rfl h23233))
                    exact wp_return e172 c172_281 rfl ⟨rfl, w31352, f31353, rfl, (RC_mk q31362 grb h31363 (by omega) (by rw [hk, ← hk2]; omega) (by omega) (by omega) (by omega) (by omega) (by omega))⟩
                have f31364 : wfr [(42, 8), (42, 12)] T H23222 H23222 := wfr.rf
                refine wp_of e172 c172_173 (rw_aload_n (pc' := 174) (v := .ref r0) rfl rfl rfl ?_)
                refine wp_of e172 c172_174 (rw_iconst (pc' := 175) rfl ?_)
                refine wp_of e172 c172_175 (xp_I (pc' := 178) lf_9_101 w23224 g0 sh_42 (by decide) (by decide) ty_42_12 rfl rfl (by decide) (by decide) ⟨by decide, by decide⟩ rfl (fun H31365 e31366 w31367 => ?_))
                have f31368 := f23225.put' e31366 g0 rfl
                have f31369 := f31364.put' e31366 g0 rfl
                have k31370 : H31365 r0 12 = 0 := wq_u_s e31366
                have k34027 : H31365 r0 8 = H23222 r0 8 := (wq_u_j e31366 rfl)
                have lp34021 : ∀ (n34022 : Nat) (v34024 : Int) (H34025 : wq_H) (p34026 : Int), WT T H34025 → wfr [(42, 8), (42, 12)] T H31365 H34025 → (0 ≤ v34024 ∧ v34024 ≤ 900) → (H34025 r0 8 = p34026) → (xG 48 57 B n p34026 = xG 48 57 B n q) → (q ≤ p34026) → (p34026 ≤ n) → (v34024 = p34026 - q) → (3 < p34026 - q ∨ H34025 r0 12 = xkf 10 48 B q (p34026 - q).toNat) → (900 - p34026).toNat = n34022 → wp kt 1 172 178 [(2, vI v34024), (0, .ref r0)] [] T H34025 (uq_172_k r0 rb B n a q T H) := by
                  intro n34022
                  induction n34022 using Nat.strongRecOn with
                  | _ n34022 ih34023 =>
                    intro v34024 H34025 p34026 w34028 f34029 b34030 x34032 x34033 x34034 x34035 x34036 x34037 m34031
                    have f34038 := f31368.tr f34029 rfl
                    have f34039 := f31369.tr f34029 rfl
                    have := @xG_b2 48 57 B n p34026 (by omega)
                    have := @xkf_V2 B n q p34026 (by omega)
                    refine wp_of e172 c172_178 (rw_aload_n (pc' := 179) (v := .ref r0) rfl rfl rfl ?_)
                    refine wp_of e172 c172_179 (rw_aload_n (pc' := 180) (v := .ref r0) rfl rfl rfl ?_)
                    refine wp_of e172 c172_180 (xg_I (pc' := 183) lf_9_78 w34028 g0 sh_42 (by decide) (by decide) ty_42_8 rfl rfl (fun b34040 b34041 => ?_))
                    have k34042 : H34025 r0 5 = H23222 r0 5 := ((f34029 r0 5 _ g0 rfl).trans (wq_u_j e31366 rfl))
                    have q34043 : H34025 r0 5 = (rb : Int) := k34042.trans q23231
                    have k34044 : H34025 r0 7 = H23222 r0 7 := ((f34029 r0 7 _ g0 rfl).trans (wq_u_j e31366 rfl))
                    have h34045 : TM T H34025 rb B := (TM_fr w31367 grb f34029 rfl (TM_fr w23224 grb ((wfr.rf (l := [(42, 12)])).put' e31366 g0 rfl) rfl h23233))
                    refine wp_of e172 c172_183 (xc_V (pc' := 186) (r := r0) (as := [vI (H34025 r0 8)]) (st := []) (lm_9_81) rfl rfl (Nat.le_of_ble_eq_true rfl) w34028 g0 sh_42 (by decide) rfl (by decide) (u_173 (B := B) (n := n) (y := p34026) w34028 g0 ⟨b34040, b34041⟩ q34043 grb (by omega) (by omega) h34045) (fun R34046 T34047 H34048 p34049 => ?_))
                    obtain ⟨e34050, e34052, z34053, e34051, b34054, p34055⟩ := p34049
                    subst e34050
                    subst e34051
                    subst e34052
                    rcases p34055 with ⟨a34056, a34057⟩ | ⟨a34058, a34059, a34060⟩ | ⟨a34061, a34062, a34063, a34064⟩
                    · show wp _ _ 172 186 [(2, vI v34024), (0, .ref r0)] [vI z34053] _ H34025 _
                      refine wp_of e172 c172_186 (xc_S (pc' := 189) (as := [vI z34053]) (st := []) (lm_9_98) rfl rfl (Nat.le_of_ble_eq_true rfl) rfl (by decide) (u_175  w34028 ⟨b34054.1, b34054.2⟩) (fun R34065 T34066 H34067 p34068 => ?_))
                      obtain ⟨e34069, e34071, z34072, e34070, b34073, p34074⟩ := p34068
                      subst e34069
                      subst e34070
                      subst e34071
                      rcases p34074 with ⟨a34075, a34076⟩ | ⟨a34077, a34078⟩
                      · exfalso
                        omega
                      · show wp _ _ 172 189 [(2, vI v34024), (0, .ref r0)] [vI z34072] _ H34025 _
                        refine wp_of e172 c172_189 (rw_if_eq (p1 := 236) (p2 := 192) (by decide) rfl ⟨Int.le_trans (by decide) b34073.1, Int.le_trans b34073.2 (by decide)⟩ (fun c34079 => ?_) (fun c34079 => ?_))
                        · have := @xG_e 48 57 B n p34026 (by omega)
                          have := @xV_of B n q p34026
                          exact wp_lc (ks := [2, 0]) (wl_c rfl (wl_c rfl wl_n)) rfl (by decide) (jn31333 v34024 H34025 w34028 f34039 ⟨by omega, by omega⟩ (by omega) (by omega) (by omega))
                        · exfalso
                          omega
                    · show wp _ _ 172 186 [(2, vI v34024), (0, .ref r0)] [vI z34053] _ H34025 _
                      refine wp_of e172 c172_186 (xc_S (pc' := 189) (as := [vI z34053]) (st := []) (lm_9_98) rfl rfl (Nat.le_of_ble_eq_true rfl) rfl (by decide) (u_175  w34028 ⟨b34054.1, b34054.2⟩) (fun R34080 T34081 H34082 p34083 => ?_))
                      obtain ⟨e34084, e34086, z34087, e34085, b34088, p34089⟩ := p34083
                      subst e34084
                      subst e34085
                      subst e34086
                      rcases p34089 with ⟨a34090, a34091⟩ | ⟨a34092, a34093⟩
                      · show wp _ _ 172 189 [(2, vI v34024), (0, .ref r0)] [vI z34087] _ H34025 _
                        refine wp_of e172 c172_189 (rw_if_eq (p1 := 236) (p2 := 192) (by decide) rfl ⟨Int.le_trans (by decide) b34088.1, Int.le_trans b34088.2 (by decide)⟩ (fun c34094 => ?_) (fun c34094 => ?_))
                        · exfalso
                          omega
                        · refine wp_of e172 c172_192 (rw_iload_n (pc' := 193) (z := v34024) rfl rfl ?_)
                          refine wp_of e172 c172_193 (rw_iconst (pc' := 194) rfl ?_)
                          refine wp_of e172 c172_194 (rw_icmp_ge (p1 := 220) (p2 := 197) (by decide) rfl ⟨Int.le_trans (by decide) b34030.1, Int.le_trans b34030.2 (by decide)⟩ ⟨by decide, by decide⟩ (fun c34095 => ?_) (fun c34095 => ?_))
                          · refine wp_of e172 c172_220 (rw_iinc (pc' := 223) (z := v34024) (L' := [(2, vI (v34024 + 1)), (0, .ref r0)]) rfl rfl rfl rfl ?_)
                            refine wp_of e172 c172_223 (rw_aload_n (pc' := 224) (v := .ref r0) rfl rfl rfl ?_)
                            refine wp_of e172 c172_224 (rw_dup (pc' := 225) rfl rfl ?_)
                            refine wp_of e172 c172_225 (xg_I (pc' := 228) lf_9_78 w34028 g0 sh_42 (by decide) (by decide) ty_42_8 rfl rfl (fun b34096 b34097 => ?_))
                            refine wp_of e172 c172_228 (rw_iconst (pc' := 229) rfl ?_)
                            refine wp_of e172 c172_229 (rw_iadd (pc' := 230) rfl ?_)
                            refine wp_of e172 c172_230 (xp_I (pc' := 233) lf_9_78 w34028 g0 sh_42 (by decide) (by decide) ty_42_8 rfl rfl (by omega) (by omega) ⟨by omega, by omega⟩ rfl (fun H34098 e34099 w34100 => ?_))
                            have f34101 := f34038.put' e34099 g0 rfl
                            have f34102 := f34039.put' e34099 g0 rfl
                            have f34103 := f34029.put' e34099 g0 rfl
                            have k34104 : H34098 r0 8 = (H34025 r0 8) + 1 := wq_u_s e34099
                            refine wp_of e172 c172_233 (rw_goto (p1 := 178) (by decide) ?_)
                            have k34105 : H34098 r0 12 = H34025 r0 12 := (wq_u_j e34099 rfl)
                            have := @xG_s 48 57 B n p34026 (by omega) (by omega) (by omega)
                            have := @xkf_s B q 10 48 p34026 (by omega)
                            exact wp_lc (ks := [2, 0]) (wl_c rfl (wl_c rfl wl_n)) rfl (by decide) (ih34023 _ (by omega) (v34024 + 1) H34098 ((p34026 + 1)) w34100 f34103 ⟨by omega, by omega⟩ (by omega) (by omega) (by omega) (by omega) (by omega) (by omega) rfl)
                          · refine wp_of e172 c172_197 (rw_aload_n (pc' := 198) (v := .ref r0) rfl rfl rfl ?_)
                            refine wp_of e172 c172_198 (rw_bipush (pc' := 200) (z := 10) rfl (by decide) ?_)
                            refine wp_of e172 c172_200 (rw_aload_n (pc' := 201) (v := .ref r0) rfl rfl rfl ?_)
                            refine wp_of e172 c172_201 (xg_I (pc' := 204) lf_9_101 w34028 g0 sh_42 (by decide) (by decide) ty_42_12 rfl rfl (fun b34106 b34107 => ?_))
                            refine wp_of e172 c172_204 (rw_imulw (pc' := 205) rfl ?_)
                            obtain ⟨v34108, e34109⟩ : ∃ x : Int, x = wq_w (10 * (H34025 r0 12)) := ⟨_, rfl⟩
                            rw [← e34109]
                            have b34110 : -2147483648 ≤ v34108 ∧ v34108 ≤ 2147483647 := by
                              rw [e34109]
                              exact wI_w _
                            have b34111 : (-2147483648 ≤ 10 * (H34025 r0 12) ∧ 10 * (H34025 r0 12) ≤ 2147483647) → v34108 = 10 * (H34025 r0 12) := fun h => by rw [e34109]; exact wq_w_id h
                            refine wp_of e172 c172_205 (rw_aload_n (pc' := 206) (v := .ref r0) rfl rfl rfl ?_)
                            refine wp_of e172 c172_206 (rw_aload_n (pc' := 207) (v := .ref r0) rfl rfl rfl ?_)
                            refine wp_of e172 c172_207 (xg_I (pc' := 210) lf_9_78 w34028 g0 sh_42 (by decide) (by decide) ty_42_8 rfl rfl (fun b34112 b34113 => ?_))
                            refine wp_of e172 c172_210 (xc_V (pc' := 213) (r := r0) (as := [vI (H34025 r0 8)]) (st := [vI v34108, .ref r0]) (lm_9_81) rfl rfl (Nat.le_of_ble_eq_true rfl) w34028 g0 sh_42 (by decide) rfl (by decide) (u_173 (B := B) (n := n) (y := p34026) w34028 g0 ⟨b34112, b34113⟩ q34043 grb (by omega) (by omega) h34045) (fun R34114 T34115 H34116 p34117 => ?_))
                            obtain ⟨e34118, e34120, z34121, e34119, b34122, p34123⟩ := p34117
                            subst e34118
                            subst e34119
                            subst e34120
                            rcases p34123 with ⟨a34124, a34125⟩ | ⟨a34126, a34127, a34128⟩ | ⟨a34129, a34130, a34131, a34132⟩
                            · exfalso
                              omega
                            · show wp _ _ 172 213 [(2, vI v34024), (0, .ref r0)] [vI z34121, vI v34108, .ref r0] _ H34025 _
                              refine wp_of e172 c172_213 (rw_iaddw (pc' := 214) rfl ?_)
                              obtain ⟨v34133, e34134⟩ : ∃ x : Int, x = wq_w (v34108 + z34121) := ⟨_, rfl⟩
                              rw [← e34134]
                              have b34135 : -2147483648 ≤ v34133 ∧ v34133 ≤ 2147483647 := by
                                rw [e34134]
                                exact wI_w _
                              have b34136 : (-2147483648 ≤ v34108 + z34121 ∧ v34108 + z34121 ≤ 2147483647) → v34133 = v34108 + z34121 := fun h => by rw [e34134]; exact wq_w_id h
                              refine wp_of e172 c172_214 (rw_bipush (pc' := 216) (z := 48) rfl (by decide) ?_)
                              refine wp_of e172 c172_216 (rw_isubw (pc' := 217) rfl ?_)
                              obtain ⟨v34137, e34138⟩ : ∃ x : Int, x = wq_w (v34133 - 48) := ⟨_, rfl⟩
                              rw [← e34138]
                              have b34139 : -2147483648 ≤ v34137 ∧ v34137 ≤ 2147483647 := by
                                rw [e34138]
                                exact wI_w _
                              have b34140 : (-2147483648 ≤ v34133 - 48 ∧ v34133 - 48 ≤ 2147483647) → v34137 = v34133 - 48 := fun h => by rw [e34138]; exact wq_w_id h
                              refine wp_of e172 c172_217 (xp_I (pc' := 220) lf_9_101 w34028 g0 sh_42 (by decide) (by decide) ty_42_12 rfl rfl (b34139.1) (b34139.2) ⟨b34139.1, b34139.2⟩ rfl (fun H34141 e34142 w34143 => ?_))
                              have f34144 := f34038.put' e34142 g0 rfl
                              have f34145 := f34039.put' e34142 g0 rfl
                              have f34146 := f34029.put' e34142 g0 rfl
                              have k34147 : H34141 r0 12 = v34137 := wq_u_s e34142
                              refine wp_of e172 c172_220 (rw_iinc (pc' := 223) (z := v34024) (L' := [(2, vI (v34024 + 1)), (0, .ref r0)]) rfl rfl rfl rfl ?_)
                              refine wp_of e172 c172_223 (rw_aload_n (pc' := 224) (v := .ref r0) rfl rfl rfl ?_)
                              refine wp_of e172 c172_224 (rw_dup (pc' := 225) rfl rfl ?_)
                              have k34148 : H34141 r0 8 = H34025 r0 8 := (wq_u_j e34142 rfl)
                              refine wp_of e172 c172_225 (xg_I (pc' := 228) lf_9_78 w34143 g0 sh_42 (by decide) (by decide) ty_42_8 rfl rfl (fun b34149 b34150 => ?_))
                              refine wp_of e172 c172_228 (rw_iconst (pc' := 229) rfl ?_)
                              refine wp_of e172 c172_229 (rw_iadd (pc' := 230) rfl ?_)
                              refine wp_of e172 c172_230 (xp_I (pc' := 233) lf_9_78 w34143 g0 sh_42 (by decide) (by decide) ty_42_8 rfl rfl (by omega) (by omega) ⟨by omega, by omega⟩ rfl (fun H34151 e34152 w34153 => ?_))
                              have f34154 := f34144.put' e34152 g0 rfl
                              have f34155 := f34145.put' e34152 g0 rfl
                              have f34156 := f34146.put' e34152 g0 rfl
                              have k34157 : H34151 r0 8 = (H34141 r0 8) + 1 := wq_u_s e34152
                              refine wp_of e172 c172_233 (rw_goto (p1 := 178) (by decide) ?_)
                              have k34158 : H34151 r0 12 = H34141 r0 12 := (wq_u_j e34152 rfl)
                              have := @xG_s 48 57 B n p34026 (by omega) (by omega) (by omega)
                              have := @xkf_s B q 10 48 p34026 (by omega)
                              exact wp_lc (ks := [2, 0]) (wl_c rfl (wl_c rfl wl_n)) rfl (by decide) (ih34023 _ (by omega) (v34024 + 1) H34151 ((p34026 + 1)) w34153 f34156 ⟨by omega, by omega⟩ (by omega) (by omega) (by omega) (by omega) (by omega) (by omega) rfl)
                            · exfalso
                              omega
                      · show wp _ _ 172 189 [(2, vI v34024), (0, .ref r0)] [vI z34087] _ H34025 _
                        refine wp_of e172 c172_189 (rw_if_eq (p1 := 236) (p2 := 192) (by decide) rfl ⟨Int.le_trans (by decide) b34088.1, Int.le_trans b34088.2 (by decide)⟩ (fun c34159 => ?_) (fun c34159 => ?_))
                        · have := @xG_e 48 57 B n p34026 (by omega)
                          have := @xV_of B n q p34026
                          exact wp_lc (ks := [2, 0]) (wl_c rfl (wl_c rfl wl_n)) rfl (by decide) (jn31333 v34024 H34025 w34028 f34039 ⟨by omega, by omega⟩ (by omega) (by omega) (by omega))
                        · exfalso
                          omega
                    · show wp _ _ 172 186 [(2, vI v34024), (0, .ref r0)] [vI z34053] _ H34025 _
                      refine wp_of e172 c172_186 (xc_S (pc' := 189) (as := [vI z34053]) (st := []) (lm_9_98) rfl rfl (Nat.le_of_ble_eq_true rfl) rfl (by decide) (u_175  w34028 ⟨b34054.1, b34054.2⟩) (fun R34160 T34161 H34162 p34163 => ?_))
                      obtain ⟨e34164, e34166, z34167, e34165, b34168, p34169⟩ := p34163
                      subst e34164
                      subst e34165
                      subst e34166
                      rcases p34169 with ⟨a34170, a34171⟩ | ⟨a34172, a34173⟩
                      · exfalso
                        omega
                      · show wp _ _ 172 189 [(2, vI v34024), (0, .ref r0)] [vI z34167] _ H34025 _
                        refine wp_of e172 c172_189 (rw_if_eq (p1 := 236) (p2 := 192) (by decide) rfl ⟨Int.le_trans (by decide) b34168.1, Int.le_trans b34168.2 (by decide)⟩ (fun c34174 => ?_) (fun c34174 => ?_))
                        · have := @xG_e 48 57 B n p34026 (by omega)
                          have := @xV_of B n q p34026
                          exact wp_lc (ks := [2, 0]) (wl_c rfl (wl_c rfl wl_n)) rfl (by decide) (jn31333 v34024 H34025 w34028 f34039 ⟨by omega, by omega⟩ (by omega) (by omega) (by omega))
                        · exfalso
                          omega
                have := @xkf_q B q q 10 48
                exact wp_lc (ks := [2, 1, 0]) (wl_c rfl (wl_c rfl wl_n)) rfl (by decide) (lp34021 _ 0 H31365 q w31367 wfr.rf ⟨by decide, by decide⟩ (by omega) (by omega) (by omega) (by omega) (by omega) (by omega) rfl)
            · show wp _ _ 172 170 [(2, vI 0), (1, vI z23241), (0, .ref r0)] [vI z28502] _ H23222 _
              refine wp_of e172 c172_170 (rw_if_eq (p1 := 249) (p2 := 173) (by decide) rfl ⟨Int.le_trans (by decide) b28503.1, Int.le_trans b28503.2 (by decide)⟩ (fun c34175 => ?_) (fun c34175 => ?_))
              · refine wp_of e172 c172_249 (rw_iload_n (pc' := 250) (z := z23241) rfl rfl ?_)
                refine wp_of e172 c172_250 (rw_bipush (pc' := 252) (z := 59) rfl (by decide) ?_)
                refine wp_of e172 c172_252 (rw_icmp_eq (p1 := 261) (p2 := 255) (by decide) rfl ⟨b23242.1, b23242.2⟩ ⟨by decide, by decide⟩ (fun c34176 => ?_) (fun c34176 => ?_))
                · refine wp_of e172 c172_261 (rw_aload_n (pc' := 262) (v := .ref r0) rfl rfl rfl ?_)
                  refine wp_of e172 c172_262 (rw_iconst (pc' := 263) rfl ?_)
                  refine wp_of e172 c172_263 (xp_I (pc' := 266) lf_9_75 w23224 g0 sh_42 (by decide) (by decide) ty_42_9 rfl rfl (by decide) (by decide) ⟨by decide, by decide⟩ rfl (fun H34177 e34178 w34179 => ?_))
                  have f34180 := f23225.put' e34178 g0 rfl
                  have k34181 : H34177 r0 9 = 4 := wq_u_s e34178
                  refine wp_of e172 c172_266 (rw_aload_n (pc' := 267) (v := .ref r0) rfl rfl rfl ?_)
                  refine wp_of e172 c172_267 (rw_iload_n (pc' := 268) (z := z23241) rfl rfl ?_)
                  refine wp_of e172 c172_268 (xp_I (pc' := 271) lf_9_87 w34179 g0 sh_42 (by decide) (by decide) ty_42_11 rfl rfl (b23242.1) (b23242.2) ⟨b23242.1, b23242.2⟩ rfl (fun H34182 e34183 w34184 => ?_))
                  have f34185 := f34180.put' e34183 g0 rfl
                  have k34186 : H34182 r0 11 = z23241 := wq_u_s e34183
                  refine wp_of e172 c172_271 (rw_aload_n (pc' := 272) (v := .ref r0) rfl rfl rfl ?_)
                  refine wp_of e172 c172_272 (rw_dup (pc' := 273) rfl rfl ?_)
                  have k34187 : H34182 r0 8 = H23222 r0 8 := ((wq_u_j e34183 rfl).trans (wq_u_j e34178 rfl))
                  refine wp_of e172 c172_273 (xg_I (pc' := 276) lf_9_78 w34184 g0 sh_42 (by decide) (by decide) ty_42_8 rfl rfl (fun b34188 b34189 => ?_))
                  refine wp_of e172 c172_276 (rw_iconst (pc' := 277) rfl ?_)
                  refine wp_of e172 c172_277 (rw_iadd (pc' := 278) rfl ?_)
                  refine wp_of e172 c172_278 (xp_I (pc' := 281) lf_9_78 w34184 g0 sh_42 (by decide) (by decide) ty_42_8 rfl rfl (by omega) (by omega) ⟨by omega, by omega⟩ rfl (fun H34190 e34191 w34192 => ?_))
                  have f34193 := f34185.put' e34191 g0 rfl
                  have k34194 : H34190 r0 8 = (H34182 r0 8) + 1 := wq_u_s e34191
                  have k34195 : H34190 r0 9 = H34177 r0 9 := ((wq_u_j e34191 rfl).trans (wq_u_j e34183 rfl))
                  have k34196 : H34190 r0 7 = H23222 r0 7 := ((wq_u_j e34191 rfl).trans ((wq_u_j e34183 rfl).trans (wq_u_j e34178 rfl)))
                  have k34197 : H34190 r0 13 = H r0 13 := ((wq_u_j e34191 rfl).trans ((wq_u_j e34183 rfl).trans ((wq_u_j e34178 rfl).trans ((wq_u_j e23223 rfl).trans ((wq_u_j e23218 rfl).trans ((wq_u_j e23213 rfl).trans (f23207 r0 13 _ g0 rfl)))))))
                  have k34198 : H34190 r0 10 = H23212 r0 10 := ((wq_u_j e34191 rfl).trans ((wq_u_j e34183 rfl).trans ((wq_u_j e34178 rfl).trans ((wq_u_j e23223 rfl).trans (wq_u_j e23218 rfl)))))
                  have k34199 : H34190 r0 11 = H34182 r0 11 := (wq_u_j e34191 rfl)
                  obtain ⟨kk, hk⟩ : ∃ x : Int, xK B n q = x := ⟨_, rfl⟩
                  obtain ⟨ke, he⟩ : ∃ x : Int, xE B n q = x := ⟨_, rfl⟩
                  first
                    | have hl := @xM1 B n q (by omega -splitDisjunctions) (by omega -splitDisjunctions) (by omega -splitDisjunctions) (by omega -splitDisjunctions)
                    | have hl := @xM5 B n q (by omega -splitDisjunctions) (by omega -splitDisjunctions) (by omega -splitDisjunctions) (by omega -splitDisjunctions)
                    | have hl := @xM2 B n q (by omega -splitDisjunctions) (by omega -splitDisjunctions) (by omega -splitDisjunctions) (by omega -splitDisjunctions)
                    | have hl := @xM6 B n q (by omega -splitDisjunctions) (by omega -splitDisjunctions) (by omega -splitDisjunctions) (by omega -splitDisjunctions)
                    | have hl := @xM0 B n q (by omega -splitDisjunctions)
                    | have hl := @xM3 B n q (by omega -splitDisjunctions) (by omega -splitDisjunctions) (by omega -splitDisjunctions)
                    | have hl := @xM4 B n q (by omega -splitDisjunctions) (by omega -splitDisjunctions) (by omega -splitDisjunctions)
                    | have hl := @xM7 B n q (by omega -splitDisjunctions) (by omega) (by omega) (by omega) (by omega)
                    | have hl := @xM1 B n q (by omega) (by omega) (by omega) (by omega)
                    | have hl := @xM5 B n q (by omega) (by omega) (by omega) (by omega)
                    | have hl := @xM2 B n q (by omega) (by omega) (by omega) (by omega)
                    | have hl := @xM6 B n q (by omega) (by omega) (by omega) (by omega)
                    | have hl := @xM0 B n q (by omega)
                    | have hl := @xM3 B n q (by omega) (by omega) (by omega)
                    | have hl := @xM4 B n q (by omega) (by omega) (by omega)
                    | have hl := @xM7 B n q (by omega) (by omega) (by omega) (by omega) (by omega)
                  have hk2 := hl.1.symm
                  have he2 := hl.2.symm
                  rw [hk] at hk2
                  rw [he] at he2
                  have k34200 : H34190 r0 5 = H23222 r0 5 := ((wq_u_j e34191 rfl).trans ((wq_u_j e34183 rfl).trans (wq_u_j e34178 rfl)))
                  have q34201 : H34190 r0 5 = (rb : Int) := k34200.trans q23231
                  have h34202 : TM T H34190 rb B := (TM_fr w34184 grb ((wfr.rf (l := [(42, 8)])).put' e34191 g0 rfl) rfl (TM_fr w34179 grb ((wfr.rf (l := [(42, 11)])).put' e34183 g0 rfl) rfl (TM_fr w23224 grb ((wfr.rf (l := [(42, 9)])).put' e34178 g0 rfl) rfl h23233)))
                  exact wp_return e172 c172_281 rfl ⟨rfl, w34192, f34193, rfl, (RC_mk q34201 grb h34202 (by omega) (by rw [hk, ← hk2]; omega) (by omega) (by omega) (by omega) (by omega) (by omega))⟩
                · refine wp_of e172 c172_255 (rw_iload_n (pc' := 256) (z := z23241) rfl rfl ?_)
                  refine wp_of e172 c172_256 (rw_bipush (pc' := 258) (z := 44) rfl (by decide) ?_)
                  refine wp_of e172 c172_258 (rw_icmp_ne (p1 := 281) (p2 := 261) (by decide) rfl ⟨b23242.1, b23242.2⟩ ⟨by decide, by decide⟩ (fun c34203 => ?_) (fun c34203 => ?_))
                  · have k34204 : H23222 r0 9 = H23217 r0 9 := (wq_u_j e23223 rfl)
                    have k34205 : H23222 r0 13 = H r0 13 := ((wq_u_j e23223 rfl).trans ((wq_u_j e23218 rfl).trans ((wq_u_j e23213 rfl).trans (f23207 r0 13 _ g0 rfl))))
                    have k34206 : H23222 r0 10 = H23212 r0 10 := ((wq_u_j e23223 rfl).trans (wq_u_j e23218 rfl))
                    obtain ⟨kk, hk⟩ : ∃ x : Int, xK B n q = x := ⟨_, rfl⟩
                    obtain ⟨ke, he⟩ : ∃ x : Int, xE B n q = x := ⟨_, rfl⟩
                    first
                      | have hl := @xM1 B n q (by omega -splitDisjunctions) (by omega -splitDisjunctions) (by omega -splitDisjunctions) (by omega -splitDisjunctions)
                      | have hl := @xM5 B n q (by omega -splitDisjunctions) (by omega -splitDisjunctions) (by omega -splitDisjunctions) (by omega -splitDisjunctions)
                      | have hl := @xM2 B n q (by omega -splitDisjunctions) (by omega -splitDisjunctions) (by omega -splitDisjunctions) (by omega -splitDisjunctions)
                      | have hl := @xM6 B n q (by omega -splitDisjunctions) (by omega -splitDisjunctions) (by omega -splitDisjunctions) (by omega -splitDisjunctions)
                      | have hl := @xM0 B n q (by omega -splitDisjunctions)
                      | have hl := @xM3 B n q (by omega -splitDisjunctions) (by omega -splitDisjunctions) (by omega -splitDisjunctions)
                      | have hl := @xM4 B n q (by omega -splitDisjunctions) (by omega -splitDisjunctions) (by omega -splitDisjunctions)
                      | have hl := @xM7 B n q (by omega -splitDisjunctions) (by omega) (by omega) (by omega) (by omega)
                      | have hl := @xM1 B n q (by omega) (by omega) (by omega) (by omega)
                      | have hl := @xM5 B n q (by omega) (by omega) (by omega) (by omega)
                      | have hl := @xM2 B n q (by omega) (by omega) (by omega) (by omega)
                      | have hl := @xM6 B n q (by omega) (by omega) (by omega) (by omega)
                      | have hl := @xM0 B n q (by omega)
                      | have hl := @xM3 B n q (by omega) (by omega) (by omega)
                      | have hl := @xM4 B n q (by omega) (by omega) (by omega)
                      | have hl := @xM7 B n q (by omega) (by omega) (by omega) (by omega) (by omega)
                    have hk2 := hl.1.symm
                    have he2 := hl.2.symm
                    rw [hk] at hk2
                    rw [he] at he2
                    exact wp_return e172 c172_281 rfl ⟨rfl, w23224, f23225, rfl, (RC_mk q23231 grb h23233 (by omega) (by rw [hk, ← hk2]; omega) (by omega) (by omega) (by omega) (by omega) (by omega))⟩
                  · refine wp_of e172 c172_261 (rw_aload_n (pc' := 262) (v := .ref r0) rfl rfl rfl ?_)
                    refine wp_of e172 c172_262 (rw_iconst (pc' := 263) rfl ?_)
                    refine wp_of e172 c172_263 (xp_I (pc' := 266) lf_9_75 w23224 g0 sh_42 (by decide) (by decide) ty_42_9 rfl rfl (by decide) (by decide) ⟨by decide, by decide⟩ rfl (fun H34207 e34208 w34209 => ?_))
                    have f34210 := f23225.put' e34208 g0 rfl
                    have k34211 : H34207 r0 9 = 4 := wq_u_s e34208
                    refine wp_of e172 c172_266 (rw_aload_n (pc' := 267) (v := .ref r0) rfl rfl rfl ?_)
                    refine wp_of e172 c172_267 (rw_iload_n (pc' := 268) (z := z23241) rfl rfl ?_)
                    refine wp_of e172 c172_268 (xp_I (pc' := 271) lf_9_87 w34209 g0 sh_42 (by decide) (by decide) ty_42_11 rfl rfl (b23242.1) (b23242.2) ⟨b23242.1, b23242.2⟩ rfl (fun H34212 e34213 w34214 => ?_))
                    have f34215 := f34210.put' e34213 g0 rfl
                    have k34216 : H34212 r0 11 = z23241 := wq_u_s e34213
                    refine wp_of e172 c172_271 (rw_aload_n (pc' := 272) (v := .ref r0) rfl rfl rfl ?_)
                    refine wp_of e172 c172_272 (rw_dup (pc' := 273) rfl rfl ?_)
                    have k34217 : H34212 r0 8 = H23222 r0 8 := ((wq_u_j e34213 rfl).trans (wq_u_j e34208 rfl))
                    refine wp_of e172 c172_273 (xg_I (pc' := 276) lf_9_78 w34214 g0 sh_42 (by decide) (by decide) ty_42_8 rfl rfl (fun b34218 b34219 => ?_))
                    refine wp_of e172 c172_276 (rw_iconst (pc' := 277) rfl ?_)
                    refine wp_of e172 c172_277 (rw_iadd (pc' := 278) rfl ?_)
                    refine wp_of e172 c172_278 (xp_I (pc' := 281) lf_9_78 w34214 g0 sh_42 (by decide) (by decide) ty_42_8 rfl rfl (by omega) (by omega) ⟨by omega, by omega⟩ rfl (fun H34220 e34221 w34222 => ?_))
                    have f34223 := f34215.put' e34221 g0 rfl
                    have k34224 : H34220 r0 8 = (H34212 r0 8) + 1 := wq_u_s e34221
                    have k34225 : H34220 r0 9 = H34207 r0 9 := ((wq_u_j e34221 rfl).trans (wq_u_j e34213 rfl))
                    have k34226 : H34220 r0 7 = H23222 r0 7 := ((wq_u_j e34221 rfl).trans ((wq_u_j e34213 rfl).trans (wq_u_j e34208 rfl)))
                    have k34227 : H34220 r0 13 = H r0 13 := ((wq_u_j e34221 rfl).trans ((wq_u_j e34213 rfl).trans ((wq_u_j e34208 rfl).trans ((wq_u_j e23223 rfl).trans ((wq_u_j e23218 rfl).trans ((wq_u_j e23213 rfl).trans (f23207 r0 13 _ g0 rfl)))))))
                    have k34228 : H34220 r0 10 = H23212 r0 10 := ((wq_u_j e34221 rfl).trans ((wq_u_j e34213 rfl).trans ((wq_u_j e34208 rfl).trans ((wq_u_j e23223 rfl).trans (wq_u_j e23218 rfl)))))
                    have k34229 : H34220 r0 11 = H34212 r0 11 := (wq_u_j e34221 rfl)
                    obtain ⟨kk, hk⟩ : ∃ x : Int, xK B n q = x := ⟨_, rfl⟩
                    obtain ⟨ke, he⟩ : ∃ x : Int, xE B n q = x := ⟨_, rfl⟩
                    first
                      | have hl := @xM1 B n q (by omega -splitDisjunctions) (by omega -splitDisjunctions) (by omega -splitDisjunctions) (by omega -splitDisjunctions)
                      | have hl := @xM5 B n q (by omega -splitDisjunctions) (by omega -splitDisjunctions) (by omega -splitDisjunctions) (by omega -splitDisjunctions)
                      | have hl := @xM2 B n q (by omega -splitDisjunctions) (by omega -splitDisjunctions) (by omega -splitDisjunctions) (by omega -splitDisjunctions)
                      | have hl := @xM6 B n q (by omega -splitDisjunctions) (by omega -splitDisjunctions) (by omega -splitDisjunctions) (by omega -splitDisjunctions)
                      | have hl := @xM0 B n q (by omega -splitDisjunctions)
                      | have hl := @xM3 B n q (by omega -splitDisjunctions) (by omega -splitDisjunctions) (by omega -splitDisjunctions)
                      | have hl := @xM4 B n q (by omega -splitDisjunctions) (by omega -splitDisjunctions) (by omega -splitDisjunctions)
                      | have hl := @xM7 B n q (by omega -splitDisjunctions) (by omega) (by omega) (by omega) (by omega)
                      | have hl := @xM1 B n q (by omega) (by omega) (by omega) (by omega)
                      | have hl := @xM5 B n q (by omega) (by omega) (by omega) (by omega)
                      | have hl := @xM2 B n q (by omega) (by omega) (by omega) (by omega)
                      | have hl := @xM6 B n q (by omega) (by omega) (by omega) (by omega)
                      | have hl := @xM0 B n q (by omega)
                      | have hl := @xM3 B n q (by omega) (by omega) (by omega)
                      | have hl := @xM4 B n q (by omega) (by omega) (by omega)
                      | have hl := @xM7 B n q (by omega) (by omega) (by omega) (by omega) (by omega)
                    have hk2 := hl.1.symm
                    have he2 := hl.2.symm
                    rw [hk] at hk2
                    rw [he] at he2
                    have k34230 : H34220 r0 5 = H23222 r0 5 := ((wq_u_j e34221 rfl).trans ((wq_u_j e34213 rfl).trans (wq_u_j e34208 rfl)))
                    have q34231 : H34220 r0 5 = (rb : Int) := k34230.trans q23231
                    have h34232 : TM T H34220 rb B := (TM_fr w34214 grb ((wfr.rf (l := [(42, 8)])).put' e34221 g0 rfl) rfl (TM_fr w34209 grb ((wfr.rf (l := [(42, 11)])).put' e34213 g0 rfl) rfl (TM_fr w23224 grb ((wfr.rf (l := [(42, 9)])).put' e34208 g0 rfl) rfl h23233)))
                    exact wp_return e172 c172_281 rfl ⟨rfl, w34222, f34223, rfl, (RC_mk q34231 grb h34232 (by omega) (by rw [hk, ← hk2]; omega) (by omega) (by omega) (by omega) (by omega) (by omega))⟩
              · exfalso
                omega
          · exfalso
            omega
      · exfalso
        omega
    · show wp _ _ 172 61 [(0, .ref r0)] [vI z23241] _ H23222 _
      refine wp_of e172 c172_61 (rw_istore_n (pc' := 62) (z := z23241) (L' := [(1, vI z23241), (0, .ref r0)]) rfl rfl rfl ?_)
      refine wp_of e172 c172_62 (rw_iconst (pc' := 63) rfl ?_)
      refine wp_of e172 c172_63 (rw_istore_n (pc' := 64) (z := 0) (L' := [(2, vI 0), (1, vI z23241), (0, .ref r0)]) rfl rfl rfl ?_)
      refine wp_of e172 c172_64 (rw_iload_n (pc' := 65) (z := z23241) rfl rfl ?_)
      refine wp_of e172 c172_65 (rw_iconst (pc' := 66) rfl ?_)
      refine wp_of e172 c172_66 (rw_icmp_ne (p1 := 77) (p2 := 69) (by decide) rfl ⟨b23242.1, b23242.2⟩ ⟨by decide, by decide⟩ (fun c34233 => ?_) (fun c34233 => ?_))
      · refine wp_of e172 c172_77 (rw_iload_n (pc' := 78) (z := z23241) rfl rfl ?_)
        refine wp_of e172 c172_78 (xc_S (pc' := 81) (as := [vI z23241]) (st := []) (lm_9_90) rfl rfl (Nat.le_of_ble_eq_true rfl) rfl (by decide) (u_174  w23224 ⟨b23242.1, b23242.2⟩) (fun R34234 T34235 H34236 p34237 => ?_))
        obtain ⟨e34238, e34240, z34241, e34239, b34242, p34243⟩ := p34237
        subst e34238
        subst e34239
        subst e34240
        rcases p34243 with ⟨a34244, a34245⟩ | ⟨a34246, a34247⟩
        · exfalso
          omega
        · show wp _ _ 172 81 [(2, vI 0), (1, vI z23241), (0, .ref r0)] [vI z34241] _ H23222 _
          refine wp_of e172 c172_81 (rw_if_eq (p1 := 166) (p2 := 84) (by decide) rfl ⟨Int.le_trans (by decide) b34242.1, Int.le_trans b34242.2 (by decide)⟩ (fun c34248 => ?_) (fun c34248 => ?_))
          · refine wp_of e172 c172_166 (rw_iload_n (pc' := 167) (z := z23241) rfl rfl ?_)
            refine wp_of e172 c172_167 (xc_S (pc' := 170) (as := [vI z23241]) (st := []) (lm_9_98) rfl rfl (Nat.le_of_ble_eq_true rfl) rfl (by decide) (u_175  w23224 ⟨b23242.1, b23242.2⟩) (fun R34249 T34250 H34251 p34252 => ?_))
            obtain ⟨e34253, e34255, z34256, e34254, b34257, p34258⟩ := p34252
            subst e34253
            subst e34254
            subst e34255
            rcases p34258 with ⟨a34259, a34260⟩ | ⟨a34261, a34262⟩
            · exfalso
              omega
            · show wp _ _ 172 170 [(2, vI 0), (1, vI z23241), (0, .ref r0)] [vI z34256] _ H23222 _
              refine wp_of e172 c172_170 (rw_if_eq (p1 := 249) (p2 := 173) (by decide) rfl ⟨Int.le_trans (by decide) b34257.1, Int.le_trans b34257.2 (by decide)⟩ (fun c34263 => ?_) (fun c34263 => ?_))
              · refine wp_of e172 c172_249 (rw_iload_n (pc' := 250) (z := z23241) rfl rfl ?_)
                refine wp_of e172 c172_250 (rw_bipush (pc' := 252) (z := 59) rfl (by decide) ?_)
                refine wp_of e172 c172_252 (rw_icmp_eq (p1 := 261) (p2 := 255) (by decide) rfl ⟨b23242.1, b23242.2⟩ ⟨by decide, by decide⟩ (fun c34264 => ?_) (fun c34264 => ?_))
                · exfalso
                  omega
                · refine wp_of e172 c172_255 (rw_iload_n (pc' := 256) (z := z23241) rfl rfl ?_)
                  refine wp_of e172 c172_256 (rw_bipush (pc' := 258) (z := 44) rfl (by decide) ?_)
                  refine wp_of e172 c172_258 (rw_icmp_ne (p1 := 281) (p2 := 261) (by decide) rfl ⟨b23242.1, b23242.2⟩ ⟨by decide, by decide⟩ (fun c34265 => ?_) (fun c34265 => ?_))
                  · have k34266 : H23222 r0 9 = H23217 r0 9 := (wq_u_j e23223 rfl)
                    have k34267 : H23222 r0 13 = H r0 13 := ((wq_u_j e23223 rfl).trans ((wq_u_j e23218 rfl).trans ((wq_u_j e23213 rfl).trans (f23207 r0 13 _ g0 rfl))))
                    have k34268 : H23222 r0 10 = H23212 r0 10 := ((wq_u_j e23223 rfl).trans (wq_u_j e23218 rfl))
                    obtain ⟨kk, hk⟩ : ∃ x : Int, xK B n q = x := ⟨_, rfl⟩
                    obtain ⟨ke, he⟩ : ∃ x : Int, xE B n q = x := ⟨_, rfl⟩
                    first
                      | have hl := @xM1 B n q (by omega -splitDisjunctions) (by omega -splitDisjunctions) (by omega -splitDisjunctions) (by omega -splitDisjunctions)
                      | have hl := @xM5 B n q (by omega -splitDisjunctions) (by omega -splitDisjunctions) (by omega -splitDisjunctions) (by omega -splitDisjunctions)
                      | have hl := @xM2 B n q (by omega -splitDisjunctions) (by omega -splitDisjunctions) (by omega -splitDisjunctions) (by omega -splitDisjunctions)
                      | have hl := @xM6 B n q (by omega -splitDisjunctions) (by omega -splitDisjunctions) (by omega -splitDisjunctions) (by omega -splitDisjunctions)
                      | have hl := @xM0 B n q (by omega -splitDisjunctions)
                      | have hl := @xM3 B n q (by omega -splitDisjunctions) (by omega -splitDisjunctions) (by omega -splitDisjunctions)
                      | have hl := @xM4 B n q (by omega -splitDisjunctions) (by omega -splitDisjunctions) (by omega -splitDisjunctions)
                      | have hl := @xM7 B n q (by omega -splitDisjunctions) (by omega) (by omega) (by omega) (by omega)
                      | have hl := @xM1 B n q (by omega) (by omega) (by omega) (by omega)
                      | have hl := @xM5 B n q (by omega) (by omega) (by omega) (by omega)
                      | have hl := @xM2 B n q (by omega) (by omega) (by omega) (by omega)
                      | have hl := @xM6 B n q (by omega) (by omega) (by omega) (by omega)
                      | have hl := @xM0 B n q (by omega)
                      | have hl := @xM3 B n q (by omega) (by omega) (by omega)
                      | have hl := @xM4 B n q (by omega) (by omega) (by omega)
                      | have hl := @xM7 B n q (by omega) (by omega) (by omega) (by omega) (by omega)
                    have hk2 := hl.1.symm
                    have he2 := hl.2.symm
                    rw [hk] at hk2
                    rw [he] at he2
                    exact wp_return e172 c172_281 rfl ⟨rfl, w23224, f23225, rfl, (RC_mk q23231 grb h23233 (by omega) (by rw [hk, ← hk2]; omega) (by omega) (by omega) (by omega) (by omega) (by omega))⟩
                  · exfalso
                    omega
              · exfalso
                omega
          · exfalso
            omega
      · exfalso
        omega
  have f34269 : wfr [(42, 8)] T H H := wfr.rf
  refine wp_of e172 c172_5 (rw_icmp_ne (p1 := 9) (p2 := 8) (by decide) rfl ⟨Int.le_trans (by decide) b23097, Int.le_trans b23098 (by decide)⟩ ⟨by decide, by decide⟩ (fun c34270 => ?_) (fun c34270 => ?_))
  · have lp34342 : ∀ (n34343 : Nat)  (H34345 : wq_H) (p34346 : Int), WT T H34345 → wfr [(42, 8)] T H H34345 → (H34345 r0 8 = p34346) → (xG 32 32 B n p34346 = q) → (p34346 ≤ n) → (a ≤ p34346) → (900 - p34346).toNat = n34343 → wp kt 1 172 9 [(0, .ref r0)] [] T H34345 (uq_172_k r0 rb B n a q T H) := by
      intro n34343
      induction n34343 using Nat.strongRecOn with
      | _ n34343 ih34344 =>
        intro H34345 p34346 w34347 f34348 x34350 x34351 x34352 x34353 m34349
        have f34354 := f0.tr f34348 rfl
        have f34355 := f34269.tr f34348 rfl
        refine wp_of e172 c172_9 (rw_aload_n (pc' := 10) (v := .ref r0) rfl rfl rfl ?_)
        refine wp_of e172 c172_10 (rw_aload_n (pc' := 11) (v := .ref r0) rfl rfl rfl ?_)
        refine wp_of e172 c172_11 (xg_I (pc' := 14) lf_9_78 w34347 g0 sh_42 (by decide) (by decide) ty_42_8 rfl rfl (fun b34356 b34357 => ?_))
        have k34358 : H34345 r0 5 = H r0 5 := (f34348 r0 5 _ g0 rfl)
        have q34359 : H34345 r0 5 = (rb : Int) := k34358.trans qrb
        have k34360 : H34345 r0 7 = H r0 7 := (f34348 r0 7 _ g0 rfl)
        have h34361 : TM T H34345 rb B := (TM_fr hW grb f34348 rfl hTM_rb)
        refine wp_of e172 c172_14 (xc_V (pc' := 17) (r := r0) (as := [vI (H34345 r0 8)]) (st := []) (lm_9_81) rfl rfl (Nat.le_of_ble_eq_true rfl) w34347 g0 sh_42 (by decide) rfl (by decide) (u_173 (B := B) (n := n) (y := p34346) w34347 g0 ⟨b34356, b34357⟩ q34359 grb (by omega) (by omega) h34361) (fun R34362 T34363 H34364 p34365 => ?_))
        obtain ⟨e34366, e34368, z34369, e34367, b34370, p34371⟩ := p34365
        subst e34366
        subst e34367
        subst e34368
        rcases p34371 with ⟨a34372, a34373⟩ | ⟨a34374, a34375, a34376⟩ | ⟨a34377, a34378, a34379, a34380⟩
        · show wp _ _ 172 17 [(0, .ref r0)] [vI z34369] _ H34345 _
          refine wp_of e172 c172_17 (rw_bipush (pc' := 19) (z := 32) rfl (by decide) ?_)
          refine wp_of e172 c172_19 (rw_icmp_ne (p1 := 35) (p2 := 22) (by decide) rfl ⟨b34370.1, b34370.2⟩ ⟨by decide, by decide⟩ (fun c34381 => ?_) (fun c34381 => ?_))
          · have := @xG_e 32 32 B n p34346 (by omega)
            exact wp_lc (ks := [0]) (wl_c rfl wl_n) rfl (by decide) (jn23205 H34345 w34347 f34355 (by omega))
          · exfalso
            omega
        · show wp _ _ 172 17 [(0, .ref r0)] [vI z34369] _ H34345 _
          refine wp_of e172 c172_17 (rw_bipush (pc' := 19) (z := 32) rfl (by decide) ?_)
          refine wp_of e172 c172_19 (rw_icmp_ne (p1 := 35) (p2 := 22) (by decide) rfl ⟨b34370.1, b34370.2⟩ ⟨by decide, by decide⟩ (fun c34382 => ?_) (fun c34382 => ?_))
          · have := @xG_e 32 32 B n p34346 (by omega)
            exact wp_lc (ks := [0]) (wl_c rfl wl_n) rfl (by decide) (jn23205 H34345 w34347 f34355 (by omega))
          · refine wp_of e172 c172_22 (rw_aload_n (pc' := 23) (v := .ref r0) rfl rfl rfl ?_)
            refine wp_of e172 c172_23 (rw_dup (pc' := 24) rfl rfl ?_)
            refine wp_of e172 c172_24 (xg_I (pc' := 27) lf_9_78 w34347 g0 sh_42 (by decide) (by decide) ty_42_8 rfl rfl (fun b34383 b34384 => ?_))
            refine wp_of e172 c172_27 (rw_iconst (pc' := 28) rfl ?_)
            refine wp_of e172 c172_28 (rw_iadd (pc' := 29) rfl ?_)
            refine wp_of e172 c172_29 (xp_I (pc' := 32) lf_9_78 w34347 g0 sh_42 (by decide) (by decide) ty_42_8 rfl rfl (by omega) (by omega) ⟨by omega, by omega⟩ rfl (fun H34385 e34386 w34387 => ?_))
            have f34388 := f34354.put' e34386 g0 rfl
            have f34389 := f34355.put' e34386 g0 rfl
            have f34390 := f34348.put' e34386 g0 rfl
            have k34391 : H34385 r0 8 = (H34345 r0 8) + 1 := wq_u_s e34386
            refine wp_of e172 c172_32 (rw_goto (p1 := 9) (by decide) ?_)
            have := @xG_s 32 32 B n p34346 (by omega) (by omega) (by omega)
            exact wp_lc (ks := [0]) (wl_c rfl wl_n) rfl (by decide) (ih34344 _ (by omega) H34385 ((p34346 + 1)) w34387 f34390 (by omega) (by omega) (by omega) (by omega) rfl)
        · show wp _ _ 172 17 [(0, .ref r0)] [vI z34369] _ H34345 _
          refine wp_of e172 c172_17 (rw_bipush (pc' := 19) (z := 32) rfl (by decide) ?_)
          refine wp_of e172 c172_19 (rw_icmp_ne (p1 := 35) (p2 := 22) (by decide) rfl ⟨b34370.1, b34370.2⟩ ⟨by decide, by decide⟩ (fun c34392 => ?_) (fun c34392 => ?_))
          · have := @xG_e 32 32 B n p34346 (by omega)
            exact wp_lc (ks := [0]) (wl_c rfl wl_n) rfl (by decide) (jn23205 H34345 w34347 f34355 (by omega))
          · exfalso
            omega
    exact wp_lc (ks := [0]) (wl_c rfl wl_n) rfl (by decide) (lp34342 _ H a hW wfr.rf (by omega) (by omega) (by omega) (by omega) rfl)
  · exfalso
    omega
/-! StrikeAwakeModel.goesOn()V o -/
abbrev uq_172_o (r0 : Nat) (fo : Int) (po : Int) (T : wq_T) (H : wq_H) : Option Value → wq_T → wq_H → Prop := fun r T' H' => T = T' ∧ H = H' ∧ none = r ∧ ((RO T H r0 fo po))
set_option maxHeartbeats 4000000 in
theorem u_172_o {kt : Nat → Option mc_E} {T : wq_T} {H : wq_H} {r0 : Nat} {fo : Int} {po : Int} (hW : WT T H) (g0 : T.2.2.2 r0 = some 42) (hRO_r0 : RO T H r0 fo po) : wpc kt 2 172 [.ref r0] T H (uq_172_o r0 fo po T H) := by
  refine wp_enter e172 (Nat.le_of_ble_eq_true rfl) rfl ?_
  show wp _ _ 172 0 [(0, .ref r0)] [] _ H _
  have u1004 := RO_k hRO_r0
  refine wp_of e172 c172_0 (rw_aload_n (pc' := 1) (v := .ref r0) rfl rfl rfl ?_)
  refine wp_of e172 c172_1 (xg_I (pc' := 4) lf_9_75 hW g0 sh_42 (by decide) (by decide) ty_42_9 rfl rfl (fun b1005 b1006 => ?_))
  refine wp_of e172 c172_4 (rw_iconst (pc' := 5) rfl ?_)
  refine wp_of e172 c172_5 (rw_icmp_ne (p1 := 9) (p2 := 8) (by decide) rfl ⟨Int.le_trans (by decide) b1005, Int.le_trans b1006 (by decide)⟩ ⟨by decide, by decide⟩ (fun c1007 => ?_) (fun c1007 => ?_))
  · exfalso
    omega
  · exact wp_return e172 c172_8 rfl ⟨rfl, rfl, rfl, (hRO_r0)⟩
/-! StrikeAwakeModel.wrong(I)V k -/
abbrev uq_181_k (r0 : Nat) (a1 : Int) (B : Nat → Int) (n : Int) (q : Int) (T : wq_T) (H : wq_H) : Option Value → wq_T → wq_H → Prop := fun r T' H' => T = T' ∧ WT T H' ∧ wfr [(42, 9), (42, 13), (42, 14)] T H H' ∧ none = r ∧ ((RO T H' r0 a1 q))
set_option maxHeartbeats 4000000 in
theorem u_181_k {kt : Nat → Option mc_E} {T : wq_T} {H : wq_H} {r0 : Nat} {a1 : Int} {B : Nat → Int} {n : Int} {q : Int} (hW : WT T H) (g0 : T.2.2.2 r0 = some 42) (i1 : (-2147483648) ≤ a1 ∧ a1 ≤ 2147483647) (p0 : 1 ≤ a1) (hRC_r0 : RC T H r0 B n q) : wpc kt 1 181 [.ref r0, vI a1] T H (uq_181_k r0 a1 B n q T H) := by
  refine wp_enter e181 (Nat.le_of_ble_eq_true rfl) rfl ?_
  have f0 : wfr [(42, 9), (42, 13), (42, 14)] T H H := wfr.rf
  show wp _ _ 181 0 [(0, .ref r0), (1, vI a1)] [] _ H _
  have u1022 := RC_k hRC_r0
  refine wp_of e181 c181_0 (rw_aload_n (pc' := 1) (v := .ref r0) rfl rfl rfl ?_)
  refine wp_of e181 c181_1 (xg_I (pc' := 4) lf_9_75 hW g0 sh_42 (by decide) (by decide) ty_42_9 rfl rfl (fun b1023 b1024 => ?_))
  refine wp_of e181 c181_4 (rw_iconst (pc' := 5) rfl ?_)
  refine wp_of e181 c181_5 (rw_icmp_ne (p1 := 9) (p2 := 8) (by decide) rfl ⟨Int.le_trans (by decide) b1023, Int.le_trans b1024 (by decide)⟩ ⟨by decide, by decide⟩ (fun c1025 => ?_) (fun c1025 => ?_))
  · refine wp_of e181 c181_9 (rw_aload_n (pc' := 10) (v := .ref r0) rfl rfl rfl ?_)
    refine wp_of e181 c181_10 (rw_iload_n (pc' := 11) (z := a1) rfl rfl ?_)
    refine wp_of e181 c181_11 (xp_I (pc' := 14) lf_9_104 hW g0 sh_42 (by decide) (by decide) ty_42_13 rfl rfl (i1.1) (i1.2) ⟨i1.1, i1.2⟩ rfl (fun H1026 e1027 w1028 => ?_))
    have f1029 := f0.put' e1027 g0 rfl
    have k1030 : H1026 r0 13 = a1 := wq_u_s e1027
    refine wp_of e181 c181_14 (rw_aload_n (pc' := 15) (v := .ref r0) rfl rfl rfl ?_)
    refine wp_of e181 c181_15 (rw_aload_n (pc' := 16) (v := .ref r0) rfl rfl rfl ?_)
    have k1031 : H1026 r0 10 = H r0 10 := (wq_u_j e1027 rfl)
    refine wp_of e181 c181_16 (xg_I (pc' := 19) lf_9_84 w1028 g0 sh_42 (by decide) (by decide) ty_42_10 rfl rfl (fun b1032 b1033 => ?_))
    refine wp_of e181 c181_19 (xp_I (pc' := 22) lf_9_107 w1028 g0 sh_42 (by decide) (by decide) ty_42_14 rfl rfl (b1032) (b1033) ⟨b1032, b1033⟩ rfl (fun H1034 e1035 w1036 => ?_))
    have f1037 := f1029.put' e1035 g0 rfl
    have k1038 : H1034 r0 14 = H1026 r0 10 := wq_u_s e1035
    refine wp_of e181 c181_22 (rw_aload_n (pc' := 23) (v := .ref r0) rfl rfl rfl ?_)
    refine wp_of e181 c181_23 (rw_iconst (pc' := 24) rfl ?_)
    refine wp_of e181 c181_24 (xp_I (pc' := 27) lf_9_75 w1036 g0 sh_42 (by decide) (by decide) ty_42_9 rfl rfl (by decide) (by decide) ⟨by decide, by decide⟩ rfl (fun H1039 e1040 w1041 => ?_))
    have f1042 := f1037.put' e1040 g0 rfl
    have k1043 : H1039 r0 9 = 5 := wq_u_s e1040
    have k1044 : H1039 r0 13 = H1026 r0 13 := ((wq_u_j e1040 rfl).trans (wq_u_j e1035 rfl))
    have k1045 : H1039 r0 14 = H1034 r0 14 := (wq_u_j e1040 rfl)
    exact wp_return e181 c181_27 rfl ⟨rfl, w1041, f1042, rfl, (⟨by omega, by omega, by omega, by omega⟩)⟩
  · exfalso
    omega
/-! StrikeAwakeModel.wrong(I)V o -/
abbrev uq_181_o (r0 : Nat) (a1 : Int) (fo : Int) (po : Int) (T : wq_T) (H : wq_H) : Option Value → wq_T → wq_H → Prop := fun r T' H' => T = T' ∧ H = H' ∧ none = r ∧ ((RO T H r0 fo po))
set_option maxHeartbeats 4000000 in
theorem u_181_o {kt : Nat → Option mc_E} {T : wq_T} {H : wq_H} {r0 : Nat} {a1 : Int} {fo : Int} {po : Int} (hW : WT T H) (g0 : T.2.2.2 r0 = some 42) (i1 : (-2147483648) ≤ a1 ∧ a1 ≤ 2147483647) (hRO_r0 : RO T H r0 fo po) : wpc kt 1 181 [.ref r0, vI a1] T H (uq_181_o r0 a1 fo po T H) := by
  refine wp_enter e181 (Nat.le_of_ble_eq_true rfl) rfl ?_
  show wp _ _ 181 0 [(0, .ref r0), (1, vI a1)] [] _ H _
  have u1004 := RO_k hRO_r0
  refine wp_of e181 c181_0 (rw_aload_n (pc' := 1) (v := .ref r0) rfl rfl rfl ?_)
  refine wp_of e181 c181_1 (xg_I (pc' := 4) lf_9_75 hW g0 sh_42 (by decide) (by decide) ty_42_9 rfl rfl (fun b1005 b1006 => ?_))
  refine wp_of e181 c181_4 (rw_iconst (pc' := 5) rfl ?_)
  refine wp_of e181 c181_5 (rw_icmp_ne (p1 := 9) (p2 := 8) (by decide) rfl ⟨Int.le_trans (by decide) b1005, Int.le_trans b1006 (by decide)⟩ ⟨by decide, by decide⟩ (fun c1007 => ?_) (fun c1007 => ?_))
  · exfalso
    omega
  · exact wp_return e181 c181_8 rfl ⟨rfl, rfl, rfl, (hRO_r0)⟩
/-! StrikeAwakeModel.wordOf(Ljava/lang/String;)J  -/
abbrev uq_179 (s0 : Nat) (kk : Int) (T : wq_T) (H : wq_H) : Option Value → wq_T → wq_H → Prop := fun r T' H' => T = T' ∧ H = H' ∧ ∃ z : Int, some (vL z) = r ∧ ((-9223372036854775808) ≤ z ∧ z ≤ 9223372036854775807) ∧ (((z = kk)))
set_option maxHeartbeats 4000000 in
theorem u_179 {kt : Nat → Option mc_E} {T : wq_T} {H : wq_H} {s0 : Nat} {t0 : List Int32} {kk : Int} (hW : WT T H) (h0 : mc_find mc_sb s0 = some t0) (p0 : wkw t0 t0.length = kk) : wpc kt 1 179 [.ref s0] T H (uq_179 s0 kk T H) := by
  refine wp_enter e179 (Nat.le_of_ble_eq_true rfl) rfl ?_
  show wp _ _ 179 0 [(0, .ref s0)] [] _ H _
  refine wp_of e179 c179_0 (rw_lconst (pc' := 1) (z := 0) rfl rfl ?_)
  refine wp_of e179 c179_1 (rw_lstore_n (pc' := 2) (z := 0) (L' := [(1, vL 0), (0, .ref s0)]) rfl rfl rfl ?_)
  refine wp_of e179 c179_2 (rw_iconst (pc' := 3) rfl ?_)
  refine wp_of e179 c179_3 (rw_istore_n (pc' := 4) (z := 0) (L' := [(3, vI 0), (1, vL 0), (0, .ref s0)]) rfl rfl rfl ?_)
  have lp1182 : ∀ (n1183 : Nat) (v1185 : Int) (v1186 : Int), (0 ≤ v1185 ∧ v1185 ≤ 63) → ((-9223372036854775808) ≤ v1186 ∧ v1186 ≤ 9223372036854775807) → (v1186 = wkw t0 (v1185).toNat) → (v1185 ≤ (t0.length : Int)) → (63 - v1185).toNat = n1183 → wp kt 0 179 4 [(3, vI v1185), (1, vL v1186), (0, .ref s0)] [] T H (uq_179 s0 kk T H) := by
    intro n1183
    induction n1183 using Nat.strongRecOn with
    | _ n1183 ih1184 =>
      intro v1185 v1186 b1189 b1190 x1191 x1192 m1193
      refine wp_of e179 c179_4 (rw_iload_n (pc' := 5) (z := v1185) rfl rfl ?_)
      refine wp_of e179 c179_5 (rw_aload_n (pc' := 6) (v := .ref s0) rfl rfl rfl ?_)
      refine wp_of e179 c179_6 (rw_slen (pc' := 9) rfl rfl rfl h0 (Nat.le_of_ble_eq_true rfl) rfl ?_)
      have k1194 := (mc_sb_k h0).2.1
      show wp _ _ 179 9 [(3, vI v1185), (1, vL v1186), (0, .ref s0)] [vI ((t0.length : Int)), vI v1185] _ H _
      refine wp_of e179 c179_9 (rw_icmp_ge (p1 := 36) (p2 := 12) (by decide) rfl ⟨Int.le_trans (by decide) b1189.1, Int.le_trans b1189.2 (by decide)⟩ ⟨by omega, by omega⟩ (fun c1195 => ?_) (fun c1195 => ?_))
      · have : wkw t0 (v1185).toNat = kk := by
          rw [show (v1185).toNat = t0.length by omega]
          exact p0
        refine wp_of e179 c179_36 (rw_lload_n (pc' := 37) (z := v1186) rfl rfl ?_)
        exact wp_lreturn e179 c179_37 rfl ⟨rfl, rfl, v1186, rfl, ⟨b1190.1, b1190.2⟩, (by omega)⟩
      · refine wp_of e179 c179_12 (rw_ldc2 (pc' := 15) (z := 32) rfl rfl rfl ?_)
        refine wp_of e179 c179_15 (rw_lload_n (pc' := 16) (z := v1186) rfl rfl ?_)
        refine wp_of e179 c179_16 (rw_lmulw (pc' := 17) rfl ?_)
        obtain ⟨v1196, e1197⟩ : ∃ x : Int, x = wl_w (32 * v1186) := ⟨_, rfl⟩
        rw [← e1197]
        have b1198 : -9223372036854775808 ≤ v1196 ∧ v1196 ≤ 9223372036854775807 := by
          rw [e1197]
          exact wL_w _
        have b1199 : (-9223372036854775808 ≤ 32 * v1186 ∧ 32 * v1186 ≤ 9223372036854775807) → v1196 = 32 * v1186 := fun h => by rw [e1197]; exact wl_w_id h
        refine wp_of e179 c179_17 (rw_aload_n (pc' := 18) (v := .ref s0) rfl rfl rfl ?_)
        refine wp_of e179 c179_18 (rw_iload_n (pc' := 19) (z := v1185) rfl rfl ?_)
        refine wp_of e179 c179_19 (rw_schr (pc' := 22) rfl rfl rfl h0 (by omega) (by omega) (Nat.le_of_ble_eq_true rfl) rfl ?_)
        obtain ⟨v1200, e1201⟩ : ∃ x : Int, x = (t0.getD (v1185).toNat 0).toInt := ⟨_, rfl⟩
        rw [← e1201]
        have b1202 : -2147483648 ≤ v1200 ∧ v1200 ≤ 2147483647 := by
          rw [e1201]
          exact wI_of _
        refine wp_of e179 c179_22 (rw_bipush (pc' := 24) (z := 97) rfl (by decide) ?_)
        refine wp_of e179 c179_24 (rw_isubw (pc' := 25) rfl ?_)
        obtain ⟨v1203, e1204⟩ : ∃ x : Int, x = wq_w (v1200 - 97) := ⟨_, rfl⟩
        rw [← e1204]
        have b1205 : -2147483648 ≤ v1203 ∧ v1203 ≤ 2147483647 := by
          rw [e1204]
          exact wI_w _
        have b1206 : (-2147483648 ≤ v1200 - 97 ∧ v1200 - 97 ≤ 2147483647) → v1203 = v1200 - 97 := fun h => by rw [e1204]; exact wq_w_id h
        refine wp_of e179 c179_25 (rw_iconst (pc' := 26) rfl ?_)
        refine wp_of e179 c179_26 (rw_iaddw (pc' := 27) rfl ?_)
        obtain ⟨v1207, e1208⟩ : ∃ x : Int, x = wq_w (v1203 + 1) := ⟨_, rfl⟩
        rw [← e1208]
        have b1209 : -2147483648 ≤ v1207 ∧ v1207 ≤ 2147483647 := by
          rw [e1208]
          exact wI_w _
        have b1210 : (-2147483648 ≤ v1203 + 1 ∧ v1203 + 1 ≤ 2147483647) → v1207 = v1203 + 1 := fun h => by rw [e1208]; exact wq_w_id h
        refine wp_of e179 c179_27 (rw_i2l (pc' := 28) rfl ⟨b1209.1, b1209.2⟩ ?_)
        refine wp_of e179 c179_28 (rw_laddw (pc' := 29) rfl ?_)
        obtain ⟨v1211, e1212⟩ : ∃ x : Int, x = wl_w (v1196 + v1207) := ⟨_, rfl⟩
        rw [← e1212]
        have b1213 : -9223372036854775808 ≤ v1211 ∧ v1211 ≤ 9223372036854775807 := by
          rw [e1212]
          exact wL_w _
        have b1214 : (-9223372036854775808 ≤ v1196 + v1207 ∧ v1196 + v1207 ≤ 9223372036854775807) → v1211 = v1196 + v1207 := fun h => by rw [e1212]; exact wl_w_id h
        refine wp_of e179 c179_29 (rw_lstore_n (pc' := 30) (z := v1211) (L' := [(1, vL v1211), (3, vI v1185), (0, .ref s0)]) rfl rfl rfl ?_)
        refine wp_of e179 c179_30 (rw_iinc (pc' := 33) (z := v1185) (L' := [(3, vI (v1185 + 1)), (1, vL v1211), (0, .ref s0)]) rfl rfl rfl rfl ?_)
        refine wp_of e179 c179_33 (rw_goto (p1 := 4) (by decide) ?_)
        have : wkw t0 (v1185 + 1).toNat = v1211 := by
          subst_vars
          exact wkw_m (by omega)
        exact wp_lc (ks := [3, 1, 0]) (wl_c rfl (wl_c rfl (wl_c rfl wl_n))) rfl (by decide) (ih1184 _ (by omega) (v1185 + 1) v1211 ⟨by omega, by omega⟩ ⟨b1213.1, b1213.2⟩ (by omega) (by omega) rfl)
  have : wkw t0 (0 : Int).toNat = 0 := rfl
  exact wp_lc (ks := [3, 1, 0]) (wl_c rfl (wl_c rfl (wl_c rfl wl_n))) rfl (by decide) (lp1182 _ 0 0 ⟨by decide, by decide⟩ ⟨by decide, by decide⟩ (by omega) (by omega) rfl)
/-! StrikeAwakeModel.isWord(Ljava/lang/String;)Z k -/
abbrev uq_178_k (r0 : Nat) (s1 : Nat) (B : Nat → Int) (n : Int) (q : Int) (kk : Int) (T : wq_T) (H : wq_H) : Option Value → wq_T → wq_H → Prop := fun r T' H' => T = T' ∧ H = H' ∧ ∃ z : Int, some (vI z) = r ∧ (0 ≤ z ∧ z ≤ 1) ∧ (((z = 1) ∧ (xw B n q kk = 0) ∧ (xK B n q = 1)) ∨ ((z = 0) ∧ (xw B n q kk = 1)))
set_option maxHeartbeats 4000000 in
theorem u_178_k {kt : Nat → Option mc_E} {T : wq_T} {H : wq_H} {r0 : Nat} {s1 : Nat} {t1 : List Int32} {B : Nat → Int} {n : Int} {q : Int} {kk : Int} (hW : WT T H) (g0 : T.2.2.2 r0 = some 42) (h1 : mc_find mc_sb s1 = some t1) (p0 : wkw t1 t1.length = kk) (hRC_r0 : RC T H r0 B n q) : wpc kt 2 178 [.ref r0, .ref s1] T H (uq_178_k r0 s1 B n q kk T H) := by
  refine wp_enter e178 (Nat.le_of_ble_eq_true rfl) rfl ?_
  show wp _ _ 178 0 [(0, .ref r0), (1, .ref s1)] [] _ H _
  have u1019 := RC_k hRC_r0
  have _s := RC_s hRC_r0
  have _w := @xw_b B n q kk
  refine wp_of e178 c178_0 (rw_aload_n (pc' := 1) (v := .ref r0) rfl rfl rfl ?_)
  refine wp_of e178 c178_1 (xg_I (pc' := 4) lf_9_75 hW g0 sh_42 (by decide) (by decide) ty_42_9 rfl rfl (fun b1020 b1021 => ?_))
  refine wp_of e178 c178_4 (rw_iconst (pc' := 5) rfl ?_)
  refine wp_of e178 c178_5 (rw_icmp_ne (p1 := 24) (p2 := 8) (by decide) rfl ⟨Int.le_trans (by decide) b1020, Int.le_trans b1021 (by decide)⟩ ⟨by decide, by decide⟩ (fun c1022 => ?_) (fun c1022 => ?_))
  · refine wp_of e178 c178_24 (rw_iconst (pc' := 25) rfl ?_)
    exact wp_zreturn e178 c178_25 rfl (by omega) ⟨rfl, rfl, 0, rfl, ⟨by decide, by decide⟩, (Or.inr ⟨by omega, by omega⟩)⟩
  · refine wp_of e178 c178_8 (rw_aload_n (pc' := 9) (v := .ref r0) rfl rfl rfl ?_)
    refine wp_of e178 c178_9 (xg_L (pc' := 12) lf_9_94 hW g0 sh_42 (by decide) (by decide) ty_42_15 rfl rfl (fun b1023 b1024 => ?_))
    refine wp_of e178 c178_12 (rw_aload_n (pc' := 13) (v := .ref s1) rfl rfl rfl ?_)
    refine wp_of e178 c178_13 (xc_S (pc' := 16) (as := [.ref s1]) (st := [vL (H r0 15)]) (lm_9_110) rfl rfl (Nat.le_of_ble_eq_true rfl) rfl (by decide) (u_179 (kk := kk) hW h1 (by assumption)) (fun R1025 T1026 H1027 p1028 => ?_))
    obtain ⟨e1029, e1031, z1032, e1030, b1033, p1034⟩ := p1028
    subst e1029
    subst e1030
    subst e1031
    show wp _ _ 178 16 [(0, .ref r0), (1, .ref s1)] [vL z1032, vL (H r0 15)] _ H _
    refine wp_of e178 c178_16 (rw_lcmp (pc' := 17) rfl ⟨b1023, b1024⟩ ⟨b1033.1, b1033.2⟩ ?_)
    have b1036 := wq_cmp_b (H r0 15) z1032
    refine wp_of e178 c178_17 (rw_if_ne (p1 := 24) (p2 := 20) (by decide) rfl ⟨by omega, by omega⟩ (fun c1037 => ?_) (fun c1037 => ?_))
    · refine wp_of e178 c178_24 (rw_iconst (pc' := 25) rfl ?_)
      exact wp_zreturn e178 c178_25 rfl (by omega) ⟨rfl, rfl, 0, rfl, ⟨by decide, by decide⟩, (Or.inr ⟨by omega, by omega⟩)⟩
    · refine wp_of e178 c178_20 (rw_iconst (pc' := 21) rfl ?_)
      refine wp_of e178 c178_21 (rw_goto (p1 := 25) (by decide) ?_)
      exact wp_zreturn e178 c178_25 rfl (by omega) ⟨rfl, rfl, 1, rfl, ⟨by decide, by decide⟩, (Or.inl ⟨by omega, by omega, by omega⟩)⟩
/-! StrikeAwakeModel.isWord(Ljava/lang/String;)Z o -/
abbrev uq_178_o (r0 : Nat) (s1 : Nat) (fo : Int) (po : Int) (kk : Int) (T : wq_T) (H : wq_H) : Option Value → wq_T → wq_H → Prop := fun r T' H' => T = T' ∧ H = H' ∧ ∃ z : Int, some (vI z) = r ∧ (0 ≤ z ∧ z ≤ 1) ∧ (((z = 0)))
set_option maxHeartbeats 4000000 in
theorem u_178_o {kt : Nat → Option mc_E} {T : wq_T} {H : wq_H} {r0 : Nat} {s1 : Nat} {t1 : List Int32} {fo : Int} {po : Int} {kk : Int} (hW : WT T H) (g0 : T.2.2.2 r0 = some 42) (h1 : mc_find mc_sb s1 = some t1) (p0 : wkw t1 t1.length = kk) (hRO_r0 : RO T H r0 fo po) : wpc kt 2 178 [.ref r0, .ref s1] T H (uq_178_o r0 s1 fo po kk T H) := by
  refine wp_enter e178 (Nat.le_of_ble_eq_true rfl) rfl ?_
  show wp _ _ 178 0 [(0, .ref r0), (1, .ref s1)] [] _ H _
  have u1004 := RO_k hRO_r0
  refine wp_of e178 c178_0 (rw_aload_n (pc' := 1) (v := .ref r0) rfl rfl rfl ?_)
  refine wp_of e178 c178_1 (xg_I (pc' := 4) lf_9_75 hW g0 sh_42 (by decide) (by decide) ty_42_9 rfl rfl (fun b1005 b1006 => ?_))
  refine wp_of e178 c178_4 (rw_iconst (pc' := 5) rfl ?_)
  refine wp_of e178 c178_5 (rw_icmp_ne (p1 := 24) (p2 := 8) (by decide) rfl ⟨Int.le_trans (by decide) b1005, Int.le_trans b1006 (by decide)⟩ ⟨by decide, by decide⟩ (fun c1007 => ?_) (fun c1007 => ?_))
  · refine wp_of e178 c178_24 (rw_iconst (pc' := 25) rfl ?_)
    exact wp_zreturn e178 c178_25 rfl (by omega) ⟨rfl, rfl, 0, rfl, ⟨by decide, by decide⟩, (by omega)⟩
  · exfalso
    omega
/-! StrikeAwakeModel.eatsWord(Ljava/lang/String;)Z k -/
abbrev uq_192_k (r0 : Nat) (s1 : Nat) (rb : Nat) (B : Nat → Int) (n : Int) (q : Int) (kk : Int) (T : wq_T) (H : wq_H) : Option Value → wq_T → wq_H → Prop := fun r T' H' => T = T' ∧ WT T H' ∧ wfr [(42, 8), (42, 9), (42, 10), (42, 11), (42, 12), (42, 15)] T H H' ∧ ∃ z : Int, some (vI z) = r ∧ (0 ≤ z ∧ z ≤ 1) ∧ (((z = 1) ∧ (xw B n q kk = 0) ∧ RC T H' r0 B n (xN B n q)) ∨ ((z = 0) ∧ (xw B n q kk = 1) ∧ RC T H' r0 B n q))
set_option maxHeartbeats 4000000 in
theorem u_192_k {kt : Nat → Option mc_E} {T : wq_T} {H : wq_H} {r0 : Nat} {s1 : Nat} {t1 : List Int32} {rb : Nat} {B : Nat → Int} {n : Int} {q : Int} {kk : Int} (hW : WT T H) (g0 : T.2.2.2 r0 = some 42) (h1 : mc_find mc_sb s1 = some t1) (qrb : H r0 5 = (rb : Int)) (grb : T.2.2.2 rb = some 43) (p0 : wkw t1 t1.length = kk) (hRC_r0 : RC T H r0 B n q) : wpc kt 3 192 [.ref r0, .ref s1] T H (uq_192_k r0 s1 rb B n q kk T H) := by
  refine wp_enter e192 (Nat.le_of_ble_eq_true rfl) rfl ?_
  have f0 : wfr [(42, 8), (42, 9), (42, 10), (42, 11), (42, 12), (42, 15)] T H H := wfr.rf
  show wp _ _ 192 0 [(0, .ref r0), (1, .ref s1)] [] _ H _
  have u1029 := RC_k hRC_r0
  refine wp_of e192 c192_0 (rw_aload_n (pc' := 1) (v := .ref r0) rfl rfl rfl ?_)
  refine wp_of e192 c192_1 (rw_aload_n (pc' := 2) (v := .ref s1) rfl rfl rfl ?_)
  refine wp_of e192 c192_2 (xc_V (pc' := 5) (r := r0) (as := [.ref s1]) (st := []) (lm_9_114) rfl rfl (Nat.le_of_ble_eq_true rfl) hW g0 sh_42 (by decide) rfl (by decide) (u_178_k (B := B) (n := n) (q := q) (kk := kk) hW g0 h1 (by assumption) hRC_r0) (fun R1030 T1031 H1032 p1033 => ?_))
  obtain ⟨e1034, e1036, z1037, e1035, b1038, p1039⟩ := p1033
  subst e1034
  subst e1035
  subst e1036
  rcases p1039 with ⟨a1040, a1041, a1042⟩ | ⟨a1043, a1044⟩
  · show wp _ _ 192 5 [(0, .ref r0), (1, .ref s1)] [vI z1037] _ H _
    refine wp_of e192 c192_5 (rw_istore_n (pc' := 6) (z := z1037) (L' := [(2, vI z1037), (0, .ref r0), (1, .ref s1)]) rfl rfl rfl ?_)
    refine wp_of e192 c192_6 (rw_iload_n (pc' := 7) (z := z1037) rfl rfl ?_)
    refine wp_of e192 c192_7 (rw_if_eq (p1 := 14) (p2 := 10) (by decide) rfl ⟨Int.le_trans (by decide) b1038.1, Int.le_trans b1038.2 (by decide)⟩ (fun c1045 => ?_) (fun c1045 => ?_))
    · exfalso
      omega
    · refine wp_of e192 c192_10 (rw_aload_n (pc' := 11) (v := .ref r0) rfl rfl rfl ?_)
      have u1046 := RC_a hRC_r0
      have h1047 : TM T H rb B := RC_tm hRC_r0 qrb
      refine wp_of e192 c192_11 (xc_V (pc' := 14) (r := r0) (as := []) (st := []) (lm_9_118) rfl rfl (Nat.le_of_ble_eq_true rfl) hW g0 sh_42 (by decide) rfl (by decide) (u_172_k (B := B) (n := n) (a := (xE B n q)) (q := (xN B n q)) hW g0 qrb grb (by omega) (by omega) (by omega) (by omega) (by omega) (rfl) h1047) (fun R1048 T1049 H1050 p1051 => ?_))
      obtain ⟨e1052, w1054, f1055, e1053, p1056⟩ := p1051
      subst e1052
      subst e1053
      have f1058 := f0.tr f1055 rfl
      show wp _ _ 192 14 [(2, vI z1037), (0, .ref r0), (1, .ref s1)] [] _ H1050 _
      have u1059 := RC_k p1056
      refine wp_of e192 c192_14 (rw_iload_n (pc' := 15) (z := z1037) rfl rfl ?_)
      exact wp_zreturn e192 c192_15 rfl (by omega) ⟨rfl, w1054, f1058, z1037, rfl, ⟨b1038.1, b1038.2⟩, (Or.inl ⟨by omega, by omega, p1056⟩)⟩
  · show wp _ _ 192 5 [(0, .ref r0), (1, .ref s1)] [vI z1037] _ H _
    refine wp_of e192 c192_5 (rw_istore_n (pc' := 6) (z := z1037) (L' := [(2, vI z1037), (0, .ref r0), (1, .ref s1)]) rfl rfl rfl ?_)
    refine wp_of e192 c192_6 (rw_iload_n (pc' := 7) (z := z1037) rfl rfl ?_)
    refine wp_of e192 c192_7 (rw_if_eq (p1 := 14) (p2 := 10) (by decide) rfl ⟨Int.le_trans (by decide) b1038.1, Int.le_trans b1038.2 (by decide)⟩ (fun c1060 => ?_) (fun c1060 => ?_))
    · refine wp_of e192 c192_14 (rw_iload_n (pc' := 15) (z := z1037) rfl rfl ?_)
      exact wp_zreturn e192 c192_15 rfl (by omega) ⟨rfl, hW, f0, z1037, rfl, ⟨b1038.1, b1038.2⟩, (Or.inr ⟨by omega, by omega, hRC_r0⟩)⟩
    · exfalso
      omega
/-! StrikeAwakeModel.eatsWord(Ljava/lang/String;)Z o -/
abbrev uq_192_o (r0 : Nat) (s1 : Nat) (rb : Nat) (fo : Int) (po : Int) (kk : Int) (T : wq_T) (H : wq_H) : Option Value → wq_T → wq_H → Prop := fun r T' H' => T = T' ∧ H = H' ∧ ∃ z : Int, some (vI z) = r ∧ (0 ≤ z ∧ z ≤ 1) ∧ (((z = 0) ∧ RO T H r0 fo po))
set_option maxHeartbeats 4000000 in
theorem u_192_o {kt : Nat → Option mc_E} {T : wq_T} {H : wq_H} {r0 : Nat} {s1 : Nat} {t1 : List Int32} {rb : Nat} {fo : Int} {po : Int} {kk : Int} (hW : WT T H) (g0 : T.2.2.2 r0 = some 42) (h1 : mc_find mc_sb s1 = some t1) (qrb : H r0 5 = (rb : Int)) (grb : T.2.2.2 rb = some 43) (p0 : wkw t1 t1.length = kk) (hRO_r0 : RO T H r0 fo po) : wpc kt 3 192 [.ref r0, .ref s1] T H (uq_192_o r0 s1 rb fo po kk T H) := by
  refine wp_enter e192 (Nat.le_of_ble_eq_true rfl) rfl ?_
  show wp _ _ 192 0 [(0, .ref r0), (1, .ref s1)] [] _ H _
  have u1013 := RO_k hRO_r0
  refine wp_of e192 c192_0 (rw_aload_n (pc' := 1) (v := .ref r0) rfl rfl rfl ?_)
  refine wp_of e192 c192_1 (rw_aload_n (pc' := 2) (v := .ref s1) rfl rfl rfl ?_)
  refine wp_of e192 c192_2 (xc_V (pc' := 5) (r := r0) (as := [.ref s1]) (st := []) (lm_9_114) rfl rfl (Nat.le_of_ble_eq_true rfl) hW g0 sh_42 (by decide) rfl (by decide) (u_178_o (fo := fo) (po := po) (kk := kk) hW g0 h1 (by assumption) hRO_r0) (fun R1014 T1015 H1016 p1017 => ?_))
  obtain ⟨e1018, e1020, z1021, e1019, b1022, p1023⟩ := p1017
  subst e1018
  subst e1019
  subst e1020
  show wp _ _ 192 5 [(0, .ref r0), (1, .ref s1)] [vI z1021] _ H _
  refine wp_of e192 c192_5 (rw_istore_n (pc' := 6) (z := z1021) (L' := [(2, vI z1021), (0, .ref r0), (1, .ref s1)]) rfl rfl rfl ?_)
  refine wp_of e192 c192_6 (rw_iload_n (pc' := 7) (z := z1021) rfl rfl ?_)
  refine wp_of e192 c192_7 (rw_if_eq (p1 := 14) (p2 := 10) (by decide) rfl ⟨Int.le_trans (by decide) b1022.1, Int.le_trans b1022.2 (by decide)⟩ (fun c1025 => ?_) (fun c1025 => ?_))
  · refine wp_of e192 c192_14 (rw_iload_n (pc' := 15) (z := z1021) rfl rfl ?_)
    exact wp_zreturn e192 c192_15 rfl (by omega) ⟨rfl, rfl, z1021, rfl, ⟨b1022.1, b1022.2⟩, ⟨by omega, hRO_r0⟩⟩
  · exfalso
    omega
/-! StrikeAwakeModel.eatsSign(I)Z k -/
abbrev uq_204_k (r0 : Nat) (a1 : Int) (rb : Nat) (B : Nat → Int) (n : Int) (q : Int) (kd : Int) (T : wq_T) (H : wq_H) : Option Value → wq_T → wq_H → Prop := fun r T' H' => T = T' ∧ WT T H' ∧ wfr [(42, 8), (42, 9), (42, 10), (42, 11), (42, 12), (42, 15)] T H H' ∧ ∃ z : Int, some (vI z) = r ∧ (0 ≤ z ∧ z ≤ 1) ∧ (((z = 1) ∧ (xk B n q kd = 0) ∧ (xK B n q = kd) ∧ RC T H' r0 B n (xN B n q)) ∨ ((z = 0) ∧ (xk B n q kd = 1) ∧ (xK B n q ≠ kd) ∧ RC T H' r0 B n q))
set_option maxHeartbeats 4000000 in
theorem u_204_k {kt : Nat → Option mc_E} {T : wq_T} {H : wq_H} {r0 : Nat} {a1 : Int} {rb : Nat} {B : Nat → Int} {n : Int} {q : Int} {kd : Int} (hW : WT T H) (g0 : T.2.2.2 r0 = some 42) (i1 : (-2147483648) ≤ a1 ∧ a1 ≤ 2147483647) (qrb : H r0 5 = (rb : Int)) (grb : T.2.2.2 rb = some 43) (p0 : (a1 = 59 ∧ kd = 3) ∨ (a1 = 44 ∧ kd = 4)) (hRC_r0 : RC T H r0 B n q) : wpc kt 3 204 [.ref r0, vI a1] T H (uq_204_k r0 a1 rb B n q kd T H) := by
  refine wp_enter e204 (Nat.le_of_ble_eq_true rfl) rfl ?_
  have f0 : wfr [(42, 8), (42, 9), (42, 10), (42, 11), (42, 12), (42, 15)] T H H := wfr.rf
  show wp _ _ 204 0 [(0, .ref r0), (1, vI a1)] [] _ H _
  have u1021 := RC_k hRC_r0
  have _s := RC_s hRC_r0
  have _k := @xk_b B n q kd
  refine wp_of e204 c204_0 (rw_aload_n (pc' := 1) (v := .ref r0) rfl rfl rfl ?_)
  refine wp_of e204 c204_1 (xg_I (pc' := 4) lf_9_75 hW g0 sh_42 (by decide) (by decide) ty_42_9 rfl rfl (fun b1022 b1023 => ?_))
  refine wp_of e204 c204_4 (rw_iconst (pc' := 5) rfl ?_)
  refine wp_of e204 c204_5 (rw_icmp_ne (p1 := 20) (p2 := 8) (by decide) rfl ⟨Int.le_trans (by decide) b1022, Int.le_trans b1023 (by decide)⟩ ⟨by decide, by decide⟩ (fun c1024 => ?_) (fun c1024 => ?_))
  · refine wp_of e204 c204_20 (rw_iconst (pc' := 21) rfl ?_)
    refine wp_of e204 c204_21 (rw_istore_n (pc' := 22) (z := 0) (L' := [(2, vI 0), (0, .ref r0), (1, vI a1)]) rfl rfl rfl ?_)
    refine wp_of e204 c204_22 (rw_iload_n (pc' := 23) (z := 0) rfl rfl ?_)
    refine wp_of e204 c204_23 (rw_if_eq (p1 := 30) (p2 := 26) (by decide) rfl ⟨by decide, by decide⟩ (fun c1025 => ?_) (fun c1025 => ?_))
    · refine wp_of e204 c204_30 (rw_iload_n (pc' := 31) (z := 0) rfl rfl ?_)
      exact wp_zreturn e204 c204_31 rfl (by omega) ⟨rfl, hW, f0, 0, rfl, ⟨by decide, by decide⟩, (Or.inr ⟨by omega, by omega, by omega, hRC_r0⟩)⟩
    · exfalso
      omega
  · refine wp_of e204 c204_8 (rw_aload_n (pc' := 9) (v := .ref r0) rfl rfl rfl ?_)
    refine wp_of e204 c204_9 (xg_I (pc' := 12) lf_9_87 hW g0 sh_42 (by decide) (by decide) ty_42_11 rfl rfl (fun b1026 b1027 => ?_))
    refine wp_of e204 c204_12 (rw_iload_n (pc' := 13) (z := a1) rfl rfl ?_)
    refine wp_of e204 c204_13 (rw_icmp_ne (p1 := 20) (p2 := 16) (by decide) rfl ⟨b1026, b1027⟩ ⟨i1.1, i1.2⟩ (fun c1028 => ?_) (fun c1028 => ?_))
    · refine wp_of e204 c204_20 (rw_iconst (pc' := 21) rfl ?_)
      refine wp_of e204 c204_21 (rw_istore_n (pc' := 22) (z := 0) (L' := [(2, vI 0), (0, .ref r0), (1, vI a1)]) rfl rfl rfl ?_)
      refine wp_of e204 c204_22 (rw_iload_n (pc' := 23) (z := 0) rfl rfl ?_)
      refine wp_of e204 c204_23 (rw_if_eq (p1 := 30) (p2 := 26) (by decide) rfl ⟨by decide, by decide⟩ (fun c1029 => ?_) (fun c1029 => ?_))
      · refine wp_of e204 c204_30 (rw_iload_n (pc' := 31) (z := 0) rfl rfl ?_)
        exact wp_zreturn e204 c204_31 rfl (by omega) ⟨rfl, hW, f0, 0, rfl, ⟨by decide, by decide⟩, (Or.inr ⟨by omega, by omega, by omega, hRC_r0⟩)⟩
      · exfalso
        omega
    · refine wp_of e204 c204_16 (rw_iconst (pc' := 17) rfl ?_)
      refine wp_of e204 c204_17 (rw_goto (p1 := 21) (by decide) ?_)
      refine wp_of e204 c204_21 (rw_istore_n (pc' := 22) (z := 1) (L' := [(2, vI 1), (0, .ref r0), (1, vI a1)]) rfl rfl rfl ?_)
      refine wp_of e204 c204_22 (rw_iload_n (pc' := 23) (z := 1) rfl rfl ?_)
      refine wp_of e204 c204_23 (rw_if_eq (p1 := 30) (p2 := 26) (by decide) rfl ⟨by decide, by decide⟩ (fun c1030 => ?_) (fun c1030 => ?_))
      · exfalso
        omega
      · refine wp_of e204 c204_26 (rw_aload_n (pc' := 27) (v := .ref r0) rfl rfl rfl ?_)
        have u1031 := RC_a hRC_r0
        have h1032 : TM T H rb B := RC_tm hRC_r0 qrb
        refine wp_of e204 c204_27 (xc_V (pc' := 30) (r := r0) (as := []) (st := []) (lm_9_118) rfl rfl (Nat.le_of_ble_eq_true rfl) hW g0 sh_42 (by decide) rfl (by decide) (u_172_k (B := B) (n := n) (a := (xE B n q)) (q := (xN B n q)) hW g0 qrb grb (by omega) (by omega) (by omega) (by omega) (by omega) (rfl) h1032) (fun R1033 T1034 H1035 p1036 => ?_))
        obtain ⟨e1037, w1039, f1040, e1038, p1041⟩ := p1036
        subst e1037
        subst e1038
        have f1043 := f0.tr f1040 rfl
        show wp _ _ 204 30 [(2, vI 1), (0, .ref r0), (1, vI a1)] [] _ H1035 _
        have u1044 := RC_k p1041
        refine wp_of e204 c204_30 (rw_iload_n (pc' := 31) (z := 1) rfl rfl ?_)
        exact wp_zreturn e204 c204_31 rfl (by omega) ⟨rfl, w1039, f1043, 1, rfl, ⟨by decide, by decide⟩, (Or.inl ⟨by omega, by omega, by omega, p1041⟩)⟩
/-! StrikeAwakeModel.eatsSign(I)Z o -/
abbrev uq_204_o (r0 : Nat) (a1 : Int) (rb : Nat) (fo : Int) (po : Int) (T : wq_T) (H : wq_H) : Option Value → wq_T → wq_H → Prop := fun r T' H' => T = T' ∧ H = H' ∧ ∃ z : Int, some (vI z) = r ∧ (0 ≤ z ∧ z ≤ 1) ∧ (((z = 0) ∧ RO T H r0 fo po))
set_option maxHeartbeats 4000000 in
theorem u_204_o {kt : Nat → Option mc_E} {T : wq_T} {H : wq_H} {r0 : Nat} {a1 : Int} {rb : Nat} {fo : Int} {po : Int} (hW : WT T H) (g0 : T.2.2.2 r0 = some 42) (i1 : (-2147483648) ≤ a1 ∧ a1 ≤ 2147483647) (qrb : H r0 5 = (rb : Int)) (grb : T.2.2.2 rb = some 43) (hRO_r0 : RO T H r0 fo po) : wpc kt 3 204 [.ref r0, vI a1] T H (uq_204_o r0 a1 rb fo po T H) := by
  refine wp_enter e204 (Nat.le_of_ble_eq_true rfl) rfl ?_
  show wp _ _ 204 0 [(0, .ref r0), (1, vI a1)] [] _ H _
  have u1005 := RO_k hRO_r0
  refine wp_of e204 c204_0 (rw_aload_n (pc' := 1) (v := .ref r0) rfl rfl rfl ?_)
  refine wp_of e204 c204_1 (xg_I (pc' := 4) lf_9_75 hW g0 sh_42 (by decide) (by decide) ty_42_9 rfl rfl (fun b1006 b1007 => ?_))
  refine wp_of e204 c204_4 (rw_iconst (pc' := 5) rfl ?_)
  refine wp_of e204 c204_5 (rw_icmp_ne (p1 := 20) (p2 := 8) (by decide) rfl ⟨Int.le_trans (by decide) b1006, Int.le_trans b1007 (by decide)⟩ ⟨by decide, by decide⟩ (fun c1008 => ?_) (fun c1008 => ?_))
  · refine wp_of e204 c204_20 (rw_iconst (pc' := 21) rfl ?_)
    refine wp_of e204 c204_21 (rw_istore_n (pc' := 22) (z := 0) (L' := [(2, vI 0), (0, .ref r0), (1, vI a1)]) rfl rfl rfl ?_)
    refine wp_of e204 c204_22 (rw_iload_n (pc' := 23) (z := 0) rfl rfl ?_)
    refine wp_of e204 c204_23 (rw_if_eq (p1 := 30) (p2 := 26) (by decide) rfl ⟨by decide, by decide⟩ (fun c1009 => ?_) (fun c1009 => ?_))
    · refine wp_of e204 c204_30 (rw_iload_n (pc' := 31) (z := 0) rfl rfl ?_)
      exact wp_zreturn e204 c204_31 rfl (by omega) ⟨rfl, rfl, 0, rfl, ⟨by decide, by decide⟩, ⟨by omega, hRO_r0⟩⟩
    · exfalso
      omega
  · exfalso
    omega
/-! StrikeAwakeModel.needs(Ljava/lang/String;)V k -/
abbrev uq_183_k (r0 : Nat) (s1 : Nat) (rb : Nat) (B : Nat → Int) (n : Int) (q : Int) (kk : Int) (T : wq_T) (H : wq_H) : Option Value → wq_T → wq_H → Prop := fun r T' H' => T = T' ∧ WT T H' ∧ wfr [(42, 8), (42, 9), (42, 10), (42, 11), (42, 12), (42, 13), (42, 14), (42, 15)] T H H' ∧ none = r ∧ (((xw B n q kk = 0) ∧ RC T H' r0 B n (xN B n q)) ∨ ((xw B n q kk ≠ 0) ∧ RO T H' r0 (xw B n q kk) q))
set_option maxHeartbeats 4000000 in
theorem u_183_k {kt : Nat → Option mc_E} {T : wq_T} {H : wq_H} {r0 : Nat} {s1 : Nat} {t1 : List Int32} {rb : Nat} {B : Nat → Int} {n : Int} {q : Int} {kk : Int} (hW : WT T H) (g0 : T.2.2.2 r0 = some 42) (h1 : mc_find mc_sb s1 = some t1) (qrb : H r0 5 = (rb : Int)) (grb : T.2.2.2 rb = some 43) (p0 : wkw t1 t1.length = kk) (hRC_r0 : RC T H r0 B n q) : wpc kt 3 183 [.ref r0, .ref s1] T H (uq_183_k r0 s1 rb B n q kk T H) := by
  refine wp_enter e183 (Nat.le_of_ble_eq_true rfl) rfl ?_
  have f0 : wfr [(42, 8), (42, 9), (42, 10), (42, 11), (42, 12), (42, 13), (42, 14), (42, 15)] T H H := wfr.rf
  show wp _ _ 183 0 [(0, .ref r0), (1, .ref s1)] [] _ H _
  have u1049 := RC_k hRC_r0
  refine wp_of e183 c183_0 (rw_aload_n (pc' := 1) (v := .ref r0) rfl rfl rfl ?_)
  refine wp_of e183 c183_1 (rw_aload_n (pc' := 2) (v := .ref s1) rfl rfl rfl ?_)
  refine wp_of e183 c183_2 (xc_V (pc' := 5) (r := r0) (as := [.ref s1]) (st := []) (lm_9_114) rfl rfl (Nat.le_of_ble_eq_true rfl) hW g0 sh_42 (by decide) rfl (by decide) (u_178_k (B := B) (n := n) (q := q) (kk := kk) hW g0 h1 (by assumption) hRC_r0) (fun R1050 T1051 H1052 p1053 => ?_))
  obtain ⟨e1054, e1056, z1057, e1055, b1058, p1059⟩ := p1053
  subst e1054
  subst e1055
  subst e1056
  rcases p1059 with ⟨a1060, a1061, a1062⟩ | ⟨a1063, a1064⟩
  · show wp _ _ 183 5 [(0, .ref r0), (1, .ref s1)] [vI z1057] _ H _
    refine wp_of e183 c183_5 (rw_if_ne (p1 := 13) (p2 := 8) (by decide) rfl ⟨Int.le_trans (by decide) b1058.1, Int.le_trans b1058.2 (by decide)⟩ (fun c1065 => ?_) (fun c1065 => ?_))
    · refine wp_of e183 c183_13 (rw_aload_n (pc' := 14) (v := .ref r0) rfl rfl rfl ?_)
      have u1066 := RC_a hRC_r0
      have h1067 : TM T H rb B := RC_tm hRC_r0 qrb
      refine wp_of e183 c183_14 (xc_V (pc' := 17) (r := r0) (as := []) (st := []) (lm_9_118) rfl rfl (Nat.le_of_ble_eq_true rfl) hW g0 sh_42 (by decide) rfl (by decide) (u_172_k (B := B) (n := n) (a := (xE B n q)) (q := (xN B n q)) hW g0 qrb grb (by omega) (by omega) (by omega) (by omega) (by omega) (rfl) h1067) (fun R1068 T1069 H1070 p1071 => ?_))
      obtain ⟨e1072, w1074, f1075, e1073, p1076⟩ := p1071
      subst e1072
      subst e1073
      have f1078 := f0.tr f1075 rfl
      show wp _ _ 183 17 [(0, .ref r0), (1, .ref s1)] [] _ H1070 _
      have u1079 := RC_k p1076
      exact wp_return e183 c183_17 rfl ⟨rfl, w1074, f1078, rfl, (Or.inl ⟨by omega, p1076⟩)⟩
    · exfalso
      omega
  · show wp _ _ 183 5 [(0, .ref r0), (1, .ref s1)] [vI z1057] _ H _
    refine wp_of e183 c183_5 (rw_if_ne (p1 := 13) (p2 := 8) (by decide) rfl ⟨Int.le_trans (by decide) b1058.1, Int.le_trans b1058.2 (by decide)⟩ (fun c1080 => ?_) (fun c1080 => ?_))
    · exfalso
      omega
    · refine wp_of e183 c183_8 (rw_aload_n (pc' := 9) (v := .ref r0) rfl rfl rfl ?_)
      refine wp_of e183 c183_9 (rw_iconst (pc' := 10) rfl ?_)
      refine wp_of e183 c183_10 (xc_V (pc' := 13) (r := r0) (as := [vI 1]) (st := []) (lm_9_121) rfl rfl (Nat.le_of_ble_eq_true rfl) hW g0 sh_42 (by decide) rfl (by decide) (u_181_k (B := B) (n := n) (q := q) hW g0 ⟨by decide, by decide⟩ (by omega) hRC_r0) (fun R1081 T1082 H1083 p1084 => ?_))
      obtain ⟨e1085, w1087, f1088, e1086, p1089⟩ := p1084
      subst e1085
      subst e1086
      have f1091 := f0.tr f1088 rfl
      show wp _ _ 183 13 [(0, .ref r0), (1, .ref s1)] [] _ H1083 _
      have u1092 := RO_k p1089
      refine wp_of e183 c183_13 (rw_aload_n (pc' := 14) (v := .ref r0) rfl rfl rfl ?_)
      refine wp_of e183 c183_14 (xc_V (pc' := 17) (r := r0) (as := []) (st := []) (lm_9_118) rfl rfl (Nat.le_of_ble_eq_true rfl) w1087 g0 sh_42 (by decide) rfl (by decide) (u_172_o (fo := 1) (po := q) w1087 g0 p1089) (fun R1093 T1094 H1095 p1096 => ?_))
      obtain ⟨e1097, e1099, e1098, p1100⟩ := p1096
      subst e1097
      subst e1098
      subst e1099
      show wp _ _ 183 17 [(0, .ref r0), (1, .ref s1)] [] _ H1083 _
      have u1102 := RO_k p1100
      exact wp_return e183 c183_17 rfl ⟨rfl, w1087, f1091, rfl, (Or.inr ⟨by omega, RO_eq p1100 (by omega) (by omega)⟩)⟩
/-! StrikeAwakeModel.needs(Ljava/lang/String;)V o -/
abbrev uq_183_o (r0 : Nat) (s1 : Nat) (rb : Nat) (fo : Int) (po : Int) (kk : Int) (T : wq_T) (H : wq_H) : Option Value → wq_T → wq_H → Prop := fun r T' H' => T = T' ∧ H = H' ∧ none = r ∧ ((RO T H r0 fo po))
set_option maxHeartbeats 4000000 in
theorem u_183_o {kt : Nat → Option mc_E} {T : wq_T} {H : wq_H} {r0 : Nat} {s1 : Nat} {t1 : List Int32} {rb : Nat} {fo : Int} {po : Int} {kk : Int} (hW : WT T H) (g0 : T.2.2.2 r0 = some 42) (h1 : mc_find mc_sb s1 = some t1) (qrb : H r0 5 = (rb : Int)) (grb : T.2.2.2 rb = some 43) (p0 : wkw t1 t1.length = kk) (hRO_r0 : RO T H r0 fo po) : wpc kt 3 183 [.ref r0, .ref s1] T H (uq_183_o r0 s1 rb fo po kk T H) := by
  refine wp_enter e183 (Nat.le_of_ble_eq_true rfl) rfl ?_
  show wp _ _ 183 0 [(0, .ref r0), (1, .ref s1)] [] _ H _
  have u1031 := RO_k hRO_r0
  refine wp_of e183 c183_0 (rw_aload_n (pc' := 1) (v := .ref r0) rfl rfl rfl ?_)
  refine wp_of e183 c183_1 (rw_aload_n (pc' := 2) (v := .ref s1) rfl rfl rfl ?_)
  refine wp_of e183 c183_2 (xc_V (pc' := 5) (r := r0) (as := [.ref s1]) (st := []) (lm_9_114) rfl rfl (Nat.le_of_ble_eq_true rfl) hW g0 sh_42 (by decide) rfl (by decide) (u_178_o (fo := fo) (po := po) (kk := kk) hW g0 h1 (by assumption) hRO_r0) (fun R1032 T1033 H1034 p1035 => ?_))
  obtain ⟨e1036, e1038, z1039, e1037, b1040, p1041⟩ := p1035
  subst e1036
  subst e1037
  subst e1038
  show wp _ _ 183 5 [(0, .ref r0), (1, .ref s1)] [vI z1039] _ H _
  refine wp_of e183 c183_5 (rw_if_ne (p1 := 13) (p2 := 8) (by decide) rfl ⟨Int.le_trans (by decide) b1040.1, Int.le_trans b1040.2 (by decide)⟩ (fun c1043 => ?_) (fun c1043 => ?_))
  · exfalso
    omega
  · refine wp_of e183 c183_8 (rw_aload_n (pc' := 9) (v := .ref r0) rfl rfl rfl ?_)
    refine wp_of e183 c183_9 (rw_iconst (pc' := 10) rfl ?_)
    refine wp_of e183 c183_10 (xc_V (pc' := 13) (r := r0) (as := [vI 1]) (st := []) (lm_9_121) rfl rfl (Nat.le_of_ble_eq_true rfl) hW g0 sh_42 (by decide) rfl (by decide) (u_181_o (fo := fo) (po := po) hW g0 ⟨by decide, by decide⟩ hRO_r0) (fun R1044 T1045 H1046 p1047 => ?_))
    obtain ⟨e1048, e1050, e1049, p1051⟩ := p1047
    subst e1048
    subst e1049
    subst e1050
    show wp _ _ 183 13 [(0, .ref r0), (1, .ref s1)] [] _ H _
    have u1053 := RO_k p1051
    refine wp_of e183 c183_13 (rw_aload_n (pc' := 14) (v := .ref r0) rfl rfl rfl ?_)
    refine wp_of e183 c183_14 (xc_V (pc' := 17) (r := r0) (as := []) (st := []) (lm_9_118) rfl rfl (Nat.le_of_ble_eq_true rfl) hW g0 sh_42 (by decide) rfl (by decide) (u_172_o (fo := fo) (po := po) hW g0 p1051) (fun R1054 T1055 H1056 p1057 => ?_))
    obtain ⟨e1058, e1060, e1059, p1061⟩ := p1057
    subst e1058
    subst e1059
    subst e1060
    show wp _ _ 183 17 [(0, .ref r0), (1, .ref s1)] [] _ H _
    have u1063 := RO_k p1061
    exact wp_return e183 c183_17 rfl ⟨rfl, rfl, rfl, (p1061)⟩
/-! StrikeAwakeModel.needsSign(I)V k -/
abbrev uq_197_k (r0 : Nat) (a1 : Int) (rb : Nat) (B : Nat → Int) (n : Int) (q : Int) (kd : Int) (T : wq_T) (H : wq_H) : Option Value → wq_T → wq_H → Prop := fun r T' H' => T = T' ∧ WT T H' ∧ wfr [(42, 8), (42, 9), (42, 10), (42, 11), (42, 12), (42, 13), (42, 14), (42, 15)] T H H' ∧ none = r ∧ (((xk B n q kd = 0) ∧ RC T H' r0 B n (xN B n q)) ∨ ((xk B n q kd ≠ 0) ∧ RO T H' r0 (xk B n q kd) q))
set_option maxHeartbeats 4000000 in
theorem u_197_k {kt : Nat → Option mc_E} {T : wq_T} {H : wq_H} {r0 : Nat} {a1 : Int} {rb : Nat} {B : Nat → Int} {n : Int} {q : Int} {kd : Int} (hW : WT T H) (g0 : T.2.2.2 r0 = some 42) (i1 : (-2147483648) ≤ a1 ∧ a1 ≤ 2147483647) (qrb : H r0 5 = (rb : Int)) (grb : T.2.2.2 rb = some 43) (p0 : (a1 = 59 ∧ kd = 3) ∨ (a1 = 44 ∧ kd = 4)) (hRC_r0 : RC T H r0 B n q) : wpc kt 3 197 [.ref r0, vI a1] T H (uq_197_k r0 a1 rb B n q kd T H) := by
  refine wp_enter e197 (Nat.le_of_ble_eq_true rfl) rfl ?_
  have f0 : wfr [(42, 8), (42, 9), (42, 10), (42, 11), (42, 12), (42, 13), (42, 14), (42, 15)] T H H := wfr.rf
  show wp _ _ 197 0 [(0, .ref r0), (1, vI a1)] [] _ H _
  have u1058 := RC_k hRC_r0
  have _s := RC_s hRC_r0
  have _k := @xk_b B n q kd
  refine wp_of e197 c197_0 (rw_aload_n (pc' := 1) (v := .ref r0) rfl rfl rfl ?_)
  refine wp_of e197 c197_1 (xg_I (pc' := 4) lf_9_75 hW g0 sh_42 (by decide) (by decide) ty_42_9 rfl rfl (fun b1059 b1060 => ?_))
  refine wp_of e197 c197_4 (rw_iconst (pc' := 5) rfl ?_)
  refine wp_of e197 c197_5 (rw_icmp_ne (p1 := 16) (p2 := 8) (by decide) rfl ⟨Int.le_trans (by decide) b1059, Int.le_trans b1060 (by decide)⟩ ⟨by decide, by decide⟩ (fun c1061 => ?_) (fun c1061 => ?_))
  · refine wp_of e197 c197_16 (rw_aload_n (pc' := 17) (v := .ref r0) rfl rfl rfl ?_)
    refine wp_of e197 c197_17 (rw_iconst (pc' := 18) rfl ?_)
    refine wp_of e197 c197_18 (xc_V (pc' := 21) (r := r0) (as := [vI 1]) (st := []) (lm_9_121) rfl rfl (Nat.le_of_ble_eq_true rfl) hW g0 sh_42 (by decide) rfl (by decide) (u_181_k (B := B) (n := n) (q := q) hW g0 ⟨by decide, by decide⟩ (by omega) hRC_r0) (fun R1062 T1063 H1064 p1065 => ?_))
    obtain ⟨e1066, w1068, f1069, e1067, p1070⟩ := p1065
    subst e1066
    subst e1067
    have f1072 := f0.tr f1069 rfl
    show wp _ _ 197 21 [(0, .ref r0), (1, vI a1)] [] _ H1064 _
    have u1073 := RO_k p1070
    refine wp_of e197 c197_21 (rw_aload_n (pc' := 22) (v := .ref r0) rfl rfl rfl ?_)
    refine wp_of e197 c197_22 (xc_V (pc' := 25) (r := r0) (as := []) (st := []) (lm_9_118) rfl rfl (Nat.le_of_ble_eq_true rfl) w1068 g0 sh_42 (by decide) rfl (by decide) (u_172_o (fo := 1) (po := q) w1068 g0 p1070) (fun R1074 T1075 H1076 p1077 => ?_))
    obtain ⟨e1078, e1080, e1079, p1081⟩ := p1077
    subst e1078
    subst e1079
    subst e1080
    show wp _ _ 197 25 [(0, .ref r0), (1, vI a1)] [] _ H1064 _
    have u1083 := RO_k p1081
    exact wp_return e197 c197_25 rfl ⟨rfl, w1068, f1072, rfl, (Or.inr ⟨by omega, RO_eq p1081 (by omega) (by omega)⟩)⟩
  · refine wp_of e197 c197_8 (rw_aload_n (pc' := 9) (v := .ref r0) rfl rfl rfl ?_)
    refine wp_of e197 c197_9 (xg_I (pc' := 12) lf_9_87 hW g0 sh_42 (by decide) (by decide) ty_42_11 rfl rfl (fun b1084 b1085 => ?_))
    refine wp_of e197 c197_12 (rw_iload_n (pc' := 13) (z := a1) rfl rfl ?_)
    refine wp_of e197 c197_13 (rw_icmp_eq (p1 := 21) (p2 := 16) (by decide) rfl ⟨b1084, b1085⟩ ⟨i1.1, i1.2⟩ (fun c1086 => ?_) (fun c1086 => ?_))
    · refine wp_of e197 c197_21 (rw_aload_n (pc' := 22) (v := .ref r0) rfl rfl rfl ?_)
      have u1087 := RC_a hRC_r0
      have h1088 : TM T H rb B := RC_tm hRC_r0 qrb
      refine wp_of e197 c197_22 (xc_V (pc' := 25) (r := r0) (as := []) (st := []) (lm_9_118) rfl rfl (Nat.le_of_ble_eq_true rfl) hW g0 sh_42 (by decide) rfl (by decide) (u_172_k (B := B) (n := n) (a := (xE B n q)) (q := (xN B n q)) hW g0 qrb grb (by omega) (by omega) (by omega) (by omega) (by omega) (rfl) h1088) (fun R1089 T1090 H1091 p1092 => ?_))
      obtain ⟨e1093, w1095, f1096, e1094, p1097⟩ := p1092
      subst e1093
      subst e1094
      have f1099 := f0.tr f1096 rfl
      show wp _ _ 197 25 [(0, .ref r0), (1, vI a1)] [] _ H1091 _
      have u1100 := RC_k p1097
      exact wp_return e197 c197_25 rfl ⟨rfl, w1095, f1099, rfl, (Or.inl ⟨by omega, p1097⟩)⟩
    · refine wp_of e197 c197_16 (rw_aload_n (pc' := 17) (v := .ref r0) rfl rfl rfl ?_)
      refine wp_of e197 c197_17 (rw_iconst (pc' := 18) rfl ?_)
      refine wp_of e197 c197_18 (xc_V (pc' := 21) (r := r0) (as := [vI 1]) (st := []) (lm_9_121) rfl rfl (Nat.le_of_ble_eq_true rfl) hW g0 sh_42 (by decide) rfl (by decide) (u_181_k (B := B) (n := n) (q := q) hW g0 ⟨by decide, by decide⟩ (by omega) hRC_r0) (fun R1101 T1102 H1103 p1104 => ?_))
      obtain ⟨e1105, w1107, f1108, e1106, p1109⟩ := p1104
      subst e1105
      subst e1106
      have f1111 := f0.tr f1108 rfl
      show wp _ _ 197 21 [(0, .ref r0), (1, vI a1)] [] _ H1103 _
      have u1112 := RO_k p1109
      refine wp_of e197 c197_21 (rw_aload_n (pc' := 22) (v := .ref r0) rfl rfl rfl ?_)
      refine wp_of e197 c197_22 (xc_V (pc' := 25) (r := r0) (as := []) (st := []) (lm_9_118) rfl rfl (Nat.le_of_ble_eq_true rfl) w1107 g0 sh_42 (by decide) rfl (by decide) (u_172_o (fo := 1) (po := q) w1107 g0 p1109) (fun R1113 T1114 H1115 p1116 => ?_))
      obtain ⟨e1117, e1119, e1118, p1120⟩ := p1116
      subst e1117
      subst e1118
      subst e1119
      show wp _ _ 197 25 [(0, .ref r0), (1, vI a1)] [] _ H1103 _
      have u1122 := RO_k p1120
      exact wp_return e197 c197_25 rfl ⟨rfl, w1107, f1111, rfl, (Or.inr ⟨by omega, RO_eq p1120 (by omega) (by omega)⟩)⟩
/-! StrikeAwakeModel.needsSign(I)V o -/
abbrev uq_197_o (r0 : Nat) (a1 : Int) (rb : Nat) (fo : Int) (po : Int) (T : wq_T) (H : wq_H) : Option Value → wq_T → wq_H → Prop := fun r T' H' => T = T' ∧ H = H' ∧ none = r ∧ ((RO T H r0 fo po))
set_option maxHeartbeats 4000000 in
theorem u_197_o {kt : Nat → Option mc_E} {T : wq_T} {H : wq_H} {r0 : Nat} {a1 : Int} {rb : Nat} {fo : Int} {po : Int} (hW : WT T H) (g0 : T.2.2.2 r0 = some 42) (i1 : (-2147483648) ≤ a1 ∧ a1 ≤ 2147483647) (qrb : H r0 5 = (rb : Int)) (grb : T.2.2.2 rb = some 43) (hRO_r0 : RO T H r0 fo po) : wpc kt 3 197 [.ref r0, vI a1] T H (uq_197_o r0 a1 rb fo po T H) := by
  refine wp_enter e197 (Nat.le_of_ble_eq_true rfl) rfl ?_
  show wp _ _ 197 0 [(0, .ref r0), (1, vI a1)] [] _ H _
  have u1022 := RO_k hRO_r0
  refine wp_of e197 c197_0 (rw_aload_n (pc' := 1) (v := .ref r0) rfl rfl rfl ?_)
  refine wp_of e197 c197_1 (xg_I (pc' := 4) lf_9_75 hW g0 sh_42 (by decide) (by decide) ty_42_9 rfl rfl (fun b1023 b1024 => ?_))
  refine wp_of e197 c197_4 (rw_iconst (pc' := 5) rfl ?_)
  refine wp_of e197 c197_5 (rw_icmp_ne (p1 := 16) (p2 := 8) (by decide) rfl ⟨Int.le_trans (by decide) b1023, Int.le_trans b1024 (by decide)⟩ ⟨by decide, by decide⟩ (fun c1025 => ?_) (fun c1025 => ?_))
  · refine wp_of e197 c197_16 (rw_aload_n (pc' := 17) (v := .ref r0) rfl rfl rfl ?_)
    refine wp_of e197 c197_17 (rw_iconst (pc' := 18) rfl ?_)
    refine wp_of e197 c197_18 (xc_V (pc' := 21) (r := r0) (as := [vI 1]) (st := []) (lm_9_121) rfl rfl (Nat.le_of_ble_eq_true rfl) hW g0 sh_42 (by decide) rfl (by decide) (u_181_o (fo := fo) (po := po) hW g0 ⟨by decide, by decide⟩ hRO_r0) (fun R1026 T1027 H1028 p1029 => ?_))
    obtain ⟨e1030, e1032, e1031, p1033⟩ := p1029
    subst e1030
    subst e1031
    subst e1032
    show wp _ _ 197 21 [(0, .ref r0), (1, vI a1)] [] _ H _
    have u1035 := RO_k p1033
    refine wp_of e197 c197_21 (rw_aload_n (pc' := 22) (v := .ref r0) rfl rfl rfl ?_)
    refine wp_of e197 c197_22 (xc_V (pc' := 25) (r := r0) (as := []) (st := []) (lm_9_118) rfl rfl (Nat.le_of_ble_eq_true rfl) hW g0 sh_42 (by decide) rfl (by decide) (u_172_o (fo := fo) (po := po) hW g0 p1033) (fun R1036 T1037 H1038 p1039 => ?_))
    obtain ⟨e1040, e1042, e1041, p1043⟩ := p1039
    subst e1040
    subst e1041
    subst e1042
    show wp _ _ 197 25 [(0, .ref r0), (1, vI a1)] [] _ H _
    have u1045 := RO_k p1043
    exact wp_return e197 c197_25 rfl ⟨rfl, rfl, rfl, (p1043)⟩
  · exfalso
    omega
/-! StrikeAwakeModel.whole(II)I k -/
abbrev uq_185_k (r0 : Nat) (a1 : Int) (a2 : Int) (B : Nat → Int) (n : Int) (q : Int) (lo : Int) (hi : Int) (T : wq_T) (H : wq_H) : Option Value → wq_T → wq_H → Prop := fun r T' H' => T = T' ∧ WT T H' ∧ wfr [(42, 9), (42, 13), (42, 14)] T H H' ∧ ∃ z : Int, some (vI z) = r ∧ (0 ≤ z ∧ z ≤ 100) ∧ (((xh B n q lo hi = 0) ∧ (z = xV B n q) ∧ (lo ≤ z ∧ z ≤ hi) ∧ (xK B n q = 2) ∧ RC T H' r0 B n q) ∨ ((z = 0) ∧ (xh B n q lo hi ≠ 0) ∧ RO T H' r0 (xh B n q lo hi) q))
set_option maxHeartbeats 4000000 in
theorem u_185_k {kt : Nat → Option mc_E} {T : wq_T} {H : wq_H} {r0 : Nat} {a1 : Int} {a2 : Int} {B : Nat → Int} {n : Int} {q : Int} {lo : Int} {hi : Int} (hW : WT T H) (g0 : T.2.2.2 r0 = some 42) (i1 : 0 ≤ a1 ∧ a1 ≤ 100) (i2 : 0 ≤ a2 ∧ a2 ≤ 100) (p0 : a1 = lo) (p1 : a2 = hi) (hRC_r0 : RC T H r0 B n q) : wpc kt 2 185 [.ref r0, vI a1, vI a2] T H (uq_185_k r0 a1 a2 B n q lo hi T H) := by
  refine wp_enter e185 (Nat.le_of_ble_eq_true rfl) rfl ?_
  have f0 : wfr [(42, 9), (42, 13), (42, 14)] T H H := wfr.rf
  show wp _ _ 185 0 [(0, .ref r0), (1, vI a1), (2, vI a2)] [] _ H _
  have u1055 := RC_k hRC_r0
  have _s := RC_s hRC_r0
  have _h := @xh_b B n q lo hi
  refine wp_of e185 c185_0 (rw_aload_n (pc' := 1) (v := .ref r0) rfl rfl rfl ?_)
  refine wp_of e185 c185_1 (xg_I (pc' := 4) lf_9_75 hW g0 sh_42 (by decide) (by decide) ty_42_9 rfl rfl (fun b1056 b1057 => ?_))
  refine wp_of e185 c185_4 (rw_iconst (pc' := 5) rfl ?_)
  refine wp_of e185 c185_5 (rw_icmp_eq (p1 := 16) (p2 := 8) (by decide) rfl ⟨Int.le_trans (by decide) b1056, Int.le_trans b1057 (by decide)⟩ ⟨by decide, by decide⟩ (fun c1058 => ?_) (fun c1058 => ?_))
  · refine wp_of e185 c185_16 (rw_aload_n (pc' := 17) (v := .ref r0) rfl rfl rfl ?_)
    refine wp_of e185 c185_17 (xg_I (pc' := 20) lf_9_101 hW g0 sh_42 (by decide) (by decide) ty_42_12 rfl rfl (fun b1059 b1060 => ?_))
    refine wp_of e185 c185_20 (rw_iload_n (pc' := 21) (z := a1) rfl rfl ?_)
    refine wp_of e185 c185_21 (rw_iload_n (pc' := 22) (z := a2) rfl rfl ?_)
    refine wp_of e185 c185_22 (xc_S (pc' := 25) (as := [vI (H r0 12), vI a1, vI a2]) (st := []) (lm_9_125) rfl rfl (Nat.le_of_ble_eq_true rfl) rfl (by decide) (u_186  hW ⟨b1059, b1060⟩ ⟨Int.le_trans (by decide) i1.1, Int.le_trans i1.2 (by decide)⟩ ⟨Int.le_trans (by decide) i2.1, Int.le_trans i2.2 (by decide)⟩) (fun R1061 T1062 H1063 p1064 => ?_))
    obtain ⟨e1065, e1067, z1068, e1066, b1069, p1070⟩ := p1064
    subst e1065
    subst e1066
    subst e1067
    rcases p1070 with ⟨a1071, a1072⟩ | ⟨a1073, a1074⟩
    · show wp _ _ 185 25 [(0, .ref r0), (1, vI a1), (2, vI a2)] [vI z1068] _ H _
      refine wp_of e185 c185_25 (rw_if_ne (p1 := 33) (p2 := 28) (by decide) rfl ⟨Int.le_trans (by decide) b1069.1, Int.le_trans b1069.2 (by decide)⟩ (fun c1075 => ?_) (fun c1075 => ?_))
      · refine wp_of e185 c185_33 (rw_aload_n (pc' := 34) (v := .ref r0) rfl rfl rfl ?_)
        refine wp_of e185 c185_34 (xg_I (pc' := 37) lf_9_75 hW g0 sh_42 (by decide) (by decide) ty_42_9 rfl rfl (fun b1076 b1077 => ?_))
        refine wp_of e185 c185_37 (rw_iconst (pc' := 38) rfl ?_)
        refine wp_of e185 c185_38 (rw_icmp_ne (p1 := 45) (p2 := 41) (by decide) rfl ⟨Int.le_trans (by decide) b1076, Int.le_trans b1077 (by decide)⟩ ⟨by decide, by decide⟩ (fun c1078 => ?_) (fun c1078 => ?_))
        · refine wp_of e185 c185_45 (rw_aload_n (pc' := 46) (v := .ref r0) rfl rfl rfl ?_)
          refine wp_of e185 c185_46 (xg_I (pc' := 49) lf_9_101 hW g0 sh_42 (by decide) (by decide) ty_42_12 rfl rfl (fun b1079 b1080 => ?_))
          exact wp_ireturn e185 c185_49 rfl ⟨rfl, hW, f0, H r0 12, rfl, ⟨by omega, by omega⟩, (Or.inl ⟨by omega, by omega, by omega, by omega, hRC_r0⟩)⟩
        · exfalso
          omega
      · exfalso
        omega
    · show wp _ _ 185 25 [(0, .ref r0), (1, vI a1), (2, vI a2)] [vI z1068] _ H _
      refine wp_of e185 c185_25 (rw_if_ne (p1 := 33) (p2 := 28) (by decide) rfl ⟨Int.le_trans (by decide) b1069.1, Int.le_trans b1069.2 (by decide)⟩ (fun c1081 => ?_) (fun c1081 => ?_))
      · exfalso
        omega
      · refine wp_of e185 c185_28 (rw_aload_n (pc' := 29) (v := .ref r0) rfl rfl rfl ?_)
        refine wp_of e185 c185_29 (rw_iconst (pc' := 30) rfl ?_)
        refine wp_of e185 c185_30 (xc_V (pc' := 33) (r := r0) (as := [vI 4]) (st := []) (lm_9_121) rfl rfl (Nat.le_of_ble_eq_true rfl) hW g0 sh_42 (by decide) rfl (by decide) (u_181_k (B := B) (n := n) (q := q) hW g0 ⟨by decide, by decide⟩ (by omega) hRC_r0) (fun R1082 T1083 H1084 p1085 => ?_))
        obtain ⟨e1086, w1088, f1089, e1087, p1090⟩ := p1085
        subst e1086
        subst e1087
        have f1092 := f0.tr f1089 rfl
        show wp _ _ 185 33 [(0, .ref r0), (1, vI a1), (2, vI a2)] [] _ H1084 _
        have u1093 := RO_k p1090
        refine wp_of e185 c185_33 (rw_aload_n (pc' := 34) (v := .ref r0) rfl rfl rfl ?_)
        refine wp_of e185 c185_34 (xg_I (pc' := 37) lf_9_75 w1088 g0 sh_42 (by decide) (by decide) ty_42_9 rfl rfl (fun b1094 b1095 => ?_))
        refine wp_of e185 c185_37 (rw_iconst (pc' := 38) rfl ?_)
        refine wp_of e185 c185_38 (rw_icmp_ne (p1 := 45) (p2 := 41) (by decide) rfl ⟨Int.le_trans (by decide) b1094, Int.le_trans b1095 (by decide)⟩ ⟨by decide, by decide⟩ (fun c1096 => ?_) (fun c1096 => ?_))
        · exfalso
          omega
        · refine wp_of e185 c185_41 (rw_iconst (pc' := 42) rfl ?_)
          refine wp_of e185 c185_42 (rw_goto (p1 := 49) (by decide) ?_)
          exact wp_ireturn e185 c185_49 rfl ⟨rfl, w1088, f1092, 0, rfl, ⟨by decide, by decide⟩, (Or.inr ⟨by omega, by omega, RO_eq p1090 (by omega) (by omega)⟩)⟩
  · refine wp_of e185 c185_8 (rw_aload_n (pc' := 9) (v := .ref r0) rfl rfl rfl ?_)
    refine wp_of e185 c185_9 (rw_iconst (pc' := 10) rfl ?_)
    refine wp_of e185 c185_10 (xc_V (pc' := 13) (r := r0) (as := [vI 1]) (st := []) (lm_9_121) rfl rfl (Nat.le_of_ble_eq_true rfl) hW g0 sh_42 (by decide) rfl (by decide) (u_181_k (B := B) (n := n) (q := q) hW g0 ⟨by decide, by decide⟩ (by omega) hRC_r0) (fun R1097 T1098 H1099 p1100 => ?_))
    obtain ⟨e1101, w1103, f1104, e1102, p1105⟩ := p1100
    subst e1101
    subst e1102
    have f1107 := f0.tr f1104 rfl
    show wp _ _ 185 13 [(0, .ref r0), (1, vI a1), (2, vI a2)] [] _ H1099 _
    have u1108 := RO_k p1105
    refine wp_of e185 c185_13 (rw_goto (p1 := 33) (by decide) ?_)
    refine wp_of e185 c185_33 (rw_aload_n (pc' := 34) (v := .ref r0) rfl rfl rfl ?_)
    refine wp_of e185 c185_34 (xg_I (pc' := 37) lf_9_75 w1103 g0 sh_42 (by decide) (by decide) ty_42_9 rfl rfl (fun b1109 b1110 => ?_))
    refine wp_of e185 c185_37 (rw_iconst (pc' := 38) rfl ?_)
    refine wp_of e185 c185_38 (rw_icmp_ne (p1 := 45) (p2 := 41) (by decide) rfl ⟨Int.le_trans (by decide) b1109, Int.le_trans b1110 (by decide)⟩ ⟨by decide, by decide⟩ (fun c1111 => ?_) (fun c1111 => ?_))
    · exfalso
      omega
    · refine wp_of e185 c185_41 (rw_iconst (pc' := 42) rfl ?_)
      refine wp_of e185 c185_42 (rw_goto (p1 := 49) (by decide) ?_)
      exact wp_ireturn e185 c185_49 rfl ⟨rfl, w1103, f1107, 0, rfl, ⟨by decide, by decide⟩, (Or.inr ⟨by omega, by omega, RO_eq p1105 (by omega) (by omega)⟩)⟩
