/-! what methods do (own work, written by wip/gen3/sx3.py) -/
/-! StrikeAwakeModel.byteAt(I)I  -/
abbrev uq_173 (r0 : Nat) (a1 : Int) (rb : Nat) (B : Nat → Int) (n : Int) (y : Int) (T : wq_T) (H : wq_H) : Option Value → wq_T → wq_H → Prop := fun r T' H' => T = T' ∧ H = H' ∧ ∃ z : Int, some (vI z) = r ∧ ((-2147483648) ≤ z ∧ z ≤ 2147483647) ∧ (((z = -1) ∧ (n ≤ y)) ∨ ((0 ≤ z ∧ z ≤ 255) ∧ (y < n) ∧ (-128 ≤ B y.toNat) ∧ ((0 ≤ B y.toNat ∧ z = B y.toNat) ∨ (B y.toNat < 0 ∧ z = B y.toNat + 256))))
set_option maxHeartbeats 4000000 in
theorem u_173 {kt : Nat → Option mc_E} {T : wq_T} {H : wq_H} {r0 : Nat} {a1 : Int} {rb : Nat} {B : Nat → Int} {n : Int} {y : Int} (hW : WT T H) (g0 : T.2.2.2 r0 = some 42) (i1 : 0 ≤ a1 ∧ a1 ≤ 900) (qrb : H r0 5 = (rb : Int)) (grb : T.2.2.2 rb = some 43) (p0 : a1 = y) (p1 : H r0 7 = n) (hTM_rb : TM T H rb B) : wpc kt 1 173 [.ref r0, vI a1] T H (uq_173 r0 a1 rb B n y T H) := by
  refine wp_enter e173 (Nat.le_of_ble_eq_true rfl) rfl ?_
  show wp _ _ 173 0 [(0, .ref r0), (1, vI a1)] [] _ H _
  have b239497 : 0 ≤ H r0 7 ∧ H r0 7 ≤ 900 := hW.box g0 (n := 33) rfl (by decide) rfl
  have _e : B y.toNat = B a1.toNat := by rw [p0]
  refine wp_of e173 c173_0 (rw_iload_n (pc' := 1) (z := a1) rfl rfl ?_)
  refine wp_of e173 c173_1 (rw_aload_n (pc' := 2) (v := .ref r0) rfl rfl rfl ?_)
  refine wp_of e173 c173_2 (xg_I (pc' := 5) lf_9_61 hW g0 sh_42 (by decide) (by decide) ty_42_7 rfl rfl (fun b239498 b239499 => ?_))
  refine wp_of e173 c173_5 (rw_icmp_ge (p1 := 21) (p2 := 8) (by decide) rfl ⟨by omega, by omega⟩ ⟨by omega, by omega⟩ (fun c239500 => ?_) (fun c239500 => ?_))
  · refine wp_of e173 c173_21 (rw_iconst (pc' := 22) rfl ?_)
    exact wp_ireturn e173 c173_22 rfl ⟨rfl, rfl, -1, rfl, ⟨by omega, by omega⟩, (Or.inl ⟨by omega, by omega⟩)⟩
  · refine wp_of e173 c173_8 (rw_aload_n (pc' := 9) (v := .ref r0) rfl rfl rfl ?_)
    refine wp_of e173 c173_9 (xg_K (pc' := 12) lf_9_13 hW g0 sh_42 (by decide) (by decide) rfl qrb rfl ?_)
    refine wp_of e173 c173_12 (rw_iload_n (pc' := 13) (z := a1) rfl rfl ?_)
    refine wp_of e173 c173_13 (xa_B (by decide) (pc' := 14) hW grb sh_43 (by decide) (ty_43 _) (by omega) (by omega) rfl (fun b239501 b239502 => ?_))
    have _b := hTM_rb (a1.toNat) (by omega)
    have _y := @by_ok (H rb (a1.toNat)) (by omega) (by omega)
    refine wp_of e173 c173_14 (rw_sipush (pc' := 17) (z := 255) rfl (by decide) ?_)
    refine wp_of e173 c173_17 (rw_iand (pc' := 18) rfl ?_)
    obtain ⟨v239503, e239504⟩ : ∃ x : Int, x = wq_and (H rb (a1.toNat)) 255 := ⟨_, rfl⟩
    rw [← e239504]
    have b239505 : 0 ≤ v239503 ∧ v239503 ≤ 255 := by
      rw [e239504]
      exact wq_and_b _ (by omega) (by omega)
    refine wp_of e173 c173_18 (rw_goto (p1 := 22) (by decide) ?_)
    exact wp_ireturn e173 c173_22 rfl ⟨rfl, rfl, v239503, rfl, ⟨by omega, by omega⟩, (Or.inr ⟨by omega, by omega, by omega, by omega⟩)⟩
/-! StrikeAwakeModel.isLetter(I)Z  -/
abbrev uq_174 (a0 : Int) (T : wq_T) (H : wq_H) : Option Value → wq_T → wq_H → Prop := fun r T' H' => T = T' ∧ H = H' ∧ ∃ z : Int, some (vI z) = r ∧ (0 ≤ z ∧ z ≤ 1) ∧ (((z = 1) ∧ (97 ≤ a0 ∧ a0 ≤ 122)) ∨ ((z = 0) ∧ (a0 < 97 ∨ 122 < a0)))
set_option maxHeartbeats 4000000 in
theorem u_174 {kt : Nat → Option mc_E} {T : wq_T} {H : wq_H} {a0 : Int} (hW : WT T H) (i0 : (-2147483648) ≤ a0 ∧ a0 ≤ 2147483647) : wpc kt 1 174 [vI a0] T H (uq_174 a0 T H) := by
  refine wp_enter e174 (Nat.le_of_ble_eq_true rfl) rfl ?_
  show wp _ _ 174 0 [(0, vI a0)] [] _ H _
  refine wp_of e174 c174_0 (rw_iload_n (pc' := 1) (z := a0) rfl rfl ?_)
  refine wp_of e174 c174_1 (rw_bipush (pc' := 3) (z := 97) rfl (by decide) ?_)
  refine wp_of e174 c174_3 (rw_icmp_lt (p1 := 16) (p2 := 6) (by decide) rfl ⟨by omega, by omega⟩ ⟨by omega, by omega⟩ (fun c239508 => ?_) (fun c239508 => ?_))
  · refine wp_of e174 c174_16 (rw_iconst (pc' := 17) rfl ?_)
    exact wp_zreturn e174 c174_17 rfl (by omega) ⟨rfl, rfl, 0, rfl, ⟨by omega, by omega⟩, (Or.inr ⟨by omega, by omega⟩)⟩
  · refine wp_of e174 c174_6 (rw_iload_n (pc' := 7) (z := a0) rfl rfl ?_)
    refine wp_of e174 c174_7 (rw_bipush (pc' := 9) (z := 122) rfl (by decide) ?_)
    refine wp_of e174 c174_9 (rw_icmp_gt (p1 := 16) (p2 := 12) (by decide) rfl ⟨by omega, by omega⟩ ⟨by omega, by omega⟩ (fun c239509 => ?_) (fun c239509 => ?_))
    · refine wp_of e174 c174_16 (rw_iconst (pc' := 17) rfl ?_)
      exact wp_zreturn e174 c174_17 rfl (by omega) ⟨rfl, rfl, 0, rfl, ⟨by omega, by omega⟩, (Or.inr ⟨by omega, by omega⟩)⟩
    · refine wp_of e174 c174_12 (rw_iconst (pc' := 13) rfl ?_)
      refine wp_of e174 c174_13 (rw_goto (p1 := 17) (by decide) ?_)
      exact wp_zreturn e174 c174_17 rfl (by omega) ⟨rfl, rfl, 1, rfl, ⟨by omega, by omega⟩, (Or.inl ⟨by omega, by omega⟩)⟩
/-! StrikeAwakeModel.isDigit(I)Z  -/
abbrev uq_175 (a0 : Int) (T : wq_T) (H : wq_H) : Option Value → wq_T → wq_H → Prop := fun r T' H' => T = T' ∧ H = H' ∧ ∃ z : Int, some (vI z) = r ∧ (0 ≤ z ∧ z ≤ 1) ∧ (((z = 1) ∧ (48 ≤ a0 ∧ a0 ≤ 57)) ∨ ((z = 0) ∧ (a0 < 48 ∨ 57 < a0)))
set_option maxHeartbeats 4000000 in
theorem u_175 {kt : Nat → Option mc_E} {T : wq_T} {H : wq_H} {a0 : Int} (hW : WT T H) (i0 : (-2147483648) ≤ a0 ∧ a0 ≤ 2147483647) : wpc kt 1 175 [vI a0] T H (uq_175 a0 T H) := by
  refine wp_enter e175 (Nat.le_of_ble_eq_true rfl) rfl ?_
  show wp _ _ 175 0 [(0, vI a0)] [] _ H _
  refine wp_of e175 c175_0 (rw_iload_n (pc' := 1) (z := a0) rfl rfl ?_)
  refine wp_of e175 c175_1 (rw_bipush (pc' := 3) (z := 48) rfl (by decide) ?_)
  refine wp_of e175 c175_3 (rw_icmp_lt (p1 := 16) (p2 := 6) (by decide) rfl ⟨by omega, by omega⟩ ⟨by omega, by omega⟩ (fun c239512 => ?_) (fun c239512 => ?_))
  · refine wp_of e175 c175_16 (rw_iconst (pc' := 17) rfl ?_)
    exact wp_zreturn e175 c175_17 rfl (by omega) ⟨rfl, rfl, 0, rfl, ⟨by omega, by omega⟩, (Or.inr ⟨by omega, by omega⟩)⟩
  · refine wp_of e175 c175_6 (rw_iload_n (pc' := 7) (z := a0) rfl rfl ?_)
    refine wp_of e175 c175_7 (rw_bipush (pc' := 9) (z := 57) rfl (by decide) ?_)
    refine wp_of e175 c175_9 (rw_icmp_gt (p1 := 16) (p2 := 12) (by decide) rfl ⟨by omega, by omega⟩ ⟨by omega, by omega⟩ (fun c239513 => ?_) (fun c239513 => ?_))
    · refine wp_of e175 c175_16 (rw_iconst (pc' := 17) rfl ?_)
      exact wp_zreturn e175 c175_17 rfl (by omega) ⟨rfl, rfl, 0, rfl, ⟨by omega, by omega⟩, (Or.inr ⟨by omega, by omega⟩)⟩
    · refine wp_of e175 c175_12 (rw_iconst (pc' := 13) rfl ?_)
      refine wp_of e175 c175_13 (rw_goto (p1 := 17) (by decide) ?_)
      exact wp_zreturn e175 c175_17 rfl (by omega) ⟨rfl, rfl, 1, rfl, ⟨by omega, by omega⟩, (Or.inl ⟨by omega, by omega⟩)⟩
/-! StrikeAwakeModel.in(III)Z  -/
abbrev uq_186 (a0 : Int) (a1 : Int) (a2 : Int) (T : wq_T) (H : wq_H) : Option Value → wq_T → wq_H → Prop := fun r T' H' => T = T' ∧ H = H' ∧ ∃ z : Int, some (vI z) = r ∧ (0 ≤ z ∧ z ≤ 1) ∧ (((z = 1) ∧ (a1 ≤ a0 ∧ a0 ≤ a2)) ∨ ((z = 0) ∧ (a0 < a1 ∨ a2 < a0)))
set_option maxHeartbeats 4000000 in
theorem u_186 {kt : Nat → Option mc_E} {T : wq_T} {H : wq_H} {a0 : Int} {a1 : Int} {a2 : Int} (hW : WT T H) (i0 : (-2147483648) ≤ a0 ∧ a0 ≤ 2147483647) (i1 : (-2147483648) ≤ a1 ∧ a1 ≤ 2147483647) (i2 : (-2147483648) ≤ a2 ∧ a2 ≤ 2147483647) : wpc kt 1 186 [vI a0, vI a1, vI a2] T H (uq_186 a0 a1 a2 T H) := by
  refine wp_enter e186 (Nat.le_of_ble_eq_true rfl) rfl ?_
  show wp _ _ 186 0 [(0, vI a0), (1, vI a1), (2, vI a2)] [] _ H _
  refine wp_of e186 c186_0 (rw_iload_n (pc' := 1) (z := a0) rfl rfl ?_)
  refine wp_of e186 c186_1 (rw_iload_n (pc' := 2) (z := a1) rfl rfl ?_)
  refine wp_of e186 c186_2 (rw_icmp_lt (p1 := 14) (p2 := 5) (by decide) rfl ⟨by omega, by omega⟩ ⟨by omega, by omega⟩ (fun c239516 => ?_) (fun c239516 => ?_))
  · refine wp_of e186 c186_14 (rw_iconst (pc' := 15) rfl ?_)
    exact wp_zreturn e186 c186_15 rfl (by omega) ⟨rfl, rfl, 0, rfl, ⟨by omega, by omega⟩, (Or.inr ⟨by omega, by omega⟩)⟩
  · refine wp_of e186 c186_5 (rw_iload_n (pc' := 6) (z := a0) rfl rfl ?_)
    refine wp_of e186 c186_6 (rw_iload_n (pc' := 7) (z := a2) rfl rfl ?_)
    refine wp_of e186 c186_7 (rw_icmp_gt (p1 := 14) (p2 := 10) (by decide) rfl ⟨by omega, by omega⟩ ⟨by omega, by omega⟩ (fun c239517 => ?_) (fun c239517 => ?_))
    · refine wp_of e186 c186_14 (rw_iconst (pc' := 15) rfl ?_)
      exact wp_zreturn e186 c186_15 rfl (by omega) ⟨rfl, rfl, 0, rfl, ⟨by omega, by omega⟩, (Or.inr ⟨by omega, by omega⟩)⟩
    · refine wp_of e186 c186_10 (rw_iconst (pc' := 11) rfl ?_)
      refine wp_of e186 c186_11 (rw_goto (p1 := 15) (by decide) ?_)
      exact wp_zreturn e186 c186_15 rfl (by omega) ⟨rfl, rfl, 1, rfl, ⟨by omega, by omega⟩, (Or.inl ⟨by omega, by omega⟩)⟩
/-! StrikeAwakeModel.least(II)I  -/
abbrev uq_191 (a0 : Int) (a1 : Int) (T : wq_T) (H : wq_H) : Option Value → wq_T → wq_H → Prop := fun r T' H' => T = T' ∧ H = H' ∧ ∃ z : Int, some (vI z) = r ∧ (0 ≤ z ∧ z ≤ 100) ∧ ((((a0 ≤ a1 ∧ z = a0) ∨ (a1 < a0 ∧ z = a1))))
set_option maxHeartbeats 4000000 in
theorem u_191 {kt : Nat → Option mc_E} {T : wq_T} {H : wq_H} {a0 : Int} {a1 : Int} (hW : WT T H) (i0 : 0 ≤ a0 ∧ a0 ≤ 100) (i1 : 0 ≤ a1 ∧ a1 ≤ 100) : wpc kt 1 191 [vI a0, vI a1] T H (uq_191 a0 a1 T H) := by
  refine wp_enter e191 (Nat.le_of_ble_eq_true rfl) rfl ?_
  show wp _ _ 191 0 [(0, vI a0), (1, vI a1)] [] _ H _
  refine wp_of e191 c191_0 (rw_iload_n (pc' := 1) (z := a0) rfl rfl ?_)
  refine wp_of e191 c191_1 (rw_iload_n (pc' := 2) (z := a1) rfl rfl ?_)
  refine wp_of e191 c191_2 (rw_icmp_ge (p1 := 9) (p2 := 5) (by decide) rfl ⟨by omega, by omega⟩ ⟨by omega, by omega⟩ (fun c239519 => ?_) (fun c239519 => ?_))
  · refine wp_of e191 c191_9 (rw_iload_n (pc' := 10) (z := a1) rfl rfl ?_)
    exact wp_ireturn e191 c191_10 rfl ⟨rfl, rfl, a1, rfl, ⟨by omega, by omega⟩, (by omega)⟩
  · refine wp_of e191 c191_5 (rw_iload_n (pc' := 6) (z := a0) rfl rfl ?_)
    refine wp_of e191 c191_6 (rw_goto (p1 := 10) (by decide) ?_)
    exact wp_ireturn e191 c191_10 rfl ⟨rfl, rfl, a0, rfl, ⟨by omega, by omega⟩, (by omega)⟩
/-! StrikeAwakeModel.goesOn()V k -/
abbrev uq_172_k (r0 : Nat) (rb : Nat) (B : Nat → Int) (n : Int) (a : Int) (q : Int) (T : wq_T) (H : wq_H) : Option Value → wq_T → wq_H → Prop := fun r T' H' => T = T' ∧ WT T H' ∧ wfr [(42, 8), (42, 9), (42, 10), (42, 11), (42, 12), (42, 15)] T H H' ∧ none = r ∧ ((RC T H' r0 B n q))
set_option maxHeartbeats 4000000 in
theorem u_172_k {kt : Nat → Option mc_E} {T : wq_T} {H : wq_H} {r0 : Nat} {rb : Nat} {B : Nat → Int} {n : Int} {a : Int} {q : Int} (hW : WT T H) (g0 : T.2.2.2 r0 = some 42) (qrb : H r0 5 = (rb : Int)) (grb : T.2.2.2 rb = some 43) (p0 : H r0 9 ≤ 4) (p1 : H r0 8 = a) (p2 : a ≤ n) (p3 : H r0 7 = n) (p4 : H r0 13 = 0) (p5 : q = xG 32 32 B n a) (hTM_rb : TM T H rb B) : wpc kt 2 172 [.ref r0] T H (uq_172_k r0 rb B n a q T H) := by
  refine wp_enter e172 (Nat.le_of_ble_eq_true rfl) rfl ?_
  have f0 : wfr [(42, 8), (42, 9), (42, 10), (42, 11), (42, 12), (42, 15)] T H H := wfr.rf
  show wp _ _ 172 0 [(0, .ref r0)] [] _ H _
  have b245926 : 0 ≤ H r0 9 ∧ H r0 9 ≤ 5 := hW.box g0 (n := 33) rfl (by decide) rfl
  have b245927 : 0 ≤ H r0 8 ∧ H r0 8 ≤ 900 := hW.box g0 (n := 33) rfl (by decide) rfl
  have b245928 : 0 ≤ H r0 7 ∧ H r0 7 ≤ 900 := hW.box g0 (n := 33) rfl (by decide) rfl
  have b245929 : (-2147483648) ≤ H r0 13 ∧ H r0 13 ≤ 2147483647 := hW.box g0 (n := 33) rfl (by decide) rfl
  have _x0 := @xG_b 32 32 B n a
  have _x1 := @xG_b 97 122 B n q
  have _x2 := @xG_b 48 57 B n q
  have _x3 := @xG_or 97 122 B n q
  have _x4 := @xG_or 48 57 B n q
  have _x5 := @xG_at 97 122 B n q
  have _x6 := @xG_at 48 57 B n q
  have _o : xso 0 = 1 ∧ xso 1 = 2 ∧ xso 2 = 3 ∧ xso 3 = 4 ∧ xso 4 = 4 ∧ xso 5 = 0 := ⟨rfl, rfl, rfl, rfl, rfl, rfl⟩
  refine wp_of e172 c172_0 (rw_aload_n (pc' := 1) (v := .ref r0) rfl rfl rfl ?_)
  refine wp_of e172 c172_1 (xg_I (pc' := 4) lf_9_75 hW g0 sh_42 (by decide) (by decide) ty_42_9 rfl rfl (fun b245930 b245931 => ?_))
  refine wp_of e172 c172_4 (rw_iconst (pc' := 5) rfl ?_)
  have jn246026 : ∀  (H246025 : wq_H), WT T H246025 → wfr [(42, 8)] T H H246025 → (H246025 r0 8 = q) → wp kt 1 172 35 [(0, .ref r0)] [] T H246025 (uq_172_k r0 rb B n a q T H) := by
    intro H246025 w246027 f246028 x246029
    have f246030 := f0.tr f246028 rfl
    refine wp_of e172 c172_35 (rw_aload_n (pc' := 36) (v := .ref r0) rfl rfl rfl ?_)
    refine wp_of e172 c172_36 (rw_aload_n (pc' := 37) (v := .ref r0) rfl rfl rfl ?_)
    refine wp_of e172 c172_37 (xg_I (pc' := 40) lf_9_78 w246027 g0 sh_42 (by decide) (by decide) ty_42_8 rfl rfl (fun b246031 b246032 => ?_))
    refine wp_of e172 c172_40 (xp_I (pc' := 43) lf_9_84 w246027 g0 sh_42 (by decide) (by decide) ty_42_10 rfl rfl (by omega) (by omega) ⟨by omega, by omega⟩ rfl (fun H246033 e246034 w246035 => ?_))
    have f246036 := f246030.put' e246034 g0 rfl
    have k246037 : H246033 r0 10 = H246025 r0 8 := wq_u_s e246034
    refine wp_of e172 c172_43 (rw_aload_n (pc' := 44) (v := .ref r0) rfl rfl rfl ?_)
    refine wp_of e172 c172_44 (rw_iconst (pc' := 45) rfl ?_)
    refine wp_of e172 c172_45 (xp_I (pc' := 48) lf_9_75 w246035 g0 sh_42 (by decide) (by decide) ty_42_9 rfl rfl (by omega) (by omega) ⟨by omega, by omega⟩ rfl (fun H246038 e246039 w246040 => ?_))
    have f246041 := f246036.put' e246039 g0 rfl
    have k246042 : H246038 r0 9 = 0 := wq_u_s e246039
    refine wp_of e172 c172_48 (rw_aload_n (pc' := 49) (v := .ref r0) rfl rfl rfl ?_)
    refine wp_of e172 c172_49 (rw_iconst (pc' := 50) rfl ?_)
    refine wp_of e172 c172_50 (xp_I (pc' := 53) lf_9_87 w246040 g0 sh_42 (by decide) (by decide) ty_42_11 rfl rfl (by omega) (by omega) ⟨by omega, by omega⟩ rfl (fun H246043 e246044 w246045 => ?_))
    have f246046 := f246041.put' e246044 g0 rfl
    have k246047 : H246043 r0 11 = 0 := wq_u_s e246044
    refine wp_of e172 c172_53 (rw_aload_n (pc' := 54) (v := .ref r0) rfl rfl rfl ?_)
    refine wp_of e172 c172_54 (rw_aload_n (pc' := 55) (v := .ref r0) rfl rfl rfl ?_)
    have k246048 : H246043 r0 8 = H246025 r0 8 := ((wq_u_j e246044 rfl).trans ((wq_u_j e246039 rfl).trans (wq_u_j e246034 rfl)))
    refine wp_of e172 c172_55 (xg_I (pc' := 58) lf_9_78 w246045 g0 sh_42 (by decide) (by decide) ty_42_8 rfl rfl (fun b246049 b246050 => ?_))
    have k246051 : H246043 r0 5 = H r0 5 := ((wq_u_j e246044 rfl).trans ((wq_u_j e246039 rfl).trans ((wq_u_j e246034 rfl).trans (f246028 r0 5 _ g0 rfl))))
    have q246052 : H246043 r0 5 = (rb : Int) := k246051.trans qrb
    have k246053 : H246043 r0 7 = H r0 7 := ((wq_u_j e246044 rfl).trans ((wq_u_j e246039 rfl).trans ((wq_u_j e246034 rfl).trans (f246028 r0 7 _ g0 rfl))))
    have h246054 : TM T H246043 rb B := (TM_fr w246040 grb ((wfr.rf (l := [(42, 11)])).put' e246044 g0 rfl) rfl (TM_fr w246035 grb ((wfr.rf (l := [(42, 9)])).put' e246039 g0 rfl) rfl (TM_fr w246027 grb ((wfr.rf (l := [(42, 10)])).put' e246034 g0 rfl) rfl (TM_fr hW grb f246028 rfl hTM_rb))))
    refine wp_of e172 c172_58 (xc_V (pc' := 61) (r := r0) (as := [vI (H246043 r0 8)]) (st := []) (lm_9_81) rfl rfl (Nat.le_of_ble_eq_true rfl) w246045 g0 sh_42 (by decide) rfl (by decide) (u_173 (B := B) (n := n) (y := q) w246045 g0 ⟨by omega, by omega⟩ q246052 grb (by omega) (by omega) h246054) (fun R246055 T246056 H246057 p246058 => ?_))
    obtain ⟨e246059, e246061, z246062, e246060, b246063, p246064⟩ := p246058
    subst e246059
    subst e246060
    subst e246061
    rcases p246064 with ⟨a246065, a246066⟩ | ⟨a246067, a246068, a246069, a246070⟩
    · show wp _ _ 172 61 [(0, .ref r0)] [vI z246062] _ H246043 _
      refine wp_of e172 c172_61 (rw_istore_n (pc' := 62) (z := z246062) (L' := [(1, vI z246062), (0, .ref r0)]) rfl rfl rfl ?_)
      refine wp_of e172 c172_62 (rw_iconst (pc' := 63) rfl ?_)
      refine wp_of e172 c172_63 (rw_istore_n (pc' := 64) (z := 0) (L' := [(2, vI 0), (1, vI z246062), (0, .ref r0)]) rfl rfl rfl ?_)
      refine wp_of e172 c172_64 (rw_iload_n (pc' := 65) (z := z246062) rfl rfl ?_)
      refine wp_of e172 c172_65 (rw_iconst (pc' := 66) rfl ?_)
      refine wp_of e172 c172_66 (rw_icmp_ne (p1 := 77) (p2 := 69) (by decide) rfl ⟨by omega, by omega⟩ ⟨by omega, by omega⟩ (fun c246071 => ?_) (fun c246071 => ?_))
      · exfalso
        omega
      · refine wp_of e172 c172_69 (rw_aload_n (pc' := 70) (v := .ref r0) rfl rfl rfl ?_)
        refine wp_of e172 c172_70 (rw_iconst (pc' := 71) rfl ?_)
        refine wp_of e172 c172_71 (xp_I (pc' := 74) lf_9_75 w246045 g0 sh_42 (by decide) (by decide) ty_42_9 rfl rfl (by omega) (by omega) ⟨by omega, by omega⟩ rfl (fun H246072 e246073 w246074 => ?_))
        have f246075 := f246046.put' e246073 g0 rfl
        have k246076 : H246072 r0 9 = 1 := wq_u_s e246073
        refine wp_of e172 c172_74 (rw_goto (p1 := 281) (by decide) ?_)
        have k246077 : H246072 r0 8 = H246043 r0 8 := (wq_u_j e246073 rfl)
        have k246078 : H246072 r0 7 = H246043 r0 7 := (wq_u_j e246073 rfl)
        have k246079 : H246072 r0 13 = H r0 13 := ((wq_u_j e246073 rfl).trans ((wq_u_j e246044 rfl).trans ((wq_u_j e246039 rfl).trans ((wq_u_j e246034 rfl).trans (f246028 r0 13 _ g0 rfl)))))
        have k246080 : H246072 r0 10 = H246033 r0 10 := ((wq_u_j e246073 rfl).trans ((wq_u_j e246044 rfl).trans (wq_u_j e246039 rfl)))
        have k246081 : H246072 r0 11 = H246043 r0 11 := (wq_u_j e246073 rfl)
        obtain ⟨kk, hk⟩ : ∃ x : Int, xK B n q = x := ⟨_, rfl⟩
        have hk2 := hk
        unfold xK at hk2
        repeat first | rw [if_pos (by omega)] at hk2 | rw [if_neg (by omega)] at hk2
        obtain ⟨ke, he⟩ : ∃ x : Int, xE B n q = x := ⟨_, rfl⟩
        have he2 := he
        unfold xE at he2
        repeat first | rw [if_pos (by omega)] at he2 | rw [if_neg (by omega)] at he2
        have k246082 : H246072 r0 5 = H246043 r0 5 := (wq_u_j e246073 rfl)
        have q246083 : H246072 r0 5 = (rb : Int) := k246082.trans q246052
        have h246084 : TM T H246072 rb B := (TM_fr w246045 grb ((wfr.rf (l := [(42, 9)])).put' e246073 g0 rfl) rfl h246054)
        exact wp_return e172 c172_281 rfl ⟨rfl, w246074, f246075, rfl, (RC_mk q246083 grb h246084 (by omega) (by rw [hk, ← hk2]; omega) (by omega) (by omega) (by omega) (by omega) (by omega))⟩
    · show wp _ _ 172 61 [(0, .ref r0)] [vI z246062] _ H246043 _
      refine wp_of e172 c172_61 (rw_istore_n (pc' := 62) (z := z246062) (L' := [(1, vI z246062), (0, .ref r0)]) rfl rfl rfl ?_)
      refine wp_of e172 c172_62 (rw_iconst (pc' := 63) rfl ?_)
      refine wp_of e172 c172_63 (rw_istore_n (pc' := 64) (z := 0) (L' := [(2, vI 0), (1, vI z246062), (0, .ref r0)]) rfl rfl rfl ?_)
      refine wp_of e172 c172_64 (rw_iload_n (pc' := 65) (z := z246062) rfl rfl ?_)
      refine wp_of e172 c172_65 (rw_iconst (pc' := 66) rfl ?_)
      refine wp_of e172 c172_66 (rw_icmp_ne (p1 := 77) (p2 := 69) (by decide) rfl ⟨by omega, by omega⟩ ⟨by omega, by omega⟩ (fun c246085 => ?_) (fun c246085 => ?_))
      · refine wp_of e172 c172_77 (rw_iload_n (pc' := 78) (z := z246062) rfl rfl ?_)
        refine wp_of e172 c172_78 (xc_S (pc' := 81) (as := [vI z246062]) (st := []) (lm_9_90) rfl rfl (Nat.le_of_ble_eq_true rfl) rfl (by decide) (u_174  w246045 ⟨by omega, by omega⟩) (fun R246086 T246087 H246088 p246089 => ?_))
        obtain ⟨e246090, e246092, z246093, e246091, b246094, p246095⟩ := p246089
        subst e246090
        subst e246091
        subst e246092
        rcases p246095 with ⟨a246096, a246097⟩ | ⟨a246098, a246099⟩
        · show wp _ _ 172 81 [(2, vI 0), (1, vI z246062), (0, .ref r0)] [vI z246093] _ H246043 _
          refine wp_of e172 c172_81 (rw_if_eq (p1 := 166) (p2 := 84) (by decide) rfl ⟨by omega, by omega⟩ (fun c246100 => ?_) (fun c246100 => ?_))
          · exfalso
            omega
          · have jn247559 : ∀ (v247557 : Int) (H247558 : wq_H), WT T H247558 → wfr [(42, 8), (42, 15)] T H246043 H247558 → (0 ≤ v247557 ∧ v247557 ≤ 900) → (H247558 r0 8 = xG 97 122 B n q) → (v247557 = H247558 r0 8 - q) → (8 < v247557 ∨ H247558 r0 15 = xY B n q) → wp kt 1 172 152 [(2, vI v247557), (0, .ref r0)] [] T H247558 (uq_172_k r0 rb B n a q T H) := by
              intro v247557 H247558 w247560 f247561 b247562 x247563 x247564 x247565
              have f247566 := f246046.tr f247561 rfl
              refine wp_of e172 c172_152 (rw_iload_n (pc' := 153) (z := v247557) rfl rfl ?_)
              refine wp_of e172 c172_153 (rw_bipush (pc' := 155) (z := 8) rfl (by decide) ?_)
              refine wp_of e172 c172_155 (rw_icmp_gt (p1 := 281) (p2 := 158) (by decide) rfl ⟨by omega, by omega⟩ ⟨by omega, by omega⟩ (fun c247567 => ?_) (fun c247567 => ?_))
              · have k247568 : H247558 r0 9 = H246038 r0 9 := ((f247561 r0 9 _ g0 rfl).trans (wq_u_j e246044 rfl))
                have k247569 : H247558 r0 7 = H246043 r0 7 := (f247561 r0 7 _ g0 rfl)
                have k247570 : H247558 r0 13 = H r0 13 := ((f247561 r0 13 _ g0 rfl).trans ((wq_u_j e246044 rfl).trans ((wq_u_j e246039 rfl).trans ((wq_u_j e246034 rfl).trans (f246028 r0 13 _ g0 rfl)))))
                have k247571 : H247558 r0 10 = H246033 r0 10 := ((f247561 r0 10 _ g0 rfl).trans ((wq_u_j e246044 rfl).trans (wq_u_j e246039 rfl)))
                have k247572 : H247558 r0 11 = H246043 r0 11 := (f247561 r0 11 _ g0 rfl)
                obtain ⟨kk, hk⟩ : ∃ x : Int, xK B n q = x := ⟨_, rfl⟩
                have hk2 := hk
                unfold xK at hk2
                repeat first | rw [if_pos (by omega)] at hk2 | rw [if_neg (by omega)] at hk2
                obtain ⟨ke, he⟩ : ∃ x : Int, xE B n q = x := ⟨_, rfl⟩
                have he2 := he
                unfold xE at he2
                repeat first | rw [if_pos (by omega)] at he2 | rw [if_neg (by omega)] at he2
                have k247573 : H247558 r0 5 = H246043 r0 5 := (f247561 r0 5 _ g0 rfl)
                have q247574 : H247558 r0 5 = (rb : Int) := k247573.trans q246052
                have h247575 : TM T H247558 rb B := (TM_fr w246045 grb f247561 rfl h246054)
                exact wp_return e172 c172_281 rfl ⟨rfl, w247560, f247566, rfl, (RC_mk q247574 grb h247575 (by omega) (by rw [hk, ← hk2]; omega) (by omega) (by omega) (by omega) (by omega) (by omega))⟩
              · refine wp_of e172 c172_158 (rw_aload_n (pc' := 159) (v := .ref r0) rfl rfl rfl ?_)
                refine wp_of e172 c172_159 (rw_iconst (pc' := 160) rfl ?_)
                refine wp_of e172 c172_160 (xp_I (pc' := 163) lf_9_75 w247560 g0 sh_42 (by decide) (by decide) ty_42_9 rfl rfl (by omega) (by omega) ⟨by omega, by omega⟩ rfl (fun H247576 e247577 w247578 => ?_))
                have f247579 := f247566.put' e247577 g0 rfl
                have k247580 : H247576 r0 9 = 2 := wq_u_s e247577
                refine wp_of e172 c172_163 (rw_goto (p1 := 281) (by decide) ?_)
                have k247581 : H247576 r0 8 = H247558 r0 8 := (wq_u_j e247577 rfl)
                have k247582 : H247576 r0 7 = H246043 r0 7 := ((wq_u_j e247577 rfl).trans (f247561 r0 7 _ g0 rfl))
                have k247583 : H247576 r0 13 = H r0 13 := ((wq_u_j e247577 rfl).trans ((f247561 r0 13 _ g0 rfl).trans ((wq_u_j e246044 rfl).trans ((wq_u_j e246039 rfl).trans ((wq_u_j e246034 rfl).trans (f246028 r0 13 _ g0 rfl))))))
                have k247584 : H247576 r0 10 = H246033 r0 10 := ((wq_u_j e247577 rfl).trans ((f247561 r0 10 _ g0 rfl).trans ((wq_u_j e246044 rfl).trans (wq_u_j e246039 rfl))))
                have k247585 : H247576 r0 15 = H247558 r0 15 := (wq_u_j e247577 rfl)
                have k247586 : H247576 r0 11 = H246043 r0 11 := ((wq_u_j e247577 rfl).trans (f247561 r0 11 _ g0 rfl))
                obtain ⟨kk, hk⟩ : ∃ x : Int, xK B n q = x := ⟨_, rfl⟩
                have hk2 := hk
                unfold xK at hk2
                repeat first | rw [if_pos (by omega)] at hk2 | rw [if_neg (by omega)] at hk2
                obtain ⟨ke, he⟩ : ∃ x : Int, xE B n q = x := ⟨_, rfl⟩
                have he2 := he
                unfold xE at he2
                repeat first | rw [if_pos (by omega)] at he2 | rw [if_neg (by omega)] at he2
                have k247587 : H247576 r0 5 = H246043 r0 5 := ((wq_u_j e247577 rfl).trans (f247561 r0 5 _ g0 rfl))
                have q247588 : H247576 r0 5 = (rb : Int) := k247587.trans q246052
                have h247589 : TM T H247576 rb B := (TM_fr w247560 grb ((wfr.rf (l := [(42, 9)])).put' e247577 g0 rfl) rfl (TM_fr w246045 grb f247561 rfl h246054))
                exact wp_return e172 c172_281 rfl ⟨rfl, w247578, f247579, rfl, (RC_mk q247588 grb h247589 (by omega) (by rw [hk, ← hk2]; omega) (by omega) (by omega) (by omega) (by omega) (by omega))⟩
            have f247590 : wfr [(42, 8), (42, 15)] T H246043 H246043 := wfr.rf
            refine wp_of e172 c172_84 (rw_aload_n (pc' := 85) (v := .ref r0) rfl rfl rfl ?_)
            refine wp_of e172 c172_85 (rw_lconst (pc' := 86) (z := 0) rfl rfl ?_)
            refine wp_of e172 c172_86 (xp_L (pc' := 89) lf_9_94 w246045 g0 sh_42 (by decide) (by decide) ty_42_15 rfl rfl (by omega) (by omega) ⟨by omega, by omega⟩ rfl (fun H247591 e247592 w247593 => ?_))
            have f247594 := f246046.put' e247592 g0 rfl
            have f247595 := f247590.put' e247592 g0 rfl
            have k247596 : H247591 r0 15 = 0 := wq_u_s e247592
            have k248946 : H247591 r0 8 = H246043 r0 8 := (wq_u_j e247592 rfl)
            have lp248940 : ∀ (n248941 : Nat) (v248943 : Int) (H248944 : wq_H) (p248945 : Int), WT T H248944 → wfr [(42, 8), (42, 15)] T H247591 H248944 → (0 ≤ v248943 ∧ v248943 ≤ 900) → (H248944 r0 8 = p248945) → (xG 97 122 B n p248945 = xG 97 122 B n q) → (q ≤ p248945) → (p248945 ≤ n) → (v248943 = p248945 - q) → (8 < p248945 - q ∨ H248944 r0 15 = xkf 32 96 B q (p248945 - q).toNat) → (900 - p248945).toNat = n248941 → wp kt 1 172 89 [(2, vI v248943), (0, .ref r0)] [] T H248944 (uq_172_k r0 rb B n a q T H) := by
              intro n248941
              induction n248941 using Nat.strongRecOn with
              | _ n248941 ih248942 =>
                intro v248943 H248944 p248945 w248947 f248948 b248949 x248951 x248952 x248953 x248954 x248955 x248956 m248950
                have f248957 := f247594.tr f248948 rfl
                have f248958 := f247595.tr f248948 rfl
                have := @xG_b 97 122 B n p248945
                have := @xkf_Y2 B n q p248945 (by omega) (by omega)
                refine wp_of e172 c172_89 (rw_aload_n (pc' := 90) (v := .ref r0) rfl rfl rfl ?_)
                refine wp_of e172 c172_90 (rw_aload_n (pc' := 91) (v := .ref r0) rfl rfl rfl ?_)
                refine wp_of e172 c172_91 (xg_I (pc' := 94) lf_9_78 w248947 g0 sh_42 (by decide) (by decide) ty_42_8 rfl rfl (fun b248959 b248960 => ?_))
                have k248961 : H248944 r0 5 = H246043 r0 5 := ((f248948 r0 5 _ g0 rfl).trans (wq_u_j e247592 rfl))
                have q248962 : H248944 r0 5 = (rb : Int) := k248961.trans q246052
                have k248963 : H248944 r0 7 = H246043 r0 7 := ((f248948 r0 7 _ g0 rfl).trans (wq_u_j e247592 rfl))
                have h248964 : TM T H248944 rb B := (TM_fr w247593 grb f248948 rfl (TM_fr w246045 grb ((wfr.rf (l := [(42, 15)])).put' e247592 g0 rfl) rfl h246054))
                refine wp_of e172 c172_94 (xc_V (pc' := 97) (r := r0) (as := [vI (H248944 r0 8)]) (st := []) (lm_9_81) rfl rfl (Nat.le_of_ble_eq_true rfl) w248947 g0 sh_42 (by decide) rfl (by decide) (u_173 (B := B) (n := n) (y := p248945) w248947 g0 ⟨by omega, by omega⟩ q248962 grb (by omega) (by omega) h248964) (fun R248965 T248966 H248967 p248968 => ?_))
                obtain ⟨e248969, e248971, z248972, e248970, b248973, p248974⟩ := p248968
                subst e248969
                subst e248970
                subst e248971
                rcases p248974 with ⟨a248975, a248976⟩ | ⟨a248977, a248978, a248979, a248980⟩
                · show wp _ _ 172 97 [(2, vI v248943), (0, .ref r0)] [vI z248972] _ H248944 _
                  refine wp_of e172 c172_97 (xc_S (pc' := 100) (as := [vI z248972]) (st := []) (lm_9_90) rfl rfl (Nat.le_of_ble_eq_true rfl) rfl (by decide) (u_174  w248947 ⟨by omega, by omega⟩) (fun R248981 T248982 H248983 p248984 => ?_))
                  obtain ⟨e248985, e248987, z248988, e248986, b248989, p248990⟩ := p248984
                  subst e248985
                  subst e248986
                  subst e248987
                  rcases p248990 with ⟨a248991, a248992⟩ | ⟨a248993, a248994⟩
                  · show wp _ _ 172 100 [(2, vI v248943), (0, .ref r0)] [vI z248988] _ H248944 _
                    refine wp_of e172 c172_100 (rw_if_eq (p1 := 152) (p2 := 103) (by decide) rfl ⟨by omega, by omega⟩ (fun c248995 => ?_) (fun c248995 => ?_))
                    · exfalso
                      omega
                    · refine wp_of e172 c172_103 (rw_iload_n (pc' := 104) (z := v248943) rfl rfl ?_)
                      refine wp_of e172 c172_104 (rw_bipush (pc' := 106) (z := 8) rfl (by decide) ?_)
                      refine wp_of e172 c172_106 (rw_icmp_ge (p1 := 136) (p2 := 109) (by decide) rfl ⟨by omega, by omega⟩ ⟨by omega, by omega⟩ (fun c248996 => ?_) (fun c248996 => ?_))
                      · refine wp_of e172 c172_136 (rw_iinc (pc' := 139) (z := v248943) (L' := [(2, vI (v248943 + 1)), (0, .ref r0)]) rfl rfl rfl rfl ?_)
                        refine wp_of e172 c172_139 (rw_aload_n (pc' := 140) (v := .ref r0) rfl rfl rfl ?_)
                        refine wp_of e172 c172_140 (rw_dup (pc' := 141) rfl rfl ?_)
                        refine wp_of e172 c172_141 (xg_I (pc' := 144) lf_9_78 w248947 g0 sh_42 (by decide) (by decide) ty_42_8 rfl rfl (fun b248997 b248998 => ?_))
                        refine wp_of e172 c172_144 (rw_iconst (pc' := 145) rfl ?_)
                        refine wp_of e172 c172_145 (rw_iadd (pc' := 146) rfl ?_)
                        refine wp_of e172 c172_146 (xp_I (pc' := 149) lf_9_78 w248947 g0 sh_42 (by decide) (by decide) ty_42_8 rfl rfl (by omega) (by omega) ⟨by omega, by omega⟩ rfl (fun H248999 e249000 w249001 => ?_))
                        have f249002 := f248957.put' e249000 g0 rfl
                        have f249003 := f248958.put' e249000 g0 rfl
                        have f249004 := f248948.put' e249000 g0 rfl
                        have k249005 : H248999 r0 8 = (H248944 r0 8) + 1 := wq_u_s e249000
                        refine wp_of e172 c172_149 (rw_goto (p1 := 89) (by decide) ?_)
                        have k249006 : H248999 r0 15 = H248944 r0 15 := (wq_u_j e249000 rfl)
                        have := @xG_s 97 122 B n p248945 (by omega) (by omega) (by omega)
                        have := @xkf_s B q 32 96 p248945 (by omega)
                        exact wp_lc (ks := [2, 0]) (wl_c rfl (wl_c rfl wl_n)) rfl (by decide) (ih248942 _ (by omega) (v248943 + 1) H248999 ((p248945 + 1)) w249001 f249004 ⟨by omega, by omega⟩ (by omega) (by omega) (by omega) (by omega) (by omega) (by omega) rfl)
                      · refine wp_of e172 c172_109 (rw_aload_n (pc' := 110) (v := .ref r0) rfl rfl rfl ?_)
                        refine wp_of e172 c172_110 (rw_ldc2 (pc' := 113) (z := 32) rfl rfl rfl ?_)
                        refine wp_of e172 c172_113 (rw_aload_n (pc' := 114) (v := .ref r0) rfl rfl rfl ?_)
                        refine wp_of e172 c172_114 (xg_L (pc' := 117) lf_9_94 w248947 g0 sh_42 (by decide) (by decide) ty_42_15 rfl rfl (fun b249007 b249008 => ?_))
                        refine wp_of e172 c172_117 (rw_lmulw (pc' := 118) rfl ?_)
                        obtain ⟨v249009, e249010⟩ : ∃ x : Int, x = wl_w (32 * (H248944 r0 15)) := ⟨_, rfl⟩
                        rw [← e249010]
                        have b249011 : -9223372036854775808 ≤ v249009 ∧ v249009 ≤ 9223372036854775807 := by
                          rw [e249010]
                          exact wL_w _
                        have b249012 : (-9223372036854775808 ≤ 32 * (H248944 r0 15) ∧ 32 * (H248944 r0 15) ≤ 9223372036854775807) → v249009 = 32 * (H248944 r0 15) := fun h => by rw [e249010]; exact wl_w_id h
                        refine wp_of e172 c172_118 (rw_aload_n (pc' := 119) (v := .ref r0) rfl rfl rfl ?_)
                        refine wp_of e172 c172_119 (rw_aload_n (pc' := 120) (v := .ref r0) rfl rfl rfl ?_)
                        refine wp_of e172 c172_120 (xg_I (pc' := 123) lf_9_78 w248947 g0 sh_42 (by decide) (by decide) ty_42_8 rfl rfl (fun b249013 b249014 => ?_))
                        refine wp_of e172 c172_123 (xc_V (pc' := 126) (r := r0) (as := [vI (H248944 r0 8)]) (st := [vL v249009, .ref r0]) (lm_9_81) rfl rfl (Nat.le_of_ble_eq_true rfl) w248947 g0 sh_42 (by decide) rfl (by decide) (u_173 (B := B) (n := n) (y := p248945) w248947 g0 ⟨by omega, by omega⟩ q248962 grb (by omega) (by omega) h248964) (fun R249015 T249016 H249017 p249018 => ?_))
                        obtain ⟨e249019, e249021, z249022, e249020, b249023, p249024⟩ := p249018
                        subst e249019
                        subst e249020
                        subst e249021
                        rcases p249024 with ⟨a249025, a249026⟩ | ⟨a249027, a249028, a249029, a249030⟩
                        · show wp _ _ 172 126 [(2, vI v248943), (0, .ref r0)] [vI z249022, vL v249009, .ref r0] _ H248944 _
                          refine wp_of e172 c172_126 (rw_bipush (pc' := 128) (z := 97) rfl (by decide) ?_)
                          refine wp_of e172 c172_128 (rw_isub (pc' := 129) rfl ?_)
                          refine wp_of e172 c172_129 (rw_iconst (pc' := 130) rfl ?_)
                          refine wp_of e172 c172_130 (rw_iadd (pc' := 131) rfl ?_)
                          refine wp_of e172 c172_131 (rw_i2l (pc' := 132) rfl ⟨by omega, by omega⟩ ?_)
                          refine wp_of e172 c172_132 (rw_laddw (pc' := 133) rfl ?_)
                          obtain ⟨v249031, e249032⟩ : ∃ x : Int, x = wl_w (v249009 + ((z249022 - 97) + 1)) := ⟨_, rfl⟩
                          rw [← e249032]
                          have b249033 : -9223372036854775808 ≤ v249031 ∧ v249031 ≤ 9223372036854775807 := by
                            rw [e249032]
                            exact wL_w _
                          have b249034 : (-9223372036854775808 ≤ v249009 + ((z249022 - 97) + 1) ∧ v249009 + ((z249022 - 97) + 1) ≤ 9223372036854775807) → v249031 = v249009 + ((z249022 - 97) + 1) := fun h => by rw [e249032]; exact wl_w_id h
                          refine wp_of e172 c172_133 (xp_L (pc' := 136) lf_9_94 w248947 g0 sh_42 (by decide) (by decide) ty_42_15 rfl rfl (by omega) (by omega) ⟨by omega, by omega⟩ rfl (fun H249035 e249036 w249037 => ?_))
                          have f249038 := f248957.put' e249036 g0 rfl
                          have f249039 := f248958.put' e249036 g0 rfl
                          have f249040 := f248948.put' e249036 g0 rfl
                          have k249041 : H249035 r0 15 = v249031 := wq_u_s e249036
                          refine wp_of e172 c172_136 (rw_iinc (pc' := 139) (z := v248943) (L' := [(2, vI (v248943 + 1)), (0, .ref r0)]) rfl rfl rfl rfl ?_)
                          refine wp_of e172 c172_139 (rw_aload_n (pc' := 140) (v := .ref r0) rfl rfl rfl ?_)
                          refine wp_of e172 c172_140 (rw_dup (pc' := 141) rfl rfl ?_)
                          have k249042 : H249035 r0 8 = H248944 r0 8 := (wq_u_j e249036 rfl)
                          refine wp_of e172 c172_141 (xg_I (pc' := 144) lf_9_78 w249037 g0 sh_42 (by decide) (by decide) ty_42_8 rfl rfl (fun b249043 b249044 => ?_))
                          refine wp_of e172 c172_144 (rw_iconst (pc' := 145) rfl ?_)
                          refine wp_of e172 c172_145 (rw_iadd (pc' := 146) rfl ?_)
                          refine wp_of e172 c172_146 (xp_I (pc' := 149) lf_9_78 w249037 g0 sh_42 (by decide) (by decide) ty_42_8 rfl rfl (by omega) (by omega) ⟨by omega, by omega⟩ rfl (fun H249045 e249046 w249047 => ?_))
                          have f249048 := f249038.put' e249046 g0 rfl
                          have f249049 := f249039.put' e249046 g0 rfl
                          have f249050 := f249040.put' e249046 g0 rfl
                          have k249051 : H249045 r0 8 = (H249035 r0 8) + 1 := wq_u_s e249046
                          refine wp_of e172 c172_149 (rw_goto (p1 := 89) (by decide) ?_)
                          have k249052 : H249045 r0 15 = H249035 r0 15 := (wq_u_j e249046 rfl)
                          have := @xG_s 97 122 B n p248945 (by omega) (by omega) (by omega)
                          have := @xkf_s B q 32 96 p248945 (by omega)
                          exact wp_lc (ks := [2, 0]) (wl_c rfl (wl_c rfl wl_n)) rfl (by decide) (ih248942 _ (by omega) (v248943 + 1) H249045 ((p248945 + 1)) w249047 f249050 ⟨by omega, by omega⟩ (by omega) (by omega) (by omega) (by omega) (by omega) (by omega) rfl)
                        · show wp _ _ 172 126 [(2, vI v248943), (0, .ref r0)] [vI z249022, vL v249009, .ref r0] _ H248944 _
                          refine wp_of e172 c172_126 (rw_bipush (pc' := 128) (z := 97) rfl (by decide) ?_)
                          refine wp_of e172 c172_128 (rw_isub (pc' := 129) rfl ?_)
                          refine wp_of e172 c172_129 (rw_iconst (pc' := 130) rfl ?_)
                          refine wp_of e172 c172_130 (rw_iadd (pc' := 131) rfl ?_)
                          refine wp_of e172 c172_131 (rw_i2l (pc' := 132) rfl ⟨by omega, by omega⟩ ?_)
                          refine wp_of e172 c172_132 (rw_laddw (pc' := 133) rfl ?_)
                          obtain ⟨v249053, e249054⟩ : ∃ x : Int, x = wl_w (v249009 + ((z249022 - 97) + 1)) := ⟨_, rfl⟩
                          rw [← e249054]
                          have b249055 : -9223372036854775808 ≤ v249053 ∧ v249053 ≤ 9223372036854775807 := by
                            rw [e249054]
                            exact wL_w _
                          have b249056 : (-9223372036854775808 ≤ v249009 + ((z249022 - 97) + 1) ∧ v249009 + ((z249022 - 97) + 1) ≤ 9223372036854775807) → v249053 = v249009 + ((z249022 - 97) + 1) := fun h => by rw [e249054]; exact wl_w_id h
                          refine wp_of e172 c172_133 (xp_L (pc' := 136) lf_9_94 w248947 g0 sh_42 (by decide) (by decide) ty_42_15 rfl rfl (by omega) (by omega) ⟨by omega, by omega⟩ rfl (fun H249057 e249058 w249059 => ?_))
                          have f249060 := f248957.put' e249058 g0 rfl
                          have f249061 := f248958.put' e249058 g0 rfl
                          have f249062 := f248948.put' e249058 g0 rfl
                          have k249063 : H249057 r0 15 = v249053 := wq_u_s e249058
                          refine wp_of e172 c172_136 (rw_iinc (pc' := 139) (z := v248943) (L' := [(2, vI (v248943 + 1)), (0, .ref r0)]) rfl rfl rfl rfl ?_)
                          refine wp_of e172 c172_139 (rw_aload_n (pc' := 140) (v := .ref r0) rfl rfl rfl ?_)
                          refine wp_of e172 c172_140 (rw_dup (pc' := 141) rfl rfl ?_)
                          have k249064 : H249057 r0 8 = H248944 r0 8 := (wq_u_j e249058 rfl)
                          refine wp_of e172 c172_141 (xg_I (pc' := 144) lf_9_78 w249059 g0 sh_42 (by decide) (by decide) ty_42_8 rfl rfl (fun b249065 b249066 => ?_))
                          refine wp_of e172 c172_144 (rw_iconst (pc' := 145) rfl ?_)
                          refine wp_of e172 c172_145 (rw_iadd (pc' := 146) rfl ?_)
                          refine wp_of e172 c172_146 (xp_I (pc' := 149) lf_9_78 w249059 g0 sh_42 (by decide) (by decide) ty_42_8 rfl rfl (by omega) (by omega) ⟨by omega, by omega⟩ rfl (fun H249067 e249068 w249069 => ?_))
                          have f249070 := f249060.put' e249068 g0 rfl
                          have f249071 := f249061.put' e249068 g0 rfl
                          have f249072 := f249062.put' e249068 g0 rfl
                          have k249073 : H249067 r0 8 = (H249057 r0 8) + 1 := wq_u_s e249068
                          refine wp_of e172 c172_149 (rw_goto (p1 := 89) (by decide) ?_)
                          have k249074 : H249067 r0 15 = H249057 r0 15 := (wq_u_j e249068 rfl)
                          have := @xG_s 97 122 B n p248945 (by omega) (by omega) (by omega)
                          have := @xkf_s B q 32 96 p248945 (by omega)
                          exact wp_lc (ks := [2, 0]) (wl_c rfl (wl_c rfl wl_n)) rfl (by decide) (ih248942 _ (by omega) (v248943 + 1) H249067 ((p248945 + 1)) w249069 f249072 ⟨by omega, by omega⟩ (by omega) (by omega) (by omega) (by omega) (by omega) (by omega) rfl)
                  · show wp _ _ 172 100 [(2, vI v248943), (0, .ref r0)] [vI z248988] _ H248944 _
                    refine wp_of e172 c172_100 (rw_if_eq (p1 := 152) (p2 := 103) (by decide) rfl ⟨by omega, by omega⟩ (fun c249075 => ?_) (fun c249075 => ?_))
                    · have := @xG_e 97 122 B n p248945 (by omega)
                      have := @xY_of B n q p248945
                      exact wp_lc (ks := [2, 0]) (wl_c rfl (wl_c rfl wl_n)) rfl (by decide) (jn247559 v248943 H248944 w248947 f248958 ⟨by omega, by omega⟩ (by omega) (by omega) (by omega))
                    · exfalso
                      omega
                · show wp _ _ 172 97 [(2, vI v248943), (0, .ref r0)] [vI z248972] _ H248944 _
                  refine wp_of e172 c172_97 (xc_S (pc' := 100) (as := [vI z248972]) (st := []) (lm_9_90) rfl rfl (Nat.le_of_ble_eq_true rfl) rfl (by decide) (u_174  w248947 ⟨by omega, by omega⟩) (fun R249076 T249077 H249078 p249079 => ?_))
                  obtain ⟨e249080, e249082, z249083, e249081, b249084, p249085⟩ := p249079
                  subst e249080
                  subst e249081
                  subst e249082
                  rcases p249085 with ⟨a249086, a249087⟩ | ⟨a249088, a249089⟩
                  · show wp _ _ 172 100 [(2, vI v248943), (0, .ref r0)] [vI z249083] _ H248944 _
                    refine wp_of e172 c172_100 (rw_if_eq (p1 := 152) (p2 := 103) (by decide) rfl ⟨by omega, by omega⟩ (fun c249090 => ?_) (fun c249090 => ?_))
                    · exfalso
                      omega
                    · refine wp_of e172 c172_103 (rw_iload_n (pc' := 104) (z := v248943) rfl rfl ?_)
                      refine wp_of e172 c172_104 (rw_bipush (pc' := 106) (z := 8) rfl (by decide) ?_)
                      refine wp_of e172 c172_106 (rw_icmp_ge (p1 := 136) (p2 := 109) (by decide) rfl ⟨by omega, by omega⟩ ⟨by omega, by omega⟩ (fun c249091 => ?_) (fun c249091 => ?_))
                      · refine wp_of e172 c172_136 (rw_iinc (pc' := 139) (z := v248943) (L' := [(2, vI (v248943 + 1)), (0, .ref r0)]) rfl rfl rfl rfl ?_)
                        refine wp_of e172 c172_139 (rw_aload_n (pc' := 140) (v := .ref r0) rfl rfl rfl ?_)
                        refine wp_of e172 c172_140 (rw_dup (pc' := 141) rfl rfl ?_)
                        refine wp_of e172 c172_141 (xg_I (pc' := 144) lf_9_78 w248947 g0 sh_42 (by decide) (by decide) ty_42_8 rfl rfl (fun b249092 b249093 => ?_))
                        refine wp_of e172 c172_144 (rw_iconst (pc' := 145) rfl ?_)
                        refine wp_of e172 c172_145 (rw_iadd (pc' := 146) rfl ?_)
                        refine wp_of e172 c172_146 (xp_I (pc' := 149) lf_9_78 w248947 g0 sh_42 (by decide) (by decide) ty_42_8 rfl rfl (by omega) (by omega) ⟨by omega, by omega⟩ rfl (fun H249094 e249095 w249096 => ?_))
                        have f249097 := f248957.put' e249095 g0 rfl
                        have f249098 := f248958.put' e249095 g0 rfl
                        have f249099 := f248948.put' e249095 g0 rfl
                        have k249100 : H249094 r0 8 = (H248944 r0 8) + 1 := wq_u_s e249095
                        refine wp_of e172 c172_149 (rw_goto (p1 := 89) (by decide) ?_)
                        have k249101 : H249094 r0 15 = H248944 r0 15 := (wq_u_j e249095 rfl)
                        have := @xG_s 97 122 B n p248945 (by omega) (by omega) (by omega)
                        have := @xkf_s B q 32 96 p248945 (by omega)
                        exact wp_lc (ks := [2, 0]) (wl_c rfl (wl_c rfl wl_n)) rfl (by decide) (ih248942 _ (by omega) (v248943 + 1) H249094 ((p248945 + 1)) w249096 f249099 ⟨by omega, by omega⟩ (by omega) (by omega) (by omega) (by omega) (by omega) (by omega) rfl)
                      · refine wp_of e172 c172_109 (rw_aload_n (pc' := 110) (v := .ref r0) rfl rfl rfl ?_)
                        refine wp_of e172 c172_110 (rw_ldc2 (pc' := 113) (z := 32) rfl rfl rfl ?_)
                        refine wp_of e172 c172_113 (rw_aload_n (pc' := 114) (v := .ref r0) rfl rfl rfl ?_)
                        refine wp_of e172 c172_114 (xg_L (pc' := 117) lf_9_94 w248947 g0 sh_42 (by decide) (by decide) ty_42_15 rfl rfl (fun b249102 b249103 => ?_))
                        refine wp_of e172 c172_117 (rw_lmulw (pc' := 118) rfl ?_)
                        obtain ⟨v249104, e249105⟩ : ∃ x : Int, x = wl_w (32 * (H248944 r0 15)) := ⟨_, rfl⟩
                        rw [← e249105]
                        have b249106 : -9223372036854775808 ≤ v249104 ∧ v249104 ≤ 9223372036854775807 := by
                          rw [e249105]
                          exact wL_w _
                        have b249107 : (-9223372036854775808 ≤ 32 * (H248944 r0 15) ∧ 32 * (H248944 r0 15) ≤ 9223372036854775807) → v249104 = 32 * (H248944 r0 15) := fun h => by rw [e249105]; exact wl_w_id h
                        refine wp_of e172 c172_118 (rw_aload_n (pc' := 119) (v := .ref r0) rfl rfl rfl ?_)
                        refine wp_of e172 c172_119 (rw_aload_n (pc' := 120) (v := .ref r0) rfl rfl rfl ?_)
                        refine wp_of e172 c172_120 (xg_I (pc' := 123) lf_9_78 w248947 g0 sh_42 (by decide) (by decide) ty_42_8 rfl rfl (fun b249108 b249109 => ?_))
                        refine wp_of e172 c172_123 (xc_V (pc' := 126) (r := r0) (as := [vI (H248944 r0 8)]) (st := [vL v249104, .ref r0]) (lm_9_81) rfl rfl (Nat.le_of_ble_eq_true rfl) w248947 g0 sh_42 (by decide) rfl (by decide) (u_173 (B := B) (n := n) (y := p248945) w248947 g0 ⟨by omega, by omega⟩ q248962 grb (by omega) (by omega) h248964) (fun R249110 T249111 H249112 p249113 => ?_))
                        obtain ⟨e249114, e249116, z249117, e249115, b249118, p249119⟩ := p249113
                        subst e249114
                        subst e249115
                        subst e249116
                        rcases p249119 with ⟨a249120, a249121⟩ | ⟨a249122, a249123, a249124, a249125⟩
                        · show wp _ _ 172 126 [(2, vI v248943), (0, .ref r0)] [vI z249117, vL v249104, .ref r0] _ H248944 _
                          refine wp_of e172 c172_126 (rw_bipush (pc' := 128) (z := 97) rfl (by decide) ?_)
                          refine wp_of e172 c172_128 (rw_isub (pc' := 129) rfl ?_)
                          refine wp_of e172 c172_129 (rw_iconst (pc' := 130) rfl ?_)
                          refine wp_of e172 c172_130 (rw_iadd (pc' := 131) rfl ?_)
                          refine wp_of e172 c172_131 (rw_i2l (pc' := 132) rfl ⟨by omega, by omega⟩ ?_)
                          refine wp_of e172 c172_132 (rw_laddw (pc' := 133) rfl ?_)
                          obtain ⟨v249126, e249127⟩ : ∃ x : Int, x = wl_w (v249104 + ((z249117 - 97) + 1)) := ⟨_, rfl⟩
                          rw [← e249127]
                          have b249128 : -9223372036854775808 ≤ v249126 ∧ v249126 ≤ 9223372036854775807 := by
                            rw [e249127]
                            exact wL_w _
                          have b249129 : (-9223372036854775808 ≤ v249104 + ((z249117 - 97) + 1) ∧ v249104 + ((z249117 - 97) + 1) ≤ 9223372036854775807) → v249126 = v249104 + ((z249117 - 97) + 1) := fun h => by rw [e249127]; exact wl_w_id h
                          refine wp_of e172 c172_133 (xp_L (pc' := 136) lf_9_94 w248947 g0 sh_42 (by decide) (by decide) ty_42_15 rfl rfl (by omega) (by omega) ⟨by omega, by omega⟩ rfl (fun H249130 e249131 w249132 => ?_))
                          have f249133 := f248957.put' e249131 g0 rfl
                          have f249134 := f248958.put' e249131 g0 rfl
                          have f249135 := f248948.put' e249131 g0 rfl
                          have k249136 : H249130 r0 15 = v249126 := wq_u_s e249131
                          refine wp_of e172 c172_136 (rw_iinc (pc' := 139) (z := v248943) (L' := [(2, vI (v248943 + 1)), (0, .ref r0)]) rfl rfl rfl rfl ?_)
                          refine wp_of e172 c172_139 (rw_aload_n (pc' := 140) (v := .ref r0) rfl rfl rfl ?_)
                          refine wp_of e172 c172_140 (rw_dup (pc' := 141) rfl rfl ?_)
                          have k249137 : H249130 r0 8 = H248944 r0 8 := (wq_u_j e249131 rfl)
                          refine wp_of e172 c172_141 (xg_I (pc' := 144) lf_9_78 w249132 g0 sh_42 (by decide) (by decide) ty_42_8 rfl rfl (fun b249138 b249139 => ?_))
                          refine wp_of e172 c172_144 (rw_iconst (pc' := 145) rfl ?_)
                          refine wp_of e172 c172_145 (rw_iadd (pc' := 146) rfl ?_)
                          refine wp_of e172 c172_146 (xp_I (pc' := 149) lf_9_78 w249132 g0 sh_42 (by decide) (by decide) ty_42_8 rfl rfl (by omega) (by omega) ⟨by omega, by omega⟩ rfl (fun H249140 e249141 w249142 => ?_))
                          have f249143 := f249133.put' e249141 g0 rfl
                          have f249144 := f249134.put' e249141 g0 rfl
                          have f249145 := f249135.put' e249141 g0 rfl
                          have k249146 : H249140 r0 8 = (H249130 r0 8) + 1 := wq_u_s e249141
                          refine wp_of e172 c172_149 (rw_goto (p1 := 89) (by decide) ?_)
                          have k249147 : H249140 r0 15 = H249130 r0 15 := (wq_u_j e249141 rfl)
                          have := @xG_s 97 122 B n p248945 (by omega) (by omega) (by omega)
                          have := @xkf_s B q 32 96 p248945 (by omega)
                          exact wp_lc (ks := [2, 0]) (wl_c rfl (wl_c rfl wl_n)) rfl (by decide) (ih248942 _ (by omega) (v248943 + 1) H249140 ((p248945 + 1)) w249142 f249145 ⟨by omega, by omega⟩ (by omega) (by omega) (by omega) (by omega) (by omega) (by omega) rfl)
                        · show wp _ _ 172 126 [(2, vI v248943), (0, .ref r0)] [vI z249117, vL v249104, .ref r0] _ H248944 _
                          refine wp_of e172 c172_126 (rw_bipush (pc' := 128) (z := 97) rfl (by decide) ?_)
                          refine wp_of e172 c172_128 (rw_isub (pc' := 129) rfl ?_)
                          refine wp_of e172 c172_129 (rw_iconst (pc' := 130) rfl ?_)
                          refine wp_of e172 c172_130 (rw_iadd (pc' := 131) rfl ?_)
                          refine wp_of e172 c172_131 (rw_i2l (pc' := 132) rfl ⟨by omega, by omega⟩ ?_)
                          refine wp_of e172 c172_132 (rw_laddw (pc' := 133) rfl ?_)
                          obtain ⟨v249148, e249149⟩ : ∃ x : Int, x = wl_w (v249104 + ((z249117 - 97) + 1)) := ⟨_, rfl⟩
                          rw [← e249149]
                          have b249150 : -9223372036854775808 ≤ v249148 ∧ v249148 ≤ 9223372036854775807 := by
                            rw [e249149]
                            exact wL_w _
                          have b249151 : (-9223372036854775808 ≤ v249104 + ((z249117 - 97) + 1) ∧ v249104 + ((z249117 - 97) + 1) ≤ 9223372036854775807) → v249148 = v249104 + ((z249117 - 97) + 1) := fun h => by rw [e249149]; exact wl_w_id h
                          refine wp_of e172 c172_133 (xp_L (pc' := 136) lf_9_94 w248947 g0 sh_42 (by decide) (by decide) ty_42_15 rfl rfl (by omega) (by omega) ⟨by omega, by omega⟩ rfl (fun H249152 e249153 w249154 => ?_))
                          have f249155 := f248957.put' e249153 g0 rfl
                          have f249156 := f248958.put' e249153 g0 rfl
                          have f249157 := f248948.put' e249153 g0 rfl
                          have k249158 : H249152 r0 15 = v249148 := wq_u_s e249153
                          refine wp_of e172 c172_136 (rw_iinc (pc' := 139) (z := v248943) (L' := [(2, vI (v248943 + 1)), (0, .ref r0)]) rfl rfl rfl rfl ?_)
                          refine wp_of e172 c172_139 (rw_aload_n (pc' := 140) (v := .ref r0) rfl rfl rfl ?_)
                          refine wp_of e172 c172_140 (rw_dup (pc' := 141) rfl rfl ?_)
                          have k249159 : H249152 r0 8 = H248944 r0 8 := (wq_u_j e249153 rfl)
                          refine wp_of e172 c172_141 (xg_I (pc' := 144) lf_9_78 w249154 g0 sh_42 (by decide) (by decide) ty_42_8 rfl rfl (fun b249160 b249161 => ?_))
                          refine wp_of e172 c172_144 (rw_iconst (pc' := 145) rfl ?_)
                          refine wp_of e172 c172_145 (rw_iadd (pc' := 146) rfl ?_)
                          refine wp_of e172 c172_146 (xp_I (pc' := 149) lf_9_78 w249154 g0 sh_42 (by decide) (by decide) ty_42_8 rfl rfl (by omega) (by omega) ⟨by omega, by omega⟩ rfl (fun H249162 e249163 w249164 => ?_))
                          have f249165 := f249155.put' e249163 g0 rfl
                          have f249166 := f249156.put' e249163 g0 rfl
                          have f249167 := f249157.put' e249163 g0 rfl
                          have k249168 : H249162 r0 8 = (H249152 r0 8) + 1 := wq_u_s e249163
                          refine wp_of e172 c172_149 (rw_goto (p1 := 89) (by decide) ?_)
                          have k249169 : H249162 r0 15 = H249152 r0 15 := (wq_u_j e249163 rfl)
                          have := @xG_s 97 122 B n p248945 (by omega) (by omega) (by omega)
                          have := @xkf_s B q 32 96 p248945 (by omega)
                          exact wp_lc (ks := [2, 0]) (wl_c rfl (wl_c rfl wl_n)) rfl (by decide) (ih248942 _ (by omega) (v248943 + 1) H249162 ((p248945 + 1)) w249164 f249167 ⟨by omega, by omega⟩ (by omega) (by omega) (by omega) (by omega) (by omega) (by omega) rfl)
                  · show wp _ _ 172 100 [(2, vI v248943), (0, .ref r0)] [vI z249083] _ H248944 _
                    refine wp_of e172 c172_100 (rw_if_eq (p1 := 152) (p2 := 103) (by decide) rfl ⟨by omega, by omega⟩ (fun c249170 => ?_) (fun c249170 => ?_))
                    · have := @xG_e 97 122 B n p248945 (by omega)
                      have := @xY_of B n q p248945
                      exact wp_lc (ks := [2, 0]) (wl_c rfl (wl_c rfl wl_n)) rfl (by decide) (jn247559 v248943 H248944 w248947 f248958 ⟨by omega, by omega⟩ (by omega) (by omega) (by omega))
                    · exfalso
                      omega
            have := @xkf_q B q q 32 96
            exact wp_lc (ks := [2, 1, 0]) (wl_c rfl (wl_c rfl wl_n)) rfl (by decide) (lp248940 _ 0 H247591 q w247593 wfr.rf ⟨by omega, by omega⟩ (by omega) (by omega) (by omega) (by omega) (by omega) (by omega) rfl)
        · show wp _ _ 172 81 [(2, vI 0), (1, vI z246062), (0, .ref r0)] [vI z246093] _ H246043 _
          refine wp_of e172 c172_81 (rw_if_eq (p1 := 166) (p2 := 84) (by decide) rfl ⟨by omega, by omega⟩ (fun c249171 => ?_) (fun c249171 => ?_))
          · refine wp_of e172 c172_166 (rw_iload_n (pc' := 167) (z := z246062) rfl rfl ?_)
            refine wp_of e172 c172_167 (xc_S (pc' := 170) (as := [vI z246062]) (st := []) (lm_9_98) rfl rfl (Nat.le_of_ble_eq_true rfl) rfl (by decide) (u_175  w246045 ⟨by omega, by omega⟩) (fun R249172 T249173 H249174 p249175 => ?_))
            obtain ⟨e249176, e249178, z249179, e249177, b249180, p249181⟩ := p249175
            subst e249176
            subst e249177
            subst e249178
            rcases p249181 with ⟨a249182, a249183⟩ | ⟨a249184, a249185⟩
            · show wp _ _ 172 170 [(2, vI 0), (1, vI z246062), (0, .ref r0)] [vI z249179] _ H246043 _
              refine wp_of e172 c172_170 (rw_if_eq (p1 := 249) (p2 := 173) (by decide) rfl ⟨by omega, by omega⟩ (fun c249186 => ?_) (fun c249186 => ?_))
              · exfalso
                omega
              · have jn250765 : ∀ (v250763 : Int) (H250764 : wq_H), WT T H250764 → wfr [(42, 8), (42, 12)] T H246043 H250764 → (0 ≤ v250763 ∧ v250763 ≤ 900) → (H250764 r0 8 = xG 48 57 B n q) → (v250763 = H250764 r0 8 - q) → (3 < v250763 ∨ H250764 r0 12 = xV B n q) → wp kt 1 172 236 [(2, vI v250763), (0, .ref r0)] [] T H250764 (uq_172_k r0 rb B n a q T H) := by
                  intro v250763 H250764 w250766 f250767 b250768 x250769 x250770 x250771
                  have f250772 := f246046.tr f250767 rfl
                  refine wp_of e172 c172_236 (rw_iload_n (pc' := 237) (z := v250763) rfl rfl ?_)
                  refine wp_of e172 c172_237 (rw_iconst (pc' := 238) rfl ?_)
                  refine wp_of e172 c172_238 (rw_icmp_gt (p1 := 281) (p2 := 241) (by decide) rfl ⟨by omega, by omega⟩ ⟨by omega, by omega⟩ (fun c250773 => ?_) (fun c250773 => ?_))
                  · have k250774 : H250764 r0 9 = H246038 r0 9 := ((f250767 r0 9 _ g0 rfl).trans (wq_u_j e246044 rfl))
                    have k250775 : H250764 r0 7 = H246043 r0 7 := (f250767 r0 7 _ g0 rfl)
                    have k250776 : H250764 r0 13 = H r0 13 := ((f250767 r0 13 _ g0 rfl).trans ((wq_u_j e246044 rfl).trans ((wq_u_j e246039 rfl).trans ((wq_u_j e246034 rfl).trans (f246028 r0 13 _ g0 rfl)))))
                    have k250777 : H250764 r0 10 = H246033 r0 10 := ((f250767 r0 10 _ g0 rfl).trans ((wq_u_j e246044 rfl).trans (wq_u_j e246039 rfl)))
                    have k250778 : H250764 r0 11 = H246043 r0 11 := (f250767 r0 11 _ g0 rfl)
                    obtain ⟨kk, hk⟩ : ∃ x : Int, xK B n q = x := ⟨_, rfl⟩
                    have hk2 := hk
                    unfold xK at hk2
                    repeat first | rw [if_pos (by omega)] at hk2 | rw [if_neg (by omega)] at hk2
                    obtain ⟨ke, he⟩ : ∃ x : Int, xE B n q = x := ⟨_, rfl⟩
                    have he2 := he
                    unfold xE at he2
                    repeat first | rw [if_pos (by omega)] at he2 | rw [if_neg (by omega)] at he2
                    have k250779 : H250764 r0 5 = H246043 r0 5 := (f250767 r0 5 _ g0 rfl)
                    have q250780 : H250764 r0 5 = (rb : Int) := k250779.trans q246052
                    have h250781 : TM T H250764 rb B := (TM_fr w246045 grb f250767 rfl h246054)
                    exact wp_return e172 c172_281 rfl ⟨rfl, w250766, f250772, rfl, (RC_mk q250780 grb h250781 (by omega) (by rw [hk, ← hk2]; omega) (by omega) (by omega) (by omega) (by omega) (by omega))⟩
                  · refine wp_of e172 c172_241 (rw_aload_n (pc' := 242) (v := .ref r0) rfl rfl rfl ?_)
                    refine wp_of e172 c172_242 (rw_iconst (pc' := 243) rfl ?_)
                    refine wp_of e172 c172_243 (xp_I (pc' := 246) lf_9_75 w250766 g0 sh_42 (by decide) (by decide) ty_42_9 rfl rfl (by omega) (by omega) ⟨by omega, by omega⟩ rfl (fun H250782 e250783 w250784 => ?_))
                    have f250785 := f250772.put' e250783 g0 rfl
                    have k250786 : H250782 r0 9 = 3 := wq_u_s e250783
                    refine wp_of e172 c172_246 (rw_goto (p1 := 281) (by decide) ?_)
                    have k250787 : H250782 r0 8 = H250764 r0 8 := (wq_u_j e250783 rfl)
                    have k250788 : H250782 r0 7 = H246043 r0 7 := ((wq_u_j e250783 rfl).trans (f250767 r0 7 _ g0 rfl))
                    have k250789 : H250782 r0 13 = H r0 13 := ((wq_u_j e250783 rfl).trans ((f250767 r0 13 _ g0 rfl).trans ((wq_u_j e246044 rfl).trans ((wq_u_j e246039 rfl).trans ((wq_u_j e246034 rfl).trans (f246028 r0 13 _ g0 rfl))))))
                    have k250790 : H250782 r0 10 = H246033 r0 10 := ((wq_u_j e250783 rfl).trans ((f250767 r0 10 _ g0 rfl).trans ((wq_u_j e246044 rfl).trans (wq_u_j e246039 rfl))))
                    have k250791 : H250782 r0 12 = H250764 r0 12 := (wq_u_j e250783 rfl)
                    have k250792 : H250782 r0 11 = H246043 r0 11 := ((wq_u_j e250783 rfl).trans (f250767 r0 11 _ g0 rfl))
                    obtain ⟨kk, hk⟩ : ∃ x : Int, xK B n q = x := ⟨_, rfl⟩
                    have hk2 := hk
                    unfold xK at hk2
                    repeat first | rw [if_pos (by omega)] at hk2 | rw [if_neg (by omega)] at hk2
                    obtain ⟨ke, he⟩ : ∃ x : Int, xE B n q = x := ⟨_, rfl⟩
                    have he2 := he
                    unfold xE at he2
                    repeat first | rw [if_pos (by omega)] at he2 | rw [if_neg (by omega)] at he2
                    have k250793 : H250782 r0 5 = H246043 r0 5 := ((wq_u_j e250783 rfl).trans (f250767 r0 5 _ g0 rfl))
                    have q250794 : H250782 r0 5 = (rb : Int) := k250793.trans q246052
                    have h250795 : TM T H250782 rb B := (TM_fr w250766 grb ((wfr.rf (l := [(42, 9)])).put' e250783 g0 rfl) rfl (TM_fr w246045 grb f250767 rfl h246054))
                    exact wp_return e172 c172_281 rfl ⟨rfl, w250784, f250785, rfl, (RC_mk q250794 grb h250795 (by omega) (by rw [hk, ← hk2]; omega) (by omega) (by omega) (by omega) (by omega) (by omega))⟩
                have f250796 : wfr [(42, 8), (42, 12)] T H246043 H246043 := wfr.rf
                refine wp_of e172 c172_173 (rw_aload_n (pc' := 174) (v := .ref r0) rfl rfl rfl ?_)
                refine wp_of e172 c172_174 (rw_iconst (pc' := 175) rfl ?_)
                refine wp_of e172 c172_175 (xp_I (pc' := 178) lf_9_101 w246045 g0 sh_42 (by decide) (by decide) ty_42_12 rfl rfl (by omega) (by omega) ⟨by omega, by omega⟩ rfl (fun H250797 e250798 w250799 => ?_))
                have f250800 := f246046.put' e250798 g0 rfl
                have f250801 := f250796.put' e250798 g0 rfl
                have k250802 : H250797 r0 12 = 0 := wq_u_s e250798
                have k252272 : H250797 r0 8 = H246043 r0 8 := (wq_u_j e250798 rfl)
                have lp252266 : ∀ (n252267 : Nat) (v252269 : Int) (H252270 : wq_H) (p252271 : Int), WT T H252270 → wfr [(42, 8), (42, 12)] T H250797 H252270 → (0 ≤ v252269 ∧ v252269 ≤ 900) → (H252270 r0 8 = p252271) → (xG 48 57 B n p252271 = xG 48 57 B n q) → (q ≤ p252271) → (p252271 ≤ n) → (v252269 = p252271 - q) → (3 < p252271 - q ∨ H252270 r0 12 = xkf 10 48 B q (p252271 - q).toNat) → (900 - p252271).toNat = n252267 → wp kt 1 172 178 [(2, vI v252269), (0, .ref r0)] [] T H252270 (uq_172_k r0 rb B n a q T H) := by
                  intro n252267
                  induction n252267 using Nat.strongRecOn with
                  | _ n252267 ih252268 =>
                    intro v252269 H252270 p252271 w252273 f252274 b252275 x252277 x252278 x252279 x252280 x252281 x252282 m252276
                    have f252283 := f250800.tr f252274 rfl
                    have f252284 := f250801.tr f252274 rfl
                    have := @xG_b 48 57 B n p252271
                    have := @xkf_V2 B n q p252271 (by omega)
                    refine wp_of e172 c172_178 (rw_aload_n (pc' := 179) (v := .ref r0) rfl rfl rfl ?_)
                    refine wp_of e172 c172_179 (rw_aload_n (pc' := 180) (v := .ref r0) rfl rfl rfl ?_)
                    refine wp_of e172 c172_180 (xg_I (pc' := 183) lf_9_78 w252273 g0 sh_42 (by decide) (by decide) ty_42_8 rfl rfl (fun b252285 b252286 => ?_))
                    have k252287 : H252270 r0 5 = H246043 r0 5 := ((f252274 r0 5 _ g0 rfl).trans (wq_u_j e250798 rfl))
                    have q252288 : H252270 r0 5 = (rb : Int) := k252287.trans q246052
                    have k252289 : H252270 r0 7 = H246043 r0 7 := ((f252274 r0 7 _ g0 rfl).trans (wq_u_j e250798 rfl))
                    have h252290 : TM T H252270 rb B := (TM_fr w250799 grb f252274 rfl (TM_fr w246045 grb ((wfr.rf (l := [(42, 12)])).put' e250798 g0 rfl) rfl h246054))
                    refine wp_of e172 c172_183 (xc_V (pc' := 186) (r := r0) (as := [vI (H252270 r0 8)]) (st := []) (lm_9_81) rfl rfl (Nat.le_of_ble_eq_true rfl) w252273 g0 sh_42 (by decide) rfl (by decide) (u_173 (B := B) (n := n) (y := p252271) w252273 g0 ⟨by omega, by omega⟩ q252288 grb (by omega) (by omega) h252290) (fun R252291 T252292 H252293 p252294 => ?_))
                    obtain ⟨e252295, e252297, z252298, e252296, b252299, p252300⟩ := p252294
                    subst e252295
                    subst e252296
                    subst e252297
                    rcases p252300 with ⟨a252301, a252302⟩ | ⟨a252303, a252304, a252305, a252306⟩
                    · show wp _ _ 172 186 [(2, vI v252269), (0, .ref r0)] [vI z252298] _ H252270 _
                      refine wp_of e172 c172_186 (xc_S (pc' := 189) (as := [vI z252298]) (st := []) (lm_9_98) rfl rfl (Nat.le_of_ble_eq_true rfl) rfl (by decide) (u_175  w252273 ⟨by omega, by omega⟩) (fun R252307 T252308 H252309 p252310 => ?_))
                      obtain ⟨e252311, e252313, z252314, e252312, b252315, p252316⟩ := p252310
                      subst e252311
                      subst e252312
                      subst e252313
                      rcases p252316 with ⟨a252317, a252318⟩ | ⟨a252319, a252320⟩
                      · show wp _ _ 172 189 [(2, vI v252269), (0, .ref r0)] [vI z252314] _ H252270 _
                        refine wp_of e172 c172_189 (rw_if_eq (p1 := 236) (p2 := 192) (by decide) rfl ⟨by omega, by omega⟩ (fun c252321 => ?_) (fun c252321 => ?_))
                        · exfalso
                          omega
                        · refine wp_of e172 c172_192 (rw_iload_n (pc' := 193) (z := v252269) rfl rfl ?_)
                          refine wp_of e172 c172_193 (rw_iconst (pc' := 194) rfl ?_)
                          refine wp_of e172 c172_194 (rw_icmp_ge (p1 := 220) (p2 := 197) (by decide) rfl ⟨by omega, by omega⟩ ⟨by omega, by omega⟩ (fun c252322 => ?_) (fun c252322 => ?_))
                          · refine wp_of e172 c172_220 (rw_iinc (pc' := 223) (z := v252269) (L' := [(2, vI (v252269 + 1)), (0, .ref r0)]) rfl rfl rfl rfl ?_)
                            refine wp_of e172 c172_223 (rw_aload_n (pc' := 224) (v := .ref r0) rfl rfl rfl ?_)
                            refine wp_of e172 c172_224 (rw_dup (pc' := 225) rfl rfl ?_)
                            refine wp_of e172 c172_225 (xg_I (pc' := 228) lf_9_78 w252273 g0 sh_42 (by decide) (by decide) ty_42_8 rfl rfl (fun b252323 b252324 => ?_))
                            refine wp_of e172 c172_228 (rw_iconst (pc' := 229) rfl ?_)
                            refine wp_of e172 c172_229 (rw_iadd (pc' := 230) rfl ?_)
                            refine wp_of e172 c172_230 (xp_I (pc' := 233) lf_9_78 w252273 g0 sh_42 (by decide) (by decide) ty_42_8 rfl rfl (by omega) (by omega) ⟨by omega, by omega⟩ rfl (fun H252325 e252326 w252327 => ?_))
                            have f252328 := f252283.put' e252326 g0 rfl
                            have f252329 := f252284.put' e252326 g0 rfl
                            have f252330 := f252274.put' e252326 g0 rfl
                            have k252331 : H252325 r0 8 = (H252270 r0 8) + 1 := wq_u_s e252326
                            refine wp_of e172 c172_233 (rw_goto (p1 := 178) (by decide) ?_)
                            have k252332 : H252325 r0 12 = H252270 r0 12 := (wq_u_j e252326 rfl)
                            have := @xG_s 48 57 B n p252271 (by omega) (by omega) (by omega)
                            have := @xkf_s B q 10 48 p252271 (by omega)
                            exact wp_lc (ks := [2, 0]) (wl_c rfl (wl_c rfl wl_n)) rfl (by decide) (ih252268 _ (by omega) (v252269 + 1) H252325 ((p252271 + 1)) w252327 f252330 ⟨by omega, by omega⟩ (by omega) (by omega) (by omega) (by omega) (by omega) (by omega) rfl)
                          · refine wp_of e172 c172_197 (rw_aload_n (pc' := 198) (v := .ref r0) rfl rfl rfl ?_)
                            refine wp_of e172 c172_198 (rw_bipush (pc' := 200) (z := 10) rfl (by decide) ?_)
                            refine wp_of e172 c172_200 (rw_aload_n (pc' := 201) (v := .ref r0) rfl rfl rfl ?_)
                            refine wp_of e172 c172_201 (xg_I (pc' := 204) lf_9_101 w252273 g0 sh_42 (by decide) (by decide) ty_42_12 rfl rfl (fun b252333 b252334 => ?_))
                            refine wp_of e172 c172_204 (rw_imulw (pc' := 205) rfl ?_)
                            obtain ⟨v252335, e252336⟩ : ∃ x : Int, x = wq_w (10 * (H252270 r0 12)) := ⟨_, rfl⟩
                            rw [← e252336]
                            have b252337 : -2147483648 ≤ v252335 ∧ v252335 ≤ 2147483647 := by
                              rw [e252336]
                              exact wI_w _
                            have b252338 : (-2147483648 ≤ 10 * (H252270 r0 12) ∧ 10 * (H252270 r0 12) ≤ 2147483647) → v252335 = 10 * (H252270 r0 12) := fun h => by rw [e252336]; exact wq_w_id h
                            refine wp_of e172 c172_205 (rw_aload_n (pc' := 206) (v := .ref r0) rfl rfl rfl ?_)
                            refine wp_of e172 c172_206 (rw_aload_n (pc' := 207) (v := .ref r0) rfl rfl rfl ?_)
                            refine wp_of e172 c172_207 (xg_I (pc' := 210) lf_9_78 w252273 g0 sh_42 (by decide) (by decide) ty_42_8 rfl rfl (fun b252339 b252340 => ?_))
                            refine wp_of e172 c172_210 (xc_V (pc' := 213) (r := r0) (as := [vI (H252270 r0 8)]) (st := [vI v252335, .ref r0]) (lm_9_81) rfl rfl (Nat.le_of_ble_eq_true rfl) w252273 g0 sh_42 (by decide) rfl (by decide) (u_173 (B := B) (n := n) (y := p252271) w252273 g0 ⟨by omega, by omega⟩ q252288 grb (by omega) (by omega) h252290) (fun R252341 T252342 H252343 p252344 => ?_))
                            obtain ⟨e252345, e252347, z252348, e252346, b252349, p252350⟩ := p252344
                            subst e252345
                            subst e252346
                            subst e252347
                            rcases p252350 with ⟨a252351, a252352⟩ | ⟨a252353, a252354, a252355, a252356⟩
                            · show wp _ _ 172 213 [(2, vI v252269), (0, .ref r0)] [vI z252348, vI v252335, .ref r0] _ H252270 _
                              refine wp_of e172 c172_213 (rw_iaddw (pc' := 214) rfl ?_)
                              obtain ⟨v252357, e252358⟩ : ∃ x : Int, x = wq_w (v252335 + z252348) := ⟨_, rfl⟩
                              rw [← e252358]
                              have b252359 : -2147483648 ≤ v252357 ∧ v252357 ≤ 2147483647 := by
                                rw [e252358]
                                exact wI_w _
                              have b252360 : (-2147483648 ≤ v252335 + z252348 ∧ v252335 + z252348 ≤ 2147483647) → v252357 = v252335 + z252348 := fun h => by rw [e252358]; exact wq_w_id h
                              refine wp_of e172 c172_214 (rw_bipush (pc' := 216) (z := 48) rfl (by decide) ?_)
                              refine wp_of e172 c172_216 (rw_isubw (pc' := 217) rfl ?_)
                              obtain ⟨v252361, e252362⟩ : ∃ x : Int, x = wq_w (v252357 - 48) := ⟨_, rfl⟩
                              rw [← e252362]
                              have b252363 : -2147483648 ≤ v252361 ∧ v252361 ≤ 2147483647 := by
                                rw [e252362]
                                exact wI_w _
                              have b252364 : (-2147483648 ≤ v252357 - 48 ∧ v252357 - 48 ≤ 2147483647) → v252361 = v252357 - 48 := fun h => by rw [e252362]; exact wq_w_id h
                              refine wp_of e172 c172_217 (xp_I (pc' := 220) lf_9_101 w252273 g0 sh_42 (by decide) (by decide) ty_42_12 rfl rfl (by omega) (by omega) ⟨by omega, by omega⟩ rfl (fun H252365 e252366 w252367 => ?_))
                              have f252368 := f252283.put' e252366 g0 rfl
                              have f252369 := f252284.put' e252366 g0 rfl
                              have f252370 := f252274.put' e252366 g0 rfl
                              have k252371 : H252365 r0 12 = v252361 := wq_u_s e252366
                              refine wp_of e172 c172_220 (rw_iinc (pc' := 223) (z := v252269) (L' := [(2, vI (v252269 + 1)), (0, .ref r0)]) rfl rfl rfl rfl ?_)
                              refine wp_of e172 c172_223 (rw_aload_n (pc' := 224) (v := .ref r0) rfl rfl rfl ?_)
                              refine wp_of e172 c172_224 (rw_dup (pc' := 225) rfl rfl ?_)
                              have k252372 : H252365 r0 8 = H252270 r0 8 := (wq_u_j e252366 rfl)
                              refine wp_of e172 c172_225 (xg_I (pc' := 228) lf_9_78 w252367 g0 sh_42 (by decide) (by decide) ty_42_8 rfl rfl (fun b252373 b252374 => ?_))
                              refine wp_of e172 c172_228 (rw_iconst (pc' := 229) rfl ?_)
                              refine wp_of e172 c172_229 (rw_iadd (pc' := 230) rfl ?_)
                              refine wp_of e172 c172_230 (xp_I (pc' := 233) lf_9_78 w252367 g0 sh_42 (by decide) (by decide) ty_42_8 rfl rfl (by omega) (by omega) ⟨by omega, by omega⟩ rfl (fun H252375 e252376 w252377 => ?_))
                              have f252378 := f252368.put' e252376 g0 rfl
                              have f252379 := f252369.put' e252376 g0 rfl
                              have f252380 := f252370.put' e252376 g0 rfl
                              have k252381 : H252375 r0 8 = (H252365 r0 8) + 1 := wq_u_s e252376
                              refine wp_of e172 c172_233 (rw_goto (p1 := 178) (by decide) ?_)
                              have k252382 : H252375 r0 12 = H252365 r0 12 := (wq_u_j e252376 rfl)
                              have := @xG_s 48 57 B n p252271 (by omega) (by omega) (by omega)
                              have := @xkf_s B q 10 48 p252271 (by omega)
                              exact wp_lc (ks := [2, 0]) (wl_c rfl (wl_c rfl wl_n)) rfl (by decide) (ih252268 _ (by omega) (v252269 + 1) H252375 ((p252271 + 1)) w252377 f252380 ⟨by omega, by omega⟩ (by omega) (by omega) (by omega) (by omega) (by omega) (by omega) rfl)
                            · show wp _ _ 172 213 [(2, vI v252269), (0, .ref r0)] [vI z252348, vI v252335, .ref r0] _ H252270 _
                              refine wp_of e172 c172_213 (rw_iaddw (pc' := 214) rfl ?_)
                              obtain ⟨v252383, e252384⟩ : ∃ x : Int, x = wq_w (v252335 + z252348) := ⟨_, rfl⟩
                              rw [← e252384]
                              have b252385 : -2147483648 ≤ v252383 ∧ v252383 ≤ 2147483647 := by
                                rw [e252384]
                                exact wI_w _
                              have b252386 : (-2147483648 ≤ v252335 + z252348 ∧ v252335 + z252348 ≤ 2147483647) → v252383 = v252335 + z252348 := fun h => by rw [e252384]; exact wq_w_id h
                              refine wp_of e172 c172_214 (rw_bipush (pc' := 216) (z := 48) rfl (by decide) ?_)
                              refine wp_of e172 c172_216 (rw_isubw (pc' := 217) rfl ?_)
                              obtain ⟨v252387, e252388⟩ : ∃ x : Int, x = wq_w (v252383 - 48) := ⟨_, rfl⟩
                              rw [← e252388]
                              have b252389 : -2147483648 ≤ v252387 ∧ v252387 ≤ 2147483647 := by
                                rw [e252388]
                                exact wI_w _
                              have b252390 : (-2147483648 ≤ v252383 - 48 ∧ v252383 - 48 ≤ 2147483647) → v252387 = v252383 - 48 := fun h => by rw [e252388]; exact wq_w_id h
                              refine wp_of e172 c172_217 (xp_I (pc' := 220) lf_9_101 w252273 g0 sh_42 (by decide) (by decide) ty_42_12 rfl rfl (by omega) (by omega) ⟨by omega, by omega⟩ rfl (fun H252391 e252392 w252393 => ?_))
                              have f252394 := f252283.put' e252392 g0 rfl
                              have f252395 := f252284.put' e252392 g0 rfl
                              have f252396 := f252274.put' e252392 g0 rfl
                              have k252397 : H252391 r0 12 = v252387 := wq_u_s e252392
                              refine wp_of e172 c172_220 (rw_iinc (pc' := 223) (z := v252269) (L' := [(2, vI (v252269 + 1)), (0, .ref r0)]) rfl rfl rfl rfl ?_)
                              refine wp_of e172 c172_223 (rw_aload_n (pc' := 224) (v := .ref r0) rfl rfl rfl ?_)
                              refine wp_of e172 c172_224 (rw_dup (pc' := 225) rfl rfl ?_)
                              have k252398 : H252391 r0 8 = H252270 r0 8 := (wq_u_j e252392 rfl)
                              refine wp_of e172 c172_225 (xg_I (pc' := 228) lf_9_78 w252393 g0 sh_42 (by decide) (by decide) ty_42_8 rfl rfl (fun b252399 b252400 => ?_))
                              refine wp_of e172 c172_228 (rw_iconst (pc' := 229) rfl ?_)
                              refine wp_of e172 c172_229 (rw_iadd (pc' := 230) rfl ?_)
                              refine wp_of e172 c172_230 (xp_I (pc' := 233) lf_9_78 w252393 g0 sh_42 (by decide) (by decide) ty_42_8 rfl rfl (by omega) (by omega) ⟨by omega, by omega⟩ rfl (fun H252401 e252402 w252403 => ?_))
                              have f252404 := f252394.put' e252402 g0 rfl
                              have f252405 := f252395.put' e252402 g0 rfl
                              have f252406 := f252396.put' e252402 g0 rfl
                              have k252407 : H252401 r0 8 = (H252391 r0 8) + 1 := wq_u_s e252402
                              refine wp_of e172 c172_233 (rw_goto (p1 := 178) (by decide) ?_)
                              have k252408 : H252401 r0 12 = H252391 r0 12 := (wq_u_j e252402 rfl)
                              have := @xG_s 48 57 B n p252271 (by omega) (by omega) (by omega)
                              have := @xkf_s B q 10 48 p252271 (by omega)
                              exact wp_lc (ks := [2, 0]) (wl_c rfl (wl_c rfl wl_n)) rfl (by decide) (ih252268 _ (by omega) (v252269 + 1) H252401 ((p252271 + 1)) w252403 f252406 ⟨by omega, by omega⟩ (by omega) (by omega) (by omega) (by omega) (by omega) (by omega) rfl)
                      · show wp _ _ 172 189 [(2, vI v252269), (0, .ref r0)] [vI z252314] _ H252270 _
                        refine wp_of e172 c172_189 (rw_if_eq (p1 := 236) (p2 := 192) (by decide) rfl ⟨by omega, by omega⟩ (fun c252409 => ?_) (fun c252409 => ?_))
                        · have := @xG_e 48 57 B n p252271 (by omega)
                          have := @xV_of B n q p252271
                          exact wp_lc (ks := [2, 0]) (wl_c rfl (wl_c rfl wl_n)) rfl (by decide) (jn250765 v252269 H252270 w252273 f252284 ⟨by omega, by omega⟩ (by omega) (by omega) (by omega))
                        · exfalso
                          omega
                    · show wp _ _ 172 186 [(2, vI v252269), (0, .ref r0)] [vI z252298] _ H252270 _
                      refine wp_of e172 c172_186 (xc_S (pc' := 189) (as := [vI z252298]) (st := []) (lm_9_98) rfl rfl (Nat.le_of_ble_eq_true rfl) rfl (by decide) (u_175  w252273 ⟨by omega, by omega⟩) (fun R252410 T252411 H252412 p252413 => ?_))
                      obtain ⟨e252414, e252416, z252417, e252415, b252418, p252419⟩ := p252413
                      subst e252414
                      subst e252415
                      subst e252416
                      rcases p252419 with ⟨a252420, a252421⟩ | ⟨a252422, a252423⟩
                      · show wp _ _ 172 189 [(2, vI v252269), (0, .ref r0)] [vI z252417] _ H252270 _
                        refine wp_of e172 c172_189 (rw_if_eq (p1 := 236) (p2 := 192) (by decide) rfl ⟨by omega, by omega⟩ (fun c252424 => ?_) (fun c252424 => ?_))
                        · exfalso
                          omega
                        · refine wp_of e172 c172_192 (rw_iload_n (pc' := 193) (z := v252269) rfl rfl ?_)
                          refine wp_of e172 c172_193 (rw_iconst (pc' := 194) rfl ?_)
                          refine wp_of e172 c172_194 (rw_icmp_ge (p1 := 220) (p2 := 197) (by decide) rfl ⟨by omega, by omega⟩ ⟨by omega, by omega⟩ (fun c252425 => ?_) (fun c252425 => ?_))
                          · refine wp_of e172 c172_220 (rw_iinc (pc' := 223) (z := v252269) (L' := [(2, vI (v252269 + 1)), (0, .ref r0)]) rfl rfl rfl rfl ?_)
                            refine wp_of e172 c172_223 (rw_aload_n (pc' := 224) (v := .ref r0) rfl rfl rfl ?_)
                            refine wp_of e172 c172_224 (rw_dup (pc' := 225) rfl rfl ?_)
                            refine wp_of e172 c172_225 (xg_I (pc' := 228) lf_9_78 w252273 g0 sh_42 (by decide) (by decide) ty_42_8 rfl rfl (fun b252426 b252427 => ?_))
                            refine wp_of e172 c172_228 (rw_iconst (pc' := 229) rfl ?_)
                            refine wp_of e172 c172_229 (rw_iadd (pc' := 230) rfl ?_)
                            refine wp_of e172 c172_230 (xp_I (pc' := 233) lf_9_78 w252273 g0 sh_42 (by decide) (by decide) ty_42_8 rfl rfl (by omega) (by omega) ⟨by omega, by omega⟩ rfl (fun H252428 e252429 w252430 => ?_))
                            have f252431 := f252283.put' e252429 g0 rfl
                            have f252432 := f252284.put' e252429 g0 rfl
                            have f252433 := f252274.put' e252429 g0 rfl
                            have k252434 : H252428 r0 8 = (H252270 r0 8) + 1 := wq_u_s e252429
                            refine wp_of e172 c172_233 (rw_goto (p1 := 178) (by decide) ?_)
                            have k252435 : H252428 r0 12 = H252270 r0 12 := (wq_u_j e252429 rfl)
                            have := @xG_s 48 57 B n p252271 (by omega) (by omega) (by omega)
                            have := @xkf_s B q 10 48 p252271 (by omega)
                            exact wp_lc (ks := [2, 0]) (wl_c rfl (wl_c rfl wl_n)) rfl (by decide) (ih252268 _ (by omega) (v252269 + 1) H252428 ((p252271 + 1)) w252430 f252433 ⟨by omega, by omega⟩ (by omega) (by omega) (by omega) (by omega) (by omega) (by omega) rfl)
                          · refine wp_of e172 c172_197 (rw_aload_n (pc' := 198) (v := .ref r0) rfl rfl rfl ?_)
                            refine wp_of e172 c172_198 (rw_bipush (pc' := 200) (z := 10) rfl (by decide) ?_)
                            refine wp_of e172 c172_200 (rw_aload_n (pc' := 201) (v := .ref r0) rfl rfl rfl ?_)
                            refine wp_of e172 c172_201 (xg_I (pc' := 204) lf_9_101 w252273 g0 sh_42 (by decide) (by decide) ty_42_12 rfl rfl (fun b252436 b252437 => ?_))
                            refine wp_of e172 c172_204 (rw_imulw (pc' := 205) rfl ?_)
                            obtain ⟨v252438, e252439⟩ : ∃ x : Int, x = wq_w (10 * (H252270 r0 12)) := ⟨_, rfl⟩
                            rw [← e252439]
                            have b252440 : -2147483648 ≤ v252438 ∧ v252438 ≤ 2147483647 := by
                              rw [e252439]
                              exact wI_w _
                            have b252441 : (-2147483648 ≤ 10 * (H252270 r0 12) ∧ 10 * (H252270 r0 12) ≤ 2147483647) → v252438 = 10 * (H252270 r0 12) := fun h => by rw [e252439]; exact wq_w_id h
                            refine wp_of e172 c172_205 (rw_aload_n (pc' := 206) (v := .ref r0) rfl rfl rfl ?_)
                            refine wp_of e172 c172_206 (rw_aload_n (pc' := 207) (v := .ref r0) rfl rfl rfl ?_)
                            refine wp_of e172 c172_207 (xg_I (pc' := 210) lf_9_78 w252273 g0 sh_42 (by decide) (by decide) ty_42_8 rfl rfl (fun b252442 b252443 => ?_))
                            refine wp_of e172 c172_210 (xc_V (pc' := 213) (r := r0) (as := [vI (H252270 r0 8)]) (st := [vI v252438, .ref r0]) (lm_9_81) rfl rfl (Nat.le_of_ble_eq_true rfl) w252273 g0 sh_42 (by decide) rfl (by decide) (u_173 (B := B) (n := n) (y := p252271) w252273 g0 ⟨by omega, by omega⟩ q252288 grb (by omega) (by omega) h252290) (fun R252444 T252445 H252446 p252447 => ?_))
                            obtain ⟨e252448, e252450, z252451, e252449, b252452, p252453⟩ := p252447
                            subst e252448
                            subst e252449
                            subst e252450
                            rcases p252453 with ⟨a252454, a252455⟩ | ⟨a252456, a252457, a252458, a252459⟩
                            · show wp _ _ 172 213 [(2, vI v252269), (0, .ref r0)] [vI z252451, vI v252438, .ref r0] _ H252270 _
                              refine wp_of e172 c172_213 (rw_iaddw (pc' := 214) rfl ?_)
                              obtain ⟨v252460, e252461⟩ : ∃ x : Int, x = wq_w (v252438 + z252451) := ⟨_, rfl⟩
                              rw [← e252461]
                              have b252462 : -2147483648 ≤ v252460 ∧ v252460 ≤ 2147483647 := by
                                rw [e252461]
                                exact wI_w _
                              have b252463 : (-2147483648 ≤ v252438 + z252451 ∧ v252438 + z252451 ≤ 2147483647) → v252460 = v252438 + z252451 := fun h => by rw [e252461]; exact wq_w_id h
                              refine wp_of e172 c172_214 (rw_bipush (pc' := 216) (z := 48) rfl (by decide) ?_)
                              refine wp_of e172 c172_216 (rw_isubw (pc' := 217) rfl ?_)
                              obtain ⟨v252464, e252465⟩ : ∃ x : Int, x = wq_w (v252460 - 48) := ⟨_, rfl⟩
                              rw [← e252465]
                              have b252466 : -2147483648 ≤ v252464 ∧ v252464 ≤ 2147483647 := by
                                rw [e252465]
                                exact wI_w _
                              have b252467 : (-2147483648 ≤ v252460 - 48 ∧ v252460 - 48 ≤ 2147483647) → v252464 = v252460 - 48 := fun h => by rw [e252465]; exact wq_w_id h
                              refine wp_of e172 c172_217 (xp_I (pc' := 220) lf_9_101 w252273 g0 sh_42 (by decide) (by decide) ty_42_12 rfl rfl (by omega) (by omega) ⟨by omega, by omega⟩ rfl (fun H252468 e252469 w252470 => ?_))
                              have f252471 := f252283.put' e252469 g0 rfl
                              have f252472 := f252284.put' e252469 g0 rfl
                              have f252473 := f252274.put' e252469 g0 rfl
                              have k252474 : H252468 r0 12 = v252464 := wq_u_s e252469
                              refine wp_of e172 c172_220 (rw_iinc (pc' := 223) (z := v252269) (L' := [(2, vI (v252269 + 1)), (0, .ref r0)]) rfl rfl rfl rfl ?_)
                              refine wp_of e172 c172_223 (rw_aload_n (pc' := 224) (v := .ref r0) rfl rfl rfl ?_)
                              refine wp_of e172 c172_224 (rw_dup (pc' := 225) rfl rfl ?_)
                              have k252475 : H252468 r0 8 = H252270 r0 8 := (wq_u_j e252469 rfl)
                              refine wp_of e172 c172_225 (xg_I (pc' := 228) lf_9_78 w252470 g0 sh_42 (by decide) (by decide) ty_42_8 rfl rfl (fun b252476 b252477 => ?_))
                              refine wp_of e172 c172_228 (rw_iconst (pc' := 229) rfl ?_)
                              refine wp_of e172 c172_229 (rw_iadd (pc' := 230) rfl ?_)
                              refine wp_of e172 c172_230 (xp_I (pc' := 233) lf_9_78 w252470 g0 sh_42 (by decide) (by decide) ty_42_8 rfl rfl (by omega) (by omega) ⟨by omega, by omega⟩ rfl (fun H252478 e252479 w252480 => ?_))
                              have f252481 := f252471.put' e252479 g0 rfl
                              have f252482 := f252472.put' e252479 g0 rfl
                              have f252483 := f252473.put' e252479 g0 rfl
                              have k252484 : H252478 r0 8 = (H252468 r0 8) + 1 := wq_u_s e252479
                              refine wp_of e172 c172_233 (rw_goto (p1 := 178) (by decide) ?_)
                              have k252485 : H252478 r0 12 = H252468 r0 12 := (wq_u_j e252479 rfl)
                              have := @xG_s 48 57 B n p252271 (by omega) (by omega) (by omega)
                              have := @xkf_s B q 10 48 p252271 (by omega)
                              exact wp_lc (ks := [2, 0]) (wl_c rfl (wl_c rfl wl_n)) rfl (by decide) (ih252268 _ (by omega) (v252269 + 1) H252478 ((p252271 + 1)) w252480 f252483 ⟨by omega, by omega⟩ (by omega) (by omega) (by omega) (by omega) (by omega) (by omega) rfl)
                            · show wp _ _ 172 213 [(2, vI v252269), (0, .ref r0)] [vI z252451, vI v252438, .ref r0] _ H252270 _
                              refine wp_of e172 c172_213 (rw_iaddw (pc' := 214) rfl ?_)
                              obtain ⟨v252486, e252487⟩ : ∃ x : Int, x = wq_w (v252438 + z252451) := ⟨_, rfl⟩
                              rw [← e252487]
                              have b252488 : -2147483648 ≤ v252486 ∧ v252486 ≤ 2147483647 := by
                                rw [e252487]
                                exact wI_w _
                              have b252489 : (-2147483648 ≤ v252438 + z252451 ∧ v252438 + z252451 ≤ 2147483647) → v252486 = v252438 + z252451 := fun h => by rw [e252487]; exact wq_w_id h
                              refine wp_of e172 c172_214 (rw_bipush (pc' := 216) (z := 48) rfl (by decide) ?_)
                              refine wp_of e172 c172_216 (rw_isubw (pc' := 217) rfl ?_)
                              obtain ⟨v252490, e252491⟩ : ∃ x : Int, x = wq_w (v252486 - 48) := ⟨_, rfl⟩
                              rw [← e252491]
                              have b252492 : -2147483648 ≤ v252490 ∧ v252490 ≤ 2147483647 := by
                                rw [e252491]
                                exact wI_w _
                              have b252493 : (-2147483648 ≤ v252486 - 48 ∧ v252486 - 48 ≤ 2147483647) → v252490 = v252486 - 48 := fun h => by rw [e252491]; exact wq_w_id h
                              refine wp_of e172 c172_217 (xp_I (pc' := 220) lf_9_101 w252273 g0 sh_42 (by decide) (by decide) ty_42_12 rfl rfl (by omega) (by omega) ⟨by omega, by omega⟩ rfl (fun H252494 e252495 w252496 => ?_))
                              have f252497 := f252283.put' e252495 g0 rfl
                              have f252498 := f252284.put' e252495 g0 rfl
                              have f252499 := f252274.put' e252495 g0 rfl
                              have k252500 : H252494 r0 12 = v252490 := wq_u_s e252495
                              refine wp_of e172 c172_220 (rw_iinc (pc' := 223) (z := v252269) (L' := [(2, vI (v252269 + 1)), (0, .ref r0)]) rfl rfl rfl rfl ?_)
                              refine wp_of e172 c172_223 (rw_aload_n (pc' := 224) (v := .ref r0) rfl rfl rfl ?_)
                              refine wp_of e172 c172_224 (rw_dup (pc' := 225) rfl rfl ?_)
                              have k252501 : H252494 r0 8 = H252270 r0 8 := (wq_u_j e252495 rfl)
                              refine wp_of e172 c172_225 (xg_I (pc' := 228) lf_9_78 w252496 g0 sh_42 (by decide) (by decide) ty_42_8 rfl rfl (fun b252502 b252503 => ?_))
                              refine wp_of e172 c172_228 (rw_iconst (pc' := 229) rfl ?_)
                              refine wp_of e172 c172_229 (rw_iadd (pc' := 230) rfl ?_)
                              refine wp_of e172 c172_230 (xp_I (pc' := 233) lf_9_78 w252496 g0 sh_42 (by decide) (by decide) ty_42_8 rfl rfl (by omega) (by omega) ⟨by omega, by omega⟩ rfl (fun H252504 e252505 w252506 => ?_))
                              have f252507 := f252497.put' e252505 g0 rfl
                              have f252508 := f252498.put' e252505 g0 rfl
                              have f252509 := f252499.put' e252505 g0 rfl
                              have k252510 : H252504 r0 8 = (H252494 r0 8) + 1 := wq_u_s e252505
                              refine wp_of e172 c172_233 (rw_goto (p1 := 178) (by decide) ?_)
                              have k252511 : H252504 r0 12 = H252494 r0 12 := (wq_u_j e252505 rfl)
                              have := @xG_s 48 57 B n p252271 (by omega) (by omega) (by omega)
                              have := @xkf_s B q 10 48 p252271 (by omega)
                              exact wp_lc (ks := [2, 0]) (wl_c rfl (wl_c rfl wl_n)) rfl (by decide) (ih252268 _ (by omega) (v252269 + 1) H252504 ((p252271 + 1)) w252506 f252509 ⟨by omega, by omega⟩ (by omega) (by omega) (by omega) (by omega) (by omega) (by omega) rfl)
                      · show wp _ _ 172 189 [(2, vI v252269), (0, .ref r0)] [vI z252417] _ H252270 _
                        refine wp_of e172 c172_189 (rw_if_eq (p1 := 236) (p2 := 192) (by decide) rfl ⟨by omega, by omega⟩ (fun c252512 => ?_) (fun c252512 => ?_))
                        · have := @xG_e 48 57 B n p252271 (by omega)
                          have := @xV_of B n q p252271
                          exact wp_lc (ks := [2, 0]) (wl_c rfl (wl_c rfl wl_n)) rfl (by decide) (jn250765 v252269 H252270 w252273 f252284 ⟨by omega, by omega⟩ (by omega) (by omega) (by omega))
                        · exfalso
                          omega
                have := @xkf_q B q q 10 48
                exact wp_lc (ks := [2, 1, 0]) (wl_c rfl (wl_c rfl wl_n)) rfl (by decide) (lp252266 _ 0 H250797 q w250799 wfr.rf ⟨by omega, by omega⟩ (by omega) (by omega) (by omega) (by omega) (by omega) (by omega) rfl)
            · show wp _ _ 172 170 [(2, vI 0), (1, vI z246062), (0, .ref r0)] [vI z249179] _ H246043 _
              refine wp_of e172 c172_170 (rw_if_eq (p1 := 249) (p2 := 173) (by decide) rfl ⟨by omega, by omega⟩ (fun c252513 => ?_) (fun c252513 => ?_))
              · refine wp_of e172 c172_249 (rw_iload_n (pc' := 250) (z := z246062) rfl rfl ?_)
                refine wp_of e172 c172_250 (rw_bipush (pc' := 252) (z := 59) rfl (by decide) ?_)
                refine wp_of e172 c172_252 (rw_icmp_eq (p1 := 261) (p2 := 255) (by decide) rfl ⟨by omega, by omega⟩ ⟨by omega, by omega⟩ (fun c252514 => ?_) (fun c252514 => ?_))
                · refine wp_of e172 c172_261 (rw_aload_n (pc' := 262) (v := .ref r0) rfl rfl rfl ?_)
                  refine wp_of e172 c172_262 (rw_iconst (pc' := 263) rfl ?_)
                  refine wp_of e172 c172_263 (xp_I (pc' := 266) lf_9_75 w246045 g0 sh_42 (by decide) (by decide) ty_42_9 rfl rfl (by omega) (by omega) ⟨by omega, by omega⟩ rfl (fun H252515 e252516 w252517 => ?_))
                  have f252518 := f246046.put' e252516 g0 rfl
                  have k252519 : H252515 r0 9 = 4 := wq_u_s e252516
                  refine wp_of e172 c172_266 (rw_aload_n (pc' := 267) (v := .ref r0) rfl rfl rfl ?_)
                  refine wp_of e172 c172_267 (rw_iload_n (pc' := 268) (z := z246062) rfl rfl ?_)
                  refine wp_of e172 c172_268 (xp_I (pc' := 271) lf_9_87 w252517 g0 sh_42 (by decide) (by decide) ty_42_11 rfl rfl (by omega) (by omega) ⟨by omega, by omega⟩ rfl (fun H252520 e252521 w252522 => ?_))
                  have f252523 := f252518.put' e252521 g0 rfl
                  have k252524 : H252520 r0 11 = z246062 := wq_u_s e252521
                  refine wp_of e172 c172_271 (rw_aload_n (pc' := 272) (v := .ref r0) rfl rfl rfl ?_)
                  refine wp_of e172 c172_272 (rw_dup (pc' := 273) rfl rfl ?_)
                  have k252525 : H252520 r0 8 = H246043 r0 8 := ((wq_u_j e252521 rfl).trans (wq_u_j e252516 rfl))
                  refine wp_of e172 c172_273 (xg_I (pc' := 276) lf_9_78 w252522 g0 sh_42 (by decide) (by decide) ty_42_8 rfl rfl (fun b252526 b252527 => ?_))
                  refine wp_of e172 c172_276 (rw_iconst (pc' := 277) rfl ?_)
                  refine wp_of e172 c172_277 (rw_iadd (pc' := 278) rfl ?_)
                  refine wp_of e172 c172_278 (xp_I (pc' := 281) lf_9_78 w252522 g0 sh_42 (by decide) (by decide) ty_42_8 rfl rfl (by omega) (by omega) ⟨by omega, by omega⟩ rfl (fun H252528 e252529 w252530 => ?_))
                  have f252531 := f252523.put' e252529 g0 rfl
                  have k252532 : H252528 r0 8 = (H252520 r0 8) + 1 := wq_u_s e252529
                  have k252533 : H252528 r0 9 = H252515 r0 9 := ((wq_u_j e252529 rfl).trans (wq_u_j e252521 rfl))
                  have k252534 : H252528 r0 7 = H246043 r0 7 := ((wq_u_j e252529 rfl).trans ((wq_u_j e252521 rfl).trans (wq_u_j e252516 rfl)))
                  have k252535 : H252528 r0 13 = H r0 13 := ((wq_u_j e252529 rfl).trans ((wq_u_j e252521 rfl).trans ((wq_u_j e252516 rfl).trans ((wq_u_j e246044 rfl).trans ((wq_u_j e246039 rfl).trans ((wq_u_j e246034 rfl).trans (f246028 r0 13 _ g0 rfl)))))))
                  have k252536 : H252528 r0 10 = H246033 r0 10 := ((wq_u_j e252529 rfl).trans ((wq_u_j e252521 rfl).trans ((wq_u_j e252516 rfl).trans ((wq_u_j e246044 rfl).trans (wq_u_j e246039 rfl)))))
                  have k252537 : H252528 r0 11 = H252520 r0 11 := (wq_u_j e252529 rfl)
                  obtain ⟨kk, hk⟩ : ∃ x : Int, xK B n q = x := ⟨_, rfl⟩
                  have hk2 := hk
                  unfold xK at hk2
                  repeat first | rw [if_pos (by omega)] at hk2 | rw [if_neg (by omega)] at hk2
                  obtain ⟨ke, he⟩ : ∃ x : Int, xE B n q = x := ⟨_, rfl⟩
                  have he2 := he
                  unfold xE at he2
                  repeat first | rw [if_pos (by omega)] at he2 | rw [if_neg (by omega)] at he2
                  have k252538 : H252528 r0 5 = H246043 r0 5 := ((wq_u_j e252529 rfl).trans ((wq_u_j e252521 rfl).trans (wq_u_j e252516 rfl)))
                  have q252539 : H252528 r0 5 = (rb : Int) := k252538.trans q246052
                  have h252540 : TM T H252528 rb B := (TM_fr w252522 grb ((wfr.rf (l := [(42, 8)])).put' e252529 g0 rfl) rfl (TM_fr w252517 grb ((wfr.rf (l := [(42, 11)])).put' e252521 g0 rfl) rfl (TM_fr w246045 grb ((wfr.rf (l := [(42, 9)])).put' e252516 g0 rfl) rfl h246054)))
                  exact wp_return e172 c172_281 rfl ⟨rfl, w252530, f252531, rfl, (RC_mk q252539 grb h252540 (by omega) (by rw [hk, ← hk2]; omega) (by omega) (by omega) (by omega) (by omega) (by omega))⟩
                · refine wp_of e172 c172_255 (rw_iload_n (pc' := 256) (z := z246062) rfl rfl ?_)
                  refine wp_of e172 c172_256 (rw_bipush (pc' := 258) (z := 44) rfl (by decide) ?_)
                  refine wp_of e172 c172_258 (rw_icmp_ne (p1 := 281) (p2 := 261) (by decide) rfl ⟨by omega, by omega⟩ ⟨by omega, by omega⟩ (fun c252541 => ?_) (fun c252541 => ?_))
                  · have k252542 : H246043 r0 9 = H246038 r0 9 := (wq_u_j e246044 rfl)
                    have k252543 : H246043 r0 13 = H r0 13 := ((wq_u_j e246044 rfl).trans ((wq_u_j e246039 rfl).trans ((wq_u_j e246034 rfl).trans (f246028 r0 13 _ g0 rfl))))
                    have k252544 : H246043 r0 10 = H246033 r0 10 := ((wq_u_j e246044 rfl).trans (wq_u_j e246039 rfl))
                    obtain ⟨kk, hk⟩ : ∃ x : Int, xK B n q = x := ⟨_, rfl⟩
                    have hk2 := hk
                    unfold xK at hk2
                    repeat first | rw [if_pos (by omega)] at hk2 | rw [if_neg (by omega)] at hk2
                    obtain ⟨ke, he⟩ : ∃ x : Int, xE B n q = x := ⟨_, rfl⟩
                    have he2 := he
                    unfold xE at he2
                    repeat first | rw [if_pos (by omega)] at he2 | rw [if_neg (by omega)] at he2
                    exact wp_return e172 c172_281 rfl ⟨rfl, w246045, f246046, rfl, (RC_mk q246052 grb h246054 (by omega) (by rw [hk, ← hk2]; omega) (by omega) (by omega) (by omega) (by omega) (by omega))⟩
                  · refine wp_of e172 c172_261 (rw_aload_n (pc' := 262) (v := .ref r0) rfl rfl rfl ?_)
                    refine wp_of e172 c172_262 (rw_iconst (pc' := 263) rfl ?_)
                    refine wp_of e172 c172_263 (xp_I (pc' := 266) lf_9_75 w246045 g0 sh_42 (by decide) (by decide) ty_42_9 rfl rfl (by omega) (by omega) ⟨by omega, by omega⟩ rfl (fun H252545 e252546 w252547 => ?_))
                    have f252548 := f246046.put' e252546 g0 rfl
                    have k252549 : H252545 r0 9 = 4 := wq_u_s e252546
                    refine wp_of e172 c172_266 (rw_aload_n (pc' := 267) (v := .ref r0) rfl rfl rfl ?_)
                    refine wp_of e172 c172_267 (rw_iload_n (pc' := 268) (z := z246062) rfl rfl ?_)
                    refine wp_of e172 c172_268 (xp_I (pc' := 271) lf_9_87 w252547 g0 sh_42 (by decide) (by decide) ty_42_11 rfl rfl (by omega) (by omega) ⟨by omega, by omega⟩ rfl (fun H252550 e252551 w252552 => ?_))
                    have f252553 := f252548.put' e252551 g0 rfl
                    have k252554 : H252550 r0 11 = z246062 := wq_u_s e252551
                    refine wp_of e172 c172_271 (rw_aload_n (pc' := 272) (v := .ref r0) rfl rfl rfl ?_)
                    refine wp_of e172 c172_272 (rw_dup (pc' := 273) rfl rfl ?_)
                    have k252555 : H252550 r0 8 = H246043 r0 8 := ((wq_u_j e252551 rfl).trans (wq_u_j e252546 rfl))
                    refine wp_of e172 c172_273 (xg_I (pc' := 276) lf_9_78 w252552 g0 sh_42 (by decide) (by decide) ty_42_8 rfl rfl (fun b252556 b252557 => ?_))
                    refine wp_of e172 c172_276 (rw_iconst (pc' := 277) rfl ?_)
                    refine wp_of e172 c172_277 (rw_iadd (pc' := 278) rfl ?_)
                    refine wp_of e172 c172_278 (xp_I (pc' := 281) lf_9_78 w252552 g0 sh_42 (by decide) (by decide) ty_42_8 rfl rfl (by omega) (by omega) ⟨by omega, by omega⟩ rfl (fun H252558 e252559 w252560 => ?_))
                    have f252561 := f252553.put' e252559 g0 rfl
                    have k252562 : H252558 r0 8 = (H252550 r0 8) + 1 := wq_u_s e252559
                    have k252563 : H252558 r0 9 = H252545 r0 9 := ((wq_u_j e252559 rfl).trans (wq_u_j e252551 rfl))
                    have k252564 : H252558 r0 7 = H246043 r0 7 := ((wq_u_j e252559 rfl).trans ((wq_u_j e252551 rfl).trans (wq_u_j e252546 rfl)))
                    have k252565 : H252558 r0 13 = H r0 13 := ((wq_u_j e252559 rfl).trans ((wq_u_j e252551 rfl).trans ((wq_u_j e252546 rfl).trans ((wq_u_j e246044 rfl).trans ((wq_u_j e246039 rfl).trans ((wq_u_j e246034 rfl).trans (f246028 r0 13 _ g0 rfl)))))))
                    have k252566 : H252558 r0 10 = H246033 r0 10 := ((wq_u_j e252559 rfl).trans ((wq_u_j e252551 rfl).trans ((wq_u_j e252546 rfl).trans ((wq_u_j e246044 rfl).trans (wq_u_j e246039 rfl)))))
                    have k252567 : H252558 r0 11 = H252550 r0 11 := (wq_u_j e252559 rfl)
                    obtain ⟨kk, hk⟩ : ∃ x : Int, xK B n q = x := ⟨_, rfl⟩
                    have hk2 := hk
                    unfold xK at hk2
                    repeat first | rw [if_pos (by omega)] at hk2 | rw [if_neg (by omega)] at hk2
                    obtain ⟨ke, he⟩ : ∃ x : Int, xE B n q = x := ⟨_, rfl⟩
                    have he2 := he
                    unfold xE at he2
                    repeat first | rw [if_pos (by omega)] at he2 | rw [if_neg (by omega)] at he2
                    have k252568 : H252558 r0 5 = H246043 r0 5 := ((wq_u_j e252559 rfl).trans ((wq_u_j e252551 rfl).trans (wq_u_j e252546 rfl)))
                    have q252569 : H252558 r0 5 = (rb : Int) := k252568.trans q246052
                    have h252570 : TM T H252558 rb B := (TM_fr w252552 grb ((wfr.rf (l := [(42, 8)])).put' e252559 g0 rfl) rfl (TM_fr w252547 grb ((wfr.rf (l := [(42, 11)])).put' e252551 g0 rfl) rfl (TM_fr w246045 grb ((wfr.rf (l := [(42, 9)])).put' e252546 g0 rfl) rfl h246054)))
                    exact wp_return e172 c172_281 rfl ⟨rfl, w252560, f252561, rfl, (RC_mk q252569 grb h252570 (by omega) (by rw [hk, ← hk2]; omega) (by omega) (by omega) (by omega) (by omega) (by omega))⟩
              · exfalso
                omega
          · exfalso
            omega
      · exfalso
        omega
  have f252571 : wfr [(42, 8)] T H H := wfr.rf
  refine wp_of e172 c172_5 (rw_icmp_ne (p1 := 9) (p2 := 8) (by decide) rfl ⟨by omega, by omega⟩ ⟨by omega, by omega⟩ (fun c252572 => ?_) (fun c252572 => ?_))
  · have lp252636 : ∀ (n252637 : Nat)  (H252639 : wq_H) (p252640 : Int), WT T H252639 → wfr [(42, 8)] T H H252639 → (H252639 r0 8 = p252640) → (xG 32 32 B n p252640 = q) → (p252640 ≤ n) → (a ≤ p252640) → (900 - p252640).toNat = n252637 → wp kt 1 172 9 [(0, .ref r0)] [] T H252639 (uq_172_k r0 rb B n a q T H) := by
      intro n252637
      induction n252637 using Nat.strongRecOn with
      | _ n252637 ih252638 =>
        intro H252639 p252640 w252641 f252642 x252644 x252645 x252646 x252647 m252643
        have f252648 := f0.tr f252642 rfl
        have f252649 := f252571.tr f252642 rfl
        refine wp_of e172 c172_9 (rw_aload_n (pc' := 10) (v := .ref r0) rfl rfl rfl ?_)
        refine wp_of e172 c172_10 (rw_aload_n (pc' := 11) (v := .ref r0) rfl rfl rfl ?_)
        refine wp_of e172 c172_11 (xg_I (pc' := 14) lf_9_78 w252641 g0 sh_42 (by decide) (by decide) ty_42_8 rfl rfl (fun b252650 b252651 => ?_))
        have k252652 : H252639 r0 5 = H r0 5 := (f252642 r0 5 _ g0 rfl)
        have q252653 : H252639 r0 5 = (rb : Int) := k252652.trans qrb
        have k252654 : H252639 r0 7 = H r0 7 := (f252642 r0 7 _ g0 rfl)
        have h252655 : TM T H252639 rb B := (TM_fr hW grb f252642 rfl hTM_rb)
        refine wp_of e172 c172_14 (xc_V (pc' := 17) (r := r0) (as := [vI (H252639 r0 8)]) (st := []) (lm_9_81) rfl rfl (Nat.le_of_ble_eq_true rfl) w252641 g0 sh_42 (by decide) rfl (by decide) (u_173 (B := B) (n := n) (y := p252640) w252641 g0 ⟨by omega, by omega⟩ q252653 grb (by omega) (by omega) h252655) (fun R252656 T252657 H252658 p252659 => ?_))
        obtain ⟨e252660, e252662, z252663, e252661, b252664, p252665⟩ := p252659
        subst e252660
        subst e252661
        subst e252662
        rcases p252665 with ⟨a252666, a252667⟩ | ⟨a252668, a252669, a252670, a252671⟩
        · show wp _ _ 172 17 [(0, .ref r0)] [vI z252663] _ H252639 _
          refine wp_of e172 c172_17 (rw_bipush (pc' := 19) (z := 32) rfl (by decide) ?_)
          refine wp_of e172 c172_19 (rw_icmp_ne (p1 := 35) (p2 := 22) (by decide) rfl ⟨by omega, by omega⟩ ⟨by omega, by omega⟩ (fun c252672 => ?_) (fun c252672 => ?_))
          · have := @xG_e 32 32 B n p252640 (by omega)
            exact wp_lc (ks := [0]) (wl_c rfl wl_n) rfl (by decide) (jn246026 H252639 w252641 f252649 (by omega))
          · exfalso
            omega
        · show wp _ _ 172 17 [(0, .ref r0)] [vI z252663] _ H252639 _
          refine wp_of e172 c172_17 (rw_bipush (pc' := 19) (z := 32) rfl (by decide) ?_)
          refine wp_of e172 c172_19 (rw_icmp_ne (p1 := 35) (p2 := 22) (by decide) rfl ⟨by omega, by omega⟩ ⟨by omega, by omega⟩ (fun c252673 => ?_) (fun c252673 => ?_))
          · have := @xG_e 32 32 B n p252640 (by omega)
            exact wp_lc (ks := [0]) (wl_c rfl wl_n) rfl (by decide) (jn246026 H252639 w252641 f252649 (by omega))
          · refine wp_of e172 c172_22 (rw_aload_n (pc' := 23) (v := .ref r0) rfl rfl rfl ?_)
            refine wp_of e172 c172_23 (rw_dup (pc' := 24) rfl rfl ?_)
            refine wp_of e172 c172_24 (xg_I (pc' := 27) lf_9_78 w252641 g0 sh_42 (by decide) (by decide) ty_42_8 rfl rfl (fun b252674 b252675 => ?_))
            refine wp_of e172 c172_27 (rw_iconst (pc' := 28) rfl ?_)
            refine wp_of e172 c172_28 (rw_iadd (pc' := 29) rfl ?_)
            refine wp_of e172 c172_29 (xp_I (pc' := 32) lf_9_78 w252641 g0 sh_42 (by decide) (by decide) ty_42_8 rfl rfl (by omega) (by omega) ⟨by omega, by omega⟩ rfl (fun H252676 e252677 w252678 => ?_))
            have f252679 := f252648.put' e252677 g0 rfl
            have f252680 := f252649.put' e252677 g0 rfl
            have f252681 := f252642.put' e252677 g0 rfl
            have k252682 : H252676 r0 8 = (H252639 r0 8) + 1 := wq_u_s e252677
            refine wp_of e172 c172_32 (rw_goto (p1 := 9) (by decide) ?_)
            have := @xG_s 32 32 B n p252640 (by omega) (by omega) (by omega)
            exact wp_lc (ks := [0]) (wl_c rfl wl_n) rfl (by decide) (ih252638 _ (by omega) H252676 ((p252640 + 1)) w252678 f252681 (by omega) (by omega) (by omega) (by omega) rfl)
    exact wp_lc (ks := [0]) (wl_c rfl wl_n) rfl (by decide) (lp252636 _ H a hW wfr.rf (by omega) (by omega) (by omega) (by omega) rfl)
  · exfalso
    omega
/-! StrikeAwakeModel.goesOn()V o -/
abbrev uq_172_o (r0 : Nat) (fo : Int) (po : Int) (T : wq_T) (H : wq_H) : Option Value → wq_T → wq_H → Prop := fun r T' H' => T = T' ∧ H = H' ∧ none = r ∧ ((RO T H r0 fo po))
set_option maxHeartbeats 4000000 in
theorem u_172_o {kt : Nat → Option mc_E} {T : wq_T} {H : wq_H} {r0 : Nat} {fo : Int} {po : Int} (hW : WT T H) (g0 : T.2.2.2 r0 = some 42) (hRO_r0 : RO T H r0 fo po) : wpc kt 2 172 [.ref r0] T H (uq_172_o r0 fo po T H) := by
  refine wp_enter e172 (Nat.le_of_ble_eq_true rfl) rfl ?_
  show wp _ _ 172 0 [(0, .ref r0)] [] _ H _
  have u252686 := RO_k hRO_r0
  refine wp_of e172 c172_0 (rw_aload_n (pc' := 1) (v := .ref r0) rfl rfl rfl ?_)
  refine wp_of e172 c172_1 (xg_I (pc' := 4) lf_9_75 hW g0 sh_42 (by decide) (by decide) ty_42_9 rfl rfl (fun b252687 b252688 => ?_))
  refine wp_of e172 c172_4 (rw_iconst (pc' := 5) rfl ?_)
  refine wp_of e172 c172_5 (rw_icmp_ne (p1 := 9) (p2 := 8) (by decide) rfl ⟨by omega, by omega⟩ ⟨by omega, by omega⟩ (fun c252689 => ?_) (fun c252689 => ?_))
  · exfalso
    omega
  · exact wp_return e172 c172_8 rfl ⟨rfl, rfl, rfl, (hRO_r0)⟩
/-! StrikeAwakeModel.wrong(I)V k -/
abbrev uq_181_k (r0 : Nat) (a1 : Int) (B : Nat → Int) (n : Int) (q : Int) (T : wq_T) (H : wq_H) : Option Value → wq_T → wq_H → Prop := fun r T' H' => T = T' ∧ WT T H' ∧ wfr [(42, 9), (42, 13), (42, 14)] T H H' ∧ none = r ∧ ((RO T H' r0 a1 q))
set_option maxHeartbeats 4000000 in
theorem u_181_k {kt : Nat → Option mc_E} {T : wq_T} {H : wq_H} {r0 : Nat} {a1 : Int} {B : Nat → Int} {n : Int} {q : Int} (hW : WT T H) (g0 : T.2.2.2 r0 = some 42) (i1 : (-2147483648) ≤ a1 ∧ a1 ≤ 2147483647) (p0 : 1 ≤ a1) (hRC_r0 : RC T H r0 B n q) : wpc kt 1 181 [.ref r0, vI a1] T H (uq_181_k r0 a1 B n q T H) := by
  refine wp_enter e181 (Nat.le_of_ble_eq_true rfl) rfl ?_
  have f0 : wfr [(42, 9), (42, 13), (42, 14)] T H H := wfr.rf
  show wp _ _ 181 0 [(0, .ref r0), (1, vI a1)] [] _ H _
  have u252711 := RC_k hRC_r0
  refine wp_of e181 c181_0 (rw_aload_n (pc' := 1) (v := .ref r0) rfl rfl rfl ?_)
  refine wp_of e181 c181_1 (xg_I (pc' := 4) lf_9_75 hW g0 sh_42 (by decide) (by decide) ty_42_9 rfl rfl (fun b252712 b252713 => ?_))
  refine wp_of e181 c181_4 (rw_iconst (pc' := 5) rfl ?_)
  refine wp_of e181 c181_5 (rw_icmp_ne (p1 := 9) (p2 := 8) (by decide) rfl ⟨by omega, by omega⟩ ⟨by omega, by omega⟩ (fun c252714 => ?_) (fun c252714 => ?_))
  · refine wp_of e181 c181_9 (rw_aload_n (pc' := 10) (v := .ref r0) rfl rfl rfl ?_)
    refine wp_of e181 c181_10 (rw_iload_n (pc' := 11) (z := a1) rfl rfl ?_)
    refine wp_of e181 c181_11 (xp_I (pc' := 14) lf_9_104 hW g0 sh_42 (by decide) (by decide) ty_42_13 rfl rfl (by omega) (by omega) ⟨by omega, by omega⟩ rfl (fun H252715 e252716 w252717 => ?_))
    have f252718 := f0.put' e252716 g0 rfl
    have k252719 : H252715 r0 13 = a1 := wq_u_s e252716
    refine wp_of e181 c181_14 (rw_aload_n (pc' := 15) (v := .ref r0) rfl rfl rfl ?_)
    refine wp_of e181 c181_15 (rw_aload_n (pc' := 16) (v := .ref r0) rfl rfl rfl ?_)
    have k252720 : H252715 r0 10 = H r0 10 := (wq_u_j e252716 rfl)
    refine wp_of e181 c181_16 (xg_I (pc' := 19) lf_9_84 w252717 g0 sh_42 (by decide) (by decide) ty_42_10 rfl rfl (fun b252721 b252722 => ?_))
    refine wp_of e181 c181_19 (xp_I (pc' := 22) lf_9_107 w252717 g0 sh_42 (by decide) (by decide) ty_42_14 rfl rfl (by omega) (by omega) ⟨by omega, by omega⟩ rfl (fun H252723 e252724 w252725 => ?_))
    have f252726 := f252718.put' e252724 g0 rfl
    have k252727 : H252723 r0 14 = H252715 r0 10 := wq_u_s e252724
    refine wp_of e181 c181_22 (rw_aload_n (pc' := 23) (v := .ref r0) rfl rfl rfl ?_)
    refine wp_of e181 c181_23 (rw_iconst (pc' := 24) rfl ?_)
    refine wp_of e181 c181_24 (xp_I (pc' := 27) lf_9_75 w252725 g0 sh_42 (by decide) (by decide) ty_42_9 rfl rfl (by omega) (by omega) ⟨by omega, by omega⟩ rfl (fun H252728 e252729 w252730 => ?_))
    have f252731 := f252726.put' e252729 g0 rfl
    have k252732 : H252728 r0 9 = 5 := wq_u_s e252729
    have k252733 : H252728 r0 13 = H252715 r0 13 := ((wq_u_j e252729 rfl).trans (wq_u_j e252724 rfl))
    have k252734 : H252728 r0 14 = H252723 r0 14 := (wq_u_j e252729 rfl)
    exact wp_return e181 c181_27 rfl ⟨rfl, w252730, f252731, rfl, (⟨by omega, by omega, by omega, by omega⟩)⟩
  · exfalso
    omega
/-! StrikeAwakeModel.wrong(I)V o -/
abbrev uq_181_o (r0 : Nat) (a1 : Int) (fo : Int) (po : Int) (T : wq_T) (H : wq_H) : Option Value → wq_T → wq_H → Prop := fun r T' H' => T = T' ∧ H = H' ∧ none = r ∧ ((RO T H r0 fo po))
set_option maxHeartbeats 4000000 in
theorem u_181_o {kt : Nat → Option mc_E} {T : wq_T} {H : wq_H} {r0 : Nat} {a1 : Int} {fo : Int} {po : Int} (hW : WT T H) (g0 : T.2.2.2 r0 = some 42) (i1 : (-2147483648) ≤ a1 ∧ a1 ≤ 2147483647) (hRO_r0 : RO T H r0 fo po) : wpc kt 1 181 [.ref r0, vI a1] T H (uq_181_o r0 a1 fo po T H) := by
  refine wp_enter e181 (Nat.le_of_ble_eq_true rfl) rfl ?_
  show wp _ _ 181 0 [(0, .ref r0), (1, vI a1)] [] _ H _
  have u252738 := RO_k hRO_r0
  refine wp_of e181 c181_0 (rw_aload_n (pc' := 1) (v := .ref r0) rfl rfl rfl ?_)
  refine wp_of e181 c181_1 (xg_I (pc' := 4) lf_9_75 hW g0 sh_42 (by decide) (by decide) ty_42_9 rfl rfl (fun b252739 b252740 => ?_))
  refine wp_of e181 c181_4 (rw_iconst (pc' := 5) rfl ?_)
  refine wp_of e181 c181_5 (rw_icmp_ne (p1 := 9) (p2 := 8) (by decide) rfl ⟨by omega, by omega⟩ ⟨by omega, by omega⟩ (fun c252741 => ?_) (fun c252741 => ?_))
  · exfalso
    omega
  · exact wp_return e181 c181_8 rfl ⟨rfl, rfl, rfl, (hRO_r0)⟩
/-! StrikeAwakeModel.wordOf(Ljava/lang/String;)J  -/
abbrev uq_179 (s0 : Nat) (kk : Int) (T : wq_T) (H : wq_H) : Option Value → wq_T → wq_H → Prop := fun r T' H' => T = T' ∧ H = H' ∧ ∃ z : Int, some (vL z) = r ∧ ((-9223372036854775808) ≤ z ∧ z ≤ 9223372036854775807) ∧ (((z = kk)))
set_option maxHeartbeats 4000000 in
theorem u_179 {kt : Nat → Option mc_E} {T : wq_T} {H : wq_H} {s0 : Nat} {t0 : List Int32} {kk : Int} (hW : WT T H) (h0 : mc_find mc_sb s0 = some t0) (p0 : wkw t0 t0.length = kk) : wpc kt 1 179 [.ref s0] T H (uq_179 s0 kk T H) := by
  refine wp_enter e179 (Nat.le_of_ble_eq_true rfl) rfl ?_
  show wp _ _ 179 0 [(0, .ref s0)] [] _ H _
  refine wp_of e179 c179_0 (rw_lconst (pc' := 1) (z := 0) rfl rfl ?_)
  refine wp_of e179 c179_1 (rw_lstore_n (pc' := 2) (z := 0) (L' := [(1, vL 0), (0, .ref s0)]) rfl rfl rfl ?_)
  refine wp_of e179 c179_2 (rw_iconst (pc' := 3) rfl ?_)
  refine wp_of e179 c179_3 (rw_istore_n (pc' := 4) (z := 0) (L' := [(3, vI 0), (1, vL 0), (0, .ref s0)]) rfl rfl rfl ?_)
  have lp252923 : ∀ (n252924 : Nat) (v252926 : Int) (v252927 : Int), (0 ≤ v252926 ∧ v252926 ≤ 63) → ((-9223372036854775808) ≤ v252927 ∧ v252927 ≤ 9223372036854775807) → (v252927 = wkw t0 (v252926).toNat) → (v252926 ≤ (t0.length : Int)) → (63 - v252926).toNat = n252924 → wp kt 0 179 4 [(3, vI v252926), (1, vL v252927), (0, .ref s0)] [] T H (uq_179 s0 kk T H) := by
    intro n252924
    induction n252924 using Nat.strongRecOn with
    | _ n252924 ih252925 =>
      intro v252926 v252927 b252930 b252931 x252932 x252933 m252934
      refine wp_of e179 c179_4 (rw_iload_n (pc' := 5) (z := v252926) rfl rfl ?_)
      refine wp_of e179 c179_5 (rw_aload_n (pc' := 6) (v := .ref s0) rfl rfl rfl ?_)
      refine wp_of e179 c179_6 (rw_slen (pc' := 9) rfl rfl rfl h0 (Nat.le_of_ble_eq_true rfl) rfl ?_)
      have k252935 := (mc_sb_k h0).2.1
      show wp _ _ 179 9 [(3, vI v252926), (1, vL v252927), (0, .ref s0)] [vI ((t0.length : Int)), vI v252926] _ H _
      refine wp_of e179 c179_9 (rw_icmp_ge (p1 := 36) (p2 := 12) (by decide) rfl ⟨by omega, by omega⟩ ⟨by omega, by omega⟩ (fun c252936 => ?_) (fun c252936 => ?_))
      · have : wkw t0 (v252926).toNat = kk := by
          rw [show (v252926).toNat = t0.length by omega]
          exact p0
        refine wp_of e179 c179_36 (rw_lload_n (pc' := 37) (z := v252927) rfl rfl ?_)
        exact wp_lreturn e179 c179_37 rfl ⟨rfl, rfl, v252927, rfl, ⟨by omega, by omega⟩, (by omega)⟩
      · refine wp_of e179 c179_12 (rw_ldc2 (pc' := 15) (z := 32) rfl rfl rfl ?_)
        refine wp_of e179 c179_15 (rw_lload_n (pc' := 16) (z := v252927) rfl rfl ?_)
        refine wp_of e179 c179_16 (rw_lmulw (pc' := 17) rfl ?_)
        obtain ⟨v252937, e252938⟩ : ∃ x : Int, x = wl_w (32 * v252927) := ⟨_, rfl⟩
        rw [← e252938]
        have b252939 : -9223372036854775808 ≤ v252937 ∧ v252937 ≤ 9223372036854775807 := by
          rw [e252938]
          exact wL_w _
        have b252940 : (-9223372036854775808 ≤ 32 * v252927 ∧ 32 * v252927 ≤ 9223372036854775807) → v252937 = 32 * v252927 := fun h => by rw [e252938]; exact wl_w_id h
        refine wp_of e179 c179_17 (rw_aload_n (pc' := 18) (v := .ref s0) rfl rfl rfl ?_)
        refine wp_of e179 c179_18 (rw_iload_n (pc' := 19) (z := v252926) rfl rfl ?_)
        refine wp_of e179 c179_19 (rw_schr (pc' := 22) rfl rfl rfl h0 (by omega) (by omega) (Nat.le_of_ble_eq_true rfl) rfl ?_)
        obtain ⟨v252941, e252942⟩ : ∃ x : Int, x = (t0.getD (v252926).toNat 0).toInt := ⟨_, rfl⟩
        rw [← e252942]
        have b252943 : -2147483648 ≤ v252941 ∧ v252941 ≤ 2147483647 := by
          rw [e252942]
          exact wI_of _
        refine wp_of e179 c179_22 (rw_bipush (pc' := 24) (z := 97) rfl (by decide) ?_)
        refine wp_of e179 c179_24 (rw_isubw (pc' := 25) rfl ?_)
        obtain ⟨v252944, e252945⟩ : ∃ x : Int, x = wq_w (v252941 - 97) := ⟨_, rfl⟩
        rw [← e252945]
        have b252946 : -2147483648 ≤ v252944 ∧ v252944 ≤ 2147483647 := by
          rw [e252945]
          exact wI_w _
        have b252947 : (-2147483648 ≤ v252941 - 97 ∧ v252941 - 97 ≤ 2147483647) → v252944 = v252941 - 97 := fun h => by rw [e252945]; exact wq_w_id h
        refine wp_of e179 c179_25 (rw_iconst (pc' := 26) rfl ?_)
        refine wp_of e179 c179_26 (rw_iaddw (pc' := 27) rfl ?_)
        obtain ⟨v252948, e252949⟩ : ∃ x : Int, x = wq_w (v252944 + 1) := ⟨_, rfl⟩
        rw [← e252949]
        have b252950 : -2147483648 ≤ v252948 ∧ v252948 ≤ 2147483647 := by
          rw [e252949]
          exact wI_w _
        have b252951 : (-2147483648 ≤ v252944 + 1 ∧ v252944 + 1 ≤ 2147483647) → v252948 = v252944 + 1 := fun h => by rw [e252949]; exact wq_w_id h
        refine wp_of e179 c179_27 (rw_i2l (pc' := 28) rfl ⟨by omega, by omega⟩ ?_)
        refine wp_of e179 c179_28 (rw_laddw (pc' := 29) rfl ?_)
        obtain ⟨v252952, e252953⟩ : ∃ x : Int, x = wl_w (v252937 + v252948) := ⟨_, rfl⟩
        rw [← e252953]
        have b252954 : -9223372036854775808 ≤ v252952 ∧ v252952 ≤ 9223372036854775807 := by
          rw [e252953]
          exact wL_w _
        have b252955 : (-9223372036854775808 ≤ v252937 + v252948 ∧ v252937 + v252948 ≤ 9223372036854775807) → v252952 = v252937 + v252948 := fun h => by rw [e252953]; exact wl_w_id h
        refine wp_of e179 c179_29 (rw_lstore_n (pc' := 30) (z := v252952) (L' := [(1, vL v252952), (3, vI v252926), (0, .ref s0)]) rfl rfl rfl ?_)
        refine wp_of e179 c179_30 (rw_iinc (pc' := 33) (z := v252926) (L' := [(3, vI (v252926 + 1)), (1, vL v252952), (0, .ref s0)]) rfl rfl rfl rfl ?_)
        refine wp_of e179 c179_33 (rw_goto (p1 := 4) (by decide) ?_)
        have : wkw t0 (v252926 + 1).toNat = v252952 := by
          subst_vars
          exact wkw_m (by omega)
        exact wp_lc (ks := [3, 1, 0]) (wl_c rfl (wl_c rfl (wl_c rfl wl_n))) rfl (by decide) (ih252925 _ (by omega) (v252926 + 1) v252952 ⟨by omega, by omega⟩ ⟨by omega, by omega⟩ (by omega) (by omega) rfl)
  have : wkw t0 (0 : Int).toNat = 0 := rfl
  exact wp_lc (ks := [3, 1, 0]) (wl_c rfl (wl_c rfl (wl_c rfl wl_n))) rfl (by decide) (lp252923 _ 0 0 ⟨by omega, by omega⟩ ⟨by omega, by omega⟩ (by omega) (by omega) rfl)
/-! StrikeAwakeModel.isWord(Ljava/lang/String;)Z k -/
abbrev uq_178_k (r0 : Nat) (s1 : Nat) (B : Nat → Int) (n : Int) (q : Int) (kk : Int) (T : wq_T) (H : wq_H) : Option Value → wq_T → wq_H → Prop := fun r T' H' => T = T' ∧ H = H' ∧ ∃ z : Int, some (vI z) = r ∧ (0 ≤ z ∧ z ≤ 1) ∧ (((z = 1) ∧ (xw B n q kk = 0) ∧ (xK B n q = 1)) ∨ ((z = 0) ∧ (xw B n q kk = 1)))
set_option maxHeartbeats 4000000 in
theorem u_178_k {kt : Nat → Option mc_E} {T : wq_T} {H : wq_H} {r0 : Nat} {s1 : Nat} {t1 : List Int32} {B : Nat → Int} {n : Int} {q : Int} {kk : Int} (hW : WT T H) (g0 : T.2.2.2 r0 = some 42) (h1 : mc_find mc_sb s1 = some t1) (p0 : wkw t1 t1.length = kk) (hRC_r0 : RC T H r0 B n q) : wpc kt 2 178 [.ref r0, .ref s1] T H (uq_178_k r0 s1 B n q kk T H) := by
  refine wp_enter e178 (Nat.le_of_ble_eq_true rfl) rfl ?_
  show wp _ _ 178 0 [(0, .ref r0), (1, .ref s1)] [] _ H _
  have u252974 := RC_k hRC_r0
  have _s := RC_s hRC_r0
  have _w := @xw_b B n q kk
  refine wp_of e178 c178_0 (rw_aload_n (pc' := 1) (v := .ref r0) rfl rfl rfl ?_)
  refine wp_of e178 c178_1 (xg_I (pc' := 4) lf_9_75 hW g0 sh_42 (by decide) (by decide) ty_42_9 rfl rfl (fun b252975 b252976 => ?_))
  refine wp_of e178 c178_4 (rw_iconst (pc' := 5) rfl ?_)
  refine wp_of e178 c178_5 (rw_icmp_ne (p1 := 24) (p2 := 8) (by decide) rfl ⟨by omega, by omega⟩ ⟨by omega, by omega⟩ (fun c252977 => ?_) (fun c252977 => ?_))
  · refine wp_of e178 c178_24 (rw_iconst (pc' := 25) rfl ?_)
    exact wp_zreturn e178 c178_25 rfl (by omega) ⟨rfl, rfl, 0, rfl, ⟨by omega, by omega⟩, (Or.inr ⟨by omega, by omega⟩)⟩
  · refine wp_of e178 c178_8 (rw_aload_n (pc' := 9) (v := .ref r0) rfl rfl rfl ?_)
    refine wp_of e178 c178_9 (xg_L (pc' := 12) lf_9_94 hW g0 sh_42 (by decide) (by decide) ty_42_15 rfl rfl (fun b252978 b252979 => ?_))
    refine wp_of e178 c178_12 (rw_aload_n (pc' := 13) (v := .ref s1) rfl rfl rfl ?_)
    refine wp_of e178 c178_13 (xc_S (pc' := 16) (as := [.ref s1]) (st := [vL (H r0 15)]) (lm_9_110) rfl rfl (Nat.le_of_ble_eq_true rfl) rfl (by decide) (u_179 (kk := kk) hW h1 (by assumption)) (fun R252980 T252981 H252982 p252983 => ?_))
    obtain ⟨e252984, e252986, z252987, e252985, b252988, p252989⟩ := p252983
    subst e252984
    subst e252985
    subst e252986
    show wp _ _ 178 16 [(0, .ref r0), (1, .ref s1)] [vL z252987, vL (H r0 15)] _ H _
    refine wp_of e178 c178_16 (rw_lcmp (pc' := 17) rfl ⟨by omega, by omega⟩ ⟨by omega, by omega⟩ ?_)
    have b252991 := wq_cmp_b (H r0 15) z252987
    refine wp_of e178 c178_17 (rw_if_ne (p1 := 24) (p2 := 20) (by decide) rfl ⟨by omega, by omega⟩ (fun c252992 => ?_) (fun c252992 => ?_))
    · refine wp_of e178 c178_24 (rw_iconst (pc' := 25) rfl ?_)
      exact wp_zreturn e178 c178_25 rfl (by omega) ⟨rfl, rfl, 0, rfl, ⟨by omega, by omega⟩, (Or.inr ⟨by omega, by omega⟩)⟩
    · refine wp_of e178 c178_20 (rw_iconst (pc' := 21) rfl ?_)
      refine wp_of e178 c178_21 (rw_goto (p1 := 25) (by decide) ?_)
      exact wp_zreturn e178 c178_25 rfl (by omega) ⟨rfl, rfl, 1, rfl, ⟨by omega, by omega⟩, (Or.inl ⟨by omega, by omega, by omega⟩)⟩
/-! StrikeAwakeModel.isWord(Ljava/lang/String;)Z o -/
abbrev uq_178_o (r0 : Nat) (s1 : Nat) (fo : Int) (po : Int) (kk : Int) (T : wq_T) (H : wq_H) : Option Value → wq_T → wq_H → Prop := fun r T' H' => T = T' ∧ H = H' ∧ ∃ z : Int, some (vI z) = r ∧ (0 ≤ z ∧ z ≤ 1) ∧ (((z = 0)))
set_option maxHeartbeats 4000000 in
theorem u_178_o {kt : Nat → Option mc_E} {T : wq_T} {H : wq_H} {r0 : Nat} {s1 : Nat} {t1 : List Int32} {fo : Int} {po : Int} {kk : Int} (hW : WT T H) (g0 : T.2.2.2 r0 = some 42) (h1 : mc_find mc_sb s1 = some t1) (p0 : wkw t1 t1.length = kk) (hRO_r0 : RO T H r0 fo po) : wpc kt 2 178 [.ref r0, .ref s1] T H (uq_178_o r0 s1 fo po kk T H) := by
  refine wp_enter e178 (Nat.le_of_ble_eq_true rfl) rfl ?_
  show wp _ _ 178 0 [(0, .ref r0), (1, .ref s1)] [] _ H _
  have u252996 := RO_k hRO_r0
  refine wp_of e178 c178_0 (rw_aload_n (pc' := 1) (v := .ref r0) rfl rfl rfl ?_)
  refine wp_of e178 c178_1 (xg_I (pc' := 4) lf_9_75 hW g0 sh_42 (by decide) (by decide) ty_42_9 rfl rfl (fun b252997 b252998 => ?_))
  refine wp_of e178 c178_4 (rw_iconst (pc' := 5) rfl ?_)
  refine wp_of e178 c178_5 (rw_icmp_ne (p1 := 24) (p2 := 8) (by decide) rfl ⟨by omega, by omega⟩ ⟨by omega, by omega⟩ (fun c252999 => ?_) (fun c252999 => ?_))
  · refine wp_of e178 c178_24 (rw_iconst (pc' := 25) rfl ?_)
    exact wp_zreturn e178 c178_25 rfl (by omega) ⟨rfl, rfl, 0, rfl, ⟨by omega, by omega⟩, (by omega)⟩
  · exfalso
    omega
/-! StrikeAwakeModel.eatsWord(Ljava/lang/String;)Z k -/
abbrev uq_192_k (r0 : Nat) (s1 : Nat) (rb : Nat) (B : Nat → Int) (n : Int) (q : Int) (kk : Int) (T : wq_T) (H : wq_H) : Option Value → wq_T → wq_H → Prop := fun r T' H' => T = T' ∧ WT T H' ∧ wfr [(42, 8), (42, 9), (42, 10), (42, 11), (42, 12), (42, 15)] T H H' ∧ ∃ z : Int, some (vI z) = r ∧ (0 ≤ z ∧ z ≤ 1) ∧ (((z = 1) ∧ (xw B n q kk = 0) ∧ RC T H' r0 B n (xN B n q)) ∨ ((z = 0) ∧ (xw B n q kk = 1) ∧ RC T H' r0 B n q))
set_option maxHeartbeats 4000000 in
theorem u_192_k {kt : Nat → Option mc_E} {T : wq_T} {H : wq_H} {r0 : Nat} {s1 : Nat} {t1 : List Int32} {rb : Nat} {B : Nat → Int} {n : Int} {q : Int} {kk : Int} (hW : WT T H) (g0 : T.2.2.2 r0 = some 42) (h1 : mc_find mc_sb s1 = some t1) (qrb : H r0 5 = (rb : Int)) (grb : T.2.2.2 rb = some 43) (p0 : wkw t1 t1.length = kk) (hRC_r0 : RC T H r0 B n q) : wpc kt 3 192 [.ref r0, .ref s1] T H (uq_192_k r0 s1 rb B n q kk T H) := by
  refine wp_enter e192 (Nat.le_of_ble_eq_true rfl) rfl ?_
  have f0 : wfr [(42, 8), (42, 9), (42, 10), (42, 11), (42, 12), (42, 15)] T H H := wfr.rf
  show wp _ _ 192 0 [(0, .ref r0), (1, .ref s1)] [] _ H _
  have u253028 := RC_k hRC_r0
  refine wp_of e192 c192_0 (rw_aload_n (pc' := 1) (v := .ref r0) rfl rfl rfl ?_)
  refine wp_of e192 c192_1 (rw_aload_n (pc' := 2) (v := .ref s1) rfl rfl rfl ?_)
  refine wp_of e192 c192_2 (xc_V (pc' := 5) (r := r0) (as := [.ref s1]) (st := []) (lm_9_114) rfl rfl (Nat.le_of_ble_eq_true rfl) hW g0 sh_42 (by decide) rfl (by decide) (u_178_k (B := B) (n := n) (q := q) (kk := kk) hW g0 h1 (by assumption) hRC_r0) (fun R253029 T253030 H253031 p253032 => ?_))
  obtain ⟨e253033, e253035, z253036, e253034, b253037, p253038⟩ := p253032
  subst e253033
  subst e253034
  subst e253035
  rcases p253038 with ⟨a253039, a253040, a253041⟩ | ⟨a253042, a253043⟩
  · show wp _ _ 192 5 [(0, .ref r0), (1, .ref s1)] [vI z253036] _ H _
    refine wp_of e192 c192_5 (rw_istore_n (pc' := 6) (z := z253036) (L' := [(2, vI z253036), (0, .ref r0), (1, .ref s1)]) rfl rfl rfl ?_)
    refine wp_of e192 c192_6 (rw_iload_n (pc' := 7) (z := z253036) rfl rfl ?_)
    refine wp_of e192 c192_7 (rw_if_eq (p1 := 14) (p2 := 10) (by decide) rfl ⟨by omega, by omega⟩ (fun c253044 => ?_) (fun c253044 => ?_))
    · exfalso
      omega
    · refine wp_of e192 c192_10 (rw_aload_n (pc' := 11) (v := .ref r0) rfl rfl rfl ?_)
      have u253045 := RC_a hRC_r0
      have h253046 : TM T H rb B := RC_tm hRC_r0 qrb
      refine wp_of e192 c192_11 (xc_V (pc' := 14) (r := r0) (as := []) (st := []) (lm_9_118) rfl rfl (Nat.le_of_ble_eq_true rfl) hW g0 sh_42 (by decide) rfl (by decide) (u_172_k (B := B) (n := n) (a := (xE B n q)) (q := (xN B n q)) hW g0 qrb grb (by omega) (by omega) (by omega) (by omega) (by omega) (rfl) h253046) (fun R253047 T253048 H253049 p253050 => ?_))
      obtain ⟨e253051, w253053, f253054, e253052, p253055⟩ := p253050
      subst e253051
      subst e253052
      have f253057 := f0.tr f253054 rfl
      show wp _ _ 192 14 [(2, vI z253036), (0, .ref r0), (1, .ref s1)] [] _ H253049 _
      have u253058 := RC_k p253055
      refine wp_of e192 c192_14 (rw_iload_n (pc' := 15) (z := z253036) rfl rfl ?_)
      exact wp_zreturn e192 c192_15 rfl (by omega) ⟨rfl, w253053, f253057, z253036, rfl, ⟨by omega, by omega⟩, (Or.inl ⟨by omega, by omega, p253055⟩)⟩
  · show wp _ _ 192 5 [(0, .ref r0), (1, .ref s1)] [vI z253036] _ H _
    refine wp_of e192 c192_5 (rw_istore_n (pc' := 6) (z := z253036) (L' := [(2, vI z253036), (0, .ref r0), (1, .ref s1)]) rfl rfl rfl ?_)
    refine wp_of e192 c192_6 (rw_iload_n (pc' := 7) (z := z253036) rfl rfl ?_)
    refine wp_of e192 c192_7 (rw_if_eq (p1 := 14) (p2 := 10) (by decide) rfl ⟨by omega, by omega⟩ (fun c253059 => ?_) (fun c253059 => ?_))
    · refine wp_of e192 c192_14 (rw_iload_n (pc' := 15) (z := z253036) rfl rfl ?_)
      exact wp_zreturn e192 c192_15 rfl (by omega) ⟨rfl, hW, f0, z253036, rfl, ⟨by omega, by omega⟩, (Or.inr ⟨by omega, by omega, hRC_r0⟩)⟩
    · exfalso
      omega
/-! StrikeAwakeModel.eatsWord(Ljava/lang/String;)Z o -/
abbrev uq_192_o (r0 : Nat) (s1 : Nat) (rb : Nat) (fo : Int) (po : Int) (kk : Int) (T : wq_T) (H : wq_H) : Option Value → wq_T → wq_H → Prop := fun r T' H' => T = T' ∧ H = H' ∧ ∃ z : Int, some (vI z) = r ∧ (0 ≤ z ∧ z ≤ 1) ∧ (((z = 0) ∧ RO T H r0 fo po))
set_option maxHeartbeats 4000000 in
theorem u_192_o {kt : Nat → Option mc_E} {T : wq_T} {H : wq_H} {r0 : Nat} {s1 : Nat} {t1 : List Int32} {rb : Nat} {fo : Int} {po : Int} {kk : Int} (hW : WT T H) (g0 : T.2.2.2 r0 = some 42) (h1 : mc_find mc_sb s1 = some t1) (qrb : H r0 5 = (rb : Int)) (grb : T.2.2.2 rb = some 43) (p0 : wkw t1 t1.length = kk) (hRO_r0 : RO T H r0 fo po) : wpc kt 3 192 [.ref r0, .ref s1] T H (uq_192_o r0 s1 rb fo po kk T H) := by
  refine wp_enter e192 (Nat.le_of_ble_eq_true rfl) rfl ?_
  show wp _ _ 192 0 [(0, .ref r0), (1, .ref s1)] [] _ H _
  have u253072 := RO_k hRO_r0
  refine wp_of e192 c192_0 (rw_aload_n (pc' := 1) (v := .ref r0) rfl rfl rfl ?_)
  refine wp_of e192 c192_1 (rw_aload_n (pc' := 2) (v := .ref s1) rfl rfl rfl ?_)
  refine wp_of e192 c192_2 (xc_V (pc' := 5) (r := r0) (as := [.ref s1]) (st := []) (lm_9_114) rfl rfl (Nat.le_of_ble_eq_true rfl) hW g0 sh_42 (by decide) rfl (by decide) (u_178_o (fo := fo) (po := po) (kk := kk) hW g0 h1 (by assumption) hRO_r0) (fun R253073 T253074 H253075 p253076 => ?_))
  obtain ⟨e253077, e253079, z253080, e253078, b253081, p253082⟩ := p253076
  subst e253077
  subst e253078
  subst e253079
  show wp _ _ 192 5 [(0, .ref r0), (1, .ref s1)] [vI z253080] _ H _
  refine wp_of e192 c192_5 (rw_istore_n (pc' := 6) (z := z253080) (L' := [(2, vI z253080), (0, .ref r0), (1, .ref s1)]) rfl rfl rfl ?_)
  refine wp_of e192 c192_6 (rw_iload_n (pc' := 7) (z := z253080) rfl rfl ?_)
  refine wp_of e192 c192_7 (rw_if_eq (p1 := 14) (p2 := 10) (by decide) rfl ⟨by omega, by omega⟩ (fun c253084 => ?_) (fun c253084 => ?_))
  · refine wp_of e192 c192_14 (rw_iload_n (pc' := 15) (z := z253080) rfl rfl ?_)
    exact wp_zreturn e192 c192_15 rfl (by omega) ⟨rfl, rfl, z253080, rfl, ⟨by omega, by omega⟩, ⟨by omega, hRO_r0⟩⟩
  · exfalso
    omega
/-! StrikeAwakeModel.eatsSign(I)Z k -/
abbrev uq_204_k (r0 : Nat) (a1 : Int) (rb : Nat) (B : Nat → Int) (n : Int) (q : Int) (kd : Int) (T : wq_T) (H : wq_H) : Option Value → wq_T → wq_H → Prop := fun r T' H' => T = T' ∧ WT T H' ∧ wfr [(42, 8), (42, 9), (42, 10), (42, 11), (42, 12), (42, 15)] T H H' ∧ ∃ z : Int, some (vI z) = r ∧ (0 ≤ z ∧ z ≤ 1) ∧ (((z = 1) ∧ (xk B n q kd = 0) ∧ (xK B n q = kd) ∧ RC T H' r0 B n (xN B n q)) ∨ ((z = 0) ∧ (xk B n q kd = 1) ∧ (xK B n q ≠ kd) ∧ RC T H' r0 B n q))
set_option maxHeartbeats 4000000 in
theorem u_204_k {kt : Nat → Option mc_E} {T : wq_T} {H : wq_H} {r0 : Nat} {a1 : Int} {rb : Nat} {B : Nat → Int} {n : Int} {q : Int} {kd : Int} (hW : WT T H) (g0 : T.2.2.2 r0 = some 42) (i1 : (-2147483648) ≤ a1 ∧ a1 ≤ 2147483647) (qrb : H r0 5 = (rb : Int)) (grb : T.2.2.2 rb = some 43) (p0 : (a1 = 59 ∧ kd = 3) ∨ (a1 = 44 ∧ kd = 4)) (hRC_r0 : RC T H r0 B n q) : wpc kt 3 204 [.ref r0, vI a1] T H (uq_204_k r0 a1 rb B n q kd T H) := by
  refine wp_enter e204 (Nat.le_of_ble_eq_true rfl) rfl ?_
  have f0 : wfr [(42, 8), (42, 9), (42, 10), (42, 11), (42, 12), (42, 15)] T H H := wfr.rf
  show wp _ _ 204 0 [(0, .ref r0), (1, vI a1)] [] _ H _
  have u253105 := RC_k hRC_r0
  have _s := RC_s hRC_r0
  have _k := @xk_b B n q kd
  refine wp_of e204 c204_0 (rw_aload_n (pc' := 1) (v := .ref r0) rfl rfl rfl ?_)
  refine wp_of e204 c204_1 (xg_I (pc' := 4) lf_9_75 hW g0 sh_42 (by decide) (by decide) ty_42_9 rfl rfl (fun b253106 b253107 => ?_))
  refine wp_of e204 c204_4 (rw_iconst (pc' := 5) rfl ?_)
  refine wp_of e204 c204_5 (rw_icmp_ne (p1 := 20) (p2 := 8) (by decide) rfl ⟨by omega, by omega⟩ ⟨by omega, by omega⟩ (fun c253108 => ?_) (fun c253108 => ?_))
  · refine wp_of e204 c204_20 (rw_iconst (pc' := 21) rfl ?_)
    refine wp_of e204 c204_21 (rw_istore_n (pc' := 22) (z := 0) (L' := [(2, vI 0), (0, .ref r0), (1, vI a1)]) rfl rfl rfl ?_)
    refine wp_of e204 c204_22 (rw_iload_n (pc' := 23) (z := 0) rfl rfl ?_)
    refine wp_of e204 c204_23 (rw_if_eq (p1 := 30) (p2 := 26) (by decide) rfl ⟨by omega, by omega⟩ (fun c253109 => ?_) (fun c253109 => ?_))
    · refine wp_of e204 c204_30 (rw_iload_n (pc' := 31) (z := 0) rfl rfl ?_)
      exact wp_zreturn e204 c204_31 rfl (by omega) ⟨rfl, hW, f0, 0, rfl, ⟨by omega, by omega⟩, (Or.inr ⟨by omega, by omega, by omega, hRC_r0⟩)⟩
    · exfalso
      omega
  · refine wp_of e204 c204_8 (rw_aload_n (pc' := 9) (v := .ref r0) rfl rfl rfl ?_)
    refine wp_of e204 c204_9 (xg_I (pc' := 12) lf_9_87 hW g0 sh_42 (by decide) (by decide) ty_42_11 rfl rfl (fun b253110 b253111 => ?_))
    refine wp_of e204 c204_12 (rw_iload_n (pc' := 13) (z := a1) rfl rfl ?_)
    refine wp_of e204 c204_13 (rw_icmp_ne (p1 := 20) (p2 := 16) (by decide) rfl ⟨by omega, by omega⟩ ⟨by omega, by omega⟩ (fun c253112 => ?_) (fun c253112 => ?_))
    · refine wp_of e204 c204_20 (rw_iconst (pc' := 21) rfl ?_)
      refine wp_of e204 c204_21 (rw_istore_n (pc' := 22) (z := 0) (L' := [(2, vI 0), (0, .ref r0), (1, vI a1)]) rfl rfl rfl ?_)
      refine wp_of e204 c204_22 (rw_iload_n (pc' := 23) (z := 0) rfl rfl ?_)
      refine wp_of e204 c204_23 (rw_if_eq (p1 := 30) (p2 := 26) (by decide) rfl ⟨by omega, by omega⟩ (fun c253113 => ?_) (fun c253113 => ?_))
      · refine wp_of e204 c204_30 (rw_iload_n (pc' := 31) (z := 0) rfl rfl ?_)
        exact wp_zreturn e204 c204_31 rfl (by omega) ⟨rfl, hW, f0, 0, rfl, ⟨by omega, by omega⟩, (Or.inr ⟨by omega, by omega, by omega, hRC_r0⟩)⟩
      · exfalso
        omega
    · refine wp_of e204 c204_16 (rw_iconst (pc' := 17) rfl ?_)
      refine wp_of e204 c204_17 (rw_goto (p1 := 21) (by decide) ?_)
      refine wp_of e204 c204_21 (rw_istore_n (pc' := 22) (z := 1) (L' := [(2, vI 1), (0, .ref r0), (1, vI a1)]) rfl rfl rfl ?_)
      refine wp_of e204 c204_22 (rw_iload_n (pc' := 23) (z := 1) rfl rfl ?_)
      refine wp_of e204 c204_23 (rw_if_eq (p1 := 30) (p2 := 26) (by decide) rfl ⟨by omega, by omega⟩ (fun c253114 => ?_) (fun c253114 => ?_))
      · exfalso
        omega
      · refine wp_of e204 c204_26 (rw_aload_n (pc' := 27) (v := .ref r0) rfl rfl rfl ?_)
        have u253115 := RC_a hRC_r0
        have h253116 : TM T H rb B := RC_tm hRC_r0 qrb
        refine wp_of e204 c204_27 (xc_V (pc' := 30) (r := r0) (as := []) (st := []) (lm_9_118) rfl rfl (Nat.le_of_ble_eq_true rfl) hW g0 sh_42 (by decide) rfl (by decide) (u_172_k (B := B) (n := n) (a := (xE B n q)) (q := (xN B n q)) hW g0 qrb grb (by omega) (by omega) (by omega) (by omega) (by omega) (rfl) h253116) (fun R253117 T253118 H253119 p253120 => ?_))
        obtain ⟨e253121, w253123, f253124, e253122, p253125⟩ := p253120
        subst e253121
        subst e253122
        have f253127 := f0.tr f253124 rfl
        show wp _ _ 204 30 [(2, vI 1), (0, .ref r0), (1, vI a1)] [] _ H253119 _
        have u253128 := RC_k p253125
        refine wp_of e204 c204_30 (rw_iload_n (pc' := 31) (z := 1) rfl rfl ?_)
        exact wp_zreturn e204 c204_31 rfl (by omega) ⟨rfl, w253123, f253127, 1, rfl, ⟨by omega, by omega⟩, (Or.inl ⟨by omega, by omega, by omega, p253125⟩)⟩
/-! StrikeAwakeModel.eatsSign(I)Z o -/
abbrev uq_204_o (r0 : Nat) (a1 : Int) (rb : Nat) (fo : Int) (po : Int) (T : wq_T) (H : wq_H) : Option Value → wq_T → wq_H → Prop := fun r T' H' => T = T' ∧ H = H' ∧ ∃ z : Int, some (vI z) = r ∧ (0 ≤ z ∧ z ≤ 1) ∧ (((z = 0) ∧ RO T H r0 fo po))
set_option maxHeartbeats 4000000 in
theorem u_204_o {kt : Nat → Option mc_E} {T : wq_T} {H : wq_H} {r0 : Nat} {a1 : Int} {rb : Nat} {fo : Int} {po : Int} (hW : WT T H) (g0 : T.2.2.2 r0 = some 42) (i1 : (-2147483648) ≤ a1 ∧ a1 ≤ 2147483647) (qrb : H r0 5 = (rb : Int)) (grb : T.2.2.2 rb = some 43) (hRO_r0 : RO T H r0 fo po) : wpc kt 3 204 [.ref r0, vI a1] T H (uq_204_o r0 a1 rb fo po T H) := by
  refine wp_enter e204 (Nat.le_of_ble_eq_true rfl) rfl ?_
  show wp _ _ 204 0 [(0, .ref r0), (1, vI a1)] [] _ H _
  have u253133 := RO_k hRO_r0
  refine wp_of e204 c204_0 (rw_aload_n (pc' := 1) (v := .ref r0) rfl rfl rfl ?_)
  refine wp_of e204 c204_1 (xg_I (pc' := 4) lf_9_75 hW g0 sh_42 (by decide) (by decide) ty_42_9 rfl rfl (fun b253134 b253135 => ?_))
  refine wp_of e204 c204_4 (rw_iconst (pc' := 5) rfl ?_)
  refine wp_of e204 c204_5 (rw_icmp_ne (p1 := 20) (p2 := 8) (by decide) rfl ⟨by omega, by omega⟩ ⟨by omega, by omega⟩ (fun c253136 => ?_) (fun c253136 => ?_))
  · refine wp_of e204 c204_20 (rw_iconst (pc' := 21) rfl ?_)
    refine wp_of e204 c204_21 (rw_istore_n (pc' := 22) (z := 0) (L' := [(2, vI 0), (0, .ref r0), (1, vI a1)]) rfl rfl rfl ?_)
    refine wp_of e204 c204_22 (rw_iload_n (pc' := 23) (z := 0) rfl rfl ?_)
    refine wp_of e204 c204_23 (rw_if_eq (p1 := 30) (p2 := 26) (by decide) rfl ⟨by omega, by omega⟩ (fun c253137 => ?_) (fun c253137 => ?_))
    · refine wp_of e204 c204_30 (rw_iload_n (pc' := 31) (z := 0) rfl rfl ?_)
      exact wp_zreturn e204 c204_31 rfl (by omega) ⟨rfl, rfl, 0, rfl, ⟨by omega, by omega⟩, ⟨by omega, hRO_r0⟩⟩
    · exfalso
      omega
  · exfalso
    omega
/-! StrikeAwakeModel.needs(Ljava/lang/String;)V k -/
abbrev uq_183_k (r0 : Nat) (s1 : Nat) (rb : Nat) (B : Nat → Int) (n : Int) (q : Int) (kk : Int) (T : wq_T) (H : wq_H) : Option Value → wq_T → wq_H → Prop := fun r T' H' => T = T' ∧ WT T H' ∧ wfr [(42, 8), (42, 9), (42, 10), (42, 11), (42, 12), (42, 13), (42, 14), (42, 15)] T H H' ∧ none = r ∧ (((xw B n q kk = 0) ∧ RC T H' r0 B n (xN B n q)) ∨ ((xw B n q kk ≠ 0) ∧ RO T H' r0 (xw B n q kk) q))
set_option maxHeartbeats 4000000 in
theorem u_183_k {kt : Nat → Option mc_E} {T : wq_T} {H : wq_H} {r0 : Nat} {s1 : Nat} {t1 : List Int32} {rb : Nat} {B : Nat → Int} {n : Int} {q : Int} {kk : Int} (hW : WT T H) (g0 : T.2.2.2 r0 = some 42) (h1 : mc_find mc_sb s1 = some t1) (qrb : H r0 5 = (rb : Int)) (grb : T.2.2.2 rb = some 43) (p0 : wkw t1 t1.length = kk) (hRC_r0 : RC T H r0 B n q) : wpc kt 3 183 [.ref r0, .ref s1] T H (uq_183_k r0 s1 rb B n q kk T H) := by
  refine wp_enter e183 (Nat.le_of_ble_eq_true rfl) rfl ?_
  have f0 : wfr [(42, 8), (42, 9), (42, 10), (42, 11), (42, 12), (42, 13), (42, 14), (42, 15)] T H H := wfr.rf
  show wp _ _ 183 0 [(0, .ref r0), (1, .ref s1)] [] _ H _
  have u253186 := RC_k hRC_r0
  refine wp_of e183 c183_0 (rw_aload_n (pc' := 1) (v := .ref r0) rfl rfl rfl ?_)
  refine wp_of e183 c183_1 (rw_aload_n (pc' := 2) (v := .ref s1) rfl rfl rfl ?_)
  refine wp_of e183 c183_2 (xc_V (pc' := 5) (r := r0) (as := [.ref s1]) (st := []) (lm_9_114) rfl rfl (Nat.le_of_ble_eq_true rfl) hW g0 sh_42 (by decide) rfl (by decide) (u_178_k (B := B) (n := n) (q := q) (kk := kk) hW g0 h1 (by assumption) hRC_r0) (fun R253187 T253188 H253189 p253190 => ?_))
  obtain ⟨e253191, e253193, z253194, e253192, b253195, p253196⟩ := p253190
  subst e253191
  subst e253192
  subst e253193
  rcases p253196 with ⟨a253197, a253198, a253199⟩ | ⟨a253200, a253201⟩
  · show wp _ _ 183 5 [(0, .ref r0), (1, .ref s1)] [vI z253194] _ H _
    refine wp_of e183 c183_5 (rw_if_ne (p1 := 13) (p2 := 8) (by decide) rfl ⟨by omega, by omega⟩ (fun c253202 => ?_) (fun c253202 => ?_))
    · refine wp_of e183 c183_13 (rw_aload_n (pc' := 14) (v := .ref r0) rfl rfl rfl ?_)
      have u253203 := RC_a hRC_r0
      have h253204 : TM T H rb B := RC_tm hRC_r0 qrb
      refine wp_of e183 c183_14 (xc_V (pc' := 17) (r := r0) (as := []) (st := []) (lm_9_118) rfl rfl (Nat.le_of_ble_eq_true rfl) hW g0 sh_42 (by decide) rfl (by decide) (u_172_k (B := B) (n := n) (a := (xE B n q)) (q := (xN B n q)) hW g0 qrb grb (by omega) (by omega) (by omega) (by omega) (by omega) (rfl) h253204) (fun R253205 T253206 H253207 p253208 => ?_))
      obtain ⟨e253209, w253211, f253212, e253210, p253213⟩ := p253208
      subst e253209
      subst e253210
      have f253215 := f0.tr f253212 rfl
      show wp _ _ 183 17 [(0, .ref r0), (1, .ref s1)] [] _ H253207 _
      have u253216 := RC_k p253213
      exact wp_return e183 c183_17 rfl ⟨rfl, w253211, f253215, rfl, (Or.inl ⟨by omega, p253213⟩)⟩
    · exfalso
      omega
  · show wp _ _ 183 5 [(0, .ref r0), (1, .ref s1)] [vI z253194] _ H _
    refine wp_of e183 c183_5 (rw_if_ne (p1 := 13) (p2 := 8) (by decide) rfl ⟨by omega, by omega⟩ (fun c253217 => ?_) (fun c253217 => ?_))
    · exfalso
      omega
    · refine wp_of e183 c183_8 (rw_aload_n (pc' := 9) (v := .ref r0) rfl rfl rfl ?_)
      refine wp_of e183 c183_9 (rw_iconst (pc' := 10) rfl ?_)
      refine wp_of e183 c183_10 (xc_V (pc' := 13) (r := r0) (as := [vI 1]) (st := []) (lm_9_121) rfl rfl (Nat.le_of_ble_eq_true rfl) hW g0 sh_42 (by decide) rfl (by decide) (u_181_k (B := B) (n := n) (q := q) hW g0 ⟨by omega, by omega⟩ (by omega) hRC_r0) (fun R253218 T253219 H253220 p253221 => ?_))
      obtain ⟨e253222, w253224, f253225, e253223, p253226⟩ := p253221
      subst e253222
      subst e253223
      have f253228 := f0.tr f253225 rfl
      show wp _ _ 183 13 [(0, .ref r0), (1, .ref s1)] [] _ H253220 _
      have u253229 := RO_k p253226
      refine wp_of e183 c183_13 (rw_aload_n (pc' := 14) (v := .ref r0) rfl rfl rfl ?_)
      refine wp_of e183 c183_14 (xc_V (pc' := 17) (r := r0) (as := []) (st := []) (lm_9_118) rfl rfl (Nat.le_of_ble_eq_true rfl) w253224 g0 sh_42 (by decide) rfl (by decide) (u_172_o (fo := 1) (po := q) w253224 g0 p253226) (fun R253230 T253231 H253232 p253233 => ?_))
      obtain ⟨e253234, e253236, e253235, p253237⟩ := p253233
      subst e253234
      subst e253235
      subst e253236
      show wp _ _ 183 17 [(0, .ref r0), (1, .ref s1)] [] _ H253220 _
      have u253239 := RO_k p253237
      exact wp_return e183 c183_17 rfl ⟨rfl, w253224, f253228, rfl, (Or.inr ⟨by omega, RO_eq p253237 (by omega) (by omega)⟩)⟩
/-! StrikeAwakeModel.needs(Ljava/lang/String;)V o -/
abbrev uq_183_o (r0 : Nat) (s1 : Nat) (rb : Nat) (fo : Int) (po : Int) (kk : Int) (T : wq_T) (H : wq_H) : Option Value → wq_T → wq_H → Prop := fun r T' H' => T = T' ∧ H = H' ∧ none = r ∧ ((RO T H r0 fo po))
set_option maxHeartbeats 4000000 in
theorem u_183_o {kt : Nat → Option mc_E} {T : wq_T} {H : wq_H} {r0 : Nat} {s1 : Nat} {t1 : List Int32} {rb : Nat} {fo : Int} {po : Int} {kk : Int} (hW : WT T H) (g0 : T.2.2.2 r0 = some 42) (h1 : mc_find mc_sb s1 = some t1) (qrb : H r0 5 = (rb : Int)) (grb : T.2.2.2 rb = some 43) (p0 : wkw t1 t1.length = kk) (hRO_r0 : RO T H r0 fo po) : wpc kt 3 183 [.ref r0, .ref s1] T H (uq_183_o r0 s1 rb fo po kk T H) := by
  refine wp_enter e183 (Nat.le_of_ble_eq_true rfl) rfl ?_
  show wp _ _ 183 0 [(0, .ref r0), (1, .ref s1)] [] _ H _
  have u253270 := RO_k hRO_r0
  refine wp_of e183 c183_0 (rw_aload_n (pc' := 1) (v := .ref r0) rfl rfl rfl ?_)
  refine wp_of e183 c183_1 (rw_aload_n (pc' := 2) (v := .ref s1) rfl rfl rfl ?_)
  refine wp_of e183 c183_2 (xc_V (pc' := 5) (r := r0) (as := [.ref s1]) (st := []) (lm_9_114) rfl rfl (Nat.le_of_ble_eq_true rfl) hW g0 sh_42 (by decide) rfl (by decide) (u_178_o (fo := fo) (po := po) (kk := kk) hW g0 h1 (by assumption) hRO_r0) (fun R253271 T253272 H253273 p253274 => ?_))
  obtain ⟨e253275, e253277, z253278, e253276, b253279, p253280⟩ := p253274
  subst e253275
  subst e253276
  subst e253277
  show wp _ _ 183 5 [(0, .ref r0), (1, .ref s1)] [vI z253278] _ H _
  refine wp_of e183 c183_5 (rw_if_ne (p1 := 13) (p2 := 8) (by decide) rfl ⟨by omega, by omega⟩ (fun c253282 => ?_) (fun c253282 => ?_))
  · exfalso
    omega
  · refine wp_of e183 c183_8 (rw_aload_n (pc' := 9) (v := .ref r0) rfl rfl rfl ?_)
    refine wp_of e183 c183_9 (rw_iconst (pc' := 10) rfl ?_)
    refine wp_of e183 c183_10 (xc_V (pc' := 13) (r := r0) (as := [vI 1]) (st := []) (lm_9_121) rfl rfl (Nat.le_of_ble_eq_true rfl) hW g0 sh_42 (by decide) rfl (by decide) (u_181_o (fo := fo) (po := po) hW g0 ⟨by omega, by omega⟩ hRO_r0) (fun R253283 T253284 H253285 p253286 => ?_))
    obtain ⟨e253287, e253289, e253288, p253290⟩ := p253286
    subst e253287
    subst e253288
    subst e253289
    show wp _ _ 183 13 [(0, .ref r0), (1, .ref s1)] [] _ H _
    have u253292 := RO_k p253290
    refine wp_of e183 c183_13 (rw_aload_n (pc' := 14) (v := .ref r0) rfl rfl rfl ?_)
    refine wp_of e183 c183_14 (xc_V (pc' := 17) (r := r0) (as := []) (st := []) (lm_9_118) rfl rfl (Nat.le_of_ble_eq_true rfl) hW g0 sh_42 (by decide) rfl (by decide) (u_172_o (fo := fo) (po := po) hW g0 p253290) (fun R253293 T253294 H253295 p253296 => ?_))
    obtain ⟨e253297, e253299, e253298, p253300⟩ := p253296
    subst e253297
    subst e253298
    subst e253299
    show wp _ _ 183 17 [(0, .ref r0), (1, .ref s1)] [] _ H _
    have u253302 := RO_k p253300
    exact wp_return e183 c183_17 rfl ⟨rfl, rfl, rfl, (p253300)⟩
/-! StrikeAwakeModel.needsSign(I)V k -/
abbrev uq_197_k (r0 : Nat) (a1 : Int) (rb : Nat) (B : Nat → Int) (n : Int) (q : Int) (kd : Int) (T : wq_T) (H : wq_H) : Option Value → wq_T → wq_H → Prop := fun r T' H' => T = T' ∧ WT T H' ∧ wfr [(42, 8), (42, 9), (42, 10), (42, 11), (42, 12), (42, 13), (42, 14), (42, 15)] T H H' ∧ none = r ∧ (((xk B n q kd = 0) ∧ RC T H' r0 B n (xN B n q)) ∨ ((xk B n q kd ≠ 0) ∧ RO T H' r0 (xk B n q kd) q))
set_option maxHeartbeats 4000000 in
theorem u_197_k {kt : Nat → Option mc_E} {T : wq_T} {H : wq_H} {r0 : Nat} {a1 : Int} {rb : Nat} {B : Nat → Int} {n : Int} {q : Int} {kd : Int} (hW : WT T H) (g0 : T.2.2.2 r0 = some 42) (i1 : (-2147483648) ≤ a1 ∧ a1 ≤ 2147483647) (qrb : H r0 5 = (rb : Int)) (grb : T.2.2.2 rb = some 43) (p0 : (a1 = 59 ∧ kd = 3) ∨ (a1 = 44 ∧ kd = 4)) (hRC_r0 : RC T H r0 B n q) : wpc kt 3 197 [.ref r0, vI a1] T H (uq_197_k r0 a1 rb B n q kd T H) := by
  refine wp_enter e197 (Nat.le_of_ble_eq_true rfl) rfl ?_
  have f0 : wfr [(42, 8), (42, 9), (42, 10), (42, 11), (42, 12), (42, 13), (42, 14), (42, 15)] T H H := wfr.rf
  show wp _ _ 197 0 [(0, .ref r0), (1, vI a1)] [] _ H _
  have u253360 := RC_k hRC_r0
  have _s := RC_s hRC_r0
  have _k := @xk_b B n q kd
  refine wp_of e197 c197_0 (rw_aload_n (pc' := 1) (v := .ref r0) rfl rfl rfl ?_)
  refine wp_of e197 c197_1 (xg_I (pc' := 4) lf_9_75 hW g0 sh_42 (by decide) (by decide) ty_42_9 rfl rfl (fun b253361 b253362 => ?_))
  refine wp_of e197 c197_4 (rw_iconst (pc' := 5) rfl ?_)
  refine wp_of e197 c197_5 (rw_icmp_ne (p1 := 16) (p2 := 8) (by decide) rfl ⟨by omega, by omega⟩ ⟨by omega, by omega⟩ (fun c253363 => ?_) (fun c253363 => ?_))
  · refine wp_of e197 c197_16 (rw_aload_n (pc' := 17) (v := .ref r0) rfl rfl rfl ?_)
    refine wp_of e197 c197_17 (rw_iconst (pc' := 18) rfl ?_)
    refine wp_of e197 c197_18 (xc_V (pc' := 21) (r := r0) (as := [vI 1]) (st := []) (lm_9_121) rfl rfl (Nat.le_of_ble_eq_true rfl) hW g0 sh_42 (by decide) rfl (by decide) (u_181_k (B := B) (n := n) (q := q) hW g0 ⟨by omega, by omega⟩ (by omega) hRC_r0) (fun R253364 T253365 H253366 p253367 => ?_))
    obtain ⟨e253368, w253370, f253371, e253369, p253372⟩ := p253367
    subst e253368
    subst e253369
    have f253374 := f0.tr f253371 rfl
    show wp _ _ 197 21 [(0, .ref r0), (1, vI a1)] [] _ H253366 _
    have u253375 := RO_k p253372
    refine wp_of e197 c197_21 (rw_aload_n (pc' := 22) (v := .ref r0) rfl rfl rfl ?_)
    refine wp_of e197 c197_22 (xc_V (pc' := 25) (r := r0) (as := []) (st := []) (lm_9_118) rfl rfl (Nat.le_of_ble_eq_true rfl) w253370 g0 sh_42 (by decide) rfl (by decide) (u_172_o (fo := 1) (po := q) w253370 g0 p253372) (fun R253376 T253377 H253378 p253379 => ?_))
    obtain ⟨e253380, e253382, e253381, p253383⟩ := p253379
    subst e253380
    subst e253381
    subst e253382
    show wp _ _ 197 25 [(0, .ref r0), (1, vI a1)] [] _ H253366 _
    have u253385 := RO_k p253383
    exact wp_return e197 c197_25 rfl ⟨rfl, w253370, f253374, rfl, (Or.inr ⟨by omega, RO_eq p253383 (by omega) (by omega)⟩)⟩
  · refine wp_of e197 c197_8 (rw_aload_n (pc' := 9) (v := .ref r0) rfl rfl rfl ?_)
    refine wp_of e197 c197_9 (xg_I (pc' := 12) lf_9_87 hW g0 sh_42 (by decide) (by decide) ty_42_11 rfl rfl (fun b253386 b253387 => ?_))
    refine wp_of e197 c197_12 (rw_iload_n (pc' := 13) (z := a1) rfl rfl ?_)
    refine wp_of e197 c197_13 (rw_icmp_eq (p1 := 21) (p2 := 16) (by decide) rfl ⟨by omega, by omega⟩ ⟨by omega, by omega⟩ (fun c253388 => ?_) (fun c253388 => ?_))
    · refine wp_of e197 c197_21 (rw_aload_n (pc' := 22) (v := .ref r0) rfl rfl rfl ?_)
      have u253389 := RC_a hRC_r0
      have h253390 : TM T H rb B := RC_tm hRC_r0 qrb
      refine wp_of e197 c197_22 (xc_V (pc' := 25) (r := r0) (as := []) (st := []) (lm_9_118) rfl rfl (Nat.le_of_ble_eq_true rfl) hW g0 sh_42 (by decide) rfl (by decide) (u_172_k (B := B) (n := n) (a := (xE B n q)) (q := (xN B n q)) hW g0 qrb grb (by omega) (by omega) (by omega) (by omega) (by omega) (rfl) h253390) (fun R253391 T253392 H253393 p253394 => ?_))
      obtain ⟨e253395, w253397, f253398, e253396, p253399⟩ := p253394
      subst e253395
      subst e253396
      have f253401 := f0.tr f253398 rfl
      show wp _ _ 197 25 [(0, .ref r0), (1, vI a1)] [] _ H253393 _
      have u253402 := RC_k p253399
      exact wp_return e197 c197_25 rfl ⟨rfl, w253397, f253401, rfl, (Or.inl ⟨by omega, p253399⟩)⟩
    · refine wp_of e197 c197_16 (rw_aload_n (pc' := 17) (v := .ref r0) rfl rfl rfl ?_)
      refine wp_of e197 c197_17 (rw_iconst (pc' := 18) rfl ?_)
      refine wp_of e197 c197_18 (xc_V (pc' := 21) (r := r0) (as := [vI 1]) (st := []) (lm_9_121) rfl rfl (Nat.le_of_ble_eq_true rfl) hW g0 sh_42 (by decide) rfl (by decide) (u_181_k (B := B) (n := n) (q := q) hW g0 ⟨by omega, by omega⟩ (by omega) hRC_r0) (fun R253403 T253404 H253405 p253406 => ?_))
      obtain ⟨e253407, w253409, f253410, e253408, p253411⟩ := p253406
      subst e253407
      subst e253408
      have f253413 := f0.tr f253410 rfl
      show wp _ _ 197 21 [(0, .ref r0), (1, vI a1)] [] _ H253405 _
      have u253414 := RO_k p253411
      refine wp_of e197 c197_21 (rw_aload_n (pc' := 22) (v := .ref r0) rfl rfl rfl ?_)
      refine wp_of e197 c197_22 (xc_V (pc' := 25) (r := r0) (as := []) (st := []) (lm_9_118) rfl rfl (Nat.le_of_ble_eq_true rfl) w253409 g0 sh_42 (by decide) rfl (by decide) (u_172_o (fo := 1) (po := q) w253409 g0 p253411) (fun R253415 T253416 H253417 p253418 => ?_))
      obtain ⟨e253419, e253421, e253420, p253422⟩ := p253418
      subst e253419
      subst e253420
      subst e253421
      show wp _ _ 197 25 [(0, .ref r0), (1, vI a1)] [] _ H253405 _
      have u253424 := RO_k p253422
      exact wp_return e197 c197_25 rfl ⟨rfl, w253409, f253413, rfl, (Or.inr ⟨by omega, RO_eq p253422 (by omega) (by omega)⟩)⟩
