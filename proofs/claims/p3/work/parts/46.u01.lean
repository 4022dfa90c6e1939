/-! what methods do (own work, written by wip/gen3/sx3.py) -/
/-! StrikeAwakeModel.needsSign(I)V o -/
abbrev uq_197_o (r0 : Nat) (a1 : Int) (rb : Nat) (fo : Int) (po : Int) (T : wq_T) (H : wq_H) : Option Value → wq_T → wq_H → Prop := fun r T' H' => T = T' ∧ H = H' ∧ none = r ∧ ((RO T H r0 fo po))
set_option maxHeartbeats 4000000 in
theorem u_197_o {kt : Nat → Option mc_E} {T : wq_T} {H : wq_H} {r0 : Nat} {a1 : Int} {rb : Nat} {fo : Int} {po : Int} (hW : WT T H) (g0 : T.2.2.2 r0 = some 42) (i1 : (-2147483648) ≤ a1 ∧ a1 ≤ 2147483647) (qrb : H r0 5 = (rb : Int)) (grb : T.2.2.2 rb = some 43) (hRO_r0 : RO T H r0 fo po) : wpc kt 3 197 [.ref r0, vI a1] T H (uq_197_o r0 a1 rb fo po T H) := by
  refine wp_enter e197 (Nat.le_of_ble_eq_true rfl) rfl ?_
  show wp _ _ 197 0 [(0, .ref r0), (1, vI a1)] [] _ H _
  have u253446 := RO_k hRO_r0
  refine wp_of e197 c197_0 (rw_aload_n (pc' := 1) (v := .ref r0) rfl rfl rfl ?_)
  refine wp_of e197 c197_1 (xg_I (pc' := 4) lf_9_75 hW g0 sh_42 (by decide) (by decide) ty_42_9 rfl rfl (fun b253447 b253448 => ?_))
  refine wp_of e197 c197_4 (rw_iconst (pc' := 5) rfl ?_)
  refine wp_of e197 c197_5 (rw_icmp_ne (p1 := 16) (p2 := 8) (by decide) rfl ⟨by omega, by omega⟩ ⟨by omega, by omega⟩ (fun c253449 => ?_) (fun c253449 => ?_))
  · refine wp_of e197 c197_16 (rw_aload_n (pc' := 17) (v := .ref r0) rfl rfl rfl ?_)
    refine wp_of e197 c197_17 (rw_iconst (pc' := 18) rfl ?_)
    refine wp_of e197 c197_18 (xc_V (pc' := 21) (r := r0) (as := [vI 1]) (st := []) (lm_9_121) rfl rfl (Nat.le_of_ble_eq_true rfl) hW g0 sh_42 (by decide) rfl (by decide) (u_181_o (fo := fo) (po := po) hW g0 ⟨by omega, by omega⟩ hRO_r0) (fun R253450 T253451 H253452 p253453 => ?_))
    obtain ⟨e253454, e253456, e253455, p253457⟩ := p253453
    subst e253454
    subst e253455
    subst e253456
    show wp _ _ 197 21 [(0, .ref r0), (1, vI a1)] [] _ H _
    have u253459 := RO_k p253457
    refine wp_of e197 c197_21 (rw_aload_n (pc' := 22) (v := .ref r0) rfl rfl rfl ?_)
    refine wp_of e197 c197_22 (xc_V (pc' := 25) (r := r0) (as := []) (st := []) (lm_9_118) rfl rfl (Nat.le_of_ble_eq_true rfl) hW g0 sh_42 (by decide) rfl (by decide) (u_172_o (fo := fo) (po := po) hW g0 p253457) (fun R253460 T253461 H253462 p253463 => ?_))
    obtain ⟨e253464, e253466, e253465, p253467⟩ := p253463
    subst e253464
    subst e253465
    subst e253466
    show wp _ _ 197 25 [(0, .ref r0), (1, vI a1)] [] _ H _
    have u253469 := RO_k p253467
    exact wp_return e197 c197_25 rfl ⟨rfl, rfl, rfl, (p253467)⟩
  · exfalso
    omega
/-! StrikeAwakeModel.whole(II)I k -/
abbrev uq_185_k (r0 : Nat) (a1 : Int) (a2 : Int) (B : Nat → Int) (n : Int) (q : Int) (lo : Int) (hi : Int) (T : wq_T) (H : wq_H) : Option Value → wq_T → wq_H → Prop := fun r T' H' => T = T' ∧ WT T H' ∧ wfr [(42, 9), (42, 13), (42, 14)] T H H' ∧ ∃ z : Int, some (vI z) = r ∧ (0 ≤ z ∧ z ≤ 100) ∧ (((xh B n q lo hi = 0) ∧ (z = xV B n q) ∧ (lo ≤ z ∧ z ≤ hi) ∧ (xK B n q = 2) ∧ RC T H' r0 B n q) ∨ ((z = 0) ∧ (xh B n q lo hi ≠ 0) ∧ RO T H' r0 (xh B n q lo hi) q))
set_option maxHeartbeats 4000000 in
theorem u_185_k {kt : Nat → Option mc_E} {T : wq_T} {H : wq_H} {r0 : Nat} {a1 : Int} {a2 : Int} {B : Nat → Int} {n : Int} {q : Int} {lo : Int} {hi : Int} (hW : WT T H) (g0 : T.2.2.2 r0 = some 42) (i1 : 0 ≤ a1 ∧ a1 ≤ 100) (i2 : 0 ≤ a2 ∧ a2 ≤ 100) (p0 : a1 = lo) (p1 : a2 = hi) (hRC_r0 : RC T H r0 B n q) : wpc kt 2 185 [.ref r0, vI a1, vI a2] T H (uq_185_k r0 a1 a2 B n q lo hi T H) := by
  refine wp_enter e185 (Nat.le_of_ble_eq_true rfl) rfl ?_
  have f0 : wfr [(42, 9), (42, 13), (42, 14)] T H H := wfr.rf
  show wp _ _ 185 0 [(0, .ref r0), (1, vI a1), (2, vI a2)] [] _ H _
  have u253524 := RC_k hRC_r0
  have _s := RC_s hRC_r0
  have _h := @xh_b B n q lo hi
  refine wp_of e185 c185_0 (rw_aload_n (pc' := 1) (v := .ref r0) rfl rfl rfl ?_)
  refine wp_of e185 c185_1 (xg_I (pc' := 4) lf_9_75 hW g0 sh_42 (by decide) (by decide) ty_42_9 rfl rfl (fun b253525 b253526 => ?_))
  refine wp_of e185 c185_4 (rw_iconst (pc' := 5) rfl ?_)
  refine wp_of e185 c185_5 (rw_icmp_eq (p1 := 16) (p2 := 8) (by decide) rfl ⟨by omega, by omega⟩ ⟨by omega, by omega⟩ (fun c253527 => ?_) (fun c253527 => ?_))
  · refine wp_of e185 c185_16 (rw_aload_n (pc' := 17) (v := .ref r0) rfl rfl rfl ?_)
    refine wp_of e185 c185_17 (xg_I (pc' := 20) lf_9_101 hW g0 sh_42 (by decide) (by decide) ty_42_12 rfl rfl (fun b253528 b253529 => ?_))
    refine wp_of e185 c185_20 (rw_iload_n (pc' := 21) (z := a1) rfl rfl ?_)
    refine wp_of e185 c185_21 (rw_iload_n (pc' := 22) (z := a2) rfl rfl ?_)
    refine wp_of e185 c185_22 (xc_S (pc' := 25) (as := [vI (H r0 12), vI a1, vI a2]) (st := []) (lm_9_125) rfl rfl (Nat.le_of_ble_eq_true rfl) rfl (by decide) (u_186  hW ⟨by omega, by omega⟩ ⟨by omega, by omega⟩ ⟨by omega, by omega⟩) (fun R253530 T253531 H253532 p253533 => ?_))
    obtain ⟨e253534, e253536, z253537, e253535, b253538, p253539⟩ := p253533
    subst e253534
    subst e253535
    subst e253536
    rcases p253539 with ⟨a253540, a253541⟩ | ⟨a253542, a253543⟩
    · show wp _ _ 185 25 [(0, .ref r0), (1, vI a1), (2, vI a2)] [vI z253537] _ H _
      refine wp_of e185 c185_25 (rw_if_ne (p1 := 33) (p2 := 28) (by decide) rfl ⟨by omega, by omega⟩ (fun c253544 => ?_) (fun c253544 => ?_))
      · refine wp_of e185 c185_33 (rw_aload_n (pc' := 34) (v := .ref r0) rfl rfl rfl ?_)
        refine wp_of e185 c185_34 (xg_I (pc' := 37) lf_9_75 hW g0 sh_42 (by decide) (by decide) ty_42_9 rfl rfl (fun b253545 b253546 => ?_))
        refine wp_of e185 c185_37 (rw_iconst (pc' := 38) rfl ?_)
        refine wp_of e185 c185_38 (rw_icmp_ne (p1 := 45) (p2 := 41) (by decide) rfl ⟨by omega, by omega⟩ ⟨by omega, by omega⟩ (fun c253547 => ?_) (fun c253547 => ?_))
        · refine wp_of e185 c185_45 (rw_aload_n (pc' := 46) (v := .ref r0) rfl rfl rfl ?_)
          refine wp_of e185 c185_46 (xg_I (pc' := 49) lf_9_101 hW g0 sh_42 (by decide) (by decide) ty_42_12 rfl rfl (fun b253548 b253549 => ?_))
          exact wp_ireturn e185 c185_49 rfl ⟨rfl, hW, f0, H r0 12, rfl, ⟨by omega, by omega⟩, (Or.inl ⟨by omega, by omega, by omega, by omega, hRC_r0⟩)⟩
        · exfalso
          omega
      · exfalso
        omega
    · show wp _ _ 185 25 [(0, .ref r0), (1, vI a1), (2, vI a2)] [vI z253537] _ H _
      refine wp_of e185 c185_25 (rw_if_ne (p1 := 33) (p2 := 28) (by decide) rfl ⟨by omega, by omega⟩ (fun c253550 => ?_) (fun c253550 => ?_))
      · exfalso
        omega
      · refine wp_of e185 c185_28 (rw_aload_n (pc' := 29) (v := .ref r0) rfl rfl rfl ?_)
        refine wp_of e185 c185_29 (rw_iconst (pc' := 30) rfl ?_)
        refine wp_of e185 c185_30 (xc_V (pc' := 33) (r := r0) (as := [vI 4]) (st := []) (lm_9_121) rfl rfl (Nat.le_of_ble_eq_true rfl) hW g0 sh_42 (by decide) rfl (by decide) (u_181_k (B := B) (n := n) (q := q) hW g0 ⟨by omega, by omega⟩ (by omega) hRC_r0) (fun R253551 T253552 H253553 p253554 => ?_))
        obtain ⟨e253555, w253557, f253558, e253556, p253559⟩ := p253554
        subst e253555
        subst e253556
        have f253561 := f0.tr f253558 rfl
        show wp _ _ 185 33 [(0, .ref r0), (1, vI a1), (2, vI a2)] [] _ H253553 _
        have u253562 := RO_k p253559
        refine wp_of e185 c185_33 (rw_aload_n (pc' := 34) (v := .ref r0) rfl rfl rfl ?_)
        refine wp_of e185 c185_34 (xg_I (pc' := 37) lf_9_75 w253557 g0 sh_42 (by decide) (by decide) ty_42_9 rfl rfl (fun b253563 b253564 => ?_))
        refine wp_of e185 c185_37 (rw_iconst (pc' := 38) rfl ?_)
        refine wp_of e185 c185_38 (rw_icmp_ne (p1 := 45) (p2 := 41) (by decide) rfl ⟨by omega, by omega⟩ ⟨by omega, by omega⟩ (fun c253565 => ?_) (fun c253565 => ?_))
        · exfalso
          omega
        · refine wp_of e185 c185_41 (rw_iconst (pc' := 42) rfl ?_)
          refine wp_of e185 c185_42 (rw_goto (p1 := 49) (by decide) ?_)
          exact wp_ireturn e185 c185_49 rfl ⟨rfl, w253557, f253561, 0, rfl, ⟨by omega, by omega⟩, (Or.inr ⟨by omega, by omega, RO_eq p253559 (by omega) (by omega)⟩)⟩
  · refine wp_of e185 c185_8 (rw_aload_n (pc' := 9) (v := .ref r0) rfl rfl rfl ?_)
    refine wp_of e185 c185_9 (rw_iconst (pc' := 10) rfl ?_)
    refine wp_of e185 c185_10 (xc_V (pc' := 13) (r := r0) (as := [vI 1]) (st := []) (lm_9_121) rfl rfl (Nat.le_of_ble_eq_true rfl) hW g0 sh_42 (by decide) rfl (by decide) (u_181_k (B := B) (n := n) (q := q) hW g0 ⟨by omega, by omega⟩ (by omega) hRC_r0) (fun R253566 T253567 H253568 p253569 => ?_))
    obtain ⟨e253570, w253572, f253573, e253571, p253574⟩ := p253569
    subst e253570
    subst e253571
    have f253576 := f0.tr f253573 rfl
    show wp _ _ 185 13 [(0, .ref r0), (1, vI a1), (2, vI a2)] [] _ H253568 _
    have u253577 := RO_k p253574
    refine wp_of e185 c185_13 (rw_goto (p1 := 33) (by decide) ?_)
    refine wp_of e185 c185_33 (rw_aload_n (pc' := 34) (v := .ref r0) rfl rfl rfl ?_)
    refine wp_of e185 c185_34 (xg_I (pc' := 37) lf_9_75 w253572 g0 sh_42 (by decide) (by decide) ty_42_9 rfl rfl (fun b253578 b253579 => ?_))
    refine wp_of e185 c185_37 (rw_iconst (pc' := 38) rfl ?_)
    refine wp_of e185 c185_38 (rw_icmp_ne (p1 := 45) (p2 := 41) (by decide) rfl ⟨by omega, by omega⟩ ⟨by omega, by omega⟩ (fun c253580 => ?_) (fun c253580 => ?_))
    · exfalso
      omega
    · refine wp_of e185 c185_41 (rw_iconst (pc' := 42) rfl ?_)
      refine wp_of e185 c185_42 (rw_goto (p1 := 49) (by decide) ?_)
      exact wp_ireturn e185 c185_49 rfl ⟨rfl, w253572, f253576, 0, rfl, ⟨by omega, by omega⟩, (Or.inr ⟨by omega, by omega, RO_eq p253574 (by omega) (by omega)⟩)⟩
/-! StrikeAwakeModel.whole(II)I o -/
abbrev uq_185_o (r0 : Nat) (a1 : Int) (a2 : Int) (fo : Int) (po : Int) (T : wq_T) (H : wq_H) : Option Value → wq_T → wq_H → Prop := fun r T' H' => T = T' ∧ H = H' ∧ ∃ z : Int, some (vI z) = r ∧ (0 ≤ z ∧ z ≤ 100) ∧ (((z = 0) ∧ RO T H r0 fo po))
set_option maxHeartbeats 4000000 in
theorem u_185_o {kt : Nat → Option mc_E} {T : wq_T} {H : wq_H} {r0 : Nat} {a1 : Int} {a2 : Int} {fo : Int} {po : Int} (hW : WT T H) (g0 : T.2.2.2 r0 = some 42) (i1 : 0 ≤ a1 ∧ a1 ≤ 100) (i2 : 0 ≤ a2 ∧ a2 ≤ 100) (hRO_r0 : RO T H r0 fo po) : wpc kt 2 185 [.ref r0, vI a1, vI a2] T H (uq_185_o r0 a1 a2 fo po T H) := by
  refine wp_enter e185 (Nat.le_of_ble_eq_true rfl) rfl ?_
  show wp _ _ 185 0 [(0, .ref r0), (1, vI a1), (2, vI a2)] [] _ H _
  have u253596 := RO_k hRO_r0
  refine wp_of e185 c185_0 (rw_aload_n (pc' := 1) (v := .ref r0) rfl rfl rfl ?_)
  refine wp_of e185 c185_1 (xg_I (pc' := 4) lf_9_75 hW g0 sh_42 (by decide) (by decide) ty_42_9 rfl rfl (fun b253597 b253598 => ?_))
  refine wp_of e185 c185_4 (rw_iconst (pc' := 5) rfl ?_)
  refine wp_of e185 c185_5 (rw_icmp_eq (p1 := 16) (p2 := 8) (by decide) rfl ⟨by omega, by omega⟩ ⟨by omega, by omega⟩ (fun c253599 => ?_) (fun c253599 => ?_))
  · exfalso
    omega
  · refine wp_of e185 c185_8 (rw_aload_n (pc' := 9) (v := .ref r0) rfl rfl rfl ?_)
    refine wp_of e185 c185_9 (rw_iconst (pc' := 10) rfl ?_)
    refine wp_of e185 c185_10 (xc_V (pc' := 13) (r := r0) (as := [vI 1]) (st := []) (lm_9_121) rfl rfl (Nat.le_of_ble_eq_true rfl) hW g0 sh_42 (by decide) rfl (by decide) (u_181_o (fo := fo) (po := po) hW g0 ⟨by omega, by omega⟩ hRO_r0) (fun R253600 T253601 H253602 p253603 => ?_))
    obtain ⟨e253604, e253606, e253605, p253607⟩ := p253603
    subst e253604
    subst e253605
    subst e253606
    show wp _ _ 185 13 [(0, .ref r0), (1, vI a1), (2, vI a2)] [] _ H _
    have u253609 := RO_k p253607
    refine wp_of e185 c185_13 (rw_goto (p1 := 33) (by decide) ?_)
    refine wp_of e185 c185_33 (rw_aload_n (pc' := 34) (v := .ref r0) rfl rfl rfl ?_)
    refine wp_of e185 c185_34 (xg_I (pc' := 37) lf_9_75 hW g0 sh_42 (by decide) (by decide) ty_42_9 rfl rfl (fun b253610 b253611 => ?_))
    refine wp_of e185 c185_37 (rw_iconst (pc' := 38) rfl ?_)
    refine wp_of e185 c185_38 (rw_icmp_ne (p1 := 45) (p2 := 41) (by decide) rfl ⟨by omega, by omega⟩ ⟨by omega, by omega⟩ (fun c253612 => ?_) (fun c253612 => ?_))
    · exfalso
      omega
    · refine wp_of e185 c185_41 (rw_iconst (pc' := 42) rfl ?_)
      refine wp_of e185 c185_42 (rw_goto (p1 := 49) (by decide) ?_)
      exact wp_ireturn e185 c185_49 rfl ⟨rfl, rfl, 0, rfl, ⟨by omega, by omega⟩, ⟨by omega, p253607⟩⟩
/-! StrikeAwakeModel.readWhole(II)I k -/
abbrev uq_184_k (r0 : Nat) (a1 : Int) (a2 : Int) (rb : Nat) (B : Nat → Int) (n : Int) (q : Int) (lo : Int) (hi : Int) (T : wq_T) (H : wq_H) : Option Value → wq_T → wq_H → Prop := fun r T' H' => T = T' ∧ WT T H' ∧ wfr [(42, 8), (42, 9), (42, 10), (42, 11), (42, 12), (42, 13), (42, 14), (42, 15)] T H H' ∧ ∃ z : Int, some (vI z) = r ∧ (0 ≤ z ∧ z ≤ 100) ∧ (((xh B n q lo hi = 0) ∧ (z = xV B n q) ∧ (lo ≤ z ∧ z ≤ hi) ∧ RC T H' r0 B n (xN B n q)) ∨ ((z = 0) ∧ (xh B n q lo hi ≠ 0) ∧ RO T H' r0 (xh B n q lo hi) q))
set_option maxHeartbeats 4000000 in
theorem u_184_k {kt : Nat → Option mc_E} {T : wq_T} {H : wq_H} {r0 : Nat} {a1 : Int} {a2 : Int} {rb : Nat} {B : Nat → Int} {n : Int} {q : Int} {lo : Int} {hi : Int} (hW : WT T H) (g0 : T.2.2.2 r0 = some 42) (i1 : 0 ≤ a1 ∧ a1 ≤ 100) (i2 : 0 ≤ a2 ∧ a2 ≤ 100) (qrb : H r0 5 = (rb : Int)) (grb : T.2.2.2 rb = some 43) (p0 : a1 = lo) (p1 : a2 = hi) (hRC_r0 : RC T H r0 B n q) : wpc kt 3 184 [.ref r0, vI a1, vI a2] T H (uq_184_k r0 a1 a2 rb B n q lo hi T H) := by
  refine wp_enter e184 (Nat.le_of_ble_eq_true rfl) rfl ?_
  have f0 : wfr [(42, 8), (42, 9), (42, 10), (42, 11), (42, 12), (42, 13), (42, 14), (42, 15)] T H H := wfr.rf
  show wp _ _ 184 0 [(0, .ref r0), (1, vI a1), (2, vI a2)] [] _ H _
  have u253656 := RC_k hRC_r0
  refine wp_of e184 c184_0 (rw_aload_n (pc' := 1) (v := .ref r0) rfl rfl rfl ?_)
  refine wp_of e184 c184_1 (rw_iload_n (pc' := 2) (z := a1) rfl rfl ?_)
  refine wp_of e184 c184_2 (rw_iload_n (pc' := 3) (z := a2) rfl rfl ?_)
  refine wp_of e184 c184_3 (xc_V (pc' := 6) (r := r0) (as := [vI a1, vI a2]) (st := []) (lm_9_129) rfl rfl (Nat.le_of_ble_eq_true rfl) hW g0 sh_42 (by decide) rfl (by decide) (u_185_k (B := B) (n := n) (q := q) (lo := lo) (hi := hi) hW g0 ⟨by omega, by omega⟩ ⟨by omega, by omega⟩ (by omega) (by omega) hRC_r0) (fun R253657 T253658 H253659 p253660 => ?_))
  obtain ⟨e253661, w253663, f253664, z253665, e253662, b253666, p253667⟩ := p253660
  subst e253661
  subst e253662
  rcases p253667 with ⟨a253668, a253669, a253670, a253671, a253672⟩ | ⟨a253673, a253674, a253675⟩
  · have f253676 := f0.tr f253664 rfl
    show wp _ _ 184 6 [(0, .ref r0), (1, vI a1), (2, vI a2)] [vI z253665] _ H253659 _
    have u253677 := RC_k a253672
    refine wp_of e184 c184_6 (rw_istore_n (pc' := 7) (z := z253665) (L' := [(3, vI z253665), (0, .ref r0), (1, vI a1), (2, vI a2)]) rfl rfl rfl ?_)
    refine wp_of e184 c184_7 (rw_aload_n (pc' := 8) (v := .ref r0) rfl rfl rfl ?_)
    have k253678 : H253659 r0 5 = H r0 5 := (f253664 r0 5 _ g0 rfl)
    have q253679 : H253659 r0 5 = (rb : Int) := k253678.trans qrb
    have u253680 := RC_a a253672
    have h253681 : TM T H253659 rb B := RC_tm a253672 q253679
    refine wp_of e184 c184_8 (xc_V (pc' := 11) (r := r0) (as := []) (st := []) (lm_9_118) rfl rfl (Nat.le_of_ble_eq_true rfl) w253663 g0 sh_42 (by decide) rfl (by decide) (u_172_k (B := B) (n := n) (a := (xE B n q)) (q := (xN B n q)) w253663 g0 q253679 grb (by omega) (by omega) (by omega) (by omega) (by omega) (rfl) h253681) (fun R253682 T253683 H253684 p253685 => ?_))
    obtain ⟨e253686, w253688, f253689, e253687, p253690⟩ := p253685
    subst e253686
    subst e253687
    have f253692 := f253676.tr f253689 rfl
    show wp _ _ 184 11 [(3, vI z253665), (0, .ref r0), (1, vI a1), (2, vI a2)] [] _ H253684 _
    have u253693 := RC_k p253690
    refine wp_of e184 c184_11 (rw_iload_n (pc' := 12) (z := z253665) rfl rfl ?_)
    exact wp_ireturn e184 c184_12 rfl ⟨rfl, w253688, f253692, z253665, rfl, ⟨by omega, by omega⟩, (Or.inl ⟨by omega, by omega, by omega, p253690⟩)⟩
  · have f253694 := f0.tr f253664 rfl
    show wp _ _ 184 6 [(0, .ref r0), (1, vI a1), (2, vI a2)] [vI z253665] _ H253659 _
    have u253695 := RO_k a253675
    refine wp_of e184 c184_6 (rw_istore_n (pc' := 7) (z := z253665) (L' := [(3, vI z253665), (0, .ref r0), (1, vI a1), (2, vI a2)]) rfl rfl rfl ?_)
    refine wp_of e184 c184_7 (rw_aload_n (pc' := 8) (v := .ref r0) rfl rfl rfl ?_)
    refine wp_of e184 c184_8 (xc_V (pc' := 11) (r := r0) (as := []) (st := []) (lm_9_118) rfl rfl (Nat.le_of_ble_eq_true rfl) w253663 g0 sh_42 (by decide) rfl (by decide) (u_172_o (fo := (xh B n q lo hi)) (po := q) w253663 g0 a253675) (fun R253696 T253697 H253698 p253699 => ?_))
    obtain ⟨e253700, e253702, e253701, p253703⟩ := p253699
    subst e253700
    subst e253701
    subst e253702
    show wp _ _ 184 11 [(3, vI z253665), (0, .ref r0), (1, vI a1), (2, vI a2)] [] _ H253659 _
    have u253705 := RO_k p253703
    refine wp_of e184 c184_11 (rw_iload_n (pc' := 12) (z := z253665) rfl rfl ?_)
    exact wp_ireturn e184 c184_12 rfl ⟨rfl, w253663, f253694, z253665, rfl, ⟨by omega, by omega⟩, (Or.inr ⟨by omega, by omega, RO_eq p253703 (by omega) (by omega)⟩)⟩
/-! StrikeAwakeModel.readWhole(II)I o -/
abbrev uq_184_o (r0 : Nat) (a1 : Int) (a2 : Int) (rb : Nat) (fo : Int) (po : Int) (T : wq_T) (H : wq_H) : Option Value → wq_T → wq_H → Prop := fun r T' H' => T = T' ∧ H = H' ∧ ∃ z : Int, some (vI z) = r ∧ (0 ≤ z ∧ z ≤ 100) ∧ (((z = 0) ∧ RO T H r0 fo po))
set_option maxHeartbeats 4000000 in
theorem u_184_o {kt : Nat → Option mc_E} {T : wq_T} {H : wq_H} {r0 : Nat} {a1 : Int} {a2 : Int} {rb : Nat} {fo : Int} {po : Int} (hW : WT T H) (g0 : T.2.2.2 r0 = some 42) (i1 : 0 ≤ a1 ∧ a1 ≤ 100) (i2 : 0 ≤ a2 ∧ a2 ≤ 100) (qrb : H r0 5 = (rb : Int)) (grb : T.2.2.2 rb = some 43) (hRO_r0 : RO T H r0 fo po) : wpc kt 3 184 [.ref r0, vI a1, vI a2] T H (uq_184_o r0 a1 a2 rb fo po T H) := by
  refine wp_enter e184 (Nat.le_of_ble_eq_true rfl) rfl ?_
  show wp _ _ 184 0 [(0, .ref r0), (1, vI a1), (2, vI a2)] [] _ H _
  have u253727 := RO_k hRO_r0
  refine wp_of e184 c184_0 (rw_aload_n (pc' := 1) (v := .ref r0) rfl rfl rfl ?_)
  refine wp_of e184 c184_1 (rw_iload_n (pc' := 2) (z := a1) rfl rfl ?_)
  refine wp_of e184 c184_2 (rw_iload_n (pc' := 3) (z := a2) rfl rfl ?_)
  refine wp_of e184 c184_3 (xc_V (pc' := 6) (r := r0) (as := [vI a1, vI a2]) (st := []) (lm_9_129) rfl rfl (Nat.le_of_ble_eq_true rfl) hW g0 sh_42 (by decide) rfl (by decide) (u_185_o (fo := fo) (po := po) hW g0 ⟨by omega, by omega⟩ ⟨by omega, by omega⟩ hRO_r0) (fun R253728 T253729 H253730 p253731 => ?_))
  obtain ⟨e253732, e253734, z253735, e253733, b253736, p253737⟩ := p253731
  subst e253732
  subst e253733
  subst e253734
  obtain ⟨a253738, a253739⟩ := p253737
  show wp _ _ 184 6 [(0, .ref r0), (1, vI a1), (2, vI a2)] [vI z253735] _ H _
  have u253740 := RO_k a253739
  refine wp_of e184 c184_6 (rw_istore_n (pc' := 7) (z := z253735) (L' := [(3, vI z253735), (0, .ref r0), (1, vI a1), (2, vI a2)]) rfl rfl rfl ?_)
  refine wp_of e184 c184_7 (rw_aload_n (pc' := 8) (v := .ref r0) rfl rfl rfl ?_)
  refine wp_of e184 c184_8 (xc_V (pc' := 11) (r := r0) (as := []) (st := []) (lm_9_118) rfl rfl (Nat.le_of_ble_eq_true rfl) hW g0 sh_42 (by decide) rfl (by decide) (u_172_o (fo := fo) (po := po) hW g0 a253739) (fun R253741 T253742 H253743 p253744 => ?_))
  obtain ⟨e253745, e253747, e253746, p253748⟩ := p253744
  subst e253745
  subst e253746
  subst e253747
  show wp _ _ 184 11 [(3, vI z253735), (0, .ref r0), (1, vI a1), (2, vI a2)] [] _ H _
  have u253750 := RO_k p253748
  refine wp_of e184 c184_11 (rw_iload_n (pc' := 12) (z := z253735) rfl rfl ?_)
  exact wp_ireturn e184 c184_12 rfl ⟨rfl, rfl, z253735, rfl, ⟨by omega, by omega⟩, ⟨by omega, p253748⟩⟩
/-! StrikeAwakeModel.readPart(Ljava/lang/String;II)I k -/
abbrev uq_182_k (r0 : Nat) (s1 : Nat) (a2 : Int) (a3 : Int) (rb : Nat) (B : Nat → Int) (n : Int) (q : Int) (kk : Int) (lo : Int) (hi : Int) (T : wq_T) (H : wq_H) : Option Value → wq_T → wq_H → Prop := fun r T' H' => T = T' ∧ WT T H' ∧ wfr [(42, 8), (42, 9), (42, 10), (42, 11), (42, 12), (42, 13), (42, 14), (42, 15)] T H H' ∧ ∃ z : Int, some (vI z) = r ∧ (0 ≤ z ∧ z ≤ 100) ∧ (((xw B n q kk = 0) ∧ (xh B n (xN B n q) lo hi = 0) ∧ (q ≤ (xN B n (xN B n q))) ∧ (z = xV B n (xN B n q)) ∧ (lo ≤ z ∧ z ≤ hi) ∧ RC T H' r0 B n (xN B n (xN B n q))) ∨ ((z = 0) ∧ (xw B n q kk ≠ 0) ∧ RO T H' r0 (xw B n q kk) q) ∨ ((z = 0) ∧ (xw B n q kk = 0) ∧ (xh B n (xN B n q) lo hi ≠ 0) ∧ RO T H' r0 (xh B n (xN B n q) lo hi) (xN B n q)))
set_option maxHeartbeats 4000000 in
theorem u_182_k {kt : Nat → Option mc_E} {T : wq_T} {H : wq_H} {r0 : Nat} {s1 : Nat} {t1 : List Int32} {a2 : Int} {a3 : Int} {rb : Nat} {B : Nat → Int} {n : Int} {q : Int} {kk : Int} {lo : Int} {hi : Int} (hW : WT T H) (g0 : T.2.2.2 r0 = some 42) (h1 : mc_find mc_sb s1 = some t1) (i2 : 0 ≤ a2 ∧ a2 ≤ 100) (i3 : 0 ≤ a3 ∧ a3 ≤ 100) (qrb : H r0 5 = (rb : Int)) (grb : T.2.2.2 rb = some 43) (p0 : wkw t1 t1.length = kk) (p1 : a2 = lo) (p2 : a3 = hi) (hRC_r0 : RC T H r0 B n q) : wpc kt 4 182 [.ref r0, .ref s1, vI a2, vI a3] T H (uq_182_k r0 s1 a2 a3 rb B n q kk lo hi T H) := by
  refine wp_enter e182 (Nat.le_of_ble_eq_true rfl) rfl ?_
  have f0 : wfr [(42, 8), (42, 9), (42, 10), (42, 11), (42, 12), (42, 13), (42, 14), (42, 15)] T H H := wfr.rf
  show wp _ _ 182 0 [(0, .ref r0), (1, .ref s1), (2, vI a2), (3, vI a3)] [] _ H _
  have u253802 := RC_k hRC_r0
  refine wp_of e182 c182_0 (rw_aload_n (pc' := 1) (v := .ref r0) rfl rfl rfl ?_)
  refine wp_of e182 c182_1 (rw_aload_n (pc' := 2) (v := .ref s1) rfl rfl rfl ?_)
  refine wp_of e182 c182_2 (xc_V (pc' := 5) (r := r0) (as := [.ref s1]) (st := []) (lm_9_133) rfl rfl (Nat.le_of_ble_eq_true rfl) hW g0 sh_42 (by decide) rfl (by decide) (u_183_k (B := B) (n := n) (q := q) (kk := kk) hW g0 h1 qrb grb (by assumption) hRC_r0) (fun R253803 T253804 H253805 p253806 => ?_))
  obtain ⟨e253807, w253809, f253810, e253808, p253811⟩ := p253806
  subst e253807
  subst e253808
  rcases p253811 with ⟨a253812, a253813⟩ | ⟨a253814, a253815⟩
  · have f253816 := f0.tr f253810 rfl
    show wp _ _ 182 5 [(0, .ref r0), (1, .ref s1), (2, vI a2), (3, vI a3)] [] _ H253805 _
    have u253817 := RC_k a253813
    refine wp_of e182 c182_5 (rw_aload_n (pc' := 6) (v := .ref r0) rfl rfl rfl ?_)
    refine wp_of e182 c182_6 (rw_iload_n (pc' := 7) (z := a2) rfl rfl ?_)
    refine wp_of e182 c182_7 (rw_iload_n (pc' := 8) (z := a3) rfl rfl ?_)
    have k253818 : H253805 r0 5 = H r0 5 := (f253810 r0 5 _ g0 rfl)
    have q253819 : H253805 r0 5 = (rb : Int) := k253818.trans qrb
    refine wp_of e182 c182_8 (xc_V (pc' := 11) (r := r0) (as := [vI a2, vI a3]) (st := []) (lm_9_137) rfl rfl (Nat.le_of_ble_eq_true rfl) w253809 g0 sh_42 (by decide) rfl (by decide) (u_184_k (B := B) (n := n) (q := ((xN B n q))) (lo := lo) (hi := hi) w253809 g0 ⟨by omega, by omega⟩ ⟨by omega, by omega⟩ q253819 grb (by omega) (by omega) a253813) (fun R253820 T253821 H253822 p253823 => ?_))
    obtain ⟨e253824, w253826, f253827, z253828, e253825, b253829, p253830⟩ := p253823
    subst e253824
    subst e253825
    rcases p253830 with ⟨a253831, a253832, a253833, a253834⟩ | ⟨a253835, a253836, a253837⟩
    · have f253838 := f253816.tr f253827 rfl
      show wp _ _ 182 11 [(0, .ref r0), (1, .ref s1), (2, vI a2), (3, vI a3)] [vI z253828] _ H253822 _
      have u253839 := RC_k a253834
      exact wp_ireturn e182 c182_11 rfl ⟨rfl, w253826, f253838, z253828, rfl, ⟨by omega, by omega⟩, (Or.inl ⟨by omega, by omega, by omega, by omega, by omega, a253834⟩)⟩
    · have f253840 := f253816.tr f253827 rfl
      show wp _ _ 182 11 [(0, .ref r0), (1, .ref s1), (2, vI a2), (3, vI a3)] [vI z253828] _ H253822 _
      have u253841 := RO_k a253837
      exact wp_ireturn e182 c182_11 rfl ⟨rfl, w253826, f253840, z253828, rfl, ⟨by omega, by omega⟩, (Or.inr (Or.inr ⟨by omega, by omega, by omega, RO_eq a253837 (by omega) (by omega)⟩))⟩
  · have f253842 := f0.tr f253810 rfl
    show wp _ _ 182 5 [(0, .ref r0), (1, .ref s1), (2, vI a2), (3, vI a3)] [] _ H253805 _
    have u253843 := RO_k a253815
    refine wp_of e182 c182_5 (rw_aload_n (pc' := 6) (v := .ref r0) rfl rfl rfl ?_)
    refine wp_of e182 c182_6 (rw_iload_n (pc' := 7) (z := a2) rfl rfl ?_)
    refine wp_of e182 c182_7 (rw_iload_n (pc' := 8) (z := a3) rfl rfl ?_)
    have k253844 : H253805 r0 5 = H r0 5 := (f253810 r0 5 _ g0 rfl)
    have q253845 : H253805 r0 5 = (rb : Int) := k253844.trans qrb
    refine wp_of e182 c182_8 (xc_V (pc' := 11) (r := r0) (as := [vI a2, vI a3]) (st := []) (lm_9_137) rfl rfl (Nat.le_of_ble_eq_true rfl) w253809 g0 sh_42 (by decide) rfl (by decide) (u_184_o (fo := (xw B n q kk)) (po := q) w253809 g0 ⟨by omega, by omega⟩ ⟨by omega, by omega⟩ q253845 grb a253815) (fun R253846 T253847 H253848 p253849 => ?_))
    obtain ⟨e253850, e253852, z253853, e253851, b253854, p253855⟩ := p253849
    subst e253850
    subst e253851
    subst e253852
    obtain ⟨a253856, a253857⟩ := p253855
    show wp _ _ 182 11 [(0, .ref r0), (1, .ref s1), (2, vI a2), (3, vI a3)] [vI z253853] _ H253805 _
    have u253858 := RO_k a253857
    exact wp_ireturn e182 c182_11 rfl ⟨rfl, w253809, f253842, z253853, rfl, ⟨by omega, by omega⟩, (Or.inr (Or.inl ⟨by omega, by omega, RO_eq a253857 (by omega) (by omega)⟩))⟩
/-! StrikeAwakeModel.readPart(Ljava/lang/String;II)I o -/
abbrev uq_182_o (r0 : Nat) (s1 : Nat) (a2 : Int) (a3 : Int) (rb : Nat) (fo : Int) (po : Int) (kk : Int) (T : wq_T) (H : wq_H) : Option Value → wq_T → wq_H → Prop := fun r T' H' => T = T' ∧ H = H' ∧ ∃ z : Int, some (vI z) = r ∧ (0 ≤ z ∧ z ≤ 100) ∧ (((z = 0) ∧ RO T H r0 fo po))
set_option maxHeartbeats 4000000 in
theorem u_182_o {kt : Nat → Option mc_E} {T : wq_T} {H : wq_H} {r0 : Nat} {s1 : Nat} {t1 : List Int32} {a2 : Int} {a3 : Int} {rb : Nat} {fo : Int} {po : Int} {kk : Int} (hW : WT T H) (g0 : T.2.2.2 r0 = some 42) (h1 : mc_find mc_sb s1 = some t1) (i2 : 0 ≤ a2 ∧ a2 ≤ 100) (i3 : 0 ≤ a3 ∧ a3 ≤ 100) (qrb : H r0 5 = (rb : Int)) (grb : T.2.2.2 rb = some 43) (p0 : wkw t1 t1.length = kk) (hRO_r0 : RO T H r0 fo po) : wpc kt 4 182 [.ref r0, .ref s1, vI a2, vI a3] T H (uq_182_o r0 s1 a2 a3 rb fo po kk T H) := by
  refine wp_enter e182 (Nat.le_of_ble_eq_true rfl) rfl ?_
  show wp _ _ 182 0 [(0, .ref r0), (1, .ref s1), (2, vI a2), (3, vI a3)] [] _ H _
  have u253880 := RO_k hRO_r0
  refine wp_of e182 c182_0 (rw_aload_n (pc' := 1) (v := .ref r0) rfl rfl rfl ?_)
  refine wp_of e182 c182_1 (rw_aload_n (pc' := 2) (v := .ref s1) rfl rfl rfl ?_)
  refine wp_of e182 c182_2 (xc_V (pc' := 5) (r := r0) (as := [.ref s1]) (st := []) (lm_9_133) rfl rfl (Nat.le_of_ble_eq_true rfl) hW g0 sh_42 (by decide) rfl (by decide) (u_183_o (fo := fo) (po := po) (kk := kk) hW g0 h1 qrb grb (by assumption) hRO_r0) (fun R253881 T253882 H253883 p253884 => ?_))
  obtain ⟨e253885, e253887, e253886, p253888⟩ := p253884
  subst e253885
  subst e253886
  subst e253887
  show wp _ _ 182 5 [(0, .ref r0), (1, .ref s1), (2, vI a2), (3, vI a3)] [] _ H _
  have u253890 := RO_k p253888
  refine wp_of e182 c182_5 (rw_aload_n (pc' := 6) (v := .ref r0) rfl rfl rfl ?_)
  refine wp_of e182 c182_6 (rw_iload_n (pc' := 7) (z := a2) rfl rfl ?_)
  refine wp_of e182 c182_7 (rw_iload_n (pc' := 8) (z := a3) rfl rfl ?_)
  refine wp_of e182 c182_8 (xc_V (pc' := 11) (r := r0) (as := [vI a2, vI a3]) (st := []) (lm_9_137) rfl rfl (Nat.le_of_ble_eq_true rfl) hW g0 sh_42 (by decide) rfl (by decide) (u_184_o (fo := fo) (po := po) hW g0 ⟨by omega, by omega⟩ ⟨by omega, by omega⟩ qrb grb p253888) (fun R253891 T253892 H253893 p253894 => ?_))
  obtain ⟨e253895, e253897, z253898, e253896, b253899, p253900⟩ := p253894
  subst e253895
  subst e253896
  subst e253897
  obtain ⟨a253901, a253902⟩ := p253900
  show wp _ _ 182 11 [(0, .ref r0), (1, .ref s1), (2, vI a2), (3, vI a3)] [vI z253898] _ H _
  have u253903 := RO_k a253902
  exact wp_ireturn e182 c182_11 rfl ⟨rfl, rfl, z253898, rfl, ⟨by omega, by omega⟩, ⟨by omega, a253902⟩⟩
/-! StrikeAwakeModel.isName()Z k -/
abbrev uq_189_k (r0 : Nat) (B : Nat → Int) (n : Int) (q : Int) (T : wq_T) (H : wq_H) : Option Value → wq_T → wq_H → Prop := fun r T' H' => T = T' ∧ H = H' ∧ ∃ z : Int, some (vI z) = r ∧ (0 ≤ z ∧ z ≤ 1) ∧ (((z = 1) ∧ (xre B n q = 11) ∧ (xK B n q = 1) ∧ (H r0 15 = xY B n q)) ∨ ((z = 0) ∧ (xre B n q ≠ 11)))
set_option maxHeartbeats 4000000 in
theorem u_189_k {kt : Nat → Option mc_E} {T : wq_T} {H : wq_H} {r0 : Nat} {B : Nat → Int} {n : Int} {q : Int} (hW : WT T H) (g0 : T.2.2.2 r0 = some 42) (hRC_r0 : RC T H r0 B n q) : wpc kt 3 189 [.ref r0] T H (uq_189_k r0 B n q T H) := by
  refine wp_enter e189 (Nat.le_of_ble_eq_true rfl) rfl ?_
  show wp _ _ 189 0 [(0, .ref r0)] [] _ H _
  have u254094 := RC_k hRC_r0
  have _s := RC_s hRC_r0
  have _x := @xre_b B n q
  refine wp_of e189 c189_0 (rw_aload_n (pc' := 1) (v := .ref r0) rfl rfl rfl ?_)
  refine wp_of e189 c189_1 (xg_I (pc' := 4) lf_9_75 hW g0 sh_42 (by decide) (by decide) ty_42_9 rfl rfl (fun b254095 b254096 => ?_))
  refine wp_of e189 c189_4 (rw_iconst (pc' := 5) rfl ?_)
  refine wp_of e189 c189_5 (rw_icmp_ne (p1 := 62) (p2 := 8) (by decide) rfl ⟨by omega, by omega⟩ ⟨by omega, by omega⟩ (fun c254097 => ?_) (fun c254097 => ?_))
  · refine wp_of e189 c189_62 (rw_iconst (pc' := 63) rfl ?_)
    exact wp_zreturn e189 c189_63 rfl (by omega) ⟨rfl, rfl, 0, rfl, ⟨by omega, by omega⟩, (Or.inr ⟨by omega, by omega⟩)⟩
  · refine wp_of e189 c189_8 (rw_aload_n (pc' := 9) (v := .ref r0) rfl rfl rfl ?_)
    refine wp_of e189 c189_9 (rw_ldcS (pc' := 11) (k := 72) rfl rfl rfl rfl ?_)
    refine wp_of e189 c189_11 (xc_V (pc' := 14) (r := r0) (as := [.ref 72]) (st := []) (lm_9_114) rfl rfl (Nat.le_of_ble_eq_true rfl) hW g0 sh_42 (by decide) rfl (by decide) (u_178_k (B := B) (n := n) (q := q) (kk := 12343) hW g0 rfl (by decide +kernel) hRC_r0) (fun R254098 T254099 H254100 p254101 => ?_))
    obtain ⟨e254102, e254104, z254105, e254103, b254106, p254107⟩ := p254101
    subst e254102
    subst e254103
    subst e254104
    rcases p254107 with ⟨a254108, a254109, a254110⟩ | ⟨a254111, a254112⟩
    · show wp _ _ 189 14 [(0, .ref r0)] [vI z254105] _ H _
      have y254113 := xre_y (B := B) (n := n) (q := q) 0 12343 rfl (by decide) (by omega)
      refine wp_of e189 c189_14 (rw_if_ne (p1 := 62) (p2 := 17) (by decide) rfl ⟨by omega, by omega⟩ (fun c254114 => ?_) (fun c254114 => ?_))
      · refine wp_of e189 c189_62 (rw_iconst (pc' := 63) rfl ?_)
        exact wp_zreturn e189 c189_63 rfl (by omega) ⟨rfl, rfl, 0, rfl, ⟨by omega, by omega⟩, (Or.inr ⟨by omega, by omega⟩)⟩
      · exfalso
        omega
    · show wp _ _ 189 14 [(0, .ref r0)] [vI z254105] _ H _
      have y254115 := xre_n (B := B) (n := n) (q := q) 0 12343 rfl (by decide) (by omega)
      refine wp_of e189 c189_14 (rw_if_ne (p1 := 62) (p2 := 17) (by decide) rfl ⟨by omega, by omega⟩ (fun c254116 => ?_) (fun c254116 => ?_))
      · exfalso
        omega
      · refine wp_of e189 c189_17 (rw_aload_n (pc' := 18) (v := .ref r0) rfl rfl rfl ?_)
        refine wp_of e189 c189_18 (rw_ldcS (pc' := 20) (k := 76) rfl rfl rfl rfl ?_)
        refine wp_of e189 c189_20 (xc_V (pc' := 23) (r := r0) (as := [.ref 76]) (st := []) (lm_9_114) rfl rfl (Nat.le_of_ble_eq_true rfl) hW g0 sh_42 (by decide) rfl (by decide) (u_178_k (B := B) (n := n) (q := q) (kk := 542723566) hW g0 rfl (by decide +kernel) hRC_r0) (fun R254117 T254118 H254119 p254120 => ?_))
        obtain ⟨e254121, e254123, z254124, e254122, b254125, p254126⟩ := p254120
        subst e254121
        subst e254122
        subst e254123
        rcases p254126 with ⟨a254127, a254128, a254129⟩ | ⟨a254130, a254131⟩
        · show wp _ _ 189 23 [(0, .ref r0)] [vI z254124] _ H _
          have y254132 := xre_y (B := B) (n := n) (q := q) 1 542723566 rfl (by decide) (by omega)
          refine wp_of e189 c189_23 (rw_if_ne (p1 := 62) (p2 := 26) (by decide) rfl ⟨by omega, by omega⟩ (fun c254133 => ?_) (fun c254133 => ?_))
          · refine wp_of e189 c189_62 (rw_iconst (pc' := 63) rfl ?_)
            exact wp_zreturn e189 c189_63 rfl (by omega) ⟨rfl, rfl, 0, rfl, ⟨by omega, by omega⟩, (Or.inr ⟨by omega, by omega⟩)⟩
          · exfalso
            omega
        · show wp _ _ 189 23 [(0, .ref r0)] [vI z254124] _ H _
          have y254134 := xre_n (B := B) (n := n) (q := q) 1 542723566 rfl (by decide) (by omega)
          refine wp_of e189 c189_23 (rw_if_ne (p1 := 62) (p2 := 26) (by decide) rfl ⟨by omega, by omega⟩ (fun c254135 => ?_) (fun c254135 => ?_))
          · exfalso
            omega
          · refine wp_of e189 c189_26 (rw_aload_n (pc' := 27) (v := .ref r0) rfl rfl rfl ?_)
            refine wp_of e189 c189_27 (rw_ldcS (pc' := 29) (k := 77) rfl rfl rfl rfl ?_)
            refine wp_of e189 c189_29 (xc_V (pc' := 32) (r := r0) (as := [.ref 77]) (st := []) (lm_9_114) rfl rfl (Nat.le_of_ble_eq_true rfl) hW g0 sh_42 (by decide) rfl (by decide) (u_178_k (B := B) (n := n) (q := q) (kk := 643584494) hW g0 rfl (by decide +kernel) hRC_r0) (fun R254136 T254137 H254138 p254139 => ?_))
            obtain ⟨e254140, e254142, z254143, e254141, b254144, p254145⟩ := p254139
            subst e254140
            subst e254141
            subst e254142
            rcases p254145 with ⟨a254146, a254147, a254148⟩ | ⟨a254149, a254150⟩
            · show wp _ _ 189 32 [(0, .ref r0)] [vI z254143] _ H _
              have y254151 := xre_y (B := B) (n := n) (q := q) 2 643584494 rfl (by decide) (by omega)
              refine wp_of e189 c189_32 (rw_if_ne (p1 := 62) (p2 := 35) (by decide) rfl ⟨by omega, by omega⟩ (fun c254152 => ?_) (fun c254152 => ?_))
              · refine wp_of e189 c189_62 (rw_iconst (pc' := 63) rfl ?_)
                exact wp_zreturn e189 c189_63 rfl (by omega) ⟨rfl, rfl, 0, rfl, ⟨by omega, by omega⟩, (Or.inr ⟨by omega, by omega⟩)⟩
              · exfalso
                omega
            · show wp _ _ 189 32 [(0, .ref r0)] [vI z254143] _ H _
              have y254153 := xre_n (B := B) (n := n) (q := q) 2 643584494 rfl (by decide) (by omega)
              refine wp_of e189 c189_32 (rw_if_ne (p1 := 62) (p2 := 35) (by decide) rfl ⟨by omega, by omega⟩ (fun c254154 => ?_) (fun c254154 => ?_))
              · exfalso
                omega
              · refine wp_of e189 c189_35 (rw_aload_n (pc' := 36) (v := .ref r0) rfl rfl rfl ?_)
                refine wp_of e189 c189_36 (rw_ldcS (pc' := 38) (k := 78) rfl rfl rfl rfl ?_)
                refine wp_of e189 c189_38 (xc_V (pc' := 41) (r := r0) (as := [.ref 78]) (st := []) (lm_9_114) rfl rfl (Nat.le_of_ble_eq_true rfl) hW g0 sh_42 (by decide) rfl (by decide) (u_178_k (B := B) (n := n) (q := q) (kk := 1574484) hW g0 rfl (by decide +kernel) hRC_r0) (fun R254155 T254156 H254157 p254158 => ?_))
                obtain ⟨e254159, e254161, z254162, e254160, b254163, p254164⟩ := p254158
                subst e254159
                subst e254160
                subst e254161
                rcases p254164 with ⟨a254165, a254166, a254167⟩ | ⟨a254168, a254169⟩
                · show wp _ _ 189 41 [(0, .ref r0)] [vI z254162] _ H _
                  have y254170 := xre_y (B := B) (n := n) (q := q) 3 1574484 rfl (by decide) (by omega)
                  refine wp_of e189 c189_41 (rw_if_ne (p1 := 62) (p2 := 44) (by decide) rfl ⟨by omega, by omega⟩ (fun c254171 => ?_) (fun c254171 => ?_))
                  · refine wp_of e189 c189_62 (rw_iconst (pc' := 63) rfl ?_)
                    exact wp_zreturn e189 c189_63 rfl (by omega) ⟨rfl, rfl, 0, rfl, ⟨by omega, by omega⟩, (Or.inr ⟨by omega, by omega⟩)⟩
                  · exfalso
                    omega
                · show wp _ _ 189 41 [(0, .ref r0)] [vI z254162] _ H _
                  have y254172 := xre_n (B := B) (n := n) (q := q) 3 1574484 rfl (by decide) (by omega)
                  refine wp_of e189 c189_41 (rw_if_ne (p1 := 62) (p2 := 44) (by decide) rfl ⟨by omega, by omega⟩ (fun c254173 => ?_) (fun c254173 => ?_))
                  · exfalso
                    omega
                  · refine wp_of e189 c189_44 (rw_aload_n (pc' := 45) (v := .ref r0) rfl rfl rfl ?_)
                    refine wp_of e189 c189_45 (rw_ldcS (pc' := 47) (k := 79) rfl rfl rfl rfl ?_)
                    refine wp_of e189 c189_47 (xc_V (pc' := 50) (r := r0) (as := [.ref 79]) (st := []) (lm_9_114) rfl rfl (Nat.le_of_ble_eq_true rfl) hW g0 sh_42 (by decide) rfl (by decide) (u_178_k (B := B) (n := n) (q := q) (kk := 81486) hW g0 rfl (by decide +kernel) hRC_r0) (fun R254174 T254175 H254176 p254177 => ?_))
                    obtain ⟨e254178, e254180, z254181, e254179, b254182, p254183⟩ := p254177
                    subst e254178
                    subst e254179
                    subst e254180
                    rcases p254183 with ⟨a254184, a254185, a254186⟩ | ⟨a254187, a254188⟩
                    · show wp _ _ 189 50 [(0, .ref r0)] [vI z254181] _ H _
                      have y254189 := xre_y (B := B) (n := n) (q := q) 4 81486 rfl (by decide) (by omega)
                      refine wp_of e189 c189_50 (rw_if_ne (p1 := 62) (p2 := 53) (by decide) rfl ⟨by omega, by omega⟩ (fun c254190 => ?_) (fun c254190 => ?_))
                      · refine wp_of e189 c189_62 (rw_iconst (pc' := 63) rfl ?_)
                        exact wp_zreturn e189 c189_63 rfl (by omega) ⟨rfl, rfl, 0, rfl, ⟨by omega, by omega⟩, (Or.inr ⟨by omega, by omega⟩)⟩
                      · exfalso
                        omega
                    · show wp _ _ 189 50 [(0, .ref r0)] [vI z254181] _ H _
                      have y254191 := xre_n (B := B) (n := n) (q := q) 4 81486 rfl (by decide) (by omega)
                      refine wp_of e189 c189_50 (rw_if_ne (p1 := 62) (p2 := 53) (by decide) rfl ⟨by omega, by omega⟩ (fun c254192 => ?_) (fun c254192 => ?_))
                      · exfalso
                        omega
                      · refine wp_of e189 c189_53 (rw_aload_n (pc' := 54) (v := .ref r0) rfl rfl rfl ?_)
                        refine wp_of e189 c189_54 (rw_ldcS (pc' := 56) (k := 80) rfl rfl rfl rfl ?_)
                        refine wp_of e189 c189_56 (xc_V (pc' := 59) (r := r0) (as := [.ref 80]) (st := []) (lm_9_114) rfl rfl (Nat.le_of_ble_eq_true rfl) hW g0 sh_42 (by decide) rfl (by decide) (u_178_k (B := B) (n := n) (q := q) (kk := 659117163) hW g0 rfl (by decide +kernel) hRC_r0) (fun R254193 T254194 H254195 p254196 => ?_))
                        obtain ⟨e254197, e254199, z254200, e254198, b254201, p254202⟩ := p254196
                        subst e254197
                        subst e254198
                        subst e254199
                        rcases p254202 with ⟨a254203, a254204, a254205⟩ | ⟨a254206, a254207⟩
                        · show wp _ _ 189 59 [(0, .ref r0)] [vI z254200] _ H _
                          have y254208 := xre_y (B := B) (n := n) (q := q) 5 659117163 rfl (by decide) (by omega)
                          refine wp_of e189 c189_59 (rw_if_eq (p1 := 64) (p2 := 62) (by decide) rfl ⟨by omega, by omega⟩ (fun c254209 => ?_) (fun c254209 => ?_))
                          · exfalso
                            omega
                          · refine wp_of e189 c189_62 (rw_iconst (pc' := 63) rfl ?_)
                            exact wp_zreturn e189 c189_63 rfl (by omega) ⟨rfl, rfl, 0, rfl, ⟨by omega, by omega⟩, (Or.inr ⟨by omega, by omega⟩)⟩
                        · show wp _ _ 189 59 [(0, .ref r0)] [vI z254200] _ H _
                          have y254210 := xre_n (B := B) (n := n) (q := q) 5 659117163 rfl (by decide) (by omega)
                          refine wp_of e189 c189_59 (rw_if_eq (p1 := 64) (p2 := 62) (by decide) rfl ⟨by omega, by omega⟩ (fun c254211 => ?_) (fun c254211 => ?_))
                          · refine wp_of e189 c189_64 (rw_aload_n (pc' := 65) (v := .ref r0) rfl rfl rfl ?_)
                            refine wp_of e189 c189_65 (rw_ldcS (pc' := 67) (k := 81) rfl rfl rfl rfl ?_)
                            refine wp_of e189 c189_67 (xc_V (pc' := 70) (r := r0) (as := [.ref 81]) (st := []) (lm_9_114) rfl rfl (Nat.le_of_ble_eq_true rfl) hW g0 sh_42 (by decide) rfl (by decide) (u_178_k (B := B) (n := n) (q := q) (kk := 671108) hW g0 rfl (by decide +kernel) hRC_r0) (fun R254212 T254213 H254214 p254215 => ?_))
                            obtain ⟨e254216, e254218, z254219, e254217, b254220, p254221⟩ := p254215
                            subst e254216
                            subst e254217
                            subst e254218
                            rcases p254221 with ⟨a254222, a254223, a254224⟩ | ⟨a254225, a254226⟩
                            · show wp _ _ 189 70 [(0, .ref r0)] [vI z254219] _ H _
                              have y254227 := xre_y (B := B) (n := n) (q := q) 6 671108 rfl (by decide) (by omega)
                              refine wp_of e189 c189_70 (rw_if_ne (p1 := 113) (p2 := 73) (by decide) rfl ⟨by omega, by omega⟩ (fun c254228 => ?_) (fun c254228 => ?_))
                              · refine wp_of e189 c189_113 (rw_iconst (pc' := 114) rfl ?_)
                                exact wp_zreturn e189 c189_114 rfl (by omega) ⟨rfl, rfl, 0, rfl, ⟨by omega, by omega⟩, (Or.inr ⟨by omega, by omega⟩)⟩
                              · exfalso
                                omega
                            · show wp _ _ 189 70 [(0, .ref r0)] [vI z254219] _ H _
                              have y254229 := xre_n (B := B) (n := n) (q := q) 6 671108 rfl (by decide) (by omega)
                              refine wp_of e189 c189_70 (rw_if_ne (p1 := 113) (p2 := 73) (by decide) rfl ⟨by omega, by omega⟩ (fun c254230 => ?_) (fun c254230 => ?_))
                              · exfalso
                                omega
                              · refine wp_of e189 c189_73 (rw_aload_n (pc' := 74) (v := .ref r0) rfl rfl rfl ?_)
                                refine wp_of e189 c189_74 (rw_ldcS (pc' := 76) (k := 82) rfl rfl rfl rfl ?_)
                                refine wp_of e189 c189_76 (xc_V (pc' := 79) (r := r0) (as := [.ref 82]) (st := []) (lm_9_114) rfl rfl (Nat.le_of_ble_eq_true rfl) hW g0 sh_42 (by decide) rfl (by decide) (u_178_k (B := B) (n := n) (q := q) (kk := 15931570) hW g0 rfl (by decide +kernel) hRC_r0) (fun R254231 T254232 H254233 p254234 => ?_))
                                obtain ⟨e254235, e254237, z254238, e254236, b254239, p254240⟩ := p254234
                                subst e254235
                                subst e254236
                                subst e254237
                                rcases p254240 with ⟨a254241, a254242, a254243⟩ | ⟨a254244, a254245⟩
                                · show wp _ _ 189 79 [(0, .ref r0)] [vI z254238] _ H _
                                  have y254246 := xre_y (B := B) (n := n) (q := q) 7 15931570 rfl (by decide) (by omega)
                                  refine wp_of e189 c189_79 (rw_if_ne (p1 := 113) (p2 := 82) (by decide) rfl ⟨by omega, by omega⟩ (fun c254247 => ?_) (fun c254247 => ?_))
                                  · refine wp_of e189 c189_113 (rw_iconst (pc' := 114) rfl ?_)
                                    exact wp_zreturn e189 c189_114 rfl (by omega) ⟨rfl, rfl, 0, rfl, ⟨by omega, by omega⟩, (Or.inr ⟨by omega, by omega⟩)⟩
                                  · exfalso
                                    omega
                                · show wp _ _ 189 79 [(0, .ref r0)] [vI z254238] _ H _
                                  have y254248 := xre_n (B := B) (n := n) (q := q) 7 15931570 rfl (by decide) (by omega)
                                  refine wp_of e189 c189_79 (rw_if_ne (p1 := 113) (p2 := 82) (by decide) rfl ⟨by omega, by omega⟩ (fun c254249 => ?_) (fun c254249 => ?_))
                                  · exfalso
                                    omega
                                  · refine wp_of e189 c189_82 (rw_aload_n (pc' := 83) (v := .ref r0) rfl rfl rfl ?_)
                                    refine wp_of e189 c189_83 (rw_ldcS (pc' := 85) (k := 83) rfl rfl rfl rfl ?_)
                                    refine wp_of e189 c189_85 (xc_V (pc' := 88) (r := r0) (as := [.ref 83]) (st := []) (lm_9_114) rfl rfl (Nat.le_of_ble_eq_true rfl) hW g0 sh_42 (by decide) rfl (by decide) (u_178_k (B := B) (n := n) (q := q) (kk := 8423732) hW g0 rfl (by decide +kernel) hRC_r0) (fun R254250 T254251 H254252 p254253 => ?_))
                                    obtain ⟨e254254, e254256, z254257, e254255, b254258, p254259⟩ := p254253
                                    subst e254254
                                    subst e254255
                                    subst e254256
                                    rcases p254259 with ⟨a254260, a254261, a254262⟩ | ⟨a254263, a254264⟩
                                    · show wp _ _ 189 88 [(0, .ref r0)] [vI z254257] _ H _
                                      have y254265 := xre_y (B := B) (n := n) (q := q) 8 8423732 rfl (by decide) (by omega)
                                      refine wp_of e189 c189_88 (rw_if_ne (p1 := 113) (p2 := 91) (by decide) rfl ⟨by omega, by omega⟩ (fun c254266 => ?_) (fun c254266 => ?_))
                                      · refine wp_of e189 c189_113 (rw_iconst (pc' := 114) rfl ?_)
                                        exact wp_zreturn e189 c189_114 rfl (by omega) ⟨rfl, rfl, 0, rfl, ⟨by omega, by omega⟩, (Or.inr ⟨by omega, by omega⟩)⟩
                                      · exfalso
                                        omega
                                    · show wp _ _ 189 88 [(0, .ref r0)] [vI z254257] _ H _
                                      have y254267 := xre_n (B := B) (n := n) (q := q) 8 8423732 rfl (by decide) (by omega)
                                      refine wp_of e189 c189_88 (rw_if_ne (p1 := 113) (p2 := 91) (by decide) rfl ⟨by omega, by omega⟩ (fun c254268 => ?_) (fun c254268 => ?_))
                                      · exfalso
                                        omega
                                      · refine wp_of e189 c189_91 (rw_aload_n (pc' := 92) (v := .ref r0) rfl rfl rfl ?_)
                                        refine wp_of e189 c189_92 (rw_ldcS (pc' := 94) (k := 84) rfl rfl rfl rfl ?_)
                                        refine wp_of e189 c189_94 (xc_V (pc' := 97) (r := r0) (as := [.ref 84]) (st := []) (lm_9_114) rfl rfl (Nat.le_of_ble_eq_true rfl) hW g0 sh_42 (by decide) rfl (by decide) (u_178_k (B := B) (n := n) (q := q) (kk := 14384) hW g0 rfl (by decide +kernel) hRC_r0) (fun R254269 T254270 H254271 p254272 => ?_))
                                        obtain ⟨e254273, e254275, z254276, e254274, b254277, p254278⟩ := p254272
                                        subst e254273
                                        subst e254274
                                        subst e254275
                                        rcases p254278 with ⟨a254279, a254280, a254281⟩ | ⟨a254282, a254283⟩
                                        · show wp _ _ 189 97 [(0, .ref r0)] [vI z254276] _ H _
                                          have y254284 := xre_y (B := B) (n := n) (q := q) 9 14384 rfl (by decide) (by omega)
                                          refine wp_of e189 c189_97 (rw_if_ne (p1 := 113) (p2 := 100) (by decide) rfl ⟨by omega, by omega⟩ (fun c254285 => ?_) (fun c254285 => ?_))
                                          · refine wp_of e189 c189_113 (rw_iconst (pc' := 114) rfl ?_)
                                            exact wp_zreturn e189 c189_114 rfl (by omega) ⟨rfl, rfl, 0, rfl, ⟨by omega, by omega⟩, (Or.inr ⟨by omega, by omega⟩)⟩
                                          · exfalso
                                            omega
                                        · show wp _ _ 189 97 [(0, .ref r0)] [vI z254276] _ H _
                                          have y254286 := xre_n (B := B) (n := n) (q := q) 9 14384 rfl (by decide) (by omega)
                                          refine wp_of e189 c189_97 (rw_if_ne (p1 := 113) (p2 := 100) (by decide) rfl ⟨by omega, by omega⟩ (fun c254287 => ?_) (fun c254287 => ?_))
                                          · exfalso
                                            omega
                                          · refine wp_of e189 c189_100 (rw_aload_n (pc' := 101) (v := .ref r0) rfl rfl rfl ?_)
                                            refine wp_of e189 c189_101 (rw_ldcS (pc' := 103) (k := 85) rfl rfl rfl rfl ?_)
                                            refine wp_of e189 c189_103 (xc_V (pc' := 106) (r := r0) (as := [.ref 85]) (st := []) (lm_9_114) rfl rfl (Nat.le_of_ble_eq_true rfl) hW g0 sh_42 (by decide) rfl (by decide) (u_178_k (B := B) (n := n) (q := q) (kk := 56377) hW g0 rfl (by decide +kernel) hRC_r0) (fun R254288 T254289 H254290 p254291 => ?_))
                                            obtain ⟨e254292, e254294, z254295, e254293, b254296, p254297⟩ := p254291
                                            subst e254292
                                            subst e254293
                                            subst e254294
                                            rcases p254297 with ⟨a254298, a254299, a254300⟩ | ⟨a254301, a254302⟩
                                            · show wp _ _ 189 106 [(0, .ref r0)] [vI z254295] _ H _
                                              have y254303 := xre_y (B := B) (n := n) (q := q) 10 56377 rfl (by decide) (by omega)
                                              refine wp_of e189 c189_106 (rw_if_ne (p1 := 113) (p2 := 109) (by decide) rfl ⟨by omega, by omega⟩ (fun c254304 => ?_) (fun c254304 => ?_))
                                              · refine wp_of e189 c189_113 (rw_iconst (pc' := 114) rfl ?_)
                                                exact wp_zreturn e189 c189_114 rfl (by omega) ⟨rfl, rfl, 0, rfl, ⟨by omega, by omega⟩, (Or.inr ⟨by omega, by omega⟩)⟩
                                              · exfalso
                                                omega
                                            · show wp _ _ 189 106 [(0, .ref r0)] [vI z254295] _ H _
                                              have y254305 := xre_n (B := B) (n := n) (q := q) 10 56377 rfl (by decide) (by omega)
                                              refine wp_of e189 c189_106 (rw_if_ne (p1 := 113) (p2 := 109) (by decide) rfl ⟨by omega, by omega⟩ (fun c254306 => ?_) (fun c254306 => ?_))
                                              · exfalso
                                                omega
                                              · refine wp_of e189 c189_109 (rw_iconst (pc' := 110) rfl ?_)
                                                refine wp_of e189 c189_110 (rw_goto (p1 := 114) (by decide) ?_)
                                                exact wp_zreturn e189 c189_114 rfl (by omega) ⟨rfl, rfl, 1, rfl, ⟨by omega, by omega⟩, (Or.inl ⟨by omega, by omega, by omega, by omega⟩)⟩
                          · exfalso
                            omega
/-! StrikeAwakeModel.isName()Z o -/
abbrev uq_189_o (r0 : Nat) (fo : Int) (po : Int) (T : wq_T) (H : wq_H) : Option Value → wq_T → wq_H → Prop := fun r T' H' => T = T' ∧ H = H' ∧ ∃ z : Int, some (vI z) = r ∧ (0 ≤ z ∧ z ≤ 1) ∧ (((z = 0)))
set_option maxHeartbeats 4000000 in
theorem u_189_o {kt : Nat → Option mc_E} {T : wq_T} {H : wq_H} {r0 : Nat} {fo : Int} {po : Int} (hW : WT T H) (g0 : T.2.2.2 r0 = some 42) (hRO_r0 : RO T H r0 fo po) : wpc kt 3 189 [.ref r0] T H (uq_189_o r0 fo po T H) := by
  refine wp_enter e189 (Nat.le_of_ble_eq_true rfl) rfl ?_
  show wp _ _ 189 0 [(0, .ref r0)] [] _ H _
  have u254310 := RO_k hRO_r0
  refine wp_of e189 c189_0 (rw_aload_n (pc' := 1) (v := .ref r0) rfl rfl rfl ?_)
  refine wp_of e189 c189_1 (xg_I (pc' := 4) lf_9_75 hW g0 sh_42 (by decide) (by decide) ty_42_9 rfl rfl (fun b254311 b254312 => ?_))
  refine wp_of e189 c189_4 (rw_iconst (pc' := 5) rfl ?_)
  refine wp_of e189 c189_5 (rw_icmp_ne (p1 := 62) (p2 := 8) (by decide) rfl ⟨by omega, by omega⟩ ⟨by omega, by omega⟩ (fun c254313 => ?_) (fun c254313 => ?_))
  · refine wp_of e189 c189_62 (rw_iconst (pc' := 63) rfl ?_)
    exact wp_zreturn e189 c189_63 rfl (by omega) ⟨rfl, rfl, 0, rfl, ⟨by omega, by omega⟩, (by omega)⟩
  · exfalso
    omega
/-! StrikeAwakeModel.begins(II)V k -/
abbrev uq_188_k (r0 : Nat) (a1 : Int) (a2 : Int) (rb : Nat) (B : Nat → Int) (n : Int) (q : Int) (T : wq_T) (H : wq_H) : Option Value → wq_T → wq_H → Prop := fun r T' H' => T = T' ∧ WT T H' ∧ wfr [(42, 8), (42, 9), (42, 10), (42, 11), (42, 12), (42, 13), (42, 14), (42, 15)] T H H' ∧ none = r ∧ (((a1 ≠ a2) ∧ RC T H' r0 B n (xN B n q)) ∨ ((a1 = a2) ∧ RO T H' r0 (5) q))
set_option maxHeartbeats 4000000 in
theorem u_188_k {kt : Nat → Option mc_E} {T : wq_T} {H : wq_H} {r0 : Nat} {a1 : Int} {a2 : Int} {rb : Nat} {B : Nat → Int} {n : Int} {q : Int} (hW : WT T H) (g0 : T.2.2.2 r0 = some 42) (i1 : (-2147483648) ≤ a1 ∧ a1 ≤ 2147483647) (i2 : (-2147483648) ≤ a2 ∧ a2 ≤ 2147483647) (qrb : H r0 5 = (rb : Int)) (grb : T.2.2.2 rb = some 43) (p0 : xK B n q = 1) (hRC_r0 : RC T H r0 B n q) : wpc kt 3 188 [.ref r0, vI a1, vI a2] T H (uq_188_k r0 a1 a2 rb B n q T H) := by
  refine wp_enter e188 (Nat.le_of_ble_eq_true rfl) rfl ?_
  have f0 : wfr [(42, 8), (42, 9), (42, 10), (42, 11), (42, 12), (42, 13), (42, 14), (42, 15)] T H H := wfr.rf
  show wp _ _ 188 0 [(0, .ref r0), (1, vI a1), (2, vI a2)] [] _ H _
  have u254346 := RC_k hRC_r0
  refine wp_of e188 c188_0 (rw_iload_n (pc' := 1) (z := a1) rfl rfl ?_)
  refine wp_of e188 c188_1 (rw_iload_n (pc' := 2) (z := a2) rfl rfl ?_)
  refine wp_of e188 c188_2 (rw_icmp_ne (p1 := 10) (p2 := 5) (by decide) rfl ⟨by omega, by omega⟩ ⟨by omega, by omega⟩ (fun c254347 => ?_) (fun c254347 => ?_))
  · refine wp_of e188 c188_10 (rw_aload_n (pc' := 11) (v := .ref r0) rfl rfl rfl ?_)
    have u254348 := RC_a hRC_r0
    have h254349 : TM T H rb B := RC_tm hRC_r0 qrb
    refine wp_of e188 c188_11 (xc_V (pc' := 14) (r := r0) (as := []) (st := []) (lm_9_118) rfl rfl (Nat.le_of_ble_eq_true rfl) hW g0 sh_42 (by decide) rfl (by decide) (u_172_k (B := B) (n := n) (a := (xE B n q)) (q := (xN B n q)) hW g0 qrb grb (by omega) (by omega) (by omega) (by omega) (by omega) (rfl) h254349) (fun R254350 T254351 H254352 p254353 => ?_))
    obtain ⟨e254354, w254356, f254357, e254355, p254358⟩ := p254353
    subst e254354
    subst e254355
    have f254360 := f0.tr f254357 rfl
    show wp _ _ 188 14 [(0, .ref r0), (1, vI a1), (2, vI a2)] [] _ H254352 _
    have u254361 := RC_k p254358
    exact wp_return e188 c188_14 rfl ⟨rfl, w254356, f254360, rfl, (Or.inl ⟨by omega, p254358⟩)⟩
  · refine wp_of e188 c188_5 (rw_aload_n (pc' := 6) (v := .ref r0) rfl rfl rfl ?_)
    refine wp_of e188 c188_6 (rw_iconst (pc' := 7) rfl ?_)
    refine wp_of e188 c188_7 (xc_V (pc' := 10) (r := r0) (as := [vI 5]) (st := []) (lm_9_121) rfl rfl (Nat.le_of_ble_eq_true rfl) hW g0 sh_42 (by decide) rfl (by decide) (u_181_k (B := B) (n := n) (q := q) hW g0 ⟨by omega, by omega⟩ (by omega) hRC_r0) (fun R254362 T254363 H254364 p254365 => ?_))
    obtain ⟨e254366, w254368, f254369, e254367, p254370⟩ := p254365
    subst e254366
    subst e254367
    have f254372 := f0.tr f254369 rfl
    show wp _ _ 188 10 [(0, .ref r0), (1, vI a1), (2, vI a2)] [] _ H254364 _
    have u254373 := RO_k p254370
    refine wp_of e188 c188_10 (rw_aload_n (pc' := 11) (v := .ref r0) rfl rfl rfl ?_)
    refine wp_of e188 c188_11 (xc_V (pc' := 14) (r := r0) (as := []) (st := []) (lm_9_118) rfl rfl (Nat.le_of_ble_eq_true rfl) w254368 g0 sh_42 (by decide) rfl (by decide) (u_172_o (fo := 5) (po := q) w254368 g0 p254370) (fun R254374 T254375 H254376 p254377 => ?_))
    obtain ⟨e254378, e254380, e254379, p254381⟩ := p254377
    subst e254378
    subst e254379
    subst e254380
    show wp _ _ 188 14 [(0, .ref r0), (1, vI a1), (2, vI a2)] [] _ H254364 _
    have u254383 := RO_k p254381
    exact wp_return e188 c188_14 rfl ⟨rfl, w254368, f254372, rfl, (Or.inr ⟨by omega, RO_eq p254381 (by omega) (by omega)⟩)⟩
/-! StrikeAwakeModel.begins(II)V o -/
abbrev uq_188_o (r0 : Nat) (a1 : Int) (a2 : Int) (rb : Nat) (fo : Int) (po : Int) (T : wq_T) (H : wq_H) : Option Value → wq_T → wq_H → Prop := fun r T' H' => T = T' ∧ H = H' ∧ none = r ∧ ((RO T H r0 fo po))
set_option maxHeartbeats 4000000 in
theorem u_188_o {kt : Nat → Option mc_E} {T : wq_T} {H : wq_H} {r0 : Nat} {a1 : Int} {a2 : Int} {rb : Nat} {fo : Int} {po : Int} (hW : WT T H) (g0 : T.2.2.2 r0 = some 42) (i1 : (-2147483648) ≤ a1 ∧ a1 ≤ 2147483647) (i2 : (-2147483648) ≤ a2 ∧ a2 ≤ 2147483647) (qrb : H r0 5 = (rb : Int)) (grb : T.2.2.2 rb = some 43) (hRO_r0 : RO T H r0 fo po) : wpc kt 3 188 [.ref r0, vI a1, vI a2] T H (uq_188_o r0 a1 a2 rb fo po T H) := by
  refine wp_enter e188 (Nat.le_of_ble_eq_true rfl) rfl ?_
  show wp _ _ 188 0 [(0, .ref r0), (1, vI a1), (2, vI a2)] [] _ H _
  have u254412 := RO_k hRO_r0
  refine wp_of e188 c188_0 (rw_iload_n (pc' := 1) (z := a1) rfl rfl ?_)
  refine wp_of e188 c188_1 (rw_iload_n (pc' := 2) (z := a2) rfl rfl ?_)
  refine wp_of e188 c188_2 (rw_icmp_ne (p1 := 10) (p2 := 5) (by decide) rfl ⟨by omega, by omega⟩ ⟨by omega, by omega⟩ (fun c254413 => ?_) (fun c254413 => ?_))
  · refine wp_of e188 c188_10 (rw_aload_n (pc' := 11) (v := .ref r0) rfl rfl rfl ?_)
    refine wp_of e188 c188_11 (xc_V (pc' := 14) (r := r0) (as := []) (st := []) (lm_9_118) rfl rfl (Nat.le_of_ble_eq_true rfl) hW g0 sh_42 (by decide) rfl (by decide) (u_172_o (fo := fo) (po := po) hW g0 hRO_r0) (fun R254414 T254415 H254416 p254417 => ?_))
    obtain ⟨e254418, e254420, e254419, p254421⟩ := p254417
    subst e254418
    subst e254419
    subst e254420
    show wp _ _ 188 14 [(0, .ref r0), (1, vI a1), (2, vI a2)] [] _ H _
    have u254423 := RO_k p254421
    exact wp_return e188 c188_14 rfl ⟨rfl, rfl, rfl, (p254421)⟩
  · refine wp_of e188 c188_5 (rw_aload_n (pc' := 6) (v := .ref r0) rfl rfl rfl ?_)
    refine wp_of e188 c188_6 (rw_iconst (pc' := 7) rfl ?_)
    refine wp_of e188 c188_7 (xc_V (pc' := 10) (r := r0) (as := [vI 5]) (st := []) (lm_9_121) rfl rfl (Nat.le_of_ble_eq_true rfl) hW g0 sh_42 (by decide) rfl (by decide) (u_181_o (fo := fo) (po := po) hW g0 ⟨by omega, by omega⟩ hRO_r0) (fun R254424 T254425 H254426 p254427 => ?_))
    obtain ⟨e254428, e254430, e254429, p254431⟩ := p254427
    subst e254428
    subst e254429
    subst e254430
    show wp _ _ 188 10 [(0, .ref r0), (1, vI a1), (2, vI a2)] [] _ H _
    have u254433 := RO_k p254431
    refine wp_of e188 c188_10 (rw_aload_n (pc' := 11) (v := .ref r0) rfl rfl rfl ?_)
    refine wp_of e188 c188_11 (xc_V (pc' := 14) (r := r0) (as := []) (st := []) (lm_9_118) rfl rfl (Nat.le_of_ble_eq_true rfl) hW g0 sh_42 (by decide) rfl (by decide) (u_172_o (fo := fo) (po := po) hW g0 p254431) (fun R254434 T254435 H254436 p254437 => ?_))
    obtain ⟨e254438, e254440, e254439, p254441⟩ := p254437
    subst e254438
    subst e254439
    subst e254440
    show wp _ _ 188 14 [(0, .ref r0), (1, vI a1), (2, vI a2)] [] _ H _
    have u254443 := RO_k p254441
    exact wp_return e188 c188_14 rfl ⟨rfl, rfl, rfl, (p254441)⟩
/-! StrikeAwakeModel$Parish.find(J)I k -/
abbrev uq_190_k (r0 : Nat) (a1 : Int) (mm : Nat) (d : xD) (y : Int) (T : wq_T) (H : wq_H) : Option Value → wq_T → wq_H → Prop := fun r T' H' => T = T' ∧ H = H' ∧ ∃ z : Int, some (vI z) = r ∧ ((-1) ≤ z ∧ z ≤ 5) ∧ (((-1 ≤ z ∧ z ≤ 5) ∧ (z = xfi (d 1) (d 0 3) y)))
set_option maxHeartbeats 4000000 in
theorem u_190_k {kt : Nat → Option mc_E} {T : wq_T} {H : wq_H} {r0 : Nat} {a1 : Int} {mm : Nat} {d : xD} {y : Int} (hW : WT T H) (g0 : T.2.2.2 r0 = some 54) (i1 : (-9223372036854775808) ≤ a1 ∧ a1 ≤ 9223372036854775807) (p0 : a1 = y) (hDM_r0 : DM T H r0 mm d) : wpc kt 1 190 [.ref r0, vL a1] T H (uq_190_k r0 a1 mm d y T H) := by
  refine wp_enter e190 (Nat.le_of_ble_eq_true rfl) rfl ?_
  show wp _ _ 190 0 [(0, .ref r0), (1, vL a1)] [] _ H _
  have u254533 := DM_k hDM_r0
  have h254534 : MA9 T H r0 (d 1) := hDM_r0.2.2.2.1
  refine wp_of e190 c190_0 (rw_iconst (pc' := 1) rfl ?_)
  refine wp_of e190 c190_1 (rw_istore_n (pc' := 2) (z := 0) (L' := [(3, vI 0), (0, .ref r0), (1, vL a1)]) rfl rfl rfl ?_)
  have lp254612 : ∀ (n254613 : Nat) (v254615 : Int), (0 ≤ v254615 ∧ v254615 ≤ 6) → (xfr (d 1) (d 0 3) y v254615 = xfi (d 1) (d 0 3) y) → (6 - v254615).toNat = n254613 → wp kt 0 190 2 [(3, vI v254615), (0, .ref r0), (1, vL a1)] [] T H (uq_190_k r0 a1 mm d y T H) := by
    intro n254613
    induction n254613 using Nat.strongRecOn with
    | _ n254613 ih254614 =>
      intro v254615 b254618 x254619 m254620
      refine wp_of e190 c190_2 (rw_iload_n (pc' := 3) (z := v254615) rfl rfl ?_)
      refine wp_of e190 c190_3 (rw_aload_n (pc' := 4) (v := .ref r0) rfl rfl rfl ?_)
      refine wp_of e190 c190_4 (xg_I (pc' := 7) lf_10_72 hW g0 sh_54 (by decide) (by decide) ty_54_3 rfl rfl (fun b254621 b254622 => ?_))
      refine wp_of e190 c190_7 (rw_icmp_ge (p1 := 29) (p2 := 10) (by decide) rfl ⟨by omega, by omega⟩ ⟨by omega, by omega⟩ (fun c254623 => ?_) (fun c254623 => ?_))
      · have := @xfr_n (d 1) (d 0 3) y v254615 (by omega)
        refine wp_of e190 c190_29 (rw_iconst (pc' := 30) rfl ?_)
        exact wp_ireturn e190 c190_30 rfl ⟨rfl, rfl, -1, rfl, ⟨by omega, by omega⟩, ⟨by omega, by omega⟩⟩
      · refine wp_of e190 c190_10 (rw_aload_n (pc' := 11) (v := .ref r0) rfl rfl rfl ?_)
        refine wp_of e190 c190_11 (xg_R (pc' := 14) lf_10_15 hW g0 sh_54 (by decide) (by decide) ty_54_9 rfl rfl (fun r254624 q254625 g254626 => ?_))
        refine wp_of e190 c190_14 (rw_iload_n (pc' := 15) (z := v254615) rfl rfl ?_)
        refine wp_of e190 c190_15 (xa_L (pc' := 16) hW g254626 sh_55 (by decide) (ty_55 _) (by omega) (by omega) rfl (fun b254627 b254628 => ?_))
        have := MA_at h254534 q254625 (k := (v254615.toNat)) (by omega)
        refine wp_of e190 c190_16 (rw_lload_n (pc' := 17) (z := a1) rfl rfl ?_)
        refine wp_of e190 c190_17 (rw_lcmp (pc' := 18) rfl ⟨by omega, by omega⟩ ⟨by omega, by omega⟩ ?_)
        have b254629 := wq_cmp_b (H r254624 (v254615.toNat)) a1
        refine wp_of e190 c190_18 (rw_if_ne (p1 := 23) (p2 := 21) (by decide) rfl ⟨by omega, by omega⟩ (fun c254630 => ?_) (fun c254630 => ?_))
        · have := @xfr_s (d 1) (d 0 3) y v254615 (by omega) (by omega)
          refine wp_of e190 c190_23 (rw_iinc (pc' := 26) (z := v254615) (L' := [(3, vI (v254615 + 1)), (0, .ref r0), (1, vL a1)]) rfl rfl rfl rfl ?_)
          refine wp_of e190 c190_26 (rw_goto (p1 := 2) (by decide) ?_)
          exact wp_lc (ks := [3, 0, 1]) (wl_c rfl (wl_c rfl (wl_c rfl wl_n))) rfl (by decide) (ih254614 _ (by omega) (v254615 + 1) ⟨by omega, by omega⟩ (by omega) rfl)
        · have := @xfr_e (d 1) (d 0 3) y v254615 (by omega) (by omega)
          refine wp_of e190 c190_21 (rw_iload_n (pc' := 22) (z := v254615) rfl rfl ?_)
          exact wp_ireturn e190 c190_22 rfl ⟨rfl, rfl, v254615, rfl, ⟨by omega, by omega⟩, ⟨by omega, by omega⟩⟩
  have : xfr (d 1) (d 0 3) y 0 = xfi (d 1) (d 0 3) y := rfl
  exact wp_lc (ks := [3, 0, 1]) (wl_c rfl (wl_c rfl (wl_c rfl wl_n))) rfl (by decide) (lp254612 _ 0 ⟨by omega, by omega⟩ (by omega) rfl)
/-! StrikeAwakeModel$Parish.find(J)I o -/
abbrev uq_190_o (r0 : Nat) (a1 : Int) (T : wq_T) (H : wq_H) : Option Value → wq_T → wq_H → Prop := fun r T' H' => T = T' ∧ H = H' ∧ ∃ z : Int, some (vI z) = r ∧ ((-1) ≤ z ∧ z ≤ 5) ∧ (((-1 ≤ z ∧ z ≤ 5)))
set_option maxHeartbeats 4000000 in
theorem u_190_o {kt : Nat → Option mc_E} {T : wq_T} {H : wq_H} {r0 : Nat} {a1 : Int} (hW : WT T H) (g0 : T.2.2.2 r0 = some 54) (i1 : (-9223372036854775808) ≤ a1 ∧ a1 ≤ 9223372036854775807) : wpc kt 1 190 [.ref r0, vL a1] T H (uq_190_o r0 a1 T H) := by
  refine wp_enter e190 (Nat.le_of_ble_eq_true rfl) rfl ?_
  show wp _ _ 190 0 [(0, .ref r0), (1, vL a1)] [] _ H _
  refine wp_of e190 c190_0 (rw_iconst (pc' := 1) rfl ?_)
  refine wp_of e190 c190_1 (rw_istore_n (pc' := 2) (z := 0) (L' := [(3, vI 0), (0, .ref r0), (1, vL a1)]) rfl rfl rfl ?_)
  have lp254782 : ∀ (n254783 : Nat) (v254785 : Int), (0 ≤ v254785 ∧ v254785 ≤ 6) → (6 - v254785).toNat = n254783 → wp kt 0 190 2 [(3, vI v254785), (0, .ref r0), (1, vL a1)] [] T H (uq_190_o r0 a1 T H) := by
    intro n254783
    induction n254783 using Nat.strongRecOn with
    | _ n254783 ih254784 =>
      intro v254785 b254788 m254789
      refine wp_of e190 c190_2 (rw_iload_n (pc' := 3) (z := v254785) rfl rfl ?_)
      refine wp_of e190 c190_3 (rw_aload_n (pc' := 4) (v := .ref r0) rfl rfl rfl ?_)
      refine wp_of e190 c190_4 (xg_I (pc' := 7) lf_10_72 hW g0 sh_54 (by decide) (by decide) ty_54_3 rfl rfl (fun b254790 b254791 => ?_))
      refine wp_of e190 c190_7 (rw_icmp_ge (p1 := 29) (p2 := 10) (by decide) rfl ⟨by omega, by omega⟩ ⟨by omega, by omega⟩ (fun c254792 => ?_) (fun c254792 => ?_))
      · refine wp_of e190 c190_29 (rw_iconst (pc' := 30) rfl ?_)
        exact wp_ireturn e190 c190_30 rfl ⟨rfl, rfl, -1, rfl, ⟨by omega, by omega⟩, (by omega)⟩
      · refine wp_of e190 c190_10 (rw_aload_n (pc' := 11) (v := .ref r0) rfl rfl rfl ?_)
        refine wp_of e190 c190_11 (xg_R (pc' := 14) lf_10_15 hW g0 sh_54 (by decide) (by decide) ty_54_9 rfl rfl (fun r254793 q254794 g254795 => ?_))
        refine wp_of e190 c190_14 (rw_iload_n (pc' := 15) (z := v254785) rfl rfl ?_)
        refine wp_of e190 c190_15 (xa_L (pc' := 16) hW g254795 sh_55 (by decide) (ty_55 _) (by omega) (by omega) rfl (fun b254796 b254797 => ?_))
        refine wp_of e190 c190_16 (rw_lload_n (pc' := 17) (z := a1) rfl rfl ?_)
        refine wp_of e190 c190_17 (rw_lcmp (pc' := 18) rfl ⟨by omega, by omega⟩ ⟨by omega, by omega⟩ ?_)
        have b254798 := wq_cmp_b (H r254793 (v254785.toNat)) a1
        refine wp_of e190 c190_18 (rw_if_ne (p1 := 23) (p2 := 21) (by decide) rfl ⟨by omega, by omega⟩ (fun c254799 => ?_) (fun c254799 => ?_))
        · refine wp_of e190 c190_23 (rw_iinc (pc' := 26) (z := v254785) (L' := [(3, vI (v254785 + 1)), (0, .ref r0), (1, vL a1)]) rfl rfl rfl rfl ?_)
          refine wp_of e190 c190_26 (rw_goto (p1 := 2) (by decide) ?_)
          exact wp_lc (ks := [3, 0, 1]) (wl_c rfl (wl_c rfl (wl_c rfl wl_n))) rfl (by decide) (ih254784 _ (by omega) (v254785 + 1) ⟨by omega, by omega⟩ rfl)
        · refine wp_of e190 c190_21 (rw_iload_n (pc' := 22) (z := v254785) rfl rfl ?_)
          exact wp_ireturn e190 c190_22 rfl ⟨rfl, rfl, v254785, rfl, ⟨by omega, by omega⟩, (by omega)⟩
  exact wp_lc (ks := [3, 0, 1]) (wl_c rfl (wl_c rfl (wl_c rfl wl_n))) rfl (by decide) (lp254782 _ 0 ⟨by omega, by omega⟩ rfl)
/-! StrikeAwakeModel.known()I k -/
abbrev uq_195_k (r0 : Nat) (rp : Nat) (B : Nat → Int) (n : Int) (q : Int) (d : xD) (T : wq_T) (H : wq_H) : Option Value → wq_T → wq_H → Prop := fun r T' H' => T = T' ∧ WT T H' ∧ wfr [(42, 9), (42, 13), (42, 14)] T H H' ∧ ∃ z : Int, some (vI z) = r ∧ (0 ≤ z ∧ z ≤ 5) ∧ (((0 ≤ z ∧ z ≤ 5) ∧ (xkn B n q d = 0) ∧ (z = xwho B n q d) ∧ (z < d 0 3) ∧ (xK B n q = 1) ∧ RC T H' r0 B n q) ∨ ((z = 0) ∧ (xkn B n q d ≠ 0) ∧ RO T H' r0 (xkn B n q d) q))
set_option maxHeartbeats 4000000 in
theorem u_195_k {kt : Nat → Option mc_E} {T : wq_T} {H : wq_H} {r0 : Nat} {rp : Nat} {B : Nat → Int} {n : Int} {q : Int} {d : xD} (hW : WT T H) (g0 : T.2.2.2 r0 = some 42) (qrp : H r0 4 = (rp : Int)) (grp : T.2.2.2 rp = some 54) (hRC_r0 : RC T H r0 B n q) (hDM_rp : DM T H rp r0 d) : wpc kt 4 195 [.ref r0] T H (uq_195_k r0 rp B n q d T H) := by
  refine wp_enter e195 (Nat.le_of_ble_eq_true rfl) rfl ?_
  have f0 : wfr [(42, 9), (42, 13), (42, 14)] T H H := wfr.rf
  show wp _ _ 195 0 [(0, .ref r0)] [] _ H _
  have u254893 := RC_k hRC_r0
  have u254894 := DM_k hDM_rp
  have _s := RC_s hRC_r0
  have _x1 := @xkn_b d B n q
  have _x2 := @xwho_e d B n q
  refine wp_of e195 c195_0 (rw_aload_n (pc' := 1) (v := .ref r0) rfl rfl rfl ?_)
  refine wp_of e195 c195_1 (xc_V (pc' := 4) (r := r0) (as := []) (st := []) (lm_9_162) rfl rfl (Nat.le_of_ble_eq_true rfl) hW g0 sh_42 (by decide) rfl (by decide) (u_189_k (B := B) (n := n) (q := q) hW g0 hRC_r0) (fun R254895 T254896 H254897 p254898 => ?_))
  obtain ⟨e254899, e254901, z254902, e254900, b254903, p254904⟩ := p254898
  subst e254899
  subst e254900
  subst e254901
  rcases p254904 with ⟨a254905, a254906, a254907, a254908⟩ | ⟨a254909, a254910⟩
  · show wp _ _ 195 4 [(0, .ref r0)] [vI z254902] _ H _
    refine wp_of e195 c195_4 (rw_if_ne (p1 := 12) (p2 := 7) (by decide) rfl ⟨by omega, by omega⟩ (fun c254911 => ?_) (fun c254911 => ?_))
    · refine wp_of e195 c195_12 (rw_aload_n (pc' := 13) (v := .ref r0) rfl rfl rfl ?_)
      refine wp_of e195 c195_13 (xg_K (pc' := 16) lf_9_166 hW g0 sh_42 (by decide) (by decide) rfl qrp rfl ?_)
      refine wp_of e195 c195_16 (rw_aload_n (pc' := 17) (v := .ref r0) rfl rfl rfl ?_)
      refine wp_of e195 c195_17 (xg_L (pc' := 20) lf_9_94 hW g0 sh_42 (by decide) (by decide) ty_42_15 rfl rfl (fun b254912 b254913 => ?_))
      refine wp_of e195 c195_20 (xc_V (pc' := 23) (r := rp) (as := [vL (H r0 15)]) (st := []) (lm_9_170) rfl rfl (Nat.le_of_ble_eq_true rfl) hW grp sh_54 (by decide) rfl (by decide) (u_190_k (mm := r0) (d := d) (y := (xY B n q)) hW grp ⟨by omega, by omega⟩ (by omega) hDM_rp) (fun R254914 T254915 H254916 p254917 => ?_))
      obtain ⟨e254918, e254920, z254921, e254919, b254922, p254923⟩ := p254917
      subst e254918
      subst e254919
      subst e254920
      obtain ⟨a254924, a254925⟩ := p254923
      show wp _ _ 195 23 [(0, .ref r0)] [vI z254921] _ H _
      refine wp_of e195 c195_23 (rw_istore_n (pc' := 24) (z := z254921) (L' := [(1, vI z254921), (0, .ref r0)]) rfl rfl rfl ?_)
      refine wp_of e195 c195_24 (rw_iload_n (pc' := 25) (z := z254921) rfl rfl ?_)
      refine wp_of e195 c195_25 (rw_iconst (pc' := 26) rfl ?_)
      refine wp_of e195 c195_26 (rw_icmp_ne (p1 := 34) (p2 := 29) (by decide) rfl ⟨by omega, by omega⟩ ⟨by omega, by omega⟩ (fun c254926 => ?_) (fun c254926 => ?_))
      · refine wp_of e195 c195_34 (rw_aload_n (pc' := 35) (v := .ref r0) rfl rfl rfl ?_)
        refine wp_of e195 c195_35 (xg_I (pc' := 38) lf_9_75 hW g0 sh_42 (by decide) (by decide) ty_42_9 rfl rfl (fun b254927 b254928 => ?_))
        refine wp_of e195 c195_38 (rw_iconst (pc' := 39) rfl ?_)
        refine wp_of e195 c195_39 (rw_icmp_ne (p1 := 46) (p2 := 42) (by decide) rfl ⟨by omega, by omega⟩ ⟨by omega, by omega⟩ (fun c254929 => ?_) (fun c254929 => ?_))
        · refine wp_of e195 c195_46 (rw_iload_n (pc' := 47) (z := z254921) rfl rfl ?_)
          exact wp_ireturn e195 c195_47 rfl ⟨rfl, hW, f0, z254921, rfl, ⟨by omega, by omega⟩, (Or.inl ⟨by omega, by omega, by omega, by omega, by omega, hRC_r0⟩)⟩
        · exfalso
          omega
      · refine wp_of e195 c195_29 (rw_aload_n (pc' := 30) (v := .ref r0) rfl rfl rfl ?_)
        refine wp_of e195 c195_30 (rw_iconst (pc' := 31) rfl ?_)
        refine wp_of e195 c195_31 (xc_V (pc' := 34) (r := r0) (as := [vI 2]) (st := []) (lm_9_121) rfl rfl (Nat.le_of_ble_eq_true rfl) hW g0 sh_42 (by decide) rfl (by decide) (u_181_k (B := B) (n := n) (q := q) hW g0 ⟨by omega, by omega⟩ (by omega) hRC_r0) (fun R254930 T254931 H254932 p254933 => ?_))
        obtain ⟨e254934, w254936, f254937, e254935, p254938⟩ := p254933
        subst e254934
        subst e254935
        have f254940 := f0.tr f254937 rfl
        show wp _ _ 195 34 [(1, vI z254921), (0, .ref r0)] [] _ H254932 _
        have u254941 := RO_k p254938
        refine wp_of e195 c195_34 (rw_aload_n (pc' := 35) (v := .ref r0) rfl rfl rfl ?_)
        refine wp_of e195 c195_35 (xg_I (pc' := 38) lf_9_75 w254936 g0 sh_42 (by decide) (by decide) ty_42_9 rfl rfl (fun b254942 b254943 => ?_))
        refine wp_of e195 c195_38 (rw_iconst (pc' := 39) rfl ?_)
        refine wp_of e195 c195_39 (rw_icmp_ne (p1 := 46) (p2 := 42) (by decide) rfl ⟨by omega, by omega⟩ ⟨by omega, by omega⟩ (fun c254944 => ?_) (fun c254944 => ?_))
        · exfalso
          omega
        · refine wp_of e195 c195_42 (rw_iconst (pc' := 43) rfl ?_)
          refine wp_of e195 c195_43 (rw_goto (p1 := 47) (by decide) ?_)
          exact wp_ireturn e195 c195_47 rfl ⟨rfl, w254936, f254940, 0, rfl, ⟨by omega, by omega⟩, (Or.inr ⟨by omega, by omega, RO_eq p254938 (by omega) (by omega)⟩)⟩
    · exfalso
      omega
  · show wp _ _ 195 4 [(0, .ref r0)] [vI z254902] _ H _
    refine wp_of e195 c195_4 (rw_if_ne (p1 := 12) (p2 := 7) (by decide) rfl ⟨by omega, by omega⟩ (fun c254945 => ?_) (fun c254945 => ?_))
    · exfalso
      omega
    · refine wp_of e195 c195_7 (rw_aload_n (pc' := 8) (v := .ref r0) rfl rfl rfl ?_)
      refine wp_of e195 c195_8 (rw_iconst (pc' := 9) rfl ?_)
      refine wp_of e195 c195_9 (xc_V (pc' := 12) (r := r0) (as := [vI 1]) (st := []) (lm_9_121) rfl rfl (Nat.le_of_ble_eq_true rfl) hW g0 sh_42 (by decide) rfl (by decide) (u_181_k (B := B) (n := n) (q := q) hW g0 ⟨by omega, by omega⟩ (by omega) hRC_r0) (fun R254946 T254947 H254948 p254949 => ?_))
      obtain ⟨e254950, w254952, f254953, e254951, p254954⟩ := p254949
      subst e254950
      subst e254951
      have f254956 := f0.tr f254953 rfl
      show wp _ _ 195 12 [(0, .ref r0)] [] _ H254948 _
      have u254957 := RO_k p254954
      refine wp_of e195 c195_12 (rw_aload_n (pc' := 13) (v := .ref r0) rfl rfl rfl ?_)
      have k254958 : H254948 r0 4 = H r0 4 := (f254953 r0 4 _ g0 rfl)
      have q254959 : H254948 r0 4 = (rp : Int) := k254958.trans qrp
      refine wp_of e195 c195_13 (xg_K (pc' := 16) lf_9_166 w254952 g0 sh_42 (by decide) (by decide) rfl q254959 rfl ?_)
      refine wp_of e195 c195_16 (rw_aload_n (pc' := 17) (v := .ref r0) rfl rfl rfl ?_)
      have k254960 : H254948 r0 15 = H r0 15 := (f254953 r0 15 _ g0 rfl)
      refine wp_of e195 c195_17 (xg_L (pc' := 20) lf_9_94 w254952 g0 sh_42 (by decide) (by decide) ty_42_15 rfl rfl (fun b254961 b254962 => ?_))
      refine wp_of e195 c195_20 (xc_V (pc' := 23) (r := rp) (as := [vL (H254948 r0 15)]) (st := []) (lm_9_170) rfl rfl (Nat.le_of_ble_eq_true rfl) w254952 grp sh_54 (by decide) rfl (by decide) (u_190_o  w254952 grp ⟨by omega, by omega⟩) (fun R254963 T254964 H254965 p254966 => ?_))
      obtain ⟨e254967, e254969, z254970, e254968, b254971, p254972⟩ := p254966
      subst e254967
      subst e254968
      subst e254969
      show wp _ _ 195 23 [(0, .ref r0)] [vI z254970] _ H254948 _
      refine wp_of e195 c195_23 (rw_istore_n (pc' := 24) (z := z254970) (L' := [(1, vI z254970), (0, .ref r0)]) rfl rfl rfl ?_)
      refine wp_of e195 c195_24 (rw_iload_n (pc' := 25) (z := z254970) rfl rfl ?_)
      refine wp_of e195 c195_25 (rw_iconst (pc' := 26) rfl ?_)
      refine wp_of e195 c195_26 (rw_icmp_ne (p1 := 34) (p2 := 29) (by decide) rfl ⟨by omega, by omega⟩ ⟨by omega, by omega⟩ (fun c254974 => ?_) (fun c254974 => ?_))
      · refine wp_of e195 c195_34 (rw_aload_n (pc' := 35) (v := .ref r0) rfl rfl rfl ?_)
        refine wp_of e195 c195_35 (xg_I (pc' := 38) lf_9_75 w254952 g0 sh_42 (by decide) (by decide) ty_42_9 rfl rfl (fun b254975 b254976 => ?_))
        refine wp_of e195 c195_38 (rw_iconst (pc' := 39) rfl ?_)
        refine wp_of e195 c195_39 (rw_icmp_ne (p1 := 46) (p2 := 42) (by decide) rfl ⟨by omega, by omega⟩ ⟨by omega, by omega⟩ (fun c254977 => ?_) (fun c254977 => ?_))
        · exfalso
          omega
        · refine wp_of e195 c195_42 (rw_iconst (pc' := 43) rfl ?_)
          refine wp_of e195 c195_43 (rw_goto (p1 := 47) (by decide) ?_)
          exact wp_ireturn e195 c195_47 rfl ⟨rfl, w254952, f254956, 0, rfl, ⟨by omega, by omega⟩, (Or.inr ⟨by omega, by omega, RO_eq p254954 (by omega) (by omega)⟩)⟩
      · refine wp_of e195 c195_29 (rw_aload_n (pc' := 30) (v := .ref r0) rfl rfl rfl ?_)
        refine wp_of e195 c195_30 (rw_iconst (pc' := 31) rfl ?_)
        refine wp_of e195 c195_31 (xc_V (pc' := 34) (r := r0) (as := [vI 2]) (st := []) (lm_9_121) rfl rfl (Nat.le_of_ble_eq_true rfl) w254952 g0 sh_42 (by decide) rfl (by decide) (u_181_o (fo := 1) (po := q) w254952 g0 ⟨by omega, by omega⟩ p254954) (fun R254978 T254979 H254980 p254981 => ?_))
        obtain ⟨e254982, e254984, e254983, p254985⟩ := p254981
        subst e254982
        subst e254983
        subst e254984
        show wp _ _ 195 34 [(1, vI z254970), (0, .ref r0)] [] _ H254948 _
        have u254987 := RO_k p254985
        refine wp_of e195 c195_34 (rw_aload_n (pc' := 35) (v := .ref r0) rfl rfl rfl ?_)
        refine wp_of e195 c195_35 (xg_I (pc' := 38) lf_9_75 w254952 g0 sh_42 (by decide) (by decide) ty_42_9 rfl rfl (fun b254988 b254989 => ?_))
        refine wp_of e195 c195_38 (rw_iconst (pc' := 39) rfl ?_)
        refine wp_of e195 c195_39 (rw_icmp_ne (p1 := 46) (p2 := 42) (by decide) rfl ⟨by omega, by omega⟩ ⟨by omega, by omega⟩ (fun c254990 => ?_) (fun c254990 => ?_))
        · exfalso
          omega
        · refine wp_of e195 c195_42 (rw_iconst (pc' := 43) rfl ?_)
          refine wp_of e195 c195_43 (rw_goto (p1 := 47) (by decide) ?_)
          exact wp_ireturn e195 c195_47 rfl ⟨rfl, w254952, f254956, 0, rfl, ⟨by omega, by omega⟩, (Or.inr ⟨by omega, by omega, RO_eq p254985 (by omega) (by omega)⟩)⟩
/-! StrikeAwakeModel.known()I o -/
abbrev uq_195_o (r0 : Nat) (rp : Nat) (fo : Int) (po : Int) (T : wq_T) (H : wq_H) : Option Value → wq_T → wq_H → Prop := fun r T' H' => T = T' ∧ H = H' ∧ ∃ z : Int, some (vI z) = r ∧ (0 ≤ z ∧ z ≤ 5) ∧ (((z = 0) ∧ RO T H r0 fo po))
set_option maxHeartbeats 4000000 in
theorem u_195_o {kt : Nat → Option mc_E} {T : wq_T} {H : wq_H} {r0 : Nat} {rp : Nat} {fo : Int} {po : Int} (hW : WT T H) (g0 : T.2.2.2 r0 = some 42) (qrp : H r0 4 = (rp : Int)) (grp : T.2.2.2 rp = some 54) (hRO_r0 : RO T H r0 fo po) : wpc kt 4 195 [.ref r0] T H (uq_195_o r0 rp fo po T H) := by
  refine wp_enter e195 (Nat.le_of_ble_eq_true rfl) rfl ?_
  show wp _ _ 195 0 [(0, .ref r0)] [] _ H _
  have u255041 := RO_k hRO_r0
  refine wp_of e195 c195_0 (rw_aload_n (pc' := 1) (v := .ref r0) rfl rfl rfl ?_)
  refine wp_of e195 c195_1 (xc_V (pc' := 4) (r := r0) (as := []) (st := []) (lm_9_162) rfl rfl (Nat.le_of_ble_eq_true rfl) hW g0 sh_42 (by decide) rfl (by decide) (u_189_o (fo := fo) (po := po) hW g0 hRO_r0) (fun R255042 T255043 H255044 p255045 => ?_))
  obtain ⟨e255046, e255048, z255049, e255047, b255050, p255051⟩ := p255045
  subst e255046
  subst e255047
  subst e255048
  show wp _ _ 195 4 [(0, .ref r0)] [vI z255049] _ H _
  refine wp_of e195 c195_4 (rw_if_ne (p1 := 12) (p2 := 7) (by decide) rfl ⟨by omega, by omega⟩ (fun c255053 => ?_) (fun c255053 => ?_))
  · exfalso
    omega
  · refine wp_of e195 c195_7 (rw_aload_n (pc' := 8) (v := .ref r0) rfl rfl rfl ?_)
    refine wp_of e195 c195_8 (rw_iconst (pc' := 9) rfl ?_)
    refine wp_of e195 c195_9 (xc_V (pc' := 12) (r := r0) (as := [vI 1]) (st := []) (lm_9_121) rfl rfl (Nat.le_of_ble_eq_true rfl) hW g0 sh_42 (by decide) rfl (by decide) (u_181_o (fo := fo) (po := po) hW g0 ⟨by omega, by omega⟩ hRO_r0) (fun R255054 T255055 H255056 p255057 => ?_))
    obtain ⟨e255058, e255060, e255059, p255061⟩ := p255057
    subst e255058
    subst e255059
    subst e255060
    show wp _ _ 195 12 [(0, .ref r0)] [] _ H _
    have u255063 := RO_k p255061
    refine wp_of e195 c195_12 (rw_aload_n (pc' := 13) (v := .ref r0) rfl rfl rfl ?_)
    refine wp_of e195 c195_13 (xg_K (pc' := 16) lf_9_166 hW g0 sh_42 (by decide) (by decide) rfl qrp rfl ?_)
    refine wp_of e195 c195_16 (rw_aload_n (pc' := 17) (v := .ref r0) rfl rfl rfl ?_)
    refine wp_of e195 c195_17 (xg_L (pc' := 20) lf_9_94 hW g0 sh_42 (by decide) (by decide) ty_42_15 rfl rfl (fun b255064 b255065 => ?_))
    refine wp_of e195 c195_20 (xc_V (pc' := 23) (r := rp) (as := [vL (H r0 15)]) (st := []) (lm_9_170) rfl rfl (Nat.le_of_ble_eq_true rfl) hW grp sh_54 (by decide) rfl (by decide) (u_190_o  hW grp ⟨by omega, by omega⟩) (fun R255066 T255067 H255068 p255069 => ?_))
    obtain ⟨e255070, e255072, z255073, e255071, b255074, p255075⟩ := p255069
    subst e255070
    subst e255071
    subst e255072
    show wp _ _ 195 23 [(0, .ref r0)] [vI z255073] _ H _
    refine wp_of e195 c195_23 (rw_istore_n (pc' := 24) (z := z255073) (L' := [(1, vI z255073), (0, .ref r0)]) rfl rfl rfl ?_)
    refine wp_of e195 c195_24 (rw_iload_n (pc' := 25) (z := z255073) rfl rfl ?_)
    refine wp_of e195 c195_25 (rw_iconst (pc' := 26) rfl ?_)
    refine wp_of e195 c195_26 (rw_icmp_ne (p1 := 34) (p2 := 29) (by decide) rfl ⟨by omega, by omega⟩ ⟨by omega, by omega⟩ (fun c255077 => ?_) (fun c255077 => ?_))
    · refine wp_of e195 c195_34 (rw_aload_n (pc' := 35) (v := .ref r0) rfl rfl rfl ?_)
      refine wp_of e195 c195_35 (xg_I (pc' := 38) lf_9_75 hW g0 sh_42 (by decide) (by decide) ty_42_9 rfl rfl (fun b255078 b255079 => ?_))
      refine wp_of e195 c195_38 (rw_iconst (pc' := 39) rfl ?_)
      refine wp_of e195 c195_39 (rw_icmp_ne (p1 := 46) (p2 := 42) (by decide) rfl ⟨by omega, by omega⟩ ⟨by omega, by omega⟩ (fun c255080 => ?_) (fun c255080 => ?_))
      · exfalso
        omega
      · refine wp_of e195 c195_42 (rw_iconst (pc' := 43) rfl ?_)
        refine wp_of e195 c195_43 (rw_goto (p1 := 47) (by decide) ?_)
        exact wp_ireturn e195 c195_47 rfl ⟨rfl, rfl, 0, rfl, ⟨by omega, by omega⟩, ⟨by omega, p255061⟩⟩
    · refine wp_of e195 c195_29 (rw_aload_n (pc' := 30) (v := .ref r0) rfl rfl rfl ?_)
      refine wp_of e195 c195_30 (rw_iconst (pc' := 31) rfl ?_)
      refine wp_of e195 c195_31 (xc_V (pc' := 34) (r := r0) (as := [vI 2]) (st := []) (lm_9_121) rfl rfl (Nat.le_of_ble_eq_true rfl) hW g0 sh_42 (by decide) rfl (by decide) (u_181_o (fo := fo) (po := po) hW g0 ⟨by omega, by omega⟩ p255061) (fun R255081 T255082 H255083 p255084 => ?_))
      obtain ⟨e255085, e255087, e255086, p255088⟩ := p255084
      subst e255085
      subst e255086
      subst e255087
      show wp _ _ 195 34 [(1, vI z255073), (0, .ref r0)] [] _ H _
      have u255090 := RO_k p255088
      refine wp_of e195 c195_34 (rw_aload_n (pc' := 35) (v := .ref r0) rfl rfl rfl ?_)
      refine wp_of e195 c195_35 (xg_I (pc' := 38) lf_9_75 hW g0 sh_42 (by decide) (by decide) ty_42_9 rfl rfl (fun b255091 b255092 => ?_))
      refine wp_of e195 c195_38 (rw_iconst (pc' := 39) rfl ?_)
      refine wp_of e195 c195_39 (rw_icmp_ne (p1 := 46) (p2 := 42) (by decide) rfl ⟨by omega, by omega⟩ ⟨by omega, by omega⟩ (fun c255093 => ?_) (fun c255093 => ?_))
      · exfalso
        omega
      · refine wp_of e195 c195_42 (rw_iconst (pc' := 43) rfl ?_)
        refine wp_of e195 c195_43 (rw_goto (p1 := 47) (by decide) ?_)
        exact wp_ireturn e195 c195_47 rfl ⟨rfl, rfl, 0, rfl, ⟨by omega, by omega⟩, ⟨by omega, p255088⟩⟩
/-! StrikeAwakeModel.readKnown()I k -/
abbrev uq_194_k (r0 : Nat) (rp : Nat) (rb : Nat) (B : Nat → Int) (n : Int) (q : Int) (d : xD) (T : wq_T) (H : wq_H) : Option Value → wq_T → wq_H → Prop := fun r T' H' => T = T' ∧ WT T H' ∧ wfr [(42, 8), (42, 9), (42, 10), (42, 11), (42, 12), (42, 13), (42, 14), (42, 15)] T H H' ∧ ∃ z : Int, some (vI z) = r ∧ (0 ≤ z ∧ z ≤ 5) ∧ (((0 ≤ z ∧ z ≤ 5) ∧ (xkn B n q d = 0) ∧ (z = xwho B n q d) ∧ (z < d 0 3) ∧ RC T H' r0 B n (xN B n q)) ∨ ((z = 0) ∧ (xkn B n q d ≠ 0) ∧ RO T H' r0 (xkn B n q d) q))
set_option maxHeartbeats 4000000 in
theorem u_194_k {kt : Nat → Option mc_E} {T : wq_T} {H : wq_H} {r0 : Nat} {rp : Nat} {rb : Nat} {B : Nat → Int} {n : Int} {q : Int} {d : xD} (hW : WT T H) (g0 : T.2.2.2 r0 = some 42) (qrp : H r0 4 = (rp : Int)) (grp : T.2.2.2 rp = some 54) (qrb : H r0 5 = (rb : Int)) (grb : T.2.2.2 rb = some 43) (hRC_r0 : RC T H r0 B n q) (hDM_rp : DM T H rp r0 d) : wpc kt 5 194 [.ref r0] T H (uq_194_k r0 rp rb B n q d T H) := by
  refine wp_enter e194 (Nat.le_of_ble_eq_true rfl) rfl ?_
  have f0 : wfr [(42, 8), (42, 9), (42, 10), (42, 11), (42, 12), (42, 13), (42, 14), (42, 15)] T H H := wfr.rf
  show wp _ _ 194 0 [(0, .ref r0)] [] _ H _
  have u255138 := RC_k hRC_r0
  have u255139 := DM_k hDM_rp
  refine wp_of e194 c194_0 (rw_aload_n (pc' := 1) (v := .ref r0) rfl rfl rfl ?_)
  refine wp_of e194 c194_1 (xc_V (pc' := 4) (r := r0) (as := []) (st := []) (lm_9_176) rfl rfl (Nat.le_of_ble_eq_true rfl) hW g0 sh_42 (by decide) rfl (by decide) (u_195_k (B := B) (n := n) (q := q) (d := d) hW g0 qrp grp hRC_r0 hDM_rp) (fun R255140 T255141 H255142 p255143 => ?_))
  obtain ⟨e255144, w255146, f255147, z255148, e255145, b255149, p255150⟩ := p255143
  subst e255144
  subst e255145
  rcases p255150 with ⟨a255151, a255152, a255153, a255154, a255155, a255156⟩ | ⟨a255157, a255158, a255159⟩
  · have f255160 := f0.tr f255147 rfl
    show wp _ _ 194 4 [(0, .ref r0)] [vI z255148] _ H255142 _
    have u255161 := RC_k a255156
    refine wp_of e194 c194_4 (rw_istore_n (pc' := 5) (z := z255148) (L' := [(1, vI z255148), (0, .ref r0)]) rfl rfl rfl ?_)
    refine wp_of e194 c194_5 (rw_aload_n (pc' := 6) (v := .ref r0) rfl rfl rfl ?_)
    have k255162 : H255142 r0 5 = H r0 5 := (f255147 r0 5 _ g0 rfl)
    have q255163 : H255142 r0 5 = (rb : Int) := k255162.trans qrb
    have u255164 := RC_a a255156
    have h255165 : TM T H255142 rb B := RC_tm a255156 q255163
    refine wp_of e194 c194_6 (xc_V (pc' := 9) (r := r0) (as := []) (st := []) (lm_9_118) rfl rfl (Nat.le_of_ble_eq_true rfl) w255146 g0 sh_42 (by decide) rfl (by decide) (u_172_k (B := B) (n := n) (a := (xE B n q)) (q := (xN B n q)) w255146 g0 q255163 grb (by omega) (by omega) (by omega) (by omega) (by omega) (rfl) h255165) (fun R255166 T255167 H255168 p255169 => ?_))
    obtain ⟨e255170, w255172, f255173, e255171, p255174⟩ := p255169
    subst e255170
    subst e255171
    have f255176 := f255160.tr f255173 rfl
    show wp _ _ 194 9 [(1, vI z255148), (0, .ref r0)] [] _ H255168 _
    have u255177 := RC_k p255174
    refine wp_of e194 c194_9 (rw_iload_n (pc' := 10) (z := z255148) rfl rfl ?_)
    exact wp_ireturn e194 c194_10 rfl ⟨rfl, w255172, f255176, z255148, rfl, ⟨by omega, by omega⟩, (Or.inl ⟨by omega, by omega, by omega, by omega, p255174⟩)⟩
  · have f255178 := f0.tr f255147 rfl
    show wp _ _ 194 4 [(0, .ref r0)] [vI z255148] _ H255142 _
    have u255179 := RO_k a255159
    refine wp_of e194 c194_4 (rw_istore_n (pc' := 5) (z := z255148) (L' := [(1, vI z255148), (0, .ref r0)]) rfl rfl rfl ?_)
    refine wp_of e194 c194_5 (rw_aload_n (pc' := 6) (v := .ref r0) rfl rfl rfl ?_)
    refine wp_of e194 c194_6 (xc_V (pc' := 9) (r := r0) (as := []) (st := []) (lm_9_118) rfl rfl (Nat.le_of_ble_eq_true rfl) w255146 g0 sh_42 (by decide) rfl (by decide) (u_172_o (fo := (xkn B n q d)) (po := q) w255146 g0 a255159) (fun R255180 T255181 H255182 p255183 => ?_))
    obtain ⟨e255184, e255186, e255185, p255187⟩ := p255183
    subst e255184
    subst e255185
    subst e255186
    show wp _ _ 194 9 [(1, vI z255148), (0, .ref r0)] [] _ H255142 _
    have u255189 := RO_k p255187
    refine wp_of e194 c194_9 (rw_iload_n (pc' := 10) (z := z255148) rfl rfl ?_)
    exact wp_ireturn e194 c194_10 rfl ⟨rfl, w255146, f255178, z255148, rfl, ⟨by omega, by omega⟩, (Or.inr ⟨by omega, by omega, RO_eq p255187 (by omega) (by omega)⟩)⟩
/-! StrikeAwakeModel.readKnown()I o -/
abbrev uq_194_o (r0 : Nat) (rp : Nat) (rb : Nat) (fo : Int) (po : Int) (T : wq_T) (H : wq_H) : Option Value → wq_T → wq_H → Prop := fun r T' H' => T = T' ∧ H = H' ∧ ∃ z : Int, some (vI z) = r ∧ (0 ≤ z ∧ z ≤ 5) ∧ (((z = 0) ∧ RO T H r0 fo po))
set_option maxHeartbeats 4000000 in
theorem u_194_o {kt : Nat → Option mc_E} {T : wq_T} {H : wq_H} {r0 : Nat} {rp : Nat} {rb : Nat} {fo : Int} {po : Int} (hW : WT T H) (g0 : T.2.2.2 r0 = some 42) (qrp : H r0 4 = (rp : Int)) (grp : T.2.2.2 rp = some 54) (qrb : H r0 5 = (rb : Int)) (grb : T.2.2.2 rb = some 43) (hRO_r0 : RO T H r0 fo po) : wpc kt 5 194 [.ref r0] T H (uq_194_o r0 rp rb fo po T H) := by
  refine wp_enter e194 (Nat.le_of_ble_eq_true rfl) rfl ?_
  show wp _ _ 194 0 [(0, .ref r0)] [] _ H _
  have u255211 := RO_k hRO_r0
  refine wp_of e194 c194_0 (rw_aload_n (pc' := 1) (v := .ref r0) rfl rfl rfl ?_)
  refine wp_of e194 c194_1 (xc_V (pc' := 4) (r := r0) (as := []) (st := []) (lm_9_176) rfl rfl (Nat.le_of_ble_eq_true rfl) hW g0 sh_42 (by decide) rfl (by decide) (u_195_o (fo := fo) (po := po) hW g0 qrp grp hRO_r0) (fun R255212 T255213 H255214 p255215 => ?_))
  obtain ⟨e255216, e255218, z255219, e255217, b255220, p255221⟩ := p255215
  subst e255216
  subst e255217
  subst e255218
  obtain ⟨a255222, a255223⟩ := p255221
  show wp _ _ 194 4 [(0, .ref r0)] [vI z255219] _ H _
  have u255224 := RO_k a255223
  refine wp_of e194 c194_4 (rw_istore_n (pc' := 5) (z := z255219) (L' := [(1, vI z255219), (0, .ref r0)]) rfl rfl rfl ?_)
  refine wp_of e194 c194_5 (rw_aload_n (pc' := 6) (v := .ref r0) rfl rfl rfl ?_)
  refine wp_of e194 c194_6 (xc_V (pc' := 9) (r := r0) (as := []) (st := []) (lm_9_118) rfl rfl (Nat.le_of_ble_eq_true rfl) hW g0 sh_42 (by decide) rfl (by decide) (u_172_o (fo := fo) (po := po) hW g0 a255223) (fun R255225 T255226 H255227 p255228 => ?_))
  obtain ⟨e255229, e255231, e255230, p255232⟩ := p255228
  subst e255229
  subst e255230
  subst e255231
  show wp _ _ 194 9 [(1, vI z255219), (0, .ref r0)] [] _ H _
  have u255234 := RO_k p255232
  refine wp_of e194 c194_9 (rw_iload_n (pc' := 10) (z := z255219) rfl rfl ?_)
  exact wp_ireturn e194 c194_10 rfl ⟨rfl, rfl, z255219, rfl, ⟨by omega, by omega⟩, ⟨by omega, p255232⟩⟩
/-! StrikeAwakeModel.hoursFrom(II)I  -/
abbrev uq_202 (a0 : Int) (a1 : Int) (lo : Int) (hi : Int) (T : wq_T) (H : wq_H) : Option Value → wq_T → wq_H → Prop := fun r T' H' => T = T' ∧ H = H' ∧ ∃ z : Int, some (vI z) = r ∧ ((-2147483648) ≤ z ∧ z ≤ 2147483647) ∧ (((z = xhs lo hi)))
set_option maxHeartbeats 4000000 in
theorem u_202 {kt : Nat → Option mc_E} {T : wq_T} {H : wq_H} {a0 : Int} {a1 : Int} {lo : Int} {hi : Int} (hW : WT T H) (i0 : 0 ≤ a0 ∧ a0 ≤ 24) (i1 : 0 ≤ a1 ∧ a1 ≤ 40) (p0 : a0 = lo) (p1 : a1 = hi) (p2 : lo ≤ hi) : wpc kt 1 202 [vI a0, vI a1] T H (uq_202 a0 a1 lo hi T H) := by
  refine wp_enter e202 (Nat.le_of_ble_eq_true rfl) rfl ?_
  show wp _ _ 202 0 [(0, vI a0), (1, vI a1)] [] _ H _
  refine wp_of e202 c202_0 (rw_iconst (pc' := 1) rfl ?_)
  refine wp_of e202 c202_1 (rw_istore_n (pc' := 2) (z := 0) (L' := [(2, vI 0), (0, vI a0), (1, vI a1)]) rfl rfl rfl ?_)
  refine wp_of e202 c202_2 (rw_iload_n (pc' := 3) (z := a0) rfl rfl ?_)
  refine wp_of e202 c202_3 (rw_istore_n (pc' := 4) (z := a0) (L' := [(3, vI a0), (2, vI 0), (0, vI a0), (1, vI a1)]) rfl rfl rfl ?_)
  have lp255266 : ∀ (n255267 : Nat) (v255269 : Int) (v255270 : Int), (0 ≤ v255269 ∧ v255269 ≤ 24) → (0 ≤ v255270 ∧ v255270 ≤ 16777215) → (v255270 = xhs lo v255269) → (lo ≤ v255269) → (v255269 ≤ hi) → (24 - v255269).toNat = n255267 → wp kt 0 202 4 [(3, vI v255269), (2, vI v255270), (1, vI a1)] [] T H (uq_202 a0 a1 lo hi T H) := by
    intro n255267
    induction n255267 using Nat.strongRecOn with
    | _ n255267 ih255268 =>
      intro v255269 v255270 b255273 b255274 x255275 x255276 x255277 m255278
      refine wp_of e202 c202_4 (rw_iload_n (pc' := 5) (z := v255269) rfl rfl ?_)
      refine wp_of e202 c202_5 (rw_iload_n (pc' := 6) (z := a1) rfl rfl ?_)
      refine wp_of e202 c202_6 (rw_icmp_ge (p1 := 27) (p2 := 9) (by decide) rfl ⟨by omega, by omega⟩ ⟨by omega, by omega⟩ (fun c255279 => ?_) (fun c255279 => ?_))
      · have : xhs lo v255269 = xhs lo hi := by
          by_cases e : v255269 = hi
          · rw [e]
          · rw [show v255269 = 24 by omega]
            exact (xhs_24 (by omega)).symm
        refine wp_of e202 c202_27 (rw_iload_n (pc' := 28) (z := v255270) rfl rfl ?_)
        exact wp_ireturn e202 c202_28 rfl ⟨rfl, rfl, v255270, rfl, ⟨by omega, by omega⟩, (by omega)⟩
      · refine wp_of e202 c202_9 (rw_iload_n (pc' := 10) (z := v255269) rfl rfl ?_)
        refine wp_of e202 c202_10 (rw_bipush (pc' := 12) (z := 24) rfl (by decide) ?_)
        refine wp_of e202 c202_12 (rw_icmp_ge (p1 := 27) (p2 := 15) (by decide) rfl ⟨by omega, by omega⟩ ⟨by omega, by omega⟩ (fun c255280 => ?_) (fun c255280 => ?_))
        · have : xhs lo v255269 = xhs lo hi := by
            by_cases e : v255269 = hi
            · rw [e]
            · rw [show v255269 = 24 by omega]
              exact (xhs_24 (by omega)).symm
          refine wp_of e202 c202_27 (rw_iload_n (pc' := 28) (z := v255270) rfl rfl ?_)
          exact wp_ireturn e202 c202_28 rfl ⟨rfl, rfl, v255270, rfl, ⟨by omega, by omega⟩, (by omega)⟩
        · refine wp_of e202 c202_15 (rw_iload_n (pc' := 16) (z := v255270) rfl rfl ?_)
          refine wp_of e202 c202_16 (rw_iconst (pc' := 17) rfl ?_)
          refine wp_of e202 c202_17 (rw_iload_n (pc' := 18) (z := v255269) rfl rfl ?_)
          refine wp_of e202 c202_18 (rw_ishl (pc' := 19) rfl ?_)
          obtain ⟨v255281, e255282⟩ : ∃ x : Int, x = wq_shl 1 v255269 := ⟨_, rfl⟩
          rw [← e255282]
          have b255283 : 1 ≤ v255281 ∧ v255281 ≤ 8388608 := by
            rw [e255282]
            exact wq_shl1_24 ⟨by omega, by omega⟩
          refine wp_of e202 c202_19 (rw_ior (pc' := 20) rfl ?_)
          obtain ⟨v255284, e255285⟩ : ∃ x : Int, x = wq_or v255270 v255281 := ⟨_, rfl⟩
          rw [← e255285]
          have b255286 : 0 ≤ v255284 ∧ v255284 ≤ 16777215 := by
            rw [e255285]
            exact wq_or_24 ⟨by omega, by omega⟩ ⟨by omega, by omega⟩
          refine wp_of e202 c202_20 (rw_istore_n (pc' := 21) (z := v255284) (L' := [(2, vI v255284), (3, vI v255269), (1, vI a1)]) rfl rfl rfl ?_)
          refine wp_of e202 c202_21 (rw_iinc (pc' := 24) (z := v255269) (L' := [(3, vI (v255269 + 1)), (2, vI v255284), (1, vI a1)]) rfl rfl rfl rfl ?_)
          refine wp_of e202 c202_24 (rw_goto (p1 := 4) (by decide) ?_)
          have : xhs lo (v255269 + 1) = v255284 := by
            have e := @hf_ok lo v255269 (by omega) (by omega) (by omega) (by omega)
            rw [← e]
            subst_vars
            rfl
          exact wp_lc (ks := [3, 2, 1]) (wl_c rfl (wl_c rfl (wl_c rfl wl_n))) rfl (by decide) (ih255268 _ (by omega) (v255269 + 1) v255284 ⟨by omega, by omega⟩ ⟨by omega, by omega⟩ (by omega) (by omega) (by omega) rfl)
  have : xhs lo a0 = 0 := by
    rw [show lo = a0 by omega]
    exact hf_z (by omega) (by omega)
  exact wp_lc (ks := [3, 2, 0, 1]) (wl_c rfl (wl_c rfl (wl_c rfl wl_n))) rfl (by decide) (lp255266 _ a0 0 ⟨by omega, by omega⟩ ⟨by omega, by omega⟩ (by omega) (by omega) (by omega) rfl)
/-! StrikeAwakeModel.readLaw()V k -/
abbrev uq_180_k (r0 : Nat) (rp : Nat) (rb : Nat) (B : Nat → Int) (n : Int) (q : Int) (d : xD) (T : wq_T) (H : wq_H) : Option Value → wq_T → wq_H → Prop := fun r T' H' => T = T' ∧ WT T H' ∧ wfr [(54, 0), (54, 1), (54, 2), (42, 8), (42, 9), (42, 10), (42, 11), (42, 12), (42, 13), (42, 14), (42, 15)] T H H' ∧ none = r ∧ ((((xl0 B n q d).1 = 0) ∧ ((xl0 B n q d).2.2 = (xN B n (xN B n (xN B n (xN B n (xN B n (xN B n (xN B n q)))))))) ∧ (q ≤ (xN B n (xN B n (xN B n (xN B n (xN B n (xN B n (xN B n q)))))))) ∧ RC T H' r0 B n (xN B n (xN B n (xN B n (xN B n (xN B n (xN B n (xN B n q))))))) ∧ DM T H' rp r0 (xdlaw B n (xN B n q) d)) ∨ (((xl0 B n q d).1 ≠ 0) ∧ RO T H' r0 ((xl0 B n q d).1) ((xl0 B n q d).2.1)))
set_option maxHeartbeats 4000000 in
theorem u_180_k {kt : Nat → Option mc_E} {T : wq_T} {H : wq_H} {r0 : Nat} {rp : Nat} {rb : Nat} {B : Nat → Int} {n : Int} {q : Int} {d : xD} (hW : WT T H) (g0 : T.2.2.2 r0 = some 42) (qrp : H r0 4 = (rp : Int)) (grp : T.2.2.2 rp = some 54) (qrb : H r0 5 = (rb : Int)) (grb : T.2.2.2 rb = some 43) (p0 : xK B n q = 1) (hRC_r0 : RC T H r0 B n q) (hDM_rp : DM T H rp r0 d) : wpc kt 5 180 [.ref r0] T H (uq_180_k r0 rp rb B n q d T H) := by
  refine wp_enter e180 (Nat.le_of_ble_eq_true rfl) rfl ?_
  have f0 : wfr [(54, 0), (54, 1), (54, 2), (42, 8), (42, 9), (42, 10), (42, 11), (42, 12), (42, 13), (42, 14), (42, 15)] T H H := wfr.rf
  show wp _ _ 180 0 [(0, .ref r0)] [] _ H _
  have u255678 := RC_k hRC_r0
  have u255679 := DM_k hDM_rp
  have h255680 : MA9 T H rp (d 1) := hDM_rp.2.2.2.1
  have h255681 : MA10 T H rp (d 2) := hDM_rp.2.2.2.2.1
  have h255682 : MA11 T H rp (d 3) := hDM_rp.2.2.2.2.2.1
  have h255683 : MA12 T H rp (d 4) := hDM_rp.2.2.2.2.2.2.1
  have h255684 : MA13 T H rp (d 5) := hDM_rp.2.2.2.2.2.2.2.1
  have h255685 : MA14 T H rp (d 6) := hDM_rp.2.2.2.2.2.2.2.2.1
  have h255686 : MA15 T H rp (d 7) := hDM_rp.2.2.2.2.2.2.2.2.2.1
  have h255687 : MA16 T H rp (d 8) := hDM_rp.2.2.2.2.2.2.2.2.2.2.1
  have h255688 : MA17 T H rp (d 9) := hDM_rp.2.2.2.2.2.2.2.2.2.2.2.1
  have h255689 : MA18 T H rp (d 10) := hDM_rp.2.2.2.2.2.2.2.2.2.2.2.2.1
  have h255690 : MA19 T H rp (d 11) := hDM_rp.2.2.2.2.2.2.2.2.2.2.2.2.2.1
  have h255691 : MA20 T H rp (d 12) := hDM_rp.2.2.2.2.2.2.2.2.2.2.2.2.2.2.1
  have h255692 : MA21 T H rp (d 13) := hDM_rp.2.2.2.2.2.2.2.2.2.2.2.2.2.2.2.1
  have h255693 : MA22 T H rp (d 14) := hDM_rp.2.2.2.2.2.2.2.2.2.2.2.2.2.2.2.2.1
  have h255694 : MA23 T H rp (d 15) := hDM_rp.2.2.2.2.2.2.2.2.2.2.2.2.2.2.2.2.2.1
  have h255695 : MA25 T H rp (d 17) := hDM_rp.2.2.2.2.2.2.2.2.2.2.2.2.2.2.2.2.2.2.1
  have h255696 : MA26 T H rp (d 16) := hDM_rp.2.2.2.2.2.2.2.2.2.2.2.2.2.2.2.2.2.2.2
  refine wp_of e180 c180_0 (rw_aload_n (pc' := 1) (v := .ref r0) rfl rfl rfl ?_)
  refine wp_of e180 c180_1 (xg_K (pc' := 4) lf_9_166 hW g0 sh_42 (by decide) (by decide) rfl qrp rfl ?_)
  refine wp_of e180 c180_4 (xg_I (pc' := 7) lf_9_185 hW grp sh_54 (by decide) (by decide) ty_54_0 rfl rfl (fun b255697 b255698 => ?_))
  refine wp_of e180 c180_7 (rw_if_le (p1 := 15) (p2 := 10) (by decide) rfl ⟨by omega, by omega⟩ (fun c255699 => ?_) (fun c255699 => ?_))
  · refine wp_of e180 c180_15 (rw_aload_n (pc' := 16) (v := .ref r0) rfl rfl rfl ?_)
    have u255700 := RC_a hRC_r0
    have h255701 : TM T H rb B := RC_tm hRC_r0 qrb
    refine wp_of e180 c180_16 (xc_V (pc' := 19) (r := r0) (as := []) (st := []) (lm_9_118) rfl rfl (Nat.le_of_ble_eq_true rfl) hW g0 sh_42 (by decide) rfl (by decide) (u_172_k (B := B) (n := n) (a := (xE B n q)) (q := (xN B n q)) hW g0 qrb grb (by omega) (by omega) (by omega) (by omega) (by omega) (rfl) h255701) (fun R255702 T255703 H255704 p255705 => ?_))
    obtain ⟨e255706, w255708, f255709, e255707, p255710⟩ := p255705
    subst e255706
    subst e255707
    have f255712 := f0.tr f255709 rfl
    show wp _ _ 180 19 [(0, .ref r0)] [] _ H255704 _
    have u255713 := RC_k p255710
    refine wp_of e180 c180_19 (rw_aload_n (pc' := 20) (v := .ref r0) rfl rfl rfl ?_)
    refine wp_of e180 c180_20 (rw_ldcS (pc' := 22) (k := 73) rfl rfl rfl rfl ?_)
    refine wp_of e180 c180_22 (rw_iconst (pc' := 23) rfl ?_)
    refine wp_of e180 c180_23 (rw_bipush (pc' := 25) (z := 24) rfl (by decide) ?_)
    have k255714 : H255704 r0 5 = H r0 5 := (f255709 r0 5 _ g0 rfl)
    have q255715 : H255704 r0 5 = (rb : Int) := k255714.trans qrb
    refine wp_of e180 c180_25 (xc_V (pc' := 28) (r := r0) (as := [.ref 73, vI 1, vI 24]) (st := []) (lm_9_216) rfl rfl (Nat.le_of_ble_eq_true rfl) w255708 g0 sh_42 (by decide) rfl (by decide) (u_182_k (B := B) (n := n) (q := ((xN B n q))) (kk := 8902227) (lo := 1) (hi := 24) w255708 g0 rfl ⟨by omega, by omega⟩ ⟨by omega, by omega⟩ q255715 grb (by decide +kernel) (by omega) (by omega) p255710) (fun R255716 T255717 H255718 p255719 => ?_))
    obtain ⟨e255720, w255722, f255723, z255724, e255721, b255725, p255726⟩ := p255719
    subst e255720
    subst e255721
    rcases p255726 with ⟨a255727, a255728, a255729, a255730, a255731, a255732⟩ | ⟨a255733, a255734, a255735⟩ | ⟨a255736, a255737, a255738, a255739⟩
    · have f255740 := f255712.tr f255723 rfl
      show wp _ _ 180 28 [(0, .ref r0)] [vI z255724] _ H255718 _
      have u255741 := RC_k a255732
      refine wp_of e180 c180_28 (rw_istore_n (pc' := 29) (z := z255724) (L' := [(1, vI z255724), (0, .ref r0)]) rfl rfl rfl ?_)
      refine wp_of e180 c180_29 (rw_aload_n (pc' := 30) (v := .ref r0) rfl rfl rfl ?_)
      have k255742 : H255718 r0 4 = H r0 4 := ((f255723 r0 4 _ g0 rfl).trans (f255709 r0 4 _ g0 rfl))
      have q255743 : H255718 r0 4 = (rp : Int) := k255742.trans qrp
      refine wp_of e180 c180_30 (xg_K (pc' := 33) lf_9_166 w255722 g0 sh_42 (by decide) (by decide) rfl q255743 rfl ?_)
      refine wp_of e180 c180_33 (rw_aload_n (pc' := 34) (v := .ref r0) rfl rfl rfl ?_)
      refine wp_of e180 c180_34 (rw_ldcS (pc' := 36) (k := 74) rfl rfl rfl rfl ?_)
      refine wp_of e180 c180_36 (rw_iconst (pc' := 37) rfl ?_)
      refine wp_of e180 c180_37 (rw_bipush (pc' := 39) (z := 9) rfl (by decide) ?_)
      have k255744 : H255718 r0 5 = H255704 r0 5 := (f255723 r0 5 _ g0 rfl)
      have q255745 : H255718 r0 5 = (rb : Int) := k255744.trans q255715
      refine wp_of e180 c180_39 (xc_V (pc' := 42) (r := r0) (as := [.ref 74, vI 0, vI 9]) (st := [.ref rp]) (lm_9_216) rfl rfl (Nat.le_of_ble_eq_true rfl) w255722 g0 sh_42 (by decide) rfl (by decide) (u_182_k (B := B) (n := n) (q := ((xN B n (xN B n ((xN B n q)))))) (kk := 72983685) (lo := 0) (hi := 9) w255722 g0 rfl ⟨by omega, by omega⟩ ⟨by omega, by omega⟩ q255745 grb (by decide +kernel) (by omega) (by omega) a255732) (fun R255746 T255747 H255748 p255749 => ?_))
      obtain ⟨e255750, w255752, f255753, z255754, e255751, b255755, p255756⟩ := p255749
      subst e255750
      subst e255751
      rcases p255756 with ⟨a255757, a255758, a255759, a255760, a255761, a255762⟩ | ⟨a255763, a255764, a255765⟩ | ⟨a255766, a255767, a255768, a255769⟩
      · have f255770 := f255740.tr f255753 rfl
        show wp _ _ 180 42 [(1, vI z255724), (0, .ref r0)] [vI z255754, .ref rp] _ H255748 _
        have u255771 := RC_k a255762
        refine wp_of e180 c180_42 (xp_I (pc' := 45) lf_9_222 w255752 grp sh_54 (by decide) (by decide) ty_54_1 rfl rfl (by omega) (by omega) ⟨by omega, by omega⟩ rfl (fun H255772 e255773 w255774 => ?_))
        have f255775 := f255770.put' e255773 grp rfl
        have k255776 : H255772 rp 1 = z255754 := wq_u_s e255773
        refine wp_of e180 c180_45 (rw_aload_n (pc' := 46) (v := .ref r0) rfl rfl rfl ?_)
        have k255777 : H255772 r0 4 = H255718 r0 4 := ((wq_u_t e255773 grp g0 rfl 4).trans (f255753 r0 4 _ g0 rfl))
        have q255778 : H255772 r0 4 = (rp : Int) := k255777.trans q255743
        refine wp_of e180 c180_46 (xg_K (pc' := 49) lf_9_166 w255774 g0 sh_42 (by decide) (by decide) rfl q255778 rfl ?_)
        refine wp_of e180 c180_49 (rw_aload_n (pc' := 50) (v := .ref r0) rfl rfl rfl ?_)
        refine wp_of e180 c180_50 (rw_ldcS (pc' := 52) (k := 75) rfl rfl rfl rfl ?_)
        refine wp_of e180 c180_52 (rw_iconst (pc' := 53) rfl ?_)
        refine wp_of e180 c180_53 (rw_iconst (pc' := 54) rfl ?_)
        have k255779 : H255772 r0 5 = H255718 r0 5 := ((wq_u_t e255773 grp g0 rfl 5).trans (f255753 r0 5 _ g0 rfl))
        have q255780 : H255772 r0 5 = (rb : Int) := k255779.trans q255745
        have h255781 : RC T H255772 r0 B n (xN B n (xN B n ((xN B n (xN B n ((xN B n q))))))) := (RC_fr w255752 g0 ((wfr.rf (l := [(54, 1)])).put' e255773 grp rfl) rfl a255762)
        refine wp_of e180 c180_54 (xc_V (pc' := 57) (r := r0) (as := [.ref 75, vI 0, vI 3]) (st := [.ref rp]) (lm_9_216) rfl rfl (Nat.le_of_ble_eq_true rfl) w255774 g0 sh_42 (by decide) rfl (by decide) (u_182_k (B := B) (n := n) (q := ((xN B n (xN B n ((xN B n (xN B n ((xN B n q))))))))) (kk := 15558) (lo := 0) (hi := 3) w255774 g0 rfl ⟨by omega, by omega⟩ ⟨by omega, by omega⟩ q255780 grb (by decide +kernel) (by omega) (by omega) h255781) (fun R255782 T255783 H255784 p255785 => ?_))
        obtain ⟨e255786, w255788, f255789, z255790, e255787, b255791, p255792⟩ := p255785
        subst e255786
        subst e255787
        rcases p255792 with ⟨a255793, a255794, a255795, a255796, a255797, a255798⟩ | ⟨a255799, a255800, a255801⟩ | ⟨a255802, a255803, a255804, a255805⟩
        · have f255806 := f255775.tr f255789 rfl
          show wp _ _ 180 57 [(1, vI z255724), (0, .ref r0)] [vI z255790, .ref rp] _ H255784 _
          have u255807 := RC_k a255798
          refine wp_of e180 c180_57 (xp_I (pc' := 60) lf_9_226 w255788 grp sh_54 (by decide) (by decide) ty_54_2 rfl rfl (by omega) (by omega) ⟨by omega, by omega⟩ rfl (fun H255808 e255809 w255810 => ?_))
          have f255811 := f255806.put' e255809 grp rfl
          have k255812 : H255808 rp 2 = z255790 := wq_u_s e255809
          refine wp_of e180 c180_60 (rw_aload_n (pc' := 61) (v := .ref r0) rfl rfl rfl ?_)
          have k255813 : H255808 r0 9 = H255784 r0 9 := (wq_u_t e255809 grp g0 rfl 9)
          refine wp_of e180 c180_61 (xg_I (pc' := 64) lf_9_75 w255810 g0 sh_42 (by decide) (by decide) ty_42_9 rfl rfl (fun b255814 b255815 => ?_))
          refine wp_of e180 c180_64 (rw_iconst (pc' := 65) rfl ?_)
          refine wp_of e180 c180_65 (rw_icmp_eq (p1 := 76) (p2 := 68) (by decide) rfl ⟨by omega, by omega⟩ ⟨by omega, by omega⟩ (fun c255816 => ?_) (fun c255816 => ?_))
          · exfalso
            omega
          · refine wp_of e180 c180_68 (rw_aload_n (pc' := 69) (v := .ref r0) rfl rfl rfl ?_)
            have k255817 : H255808 r0 4 = H255772 r0 4 := ((wq_u_t e255809 grp g0 rfl 4).trans (f255789 r0 4 _ g0 rfl))
            have q255818 : H255808 r0 4 = (rp : Int) := k255817.trans q255778
            refine wp_of e180 c180_69 (xg_K (pc' := 72) lf_9_166 w255810 g0 sh_42 (by decide) (by decide) rfl q255818 rfl ?_)
            refine wp_of e180 c180_72 (rw_iload_n (pc' := 73) (z := z255724) rfl rfl ?_)
            refine wp_of e180 c180_73 (xp_I (pc' := 76) lf_9_185 w255810 grp sh_54 (by decide) (by decide) ty_54_0 rfl rfl (by omega) (by omega) ⟨by omega, by omega⟩ rfl (fun H255819 e255820 w255821 => ?_))
            have f255822 := f255811.put' e255820 grp rfl
            have k255823 : H255819 rp 0 = z255724 := wq_u_s e255820
            have k255824 : H255819 rp 1 = H255772 rp 1 := ((wq_u_j e255820 rfl).trans ((wq_u_j e255809 rfl).trans (f255789 rp 1 _ grp rfl)))
            have k255825 : H255819 rp 2 = H255808 rp 2 := (wq_u_j e255820 rfl)
            have k255826 : H255819 rp 3 = H rp 3 := ((wq_u_j e255820 rfl).trans ((wq_u_j e255809 rfl).trans ((f255789 rp 3 _ grp rfl).trans ((wq_u_j e255773 rfl).trans ((f255753 rp 3 _ grp rfl).trans ((f255723 rp 3 _ grp rfl).trans (f255709 rp 3 _ grp rfl)))))))
            have k255827 : H255819 rp 4 = H rp 4 := ((wq_u_j e255820 rfl).trans ((wq_u_j e255809 rfl).trans ((f255789 rp 4 _ grp rfl).trans ((wq_u_j e255773 rfl).trans ((f255753 rp 4 _ grp rfl).trans ((f255723 rp 4 _ grp rfl).trans (f255709 rp 4 _ grp rfl)))))))
            have k255828 : H255819 rp 5 = H rp 5 := ((wq_u_j e255820 rfl).trans ((wq_u_j e255809 rfl).trans ((f255789 rp 5 _ grp rfl).trans ((wq_u_j e255773 rfl).trans ((f255753 rp 5 _ grp rfl).trans ((f255723 rp 5 _ grp rfl).trans (f255709 rp 5 _ grp rfl)))))))
            have k255829 : H255819 rp 6 = H rp 6 := ((wq_u_j e255820 rfl).trans ((wq_u_j e255809 rfl).trans ((f255789 rp 6 _ grp rfl).trans ((wq_u_j e255773 rfl).trans ((f255753 rp 6 _ grp rfl).trans ((f255723 rp 6 _ grp rfl).trans (f255709 rp 6 _ grp rfl)))))))
            have k255830 : H255819 rp 7 = H rp 7 := ((wq_u_j e255820 rfl).trans ((wq_u_j e255809 rfl).trans ((f255789 rp 7 _ grp rfl).trans ((wq_u_j e255773 rfl).trans ((f255753 rp 7 _ grp rfl).trans ((f255723 rp 7 _ grp rfl).trans (f255709 rp 7 _ grp rfl)))))))
            have k255831 : H255819 rp 8 = H rp 8 := ((wq_u_j e255820 rfl).trans ((wq_u_j e255809 rfl).trans ((f255789 rp 8 _ grp rfl).trans ((wq_u_j e255773 rfl).trans ((f255753 rp 8 _ grp rfl).trans ((f255723 rp 8 _ grp rfl).trans (f255709 rp 8 _ grp rfl)))))))
            have k255832 : H255819 r0 16 = H r0 16 := ((wq_u_t e255820 grp g0 rfl 16).trans ((wq_u_t e255809 grp g0 rfl 16).trans ((f255789 r0 16 _ g0 rfl).trans ((wq_u_t e255773 grp g0 rfl 16).trans ((f255753 r0 16 _ g0 rfl).trans ((f255723 r0 16 _ g0 rfl).trans (f255709 r0 16 _ g0 rfl)))))))
            have o255833 : (xl0 B n q d) = (0, (xN B n q), (xN B n (xN B n ((xN B n (xN B n ((xN B n (xN B n ((xN B n q))))))))))) := by
              unfold xl0 xlaw
              repeat first | rw [xs_0 (by omega)] | rw [xs_1 (by omega)] | rw [if_pos (by omega)] | rw [if_neg (by omega)]
              first | done | rfl | assumption | (exfalso; omega) | (refine Prod.ext ?_ (Prod.ext ?_ ?_) <;> (try dsimp only) <;> omega)
            have o255833a : ((xl0 B n q d)).1 = 0 := by rw [o255833]
            have o255833b : ((xl0 B n q d)).2.1 = (xN B n q) := by rw [o255833]
            have o255833c : ((xl0 B n q d)).2.2 = (xN B n (xN B n ((xN B n (xN B n ((xN B n (xN B n ((xN B n q)))))))))) := by rw [o255833]
            have _l := @xdlaw_v B n (xN B n q) d
            have h255834 : RC T H255819 r0 B n (xN B n (xN B n ((xN B n (xN B n ((xN B n (xN B n ((xN B n q)))))))))) := (RC_fr w255810 g0 ((wfr.rf (l := [(54, 0)])).put' e255820 grp rfl) rfl (RC_fr w255788 g0 ((wfr.rf (l := [(54, 2)])).put' e255809 grp rfl) rfl a255798))
            have h255835 : MA9 T H255819 rp (d 1) := (MA9_fr w255810 grp ((wfr.rf (l := [(54, 0)])).put' e255820 grp rfl) rfl (MA9_fr w255788 grp ((wfr.rf (l := [(54, 2)])).put' e255809 grp rfl) rfl (MA9_fr w255774 grp f255789 rfl (MA9_fr w255752 grp ((wfr.rf (l := [(54, 1)])).put' e255773 grp rfl) rfl (MA9_fr w255722 grp f255753 rfl (MA9_fr w255708 grp f255723 rfl (MA9_fr hW grp f255709 rfl h255680)))))))
            have h255836 : MA10 T H255819 rp (d 2) := (MA10_fr w255810 grp ((wfr.rf (l := [(54, 0)])).put' e255820 grp rfl) rfl (MA10_fr w255788 grp ((wfr.rf (l := [(54, 2)])).put' e255809 grp rfl) rfl (MA10_fr w255774 grp f255789 rfl (MA10_fr w255752 grp ((wfr.rf (l := [(54, 1)])).put' e255773 grp rfl) rfl (MA10_fr w255722 grp f255753 rfl (MA10_fr w255708 grp f255723 rfl (MA10_fr hW grp f255709 rfl h255681)))))))
            have h255837 : MA11 T H255819 rp (d 3) := (MA11_fr w255810 grp ((wfr.rf (l := [(54, 0)])).put' e255820 grp rfl) rfl (MA11_fr w255788 grp ((wfr.rf (l := [(54, 2)])).put' e255809 grp rfl) rfl (MA11_fr w255774 grp f255789 rfl (MA11_fr w255752 grp ((wfr.rf (l := [(54, 1)])).put' e255773 grp rfl) rfl (MA11_fr w255722 grp f255753 rfl (MA11_fr w255708 grp f255723 rfl (MA11_fr hW grp f255709 rfl h255682)))))))
            have h255838 : MA12 T H255819 rp (d 4) := (MA12_fr w255810 grp ((wfr.rf (l := [(54, 0)])).put' e255820 grp rfl) rfl (MA12_fr w255788 grp ((wfr.rf (l := [(54, 2)])).put' e255809 grp rfl) rfl (MA12_fr w255774 grp f255789 rfl (MA12_fr w255752 grp ((wfr.rf (l := [(54, 1)])).put' e255773 grp rfl) rfl (MA12_fr w255722 grp f255753 rfl (MA12_fr w255708 grp f255723 rfl (MA12_fr hW grp f255709 rfl h255683)))))))
            have h255839 : MA13 T H255819 rp (d 5) := (MA13_fr w255810 grp ((wfr.rf (l := [(54, 0)])).put' e255820 grp rfl) rfl (MA13_fr w255788 grp ((wfr.rf (l := [(54, 2)])).put' e255809 grp rfl) rfl (MA13_fr w255774 grp f255789 rfl (MA13_fr w255752 grp ((wfr.rf (l := [(54, 1)])).put' e255773 grp rfl) rfl (MA13_fr w255722 grp f255753 rfl (MA13_fr w255708 grp f255723 rfl (MA13_fr hW grp f255709 rfl h255684)))))))
            have h255840 : MA14 T H255819 rp (d 6) := (MA14_fr w255810 grp ((wfr.rf (l := [(54, 0)])).put' e255820 grp rfl) rfl (MA14_fr w255788 grp ((wfr.rf (l := [(54, 2)])).put' e255809 grp rfl) rfl (MA14_fr w255774 grp f255789 rfl (MA14_fr w255752 grp ((wfr.rf (l := [(54, 1)])).put' e255773 grp rfl) rfl (MA14_fr w255722 grp f255753 rfl (MA14_fr w255708 grp f255723 rfl (MA14_fr hW grp f255709 rfl h255685)))))))
            have h255841 : MA15 T H255819 rp (d 7) := (MA15_fr w255810 grp ((wfr.rf (l := [(54, 0)])).put' e255820 grp rfl) rfl (MA15_fr w255788 grp ((wfr.rf (l := [(54, 2)])).put' e255809 grp rfl) rfl (MA15_fr w255774 grp f255789 rfl (MA15_fr w255752 grp ((wfr.rf (l := [(54, 1)])).put' e255773 grp rfl) rfl (MA15_fr w255722 grp f255753 rfl (MA15_fr w255708 grp f255723 rfl (MA15_fr hW grp f255709 rfl h255686)))))))
            have h255842 : MA16 T H255819 rp (d 8) := (MA16_fr w255810 grp ((wfr.rf (l := [(54, 0)])).put' e255820 grp rfl) rfl (MA16_fr w255788 grp ((wfr.rf (l := [(54, 2)])).put' e255809 grp rfl) rfl (MA16_fr w255774 grp f255789 rfl (MA16_fr w255752 grp ((wfr.rf (l := [(54, 1)])).put' e255773 grp rfl) rfl (MA16_fr w255722 grp f255753 rfl (MA16_fr w255708 grp f255723 rfl (MA16_fr hW grp f255709 rfl h255687)))))))
            have h255843 : MA17 T H255819 rp (d 9) := (MA17_fr w255810 grp ((wfr.rf (l := [(54, 0)])).put' e255820 grp rfl) rfl (MA17_fr w255788 grp ((wfr.rf (l := [(54, 2)])).put' e255809 grp rfl) rfl (MA17_fr w255774 grp f255789 rfl (MA17_fr w255752 grp ((wfr.rf (l := [(54, 1)])).put' e255773 grp rfl) rfl (MA17_fr w255722 grp f255753 rfl (MA17_fr w255708 grp f255723 rfl (MA17_fr hW grp f255709 rfl h255688)))))))
            have h255844 : MA18 T H255819 rp (d 10) := (MA18_fr w255810 grp ((wfr.rf (l := [(54, 0)])).put' e255820 grp rfl) rfl (MA18_fr w255788 grp ((wfr.rf (l := [(54, 2)])).put' e255809 grp rfl) rfl (MA18_fr w255774 grp f255789 rfl (MA18_fr w255752 grp ((wfr.rf (l := [(54, 1)])).put' e255773 grp rfl) rfl (MA18_fr w255722 grp f255753 rfl (MA18_fr w255708 grp f255723 rfl (MA18_fr hW grp f255709 rfl h255689)))))))
            have h255845 : MA19 T H255819 rp (d 11) := (MA19_fr w255810 grp ((wfr.rf (l := [(54, 0)])).put' e255820 grp rfl) rfl (MA19_fr w255788 grp ((wfr.rf (l := [(54, 2)])).put' e255809 grp rfl) rfl (MA19_fr w255774 grp f255789 rfl (MA19_fr w255752 grp ((wfr.rf (l := [(54, 1)])).put' e255773 grp rfl) rfl (MA19_fr w255722 grp f255753 rfl (MA19_fr w255708 grp f255723 rfl (MA19_fr hW grp f255709 rfl h255690)))))))
            have h255846 : MA20 T H255819 rp (d 12) := (MA20_fr w255810 grp ((wfr.rf (l := [(54, 0)])).put' e255820 grp rfl) rfl (MA20_fr w255788 grp ((wfr.rf (l := [(54, 2)])).put' e255809 grp rfl) rfl (MA20_fr w255774 grp f255789 rfl (MA20_fr w255752 grp ((wfr.rf (l := [(54, 1)])).put' e255773 grp rfl) rfl (MA20_fr w255722 grp f255753 rfl (MA20_fr w255708 grp f255723 rfl (MA20_fr hW grp f255709 rfl h255691)))))))
            have h255847 : MA21 T H255819 rp (d 13) := (MA21_fr w255810 grp ((wfr.rf (l := [(54, 0)])).put' e255820 grp rfl) rfl (MA21_fr w255788 grp ((wfr.rf (l := [(54, 2)])).put' e255809 grp rfl) rfl (MA21_fr w255774 grp f255789 rfl (MA21_fr w255752 grp ((wfr.rf (l := [(54, 1)])).put' e255773 grp rfl) rfl (MA21_fr w255722 grp f255753 rfl (MA21_fr w255708 grp f255723 rfl (MA21_fr hW grp f255709 rfl h255692)))))))
            have h255848 : MA22 T H255819 rp (d 14) := (MA22_fr w255810 grp ((wfr.rf (l := [(54, 0)])).put' e255820 grp rfl) rfl (MA22_fr w255788 grp ((wfr.rf (l := [(54, 2)])).put' e255809 grp rfl) rfl (MA22_fr w255774 grp f255789 rfl (MA22_fr w255752 grp ((wfr.rf (l := [(54, 1)])).put' e255773 grp rfl) rfl (MA22_fr w255722 grp f255753 rfl (MA22_fr w255708 grp f255723 rfl (MA22_fr hW grp f255709 rfl h255693)))))))
            have h255849 : MA23 T H255819 rp (d 15) := (MA23_fr w255810 grp ((wfr.rf (l := [(54, 0)])).put' e255820 grp rfl) rfl (MA23_fr w255788 grp ((wfr.rf (l := [(54, 2)])).put' e255809 grp rfl) rfl (MA23_fr w255774 grp f255789 rfl (MA23_fr w255752 grp ((wfr.rf (l := [(54, 1)])).put' e255773 grp rfl) rfl (MA23_fr w255722 grp f255753 rfl (MA23_fr w255708 grp f255723 rfl (MA23_fr hW grp f255709 rfl h255694)))))))
            have h255850 : MA25 T H255819 rp (d 17) := (MA25_fr w255810 grp ((wfr.rf (l := [(54, 0)])).put' e255820 grp rfl) rfl (MA25_fr w255788 grp ((wfr.rf (l := [(54, 2)])).put' e255809 grp rfl) rfl (MA25_fr w255774 grp f255789 rfl (MA25_fr w255752 grp ((wfr.rf (l := [(54, 1)])).put' e255773 grp rfl) rfl (MA25_fr w255722 grp f255753 rfl (MA25_fr w255708 grp f255723 rfl (MA25_fr hW grp f255709 rfl h255695)))))))
            have h255851 : MA26 T H255819 rp (d 16) := (MA26_fr w255810 grp ((wfr.rf (l := [(54, 0)])).put' e255820 grp rfl) rfl (MA26_fr w255788 grp ((wfr.rf (l := [(54, 2)])).put' e255809 grp rfl) rfl (MA26_fr w255774 grp f255789 rfl (MA26_fr w255752 grp ((wfr.rf (l := [(54, 1)])).put' e255773 grp rfl) rfl (MA26_fr w255722 grp f255753 rfl (MA26_fr w255708 grp f255723 rfl (MA26_fr hW grp f255709 rfl h255696)))))))
            exact wp_return e180 c180_76 rfl ⟨rfl, w255821, f255822, rfl, (Or.inl ⟨by omega, by omega, by omega, h255834, DM_mk hDM_rp.1 ⟨by omega, by omega, by omega, by omega, by omega, by omega, by omega, by omega, by omega, by omega, by omega, by omega⟩ (xdP_cg hDM_rp.2.2.1 (fun i h1 h2 => by unfold xdlaw; rw [wq_u_row (by omega), wq_u_row (by omega), wq_u_row (by omega)])) h255835 h255836 h255837 h255838 h255839 h255840 h255841 h255842 h255843 h255844 h255845 h255846 h255847 h255848 h255849 h255850 h255851 ⟨(by unfold xdlaw; rw [wq_u_row (by decide), wq_u_row (by decide), wq_u_row (by decide)]), (by unfold xdlaw; rw [wq_u_row (by decide), wq_u_row (by decide), wq_u_row (by decide)]), (by unfold xdlaw; rw [wq_u_row (by decide), wq_u_row (by decide), wq_u_row (by decide)]), (by unfold xdlaw; rw [wq_u_row (by decide), wq_u_row (by decide), wq_u_row (by decide)]), (by unfold xdlaw; rw [wq_u_row (by decide), wq_u_row (by decide), wq_u_row (by decide)]), (by unfold xdlaw; rw [wq_u_row (by decide), wq_u_row (by decide), wq_u_row (by decide)]), (by unfold xdlaw; rw [wq_u_row (by decide), wq_u_row (by decide), wq_u_row (by decide)]), (by unfold xdlaw; rw [wq_u_row (by decide), wq_u_row (by decide), wq_u_row (by decide)]), (by unfold xdlaw; rw [wq_u_row (by decide), wq_u_row (by decide), wq_u_row (by decide)]), (by unfold xdlaw; rw [wq_u_row (by decide), wq_u_row (by decide), wq_u_row (by decide)]), (by unfold xdlaw; rw [wq_u_row (by decide), wq_u_row (by decide), wq_u_row (by decide)]), (by unfold xdlaw; rw [wq_u_row (by decide), wq_u_row (by decide), wq_u_row (by decide)]), (by unfold xdlaw; rw [wq_u_row (by decide), wq_u_row (by decide), wq_u_row (by decide)]), (by unfold xdlaw; rw [wq_u_row (by decide), wq_u_row (by decide), wq_u_row (by decide)]), (by unfold xdlaw; rw [wq_u_row (by decide), wq_u_row (by decide), wq_u_row (by decide)]), (by unfold xdlaw; rw [wq_u_row (by decide), wq_u_row (by decide), wq_u_row (by decide)]), (by unfold xdlaw; rw [wq_u_row (by decide), wq_u_row (by decide), wq_u_row (by decide)])⟩⟩)⟩
        · have f255852 := f255775.tr f255789 rfl
          show wp _ _ 180 57 [(1, vI z255724), (0, .ref r0)] [vI z255790, .ref rp] _ H255784 _
          have u255853 := RO_k a255801
          refine wp_of e180 c180_57 (xp_I (pc' := 60) lf_9_226 w255788 grp sh_54 (by decide) (by decide) ty_54_2 rfl rfl (by omega) (by omega) ⟨by omega, by omega⟩ rfl (fun H255854 e255855 w255856 => ?_))
          have f255857 := f255852.put' e255855 grp rfl
          have k255858 : H255854 rp 2 = z255790 := wq_u_s e255855
          refine wp_of e180 c180_60 (rw_aload_n (pc' := 61) (v := .ref r0) rfl rfl rfl ?_)
          have k255859 : H255854 r0 9 = H255784 r0 9 := (wq_u_t e255855 grp g0 rfl 9)
          refine wp_of e180 c180_61 (xg_I (pc' := 64) lf_9_75 w255856 g0 sh_42 (by decide) (by decide) ty_42_9 rfl rfl (fun b255860 b255861 => ?_))
          refine wp_of e180 c180_64 (rw_iconst (pc' := 65) rfl ?_)
          refine wp_of e180 c180_65 (rw_icmp_eq (p1 := 76) (p2 := 68) (by decide) rfl ⟨by omega, by omega⟩ ⟨by omega, by omega⟩ (fun c255862 => ?_) (fun c255862 => ?_))
          · have o255863 : (xl0 B n q d) = (xw B n ((xN B n (xN B n ((xN B n (xN B n ((xN B n q)))))))) 15558, ((xN B n (xN B n ((xN B n (xN B n ((xN B n q)))))))), ((xN B n (xN B n ((xN B n (xN B n ((xN B n q))))))))) := by
              unfold xl0 xlaw
              repeat first | rw [xs_0 (by omega)] | rw [xs_1 (by omega)] | rw [if_pos (by omega)] | rw [if_neg (by omega)]
              first | done | rfl | assumption | (exfalso; omega) | (refine Prod.ext ?_ (Prod.ext ?_ ?_) <;> (try dsimp only) <;> omega)
            have o255863a : ((xl0 B n q d)).1 = xw B n ((xN B n (xN B n ((xN B n (xN B n ((xN B n q)))))))) 15558 := by rw [o255863]
            have o255863b : ((xl0 B n q d)).2.1 = ((xN B n (xN B n ((xN B n (xN B n ((xN B n q)))))))) := by rw [o255863]
            have o255863c : ((xl0 B n q d)).2.2 = ((xN B n (xN B n ((xN B n (xN B n ((xN B n q)))))))) := by rw [o255863]
            have h255864 : RO T H255854 r0 (xw B n ((xN B n (xN B n ((xN B n (xN B n ((xN B n q)))))))) 15558) ((xN B n (xN B n ((xN B n (xN B n ((xN B n q)))))))) := (RO_fr w255788 g0 ((wfr.rf (l := [(54, 2)])).put' e255855 grp rfl) rfl a255801)
            exact wp_return e180 c180_76 rfl ⟨rfl, w255856, f255857, rfl, (Or.inr ⟨by omega, RO_eq h255864 (by omega) (by omega)⟩)⟩
          · exfalso
            omega
        · have f255865 := f255775.tr f255789 rfl
          show wp _ _ 180 57 [(1, vI z255724), (0, .ref r0)] [vI z255790, .ref rp] _ H255784 _
          have u255866 := RO_k a255805
          refine wp_of e180 c180_57 (xp_I (pc' := 60) lf_9_226 w255788 grp sh_54 (by decide) (by decide) ty_54_2 rfl rfl (by omega) (by omega) ⟨by omega, by omega⟩ rfl (fun H255867 e255868 w255869 => ?_))
          have f255870 := f255865.put' e255868 grp rfl
          have k255871 : H255867 rp 2 = z255790 := wq_u_s e255868
          refine wp_of e180 c180_60 (rw_aload_n (pc' := 61) (v := .ref r0) rfl rfl rfl ?_)
          have k255872 : H255867 r0 9 = H255784 r0 9 := (wq_u_t e255868 grp g0 rfl 9)
          refine wp_of e180 c180_61 (xg_I (pc' := 64) lf_9_75 w255869 g0 sh_42 (by decide) (by decide) ty_42_9 rfl rfl (fun b255873 b255874 => ?_))
          refine wp_of e180 c180_64 (rw_iconst (pc' := 65) rfl ?_)
          refine wp_of e180 c180_65 (rw_icmp_eq (p1 := 76) (p2 := 68) (by decide) rfl ⟨by omega, by omega⟩ ⟨by omega, by omega⟩ (fun c255875 => ?_) (fun c255875 => ?_))
          · have o255876 : (xl0 B n q d) = (xh B n (xN B n ((xN B n (xN B n ((xN B n (xN B n ((xN B n q))))))))) 0 3, (xN B n ((xN B n (xN B n ((xN B n (xN B n ((xN B n q))))))))), (xN B n ((xN B n (xN B n ((xN B n (xN B n ((xN B n q)))))))))) := by
              unfold xl0 xlaw
              repeat first | rw [xs_0 (by omega)] | rw [xs_1 (by omega)] | rw [if_pos (by omega)] | rw [if_neg (by omega)]
              first | done | rfl | assumption | (exfalso; omega) | (refine Prod.ext ?_ (Prod.ext ?_ ?_) <;> (try dsimp only) <;> omega)
            have o255876a : ((xl0 B n q d)).1 = xh B n (xN B n ((xN B n (xN B n ((xN B n (xN B n ((xN B n q))))))))) 0 3 := by rw [o255876]
            have o255876b : ((xl0 B n q d)).2.1 = (xN B n ((xN B n (xN B n ((xN B n (xN B n ((xN B n q))))))))) := by rw [o255876]
            have o255876c : ((xl0 B n q d)).2.2 = (xN B n ((xN B n (xN B n ((xN B n (xN B n ((xN B n q))))))))) := by rw [o255876]
            have h255877 : RO T H255867 r0 (xh B n (xN B n ((xN B n (xN B n ((xN B n (xN B n ((xN B n q))))))))) 0 3) (xN B n ((xN B n (xN B n ((xN B n (xN B n ((xN B n q))))))))) := (RO_fr w255788 g0 ((wfr.rf (l := [(54, 2)])).put' e255868 grp rfl) rfl a255805)
            exact wp_return e180 c180_76 rfl ⟨rfl, w255869, f255870, rfl, (Or.inr ⟨by omega, RO_eq h255877 (by omega) (by omega)⟩)⟩
          · exfalso
            omega
      · have f255878 := f255740.tr f255753 rfl
        show wp _ _ 180 42 [(1, vI z255724), (0, .ref r0)] [vI z255754, .ref rp] _ H255748 _
        have u255879 := RO_k a255765
        refine wp_of e180 c180_42 (xp_I (pc' := 45) lf_9_222 w255752 grp sh_54 (by decide) (by decide) ty_54_1 rfl rfl (by omega) (by omega) ⟨by omega, by omega⟩ rfl (fun H255880 e255881 w255882 => ?_))
        have f255883 := f255878.put' e255881 grp rfl
        have k255884 : H255880 rp 1 = z255754 := wq_u_s e255881
        refine wp_of e180 c180_45 (rw_aload_n (pc' := 46) (v := .ref r0) rfl rfl rfl ?_)
        have k255885 : H255880 r0 4 = H255718 r0 4 := ((wq_u_t e255881 grp g0 rfl 4).trans (f255753 r0 4 _ g0 rfl))
        have q255886 : H255880 r0 4 = (rp : Int) := k255885.trans q255743
        refine wp_of e180 c180_46 (xg_K (pc' := 49) lf_9_166 w255882 g0 sh_42 (by decide) (by decide) rfl q255886 rfl ?_)
        refine wp_of e180 c180_49 (rw_aload_n (pc' := 50) (v := .ref r0) rfl rfl rfl ?_)
        refine wp_of e180 c180_50 (rw_ldcS (pc' := 52) (k := 75) rfl rfl rfl rfl ?_)
        refine wp_of e180 c180_52 (rw_iconst (pc' := 53) rfl ?_)
        refine wp_of e180 c180_53 (rw_iconst (pc' := 54) rfl ?_)
        have k255887 : H255880 r0 5 = H255718 r0 5 := ((wq_u_t e255881 grp g0 rfl 5).trans (f255753 r0 5 _ g0 rfl))
        have q255888 : H255880 r0 5 = (rb : Int) := k255887.trans q255745
        have h255889 : RO T H255880 r0 (xw B n ((xN B n (xN B n ((xN B n q))))) 72983685) ((xN B n (xN B n ((xN B n q))))) := (RO_fr w255752 g0 ((wfr.rf (l := [(54, 1)])).put' e255881 grp rfl) rfl a255765)
        refine wp_of e180 c180_54 (xc_V (pc' := 57) (r := r0) (as := [.ref 75, vI 0, vI 3]) (st := [.ref rp]) (lm_9_216) rfl rfl (Nat.le_of_ble_eq_true rfl) w255882 g0 sh_42 (by decide) rfl (by decide) (u_182_o (fo := (xw B n ((xN B n (xN B n ((xN B n q))))) 72983685)) (po := (((xN B n (xN B n ((xN B n q))))))) (kk := 15558) w255882 g0 rfl ⟨by omega, by omega⟩ ⟨by omega, by omega⟩ q255888 grb (by decide +kernel) h255889) (fun R255890 T255891 H255892 p255893 => ?_))
        obtain ⟨e255894, e255896, z255897, e255895, b255898, p255899⟩ := p255893
        subst e255894
        subst e255895
        subst e255896
        obtain ⟨a255900, a255901⟩ := p255899
        show wp _ _ 180 57 [(1, vI z255724), (0, .ref r0)] [vI z255897, .ref rp] _ H255880 _
        have u255902 := RO_k a255901
        refine wp_of e180 c180_57 (xp_I (pc' := 60) lf_9_226 w255882 grp sh_54 (by decide) (by decide) ty_54_2 rfl rfl (by omega) (by omega) ⟨by omega, by omega⟩ rfl (fun H255903 e255904 w255905 => ?_))
        have f255906 := f255883.put' e255904 grp rfl
        have k255907 : H255903 rp 2 = z255897 := wq_u_s e255904
        refine wp_of e180 c180_60 (rw_aload_n (pc' := 61) (v := .ref r0) rfl rfl rfl ?_)
        have k255908 : H255903 r0 9 = H255880 r0 9 := (wq_u_t e255904 grp g0 rfl 9)
        refine wp_of e180 c180_61 (xg_I (pc' := 64) lf_9_75 w255905 g0 sh_42 (by decide) (by decide) ty_42_9 rfl rfl (fun b255909 b255910 => ?_))
        refine wp_of e180 c180_64 (rw_iconst (pc' := 65) rfl ?_)
        refine wp_of e180 c180_65 (rw_icmp_eq (p1 := 76) (p2 := 68) (by decide) rfl ⟨by omega, by omega⟩ ⟨by omega, by omega⟩ (fun c255911 => ?_) (fun c255911 => ?_))
        · have o255912 : (xl0 B n q d) = (xw B n ((xN B n (xN B n ((xN B n q))))) 72983685, ((xN B n (xN B n ((xN B n q))))), ((xN B n (xN B n ((xN B n q)))))) := by
            unfold xl0 xlaw
            repeat first | rw [xs_0 (by omega)] | rw [xs_1 (by omega)] | rw [if_pos (by omega)] | rw [if_neg (by omega)]
            first | done | rfl | assumption | (exfalso; omega) | (refine Prod.ext ?_ (Prod.ext ?_ ?_) <;> (try dsimp only) <;> omega)
          have o255912a : ((xl0 B n q d)).1 = xw B n ((xN B n (xN B n ((xN B n q))))) 72983685 := by rw [o255912]
          have o255912b : ((xl0 B n q d)).2.1 = ((xN B n (xN B n ((xN B n q))))) := by rw [o255912]
          have o255912c : ((xl0 B n q d)).2.2 = ((xN B n (xN B n ((xN B n q))))) := by rw [o255912]
          have h255913 : RO T H255903 r0 (xw B n ((xN B n (xN B n ((xN B n q))))) 72983685) (((xN B n (xN B n ((xN B n q)))))) := (RO_fr w255882 g0 ((wfr.rf (l := [(54, 2)])).put' e255904 grp rfl) rfl a255901)
          exact wp_return e180 c180_76 rfl ⟨rfl, w255905, f255906, rfl, (Or.inr ⟨by omega, RO_eq h255913 (by omega) (by omega)⟩)⟩
        · exfalso
          omega
      · have f255914 := f255740.tr f255753 rfl
        show wp _ _ 180 42 [(1, vI z255724), (0, .ref r0)] [vI z255754, .ref rp] _ H255748 _
        have u255915 := RO_k a255769
        refine wp_of e180 c180_42 (xp_I (pc' := 45) lf_9_222 w255752 grp sh_54 (by decide) (by decide) ty_54_1 rfl rfl (by omega) (by omega) ⟨by omega, by omega⟩ rfl (fun H255916 e255917 w255918 => ?_))
        have f255919 := f255914.put' e255917 grp rfl
        have k255920 : H255916 rp 1 = z255754 := wq_u_s e255917
        refine wp_of e180 c180_45 (rw_aload_n (pc' := 46) (v := .ref r0) rfl rfl rfl ?_)
        have k255921 : H255916 r0 4 = H255718 r0 4 := ((wq_u_t e255917 grp g0 rfl 4).trans (f255753 r0 4 _ g0 rfl))
        have q255922 : H255916 r0 4 = (rp : Int) := k255921.trans q255743
        refine wp_of e180 c180_46 (xg_K (pc' := 49) lf_9_166 w255918 g0 sh_42 (by decide) (by decide) rfl q255922 rfl ?_)
        refine wp_of e180 c180_49 (rw_aload_n (pc' := 50) (v := .ref r0) rfl rfl rfl ?_)
        refine wp_of e180 c180_50 (rw_ldcS (pc' := 52) (k := 75) rfl rfl rfl rfl ?_)
        refine wp_of e180 c180_52 (rw_iconst (pc' := 53) rfl ?_)
        refine wp_of e180 c180_53 (rw_iconst (pc' := 54) rfl ?_)
        have k255923 : H255916 r0 5 = H255718 r0 5 := ((wq_u_t e255917 grp g0 rfl 5).trans (f255753 r0 5 _ g0 rfl))
        have q255924 : H255916 r0 5 = (rb : Int) := k255923.trans q255745
        have h255925 : RO T H255916 r0 (xh B n (xN B n ((xN B n (xN B n ((xN B n q)))))) 0 9) (xN B n ((xN B n (xN B n ((xN B n q)))))) := (RO_fr w255752 g0 ((wfr.rf (l := [(54, 1)])).put' e255917 grp rfl) rfl a255769)
        refine wp_of e180 c180_54 (xc_V (pc' := 57) (r := r0) (as := [.ref 75, vI 0, vI 3]) (st := [.ref rp]) (lm_9_216) rfl rfl (Nat.le_of_ble_eq_true rfl) w255918 g0 sh_42 (by decide) rfl (by decide) (u_182_o (fo := (xh B n (xN B n ((xN B n (xN B n ((xN B n q)))))) 0 9)) (po := ((xN B n ((xN B n (xN B n ((xN B n q)))))))) (kk := 15558) w255918 g0 rfl ⟨by omega, by omega⟩ ⟨by omega, by omega⟩ q255924 grb (by decide +kernel) h255925) (fun R255926 T255927 H255928 p255929 => ?_))
        obtain ⟨e255930, e255932, z255933, e255931, b255934, p255935⟩ := p255929
        subst e255930
        subst e255931
        subst e255932
        obtain ⟨a255936, a255937⟩ := p255935
        show wp _ _ 180 57 [(1, vI z255724), (0, .ref r0)] [vI z255933, .ref rp] _ H255916 _
        have u255938 := RO_k a255937
        refine wp_of e180 c180_57 (xp_I (pc' := 60) lf_9_226 w255918 grp sh_54 (by decide) (by decide) ty_54_2 rfl rfl (by omega) (by omega) ⟨by omega, by omega⟩ rfl (fun H255939 e255940 w255941 => ?_))
        have f255942 := f255919.put' e255940 grp rfl
        have k255943 : H255939 rp 2 = z255933 := wq_u_s e255940
        refine wp_of e180 c180_60 (rw_aload_n (pc' := 61) (v := .ref r0) rfl rfl rfl ?_)
        have k255944 : H255939 r0 9 = H255916 r0 9 := (wq_u_t e255940 grp g0 rfl 9)
        refine wp_of e180 c180_61 (xg_I (pc' := 64) lf_9_75 w255941 g0 sh_42 (by decide) (by decide) ty_42_9 rfl rfl (fun b255945 b255946 => ?_))
        refine wp_of e180 c180_64 (rw_iconst (pc' := 65) rfl ?_)
        refine wp_of e180 c180_65 (rw_icmp_eq (p1 := 76) (p2 := 68) (by decide) rfl ⟨by omega, by omega⟩ ⟨by omega, by omega⟩ (fun c255947 => ?_) (fun c255947 => ?_))
        · have o255948 : (xl0 B n q d) = (xh B n (xN B n ((xN B n (xN B n ((xN B n q)))))) 0 9, (xN B n ((xN B n (xN B n ((xN B n q)))))), (xN B n ((xN B n (xN B n ((xN B n q))))))) := by
            unfold xl0 xlaw
            repeat first | rw [xs_0 (by omega)] | rw [xs_1 (by omega)] | rw [if_pos (by omega)] | rw [if_neg (by omega)]
            first | done | rfl | assumption | (exfalso; omega) | (refine Prod.ext ?_ (Prod.ext ?_ ?_) <;> (try dsimp only) <;> omega)
          have o255948a : ((xl0 B n q d)).1 = xh B n (xN B n ((xN B n (xN B n ((xN B n q)))))) 0 9 := by rw [o255948]
          have o255948b : ((xl0 B n q d)).2.1 = (xN B n ((xN B n (xN B n ((xN B n q)))))) := by rw [o255948]
          have o255948c : ((xl0 B n q d)).2.2 = (xN B n ((xN B n (xN B n ((xN B n q)))))) := by rw [o255948]
          have h255949 : RO T H255939 r0 (xh B n (xN B n ((xN B n (xN B n ((xN B n q)))))) 0 9) ((xN B n ((xN B n (xN B n ((xN B n q))))))) := (RO_fr w255918 g0 ((wfr.rf (l := [(54, 2)])).put' e255940 grp rfl) rfl a255937)
          exact wp_return e180 c180_76 rfl ⟨rfl, w255941, f255942, rfl, (Or.inr ⟨by omega, RO_eq h255949 (by omega) (by omega)⟩)⟩
        · exfalso
          omega
    · have f255950 := f255712.tr f255723 rfl
      show wp _ _ 180 28 [(0, .ref r0)] [vI z255724] _ H255718 _
      have u255951 := RO_k a255735
      refine wp_of e180 c180_28 (rw_istore_n (pc' := 29) (z := z255724) (L' := [(1, vI z255724), (0, .ref r0)]) rfl rfl rfl ?_)
      refine wp_of e180 c180_29 (rw_aload_n (pc' := 30) (v := .ref r0) rfl rfl rfl ?_)
      have k255952 : H255718 r0 4 = H r0 4 := ((f255723 r0 4 _ g0 rfl).trans (f255709 r0 4 _ g0 rfl))
      have q255953 : H255718 r0 4 = (rp : Int) := k255952.trans qrp
      refine wp_of e180 c180_30 (xg_K (pc' := 33) lf_9_166 w255722 g0 sh_42 (by decide) (by decide) rfl q255953 rfl ?_)
      refine wp_of e180 c180_33 (rw_aload_n (pc' := 34) (v := .ref r0) rfl rfl rfl ?_)
      refine wp_of e180 c180_34 (rw_ldcS (pc' := 36) (k := 74) rfl rfl rfl rfl ?_)
      refine wp_of e180 c180_36 (rw_iconst (pc' := 37) rfl ?_)
      refine wp_of e180 c180_37 (rw_bipush (pc' := 39) (z := 9) rfl (by decide) ?_)
      have k255954 : H255718 r0 5 = H255704 r0 5 := (f255723 r0 5 _ g0 rfl)
      have q255955 : H255718 r0 5 = (rb : Int) := k255954.trans q255715
      refine wp_of e180 c180_39 (xc_V (pc' := 42) (r := r0) (as := [.ref 74, vI 0, vI 9]) (st := [.ref rp]) (lm_9_216) rfl rfl (Nat.le_of_ble_eq_true rfl) w255722 g0 sh_42 (by decide) rfl (by decide) (u_182_o (fo := (xw B n ((xN B n q)) 8902227)) (po := (((xN B n q)))) (kk := 72983685) w255722 g0 rfl ⟨by omega, by omega⟩ ⟨by omega, by omega⟩ q255955 grb (by decide +kernel) a255735) (fun R255956 T255957 H255958 p255959 => ?_))
      obtain ⟨e255960, e255962, z255963, e255961, b255964, p255965⟩ := p255959
      subst e255960
      subst e255961
      subst e255962
      obtain ⟨a255966, a255967⟩ := p255965
      show wp _ _ 180 42 [(1, vI z255724), (0, .ref r0)] [vI z255963, .ref rp] _ H255718 _
      have u255968 := RO_k a255967
      refine wp_of e180 c180_42 (xp_I (pc' := 45) lf_9_222 w255722 grp sh_54 (by decide) (by decide) ty_54_1 rfl rfl (by omega) (by omega) ⟨by omega, by omega⟩ rfl (fun H255969 e255970 w255971 => ?_))
      have f255972 := f255950.put' e255970 grp rfl
      have k255973 : H255969 rp 1 = z255963 := wq_u_s e255970
      refine wp_of e180 c180_45 (rw_aload_n (pc' := 46) (v := .ref r0) rfl rfl rfl ?_)
      have k255974 : H255969 r0 4 = H255718 r0 4 := (wq_u_t e255970 grp g0 rfl 4)
      have q255975 : H255969 r0 4 = (rp : Int) := k255974.trans q255953
      refine wp_of e180 c180_46 (xg_K (pc' := 49) lf_9_166 w255971 g0 sh_42 (by decide) (by decide) rfl q255975 rfl ?_)
      refine wp_of e180 c180_49 (rw_aload_n (pc' := 50) (v := .ref r0) rfl rfl rfl ?_)
      refine wp_of e180 c180_50 (rw_ldcS (pc' := 52) (k := 75) rfl rfl rfl rfl ?_)
      refine wp_of e180 c180_52 (rw_iconst (pc' := 53) rfl ?_)
      refine wp_of e180 c180_53 (rw_iconst (pc' := 54) rfl ?_)
      have k255976 : H255969 r0 5 = H255718 r0 5 := (wq_u_t e255970 grp g0 rfl 5)
      have q255977 : H255969 r0 5 = (rb : Int) := k255976.trans q255955
      have h255978 : RO T H255969 r0 (xw B n ((xN B n q)) 8902227) (((xN B n q))) := (RO_fr w255722 g0 ((wfr.rf (l := [(54, 1)])).put' e255970 grp rfl) rfl a255967)
      refine wp_of e180 c180_54 (xc_V (pc' := 57) (r := r0) (as := [.ref 75, vI 0, vI 3]) (st := [.ref rp]) (lm_9_216) rfl rfl (Nat.le_of_ble_eq_true rfl) w255971 g0 sh_42 (by decide) rfl (by decide) (u_182_o (fo := (xw B n ((xN B n q)) 8902227)) (po := (((xN B n q)))) (kk := 15558) w255971 g0 rfl ⟨by omega, by omega⟩ ⟨by omega, by omega⟩ q255977 grb (by decide +kernel) h255978) (fun R255979 T255980 H255981 p255982 => ?_))
      obtain ⟨e255983, e255985, z255986, e255984, b255987, p255988⟩ := p255982
      subst e255983
      subst e255984
      subst e255985
      obtain ⟨a255989, a255990⟩ := p255988
      show wp _ _ 180 57 [(1, vI z255724), (0, .ref r0)] [vI z255986, .ref rp] _ H255969 _
      have u255991 := RO_k a255990
      refine wp_of e180 c180_57 (xp_I (pc' := 60) lf_9_226 w255971 grp sh_54 (by decide) (by decide) ty_54_2 rfl rfl (by omega) (by omega) ⟨by omega, by omega⟩ rfl (fun H255992 e255993 w255994 => ?_))
      have f255995 := f255972.put' e255993 grp rfl
      have k255996 : H255992 rp 2 = z255986 := wq_u_s e255993
      refine wp_of e180 c180_60 (rw_aload_n (pc' := 61) (v := .ref r0) rfl rfl rfl ?_)
      have k255997 : H255992 r0 9 = H255969 r0 9 := (wq_u_t e255993 grp g0 rfl 9)
      refine wp_of e180 c180_61 (xg_I (pc' := 64) lf_9_75 w255994 g0 sh_42 (by decide) (by decide) ty_42_9 rfl rfl (fun b255998 b255999 => ?_))
      refine wp_of e180 c180_64 (rw_iconst (pc' := 65) rfl ?_)
      refine wp_of e180 c180_65 (rw_icmp_eq (p1 := 76) (p2 := 68) (by decide) rfl ⟨by omega, by omega⟩ ⟨by omega, by omega⟩ (fun c256000 => ?_) (fun c256000 => ?_))
      · have o256001 : (xl0 B n q d) = (xw B n ((xN B n q)) 8902227, ((xN B n q)), ((xN B n q))) := by
          unfold xl0 xlaw
          repeat first | rw [xs_0 (by omega)] | rw [xs_1 (by omega)] | rw [if_pos (by omega)] | rw [if_neg (by omega)]
          first | done | rfl | assumption | (exfalso; omega) | (refine Prod.ext ?_ (Prod.ext ?_ ?_) <;> (try dsimp only) <;> omega)
        have o256001a : ((xl0 B n q d)).1 = xw B n ((xN B n q)) 8902227 := by rw [o256001]
        have o256001b : ((xl0 B n q d)).2.1 = ((xN B n q)) := by rw [o256001]
        have o256001c : ((xl0 B n q d)).2.2 = ((xN B n q)) := by rw [o256001]
        have h256002 : RO T H255992 r0 (xw B n ((xN B n q)) 8902227) (((xN B n q))) := (RO_fr w255971 g0 ((wfr.rf (l := [(54, 2)])).put' e255993 grp rfl) rfl a255990)
        exact wp_return e180 c180_76 rfl ⟨rfl, w255994, f255995, rfl, (Or.inr ⟨by omega, RO_eq h256002 (by omega) (by omega)⟩)⟩
      · exfalso
        omega
    · have f256003 := f255712.tr f255723 rfl
      show wp _ _ 180 28 [(0, .ref r0)] [vI z255724] _ H255718 _
      have u256004 := RO_k a255739
      refine wp_of e180 c180_28 (rw_istore_n (pc' := 29) (z := z255724) (L' := [(1, vI z255724), (0, .ref r0)]) rfl rfl rfl ?_)
      refine wp_of e180 c180_29 (rw_aload_n (pc' := 30) (v := .ref r0) rfl rfl rfl ?_)
      have k256005 : H255718 r0 4 = H r0 4 := ((f255723 r0 4 _ g0 rfl).trans (f255709 r0 4 _ g0 rfl))
      have q256006 : H255718 r0 4 = (rp : Int) := k256005.trans qrp
      refine wp_of e180 c180_30 (xg_K (pc' := 33) lf_9_166 w255722 g0 sh_42 (by decide) (by decide) rfl q256006 rfl ?_)
      refine wp_of e180 c180_33 (rw_aload_n (pc' := 34) (v := .ref r0) rfl rfl rfl ?_)
      refine wp_of e180 c180_34 (rw_ldcS (pc' := 36) (k := 74) rfl rfl rfl rfl ?_)
      refine wp_of e180 c180_36 (rw_iconst (pc' := 37) rfl ?_)
      refine wp_of e180 c180_37 (rw_bipush (pc' := 39) (z := 9) rfl (by decide) ?_)
      have k256007 : H255718 r0 5 = H255704 r0 5 := (f255723 r0 5 _ g0 rfl)
      have q256008 : H255718 r0 5 = (rb : Int) := k256007.trans q255715
      refine wp_of e180 c180_39 (xc_V (pc' := 42) (r := r0) (as := [.ref 74, vI 0, vI 9]) (st := [.ref rp]) (lm_9_216) rfl rfl (Nat.le_of_ble_eq_true rfl) w255722 g0 sh_42 (by decide) rfl (by decide) (u_182_o (fo := (xh B n (xN B n ((xN B n q))) 1 24)) (po := ((xN B n ((xN B n q))))) (kk := 72983685) w255722 g0 rfl ⟨by omega, by omega⟩ ⟨by omega, by omega⟩ q256008 grb (by decide +kernel) a255739) (fun R256009 T256010 H256011 p256012 => ?_))
      obtain ⟨e256013, e256015, z256016, e256014, b256017, p256018⟩ := p256012
      subst e256013
      subst e256014
      subst e256015
      obtain ⟨a256019, a256020⟩ := p256018
      show wp _ _ 180 42 [(1, vI z255724), (0, .ref r0)] [vI z256016, .ref rp] _ H255718 _
      have u256021 := RO_k a256020
      refine wp_of e180 c180_42 (xp_I (pc' := 45) lf_9_222 w255722 grp sh_54 (by decide) (by decide) ty_54_1 rfl rfl (by omega) (by omega) ⟨by omega, by omega⟩ rfl (fun H256022 e256023 w256024 => ?_))
      have f256025 := f256003.put' e256023 grp rfl
      have k256026 : H256022 rp 1 = z256016 := wq_u_s e256023
      refine wp_of e180 c180_45 (rw_aload_n (pc' := 46) (v := .ref r0) rfl rfl rfl ?_)
      have k256027 : H256022 r0 4 = H255718 r0 4 := (wq_u_t e256023 grp g0 rfl 4)
      have q256028 : H256022 r0 4 = (rp : Int) := k256027.trans q256006
      refine wp_of e180 c180_46 (xg_K (pc' := 49) lf_9_166 w256024 g0 sh_42 (by decide) (by decide) rfl q256028 rfl ?_)
      refine wp_of e180 c180_49 (rw_aload_n (pc' := 50) (v := .ref r0) rfl rfl rfl ?_)
      refine wp_of e180 c180_50 (rw_ldcS (pc' := 52) (k := 75) rfl rfl rfl rfl ?_)
      refine wp_of e180 c180_52 (rw_iconst (pc' := 53) rfl ?_)
      refine wp_of e180 c180_53 (rw_iconst (pc' := 54) rfl ?_)
      have k256029 : H256022 r0 5 = H255718 r0 5 := (wq_u_t e256023 grp g0 rfl 5)
      have q256030 : H256022 r0 5 = (rb : Int) := k256029.trans q256008
      have h256031 : RO T H256022 r0 (xh B n (xN B n ((xN B n q))) 1 24) ((xN B n ((xN B n q)))) := (RO_fr w255722 g0 ((wfr.rf (l := [(54, 1)])).put' e256023 grp rfl) rfl a256020)
      refine wp_of e180 c180_54 (xc_V (pc' := 57) (r := r0) (as := [.ref 75, vI 0, vI 3]) (st := [.ref rp]) (lm_9_216) rfl rfl (Nat.le_of_ble_eq_true rfl) w256024 g0 sh_42 (by decide) rfl (by decide) (u_182_o (fo := (xh B n (xN B n ((xN B n q))) 1 24)) (po := ((xN B n ((xN B n q))))) (kk := 15558) w256024 g0 rfl ⟨by omega, by omega⟩ ⟨by omega, by omega⟩ q256030 grb (by decide +kernel) h256031) (fun R256032 T256033 H256034 p256035 => ?_))
      obtain ⟨e256036, e256038, z256039, e256037, b256040, p256041⟩ := p256035
      subst e256036
      subst e256037
      subst e256038
      obtain ⟨a256042, a256043⟩ := p256041
      show wp _ _ 180 57 [(1, vI z255724), (0, .ref r0)] [vI z256039, .ref rp] _ H256022 _
      have u256044 := RO_k a256043
      refine wp_of e180 c180_57 (xp_I (pc' := 60) lf_9_226 w256024 grp sh_54 (by decide) (by decide) ty_54_2 rfl rfl (by omega) (by omega) ⟨by omega, by omega⟩ rfl (fun H256045 e256046 w256047 => ?_))
      have f256048 := f256025.put' e256046 grp rfl
      have k256049 : H256045 rp 2 = z256039 := wq_u_s e256046
      refine wp_of e180 c180_60 (rw_aload_n (pc' := 61) (v := .ref r0) rfl rfl rfl ?_)
      have k256050 : H256045 r0 9 = H256022 r0 9 := (wq_u_t e256046 grp g0 rfl 9)
      refine wp_of e180 c180_61 (xg_I (pc' := 64) lf_9_75 w256047 g0 sh_42 (by decide) (by decide) ty_42_9 rfl rfl (fun b256051 b256052 => ?_))
      refine wp_of e180 c180_64 (rw_iconst (pc' := 65) rfl ?_)
      refine wp_of e180 c180_65 (rw_icmp_eq (p1 := 76) (p2 := 68) (by decide) rfl ⟨by omega, by omega⟩ ⟨by omega, by omega⟩ (fun c256053 => ?_) (fun c256053 => ?_))
      · have o256054 : (xl0 B n q d) = (xh B n (xN B n ((xN B n q))) 1 24, (xN B n ((xN B n q))), (xN B n ((xN B n q)))) := by
          unfold xl0 xlaw
          repeat first | rw [xs_0 (by omega)] | rw [xs_1 (by omega)] | rw [if_pos (by omega)] | rw [if_neg (by omega)]
          first | done | rfl | assumption | (exfalso; omega) | (refine Prod.ext ?_ (Prod.ext ?_ ?_) <;> (try dsimp only) <;> omega)
        have o256054a : ((xl0 B n q d)).1 = xh B n (xN B n ((xN B n q))) 1 24 := by rw [o256054]
        have o256054b : ((xl0 B n q d)).2.1 = (xN B n ((xN B n q))) := by rw [o256054]
        have o256054c : ((xl0 B n q d)).2.2 = (xN B n ((xN B n q))) := by rw [o256054]
        have h256055 : RO T H256045 r0 (xh B n (xN B n ((xN B n q))) 1 24) ((xN B n ((xN B n q)))) := (RO_fr w256024 g0 ((wfr.rf (l := [(54, 2)])).put' e256046 grp rfl) rfl a256043)
        exact wp_return e180 c180_76 rfl ⟨rfl, w256047, f256048, rfl, (Or.inr ⟨by omega, RO_eq h256055 (by omega) (by omega)⟩)⟩
      · exfalso
        omega
  · refine wp_of e180 c180_10 (rw_aload_n (pc' := 11) (v := .ref r0) rfl rfl rfl ?_)
    refine wp_of e180 c180_11 (rw_iconst (pc' := 12) rfl ?_)
    refine wp_of e180 c180_12 (xc_V (pc' := 15) (r := r0) (as := [vI 3]) (st := []) (lm_9_121) rfl rfl (Nat.le_of_ble_eq_true rfl) hW g0 sh_42 (by decide) rfl (by decide) (u_181_k (B := B) (n := n) (q := q) hW g0 ⟨by omega, by omega⟩ (by omega) hRC_r0) (fun R256056 T256057 H256058 p256059 => ?_))
    obtain ⟨e256060, w256062, f256063, e256061, p256064⟩ := p256059
    subst e256060
    subst e256061
    have f256066 := f0.tr f256063 rfl
    show wp _ _ 180 15 [(0, .ref r0)] [] _ H256058 _
    have u256067 := RO_k p256064
    refine wp_of e180 c180_15 (rw_aload_n (pc' := 16) (v := .ref r0) rfl rfl rfl ?_)
    refine wp_of e180 c180_16 (xc_V (pc' := 19) (r := r0) (as := []) (st := []) (lm_9_118) rfl rfl (Nat.le_of_ble_eq_true rfl) w256062 g0 sh_42 (by decide) rfl (by decide) (u_172_o (fo := 3) (po := q) w256062 g0 p256064) (fun R256068 T256069 H256070 p256071 => ?_))
    obtain ⟨e256072, e256074, e256073, p256075⟩ := p256071
    subst e256072
    subst e256073
    subst e256074
    show wp _ _ 180 19 [(0, .ref r0)] [] _ H256058 _
    have u256077 := RO_k p256075
    refine wp_of e180 c180_19 (rw_aload_n (pc' := 20) (v := .ref r0) rfl rfl rfl ?_)
    refine wp_of e180 c180_20 (rw_ldcS (pc' := 22) (k := 73) rfl rfl rfl rfl ?_)
    refine wp_of e180 c180_22 (rw_iconst (pc' := 23) rfl ?_)
    refine wp_of e180 c180_23 (rw_bipush (pc' := 25) (z := 24) rfl (by decide) ?_)
    have k256078 : H256058 r0 5 = H r0 5 := (f256063 r0 5 _ g0 rfl)
    have q256079 : H256058 r0 5 = (rb : Int) := k256078.trans qrb
    refine wp_of e180 c180_25 (xc_V (pc' := 28) (r := r0) (as := [.ref 73, vI 1, vI 24]) (st := []) (lm_9_216) rfl rfl (Nat.le_of_ble_eq_true rfl) w256062 g0 sh_42 (by decide) rfl (by decide) (u_182_o (fo := 3) (po := q) (kk := 8902227) w256062 g0 rfl ⟨by omega, by omega⟩ ⟨by omega, by omega⟩ q256079 grb (by decide +kernel) p256075) (fun R256080 T256081 H256082 p256083 => ?_))
    obtain ⟨e256084, e256086, z256087, e256085, b256088, p256089⟩ := p256083
    subst e256084
    subst e256085
    subst e256086
    obtain ⟨a256090, a256091⟩ := p256089
    show wp _ _ 180 28 [(0, .ref r0)] [vI z256087] _ H256058 _
    have u256092 := RO_k a256091
    refine wp_of e180 c180_28 (rw_istore_n (pc' := 29) (z := z256087) (L' := [(1, vI z256087), (0, .ref r0)]) rfl rfl rfl ?_)
    refine wp_of e180 c180_29 (rw_aload_n (pc' := 30) (v := .ref r0) rfl rfl rfl ?_)
    have k256093 : H256058 r0 4 = H r0 4 := (f256063 r0 4 _ g0 rfl)
    have q256094 : H256058 r0 4 = (rp : Int) := k256093.trans qrp
    refine wp_of e180 c180_30 (xg_K (pc' := 33) lf_9_166 w256062 g0 sh_42 (by decide) (by decide) rfl q256094 rfl ?_)
    refine wp_of e180 c180_33 (rw_aload_n (pc' := 34) (v := .ref r0) rfl rfl rfl ?_)
    refine wp_of e180 c180_34 (rw_ldcS (pc' := 36) (k := 74) rfl rfl rfl rfl ?_)
    refine wp_of e180 c180_36 (rw_iconst (pc' := 37) rfl ?_)
    refine wp_of e180 c180_37 (rw_bipush (pc' := 39) (z := 9) rfl (by decide) ?_)
    refine wp_of e180 c180_39 (xc_V (pc' := 42) (r := r0) (as := [.ref 74, vI 0, vI 9]) (st := [.ref rp]) (lm_9_216) rfl rfl (Nat.le_of_ble_eq_true rfl) w256062 g0 sh_42 (by decide) rfl (by decide) (u_182_o (fo := 3) (po := q) (kk := 72983685) w256062 g0 rfl ⟨by omega, by omega⟩ ⟨by omega, by omega⟩ q256079 grb (by decide +kernel) a256091) (fun R256095 T256096 H256097 p256098 => ?_))
    obtain ⟨e256099, e256101, z256102, e256100, b256103, p256104⟩ := p256098
    subst e256099
    subst e256100
    subst e256101
    obtain ⟨a256105, a256106⟩ := p256104
    show wp _ _ 180 42 [(1, vI z256087), (0, .ref r0)] [vI z256102, .ref rp] _ H256058 _
    have u256107 := RO_k a256106
    refine wp_of e180 c180_42 (xp_I (pc' := 45) lf_9_222 w256062 grp sh_54 (by decide) (by decide) ty_54_1 rfl rfl (by omega) (by omega) ⟨by omega, by omega⟩ rfl (fun H256108 e256109 w256110 => ?_))
    have f256111 := f256066.put' e256109 grp rfl
    have k256112 : H256108 rp 1 = z256102 := wq_u_s e256109
    refine wp_of e180 c180_45 (rw_aload_n (pc' := 46) (v := .ref r0) rfl rfl rfl ?_)
    have k256113 : H256108 r0 4 = H256058 r0 4 := (wq_u_t e256109 grp g0 rfl 4)
    have q256114 : H256108 r0 4 = (rp : Int) := k256113.trans q256094
    refine wp_of e180 c180_46 (xg_K (pc' := 49) lf_9_166 w256110 g0 sh_42 (by decide) (by decide) rfl q256114 rfl ?_)
    refine wp_of e180 c180_49 (rw_aload_n (pc' := 50) (v := .ref r0) rfl rfl rfl ?_)
    refine wp_of e180 c180_50 (rw_ldcS (pc' := 52) (k := 75) rfl rfl rfl rfl ?_)
    refine wp_of e180 c180_52 (rw_iconst (pc' := 53) rfl ?_)
    refine wp_of e180 c180_53 (rw_iconst (pc' := 54) rfl ?_)
    have k256115 : H256108 r0 5 = H256058 r0 5 := (wq_u_t e256109 grp g0 rfl 5)
    have q256116 : H256108 r0 5 = (rb : Int) := k256115.trans q256079
    have h256117 : RO T H256108 r0 3 q := (RO_fr w256062 g0 ((wfr.rf (l := [(54, 1)])).put' e256109 grp rfl) rfl a256106)
    refine wp_of e180 c180_54 (xc_V (pc' := 57) (r := r0) (as := [.ref 75, vI 0, vI 3]) (st := [.ref rp]) (lm_9_216) rfl rfl (Nat.le_of_ble_eq_true rfl) w256110 g0 sh_42 (by decide) rfl (by decide) (u_182_o (fo := 3) (po := q) (kk := 15558) w256110 g0 rfl ⟨by omega, by omega⟩ ⟨by omega, by omega⟩ q256116 grb (by decide +kernel) h256117) (fun R256118 T256119 H256120 p256121 => ?_))
    obtain ⟨e256122, e256124, z256125, e256123, b256126, p256127⟩ := p256121
    subst e256122
    subst e256123
    subst e256124
    obtain ⟨a256128, a256129⟩ := p256127
    show wp _ _ 180 57 [(1, vI z256087), (0, .ref r0)] [vI z256125, .ref rp] _ H256108 _
    have u256130 := RO_k a256129
    refine wp_of e180 c180_57 (xp_I (pc' := 60) lf_9_226 w256110 grp sh_54 (by decide) (by decide) ty_54_2 rfl rfl (by omega) (by omega) ⟨by omega, by omega⟩ rfl (fun H256131 e256132 w256133 => ?_))
    have f256134 := f256111.put' e256132 grp rfl
    have k256135 : H256131 rp 2 = z256125 := wq_u_s e256132
    refine wp_of e180 c180_60 (rw_aload_n (pc' := 61) (v := .ref r0) rfl rfl rfl ?_)
    have k256136 : H256131 r0 9 = H256108 r0 9 := (wq_u_t e256132 grp g0 rfl 9)
    refine wp_of e180 c180_61 (xg_I (pc' := 64) lf_9_75 w256133 g0 sh_42 (by decide) (by decide) ty_42_9 rfl rfl (fun b256137 b256138 => ?_))
    refine wp_of e180 c180_64 (rw_iconst (pc' := 65) rfl ?_)
    refine wp_of e180 c180_65 (rw_icmp_eq (p1 := 76) (p2 := 68) (by decide) rfl ⟨by omega, by omega⟩ ⟨by omega, by omega⟩ (fun c256139 => ?_) (fun c256139 => ?_))
    · have o256140 : (xl0 B n q d) = (3, q, q) := by
        unfold xl0 xlaw
        repeat first | rw [xs_0 (by omega)] | rw [xs_1 (by omega)] | rw [if_pos (by omega)] | rw [if_neg (by omega)]
        first | done | rfl | assumption | (exfalso; omega) | (refine Prod.ext ?_ (Prod.ext ?_ ?_) <;> (try dsimp only) <;> omega)
      have o256140a : ((xl0 B n q d)).1 = 3 := by rw [o256140]
      have o256140b : ((xl0 B n q d)).2.1 = q := by rw [o256140]
      have o256140c : ((xl0 B n q d)).2.2 = q := by rw [o256140]
      have h256141 : RO T H256131 r0 3 q := (RO_fr w256110 g0 ((wfr.rf (l := [(54, 2)])).put' e256132 grp rfl) rfl a256129)
      exact wp_return e180 c180_76 rfl ⟨rfl, w256133, f256134, rfl, (Or.inr ⟨by omega, RO_eq h256141 (by omega) (by omega)⟩)⟩
    · exfalso
      omega
