/-! what methods do (own work, written by wip/gen3/sx3.py) -/
/-! StrikeAwakeModel.whole(II)I k -/
abbrev uq_185_k (r0 : Nat) (a1 : Int) (a2 : Int) (B : Nat → Int) (n : Int) (q : Int) (lo : Int) (hi : Int) (T : wq_T) (H : wq_H) : Option Value → wq_T → wq_H → Prop := fun r T' H' => T = T' ∧ WT T H' ∧ wfr [(42, 9), (42, 13), (42, 14)] T H H' ∧ ∃ z : Int, some (vI z) = r ∧ (0 ≤ z ∧ z ≤ 100) ∧ (((xh B n q lo hi = 0) ∧ (z = xV B n q) ∧ (lo ≤ z ∧ z ≤ hi) ∧ (xK B n q = 2) ∧ RC T H' r0 B n q) ∨ ((z = 0) ∧ (xh B n q lo hi ≠ 0) ∧ RO T H' r0 (xh B n q lo hi) q))
set_option maxHeartbeats 4000000 in
theorem u_185_k {kt : Nat → Option mc_E} {T : wq_T} {H : wq_H} {r0 : Nat} {a1 : Int} {a2 : Int} {B : Nat → Int} {n : Int} {q : Int} {lo : Int} {hi : Int} (hW : WT T H) (g0 : T.2.2.2 r0 = some 42) (i1 : 0 ≤ a1 ∧ a1 ≤ 100) (i2 : 0 ≤ a2 ∧ a2 ≤ 100) (p0 : a1 = lo) (p1 : a2 = hi) (hRC_r0 : RC T H r0 B n q) : wpc kt 2 185 [.ref r0, vI a1, vI a2] T H (uq_185_k r0 a1 a2 B n q lo hi T H) := by
  refine wp_enter e185 (Nat.le_of_ble_eq_true rfl) rfl ?_
  have f0 : wfr [(42, 9), (42, 13), (42, 14)] T H H := wfr.rf
  show wp _ _ 185 0 [(0, .ref r0), (1, vI a1), (2, vI a2)] [] _ H _
  have u55 := RC_k hRC_r0
  have _s := RC_s hRC_r0
  have _h := @xh_b B n q lo hi
  refine wp_of e185 c185_0 (rw_aload_n (pc' := 1) (v := .ref r0) rfl rfl rfl ?_)
  refine wp_of e185 c185_1 (xg_I (pc' := 4) lf_9_75 hW g0 sh_42 (by decide) (by decide) ty_42_9 rfl rfl (fun b56 b57 => ?_))
  refine wp_of e185 c185_4 (rw_iconst (pc' := 5) rfl ?_)
  refine wp_of e185 c185_5 (rw_icmp_eq (p1 := 16) (p2 := 8) (by decide) rfl ⟨by omega, by omega⟩ ⟨by omega, by omega⟩ (fun c58 => ?_) (fun c58 => ?_))
  · refine wp_of e185 c185_16 (rw_aload_n (pc' := 17) (v := .ref r0) rfl rfl rfl ?_)
    refine wp_of e185 c185_17 (xg_I (pc' := 20) lf_9_101 hW g0 sh_42 (by decide) (by decide) ty_42_12 rfl rfl (fun b59 b60 => ?_))
    refine wp_of e185 c185_20 (rw_iload_n (pc' := 21) (z := a1) rfl rfl ?_)
    refine wp_of e185 c185_21 (rw_iload_n (pc' := 22) (z := a2) rfl rfl ?_)
    refine wp_of e185 c185_22 (xc_S (pc' := 25) (as := [vI (H r0 12), vI a1, vI a2]) (st := []) (lm_9_125) rfl rfl (Nat.le_of_ble_eq_true rfl) rfl (by decide) (u_186  hW ⟨by omega, by omega⟩ ⟨by omega, by omega⟩ ⟨by omega, by omega⟩) (fun R61 T62 H63 p64 => ?_))
    obtain ⟨e65, e67, z68, e66, b69, p70⟩ := p64
    subst e65
    subst e66
    subst e67
    rcases p70 with ⟨a71, a72⟩ | ⟨a73, a74⟩
    · show wp _ _ 185 25 [(0, .ref r0), (1, vI a1), (2, vI a2)] [vI z68] _ H _
      refine wp_of e185 c185_25 (rw_if_ne (p1 := 33) (p2 := 28) (by decide) rfl ⟨by omega, by omega⟩ (fun c75 => ?_) (fun c75 => ?_))
      · refine wp_of e185 c185_33 (rw_aload_n (pc' := 34) (v := .ref r0) rfl rfl rfl ?_)
        refine wp_of e185 c185_34 (xg_I (pc' := 37) lf_9_75 hW g0 sh_42 (by decide) (by decide) ty_42_9 rfl rfl (fun b76 b77 => ?_))
        refine wp_of e185 c185_37 (rw_iconst (pc' := 38) rfl ?_)
        refine wp_of e185 c185_38 (rw_icmp_ne (p1 := 45) (p2 := 41) (by decide) rfl ⟨by omega, by omega⟩ ⟨by omega, by omega⟩ (fun c78 => ?_) (fun c78 => ?_))
        · refine wp_of e185 c185_45 (rw_aload_n (pc' := 46) (v := .ref r0) rfl rfl rfl ?_)
          refine wp_of e185 c185_46 (xg_I (pc' := 49) lf_9_101 hW g0 sh_42 (by decide) (by decide) ty_42_12 rfl rfl (fun b79 b80 => ?_))
          exact wp_ireturn e185 c185_49 rfl ⟨rfl, hW, f0, H r0 12, rfl, ⟨by omega, by omega⟩, (Or.inl ⟨by omega, by omega, by omega, by omega, hRC_r0⟩)⟩
        · exfalso
          omega
      · exfalso
        omega
    · show wp _ _ 185 25 [(0, .ref r0), (1, vI a1), (2, vI a2)] [vI z68] _ H _
      refine wp_of e185 c185_25 (rw_if_ne (p1 := 33) (p2 := 28) (by decide) rfl ⟨by omega, by omega⟩ (fun c81 => ?_) (fun c81 => ?_))
      · exfalso
        omega
      · refine wp_of e185 c185_28 (rw_aload_n (pc' := 29) (v := .ref r0) rfl rfl rfl ?_)
        refine wp_of e185 c185_29 (rw_iconst (pc' := 30) rfl ?_)
        refine wp_of e185 c185_30 (xc_V (pc' := 33) (r := r0) (as := [vI 4]) (st := []) (lm_9_121) rfl rfl (Nat.le_of_ble_eq_true rfl) hW g0 sh_42 (by decide) rfl (by decide) (u_181_k (B := B) (n := n) (q := q) hW g0 ⟨by omega, by omega⟩ (by omega) hRC_r0) (fun R82 T83 H84 p85 => ?_))
        obtain ⟨e86, w88, f89, e87, p90⟩ := p85
        subst e86
        subst e87
        have f92 := f0.tr f89 rfl
        show wp _ _ 185 33 [(0, .ref r0), (1, vI a1), (2, vI a2)] [] _ H84 _
        have u93 := RO_k p90
        refine wp_of e185 c185_33 (rw_aload_n (pc' := 34) (v := .ref r0) rfl rfl rfl ?_)
        refine wp_of e185 c185_34 (xg_I (pc' := 37) lf_9_75 w88 g0 sh_42 (by decide) (by decide) ty_42_9 rfl rfl (fun b94 b95 => ?_))
        refine wp_of e185 c185_37 (rw_iconst (pc' := 38) rfl ?_)
        refine wp_of e185 c185_38 (rw_icmp_ne (p1 := 45) (p2 := 41) (by decide) rfl ⟨by omega, by omega⟩ ⟨by omega, by omega⟩ (fun c96 => ?_) (fun c96 => ?_))
        · exfalso
          omega
        · refine wp_of e185 c185_41 (rw_iconst (pc' := 42) rfl ?_)
          refine wp_of e185 c185_42 (rw_goto (p1 := 49) (by decide) ?_)
          exact wp_ireturn e185 c185_49 rfl ⟨rfl, w88, f92, 0, rfl, ⟨by omega, by omega⟩, (Or.inr ⟨by omega, by omega, RO_eq p90 (by omega) (by omega)⟩)⟩
  · refine wp_of e185 c185_8 (rw_aload_n (pc' := 9) (v := .ref r0) rfl rfl rfl ?_)
    refine wp_of e185 c185_9 (rw_iconst (pc' := 10) rfl ?_)
    refine wp_of e185 c185_10 (xc_V (pc' := 13) (r := r0) (as := [vI 1]) (st := []) (lm_9_121) rfl rfl (Nat.le_of_ble_eq_true rfl) hW g0 sh_42 (by decide) rfl (by decide) (u_181_k (B := B) (n := n) (q := q) hW g0 ⟨by omega, by omega⟩ (by omega) hRC_r0) (fun R97 T98 H99 p100 => ?_))
    obtain ⟨e101, w103, f104, e102, p105⟩ := p100
    subst e101
    subst e102
    have f107 := f0.tr f104 rfl
    show wp _ _ 185 13 [(0, .ref r0), (1, vI a1), (2, vI a2)] [] _ H99 _
    have u108 := RO_k p105
    refine wp_of e185 c185_13 (rw_goto (p1 := 33) (by decide) ?_)
    refine wp_of e185 c185_33 (rw_aload_n (pc' := 34) (v := .ref r0) rfl rfl rfl ?_)
    refine wp_of e185 c185_34 (xg_I (pc' := 37) lf_9_75 w103 g0 sh_42 (by decide) (by decide) ty_42_9 rfl rfl (fun b109 b110 => ?_))
    refine wp_of e185 c185_37 (rw_iconst (pc' := 38) rfl ?_)
    refine wp_of e185 c185_38 (rw_icmp_ne (p1 := 45) (p2 := 41) (by decide) rfl ⟨by omega, by omega⟩ ⟨by omega, by omega⟩ (fun c111 => ?_) (fun c111 => ?_))
    · exfalso
      omega
    · refine wp_of e185 c185_41 (rw_iconst (pc' := 42) rfl ?_)
      refine wp_of e185 c185_42 (rw_goto (p1 := 49) (by decide) ?_)
      exact wp_ireturn e185 c185_49 rfl ⟨rfl, w103, f107, 0, rfl, ⟨by omega, by omega⟩, (Or.inr ⟨by omega, by omega, RO_eq p105 (by omega) (by omega)⟩)⟩
/-! StrikeAwakeModel.whole(II)I o -/
abbrev uq_185_o (r0 : Nat) (a1 : Int) (a2 : Int) (fo : Int) (po : Int) (T : wq_T) (H : wq_H) : Option Value → wq_T → wq_H → Prop := fun r T' H' => T = T' ∧ H = H' ∧ ∃ z : Int, some (vI z) = r ∧ (0 ≤ z ∧ z ≤ 100) ∧ (((z = 0) ∧ RO T H r0 fo po))
set_option maxHeartbeats 4000000 in
theorem u_185_o {kt : Nat → Option mc_E} {T : wq_T} {H : wq_H} {r0 : Nat} {a1 : Int} {a2 : Int} {fo : Int} {po : Int} (hW : WT T H) (g0 : T.2.2.2 r0 = some 42) (i1 : 0 ≤ a1 ∧ a1 ≤ 100) (i2 : 0 ≤ a2 ∧ a2 ≤ 100) (hRO_r0 : RO T H r0 fo po) : wpc kt 2 185 [.ref r0, vI a1, vI a2] T H (uq_185_o r0 a1 a2 fo po T H) := by
  refine wp_enter e185 (Nat.le_of_ble_eq_true rfl) rfl ?_
  show wp _ _ 185 0 [(0, .ref r0), (1, vI a1), (2, vI a2)] [] _ H _
  have u16 := RO_k hRO_r0
  refine wp_of e185 c185_0 (rw_aload_n (pc' := 1) (v := .ref r0) rfl rfl rfl ?_)
  refine wp_of e185 c185_1 (xg_I (pc' := 4) lf_9_75 hW g0 sh_42 (by decide) (by decide) ty_42_9 rfl rfl (fun b17 b18 => ?_))
  refine wp_of e185 c185_4 (rw_iconst (pc' := 5) rfl ?_)
  refine wp_of e185 c185_5 (rw_icmp_eq (p1 := 16) (p2 := 8) (by decide) rfl ⟨by omega, by omega⟩ ⟨by omega, by omega⟩ (fun c19 => ?_) (fun c19 => ?_))
  · exfalso
    omega
  · refine wp_of e185 c185_8 (rw_aload_n (pc' := 9) (v := .ref r0) rfl rfl rfl ?_)
    refine wp_of e185 c185_9 (rw_iconst (pc' := 10) rfl ?_)
    refine wp_of e185 c185_10 (xc_V (pc' := 13) (r := r0) (as := [vI 1]) (st := []) (lm_9_121) rfl rfl (Nat.le_of_ble_eq_true rfl) hW g0 sh_42 (by decide) rfl (by decide) (u_181_o (fo := fo) (po := po) hW g0 ⟨by omega, by omega⟩ hRO_r0) (fun R20 T21 H22 p23 => ?_))
    obtain ⟨e24, e26, e25, p27⟩ := p23
    subst e24
    subst e25
    subst e26
    show wp _ _ 185 13 [(0, .ref r0), (1, vI a1), (2, vI a2)] [] _ H _
    have u29 := RO_k p27
    refine wp_of e185 c185_13 (rw_goto (p1 := 33) (by decide) ?_)
    refine wp_of e185 c185_33 (rw_aload_n (pc' := 34) (v := .ref r0) rfl rfl rfl ?_)
    refine wp_of e185 c185_34 (xg_I (pc' := 37) lf_9_75 hW g0 sh_42 (by decide) (by decide) ty_42_9 rfl rfl (fun b30 b31 => ?_))
    refine wp_of e185 c185_37 (rw_iconst (pc' := 38) rfl ?_)
    refine wp_of e185 c185_38 (rw_icmp_ne (p1 := 45) (p2 := 41) (by decide) rfl ⟨by omega, by omega⟩ ⟨by omega, by omega⟩ (fun c32 => ?_) (fun c32 => ?_))
    · exfalso
      omega
    · refine wp_of e185 c185_41 (rw_iconst (pc' := 42) rfl ?_)
      refine wp_of e185 c185_42 (rw_goto (p1 := 49) (by decide) ?_)
      exact wp_ireturn e185 c185_49 rfl ⟨rfl, rfl, 0, rfl, ⟨by omega, by omega⟩, ⟨by omega, p27⟩⟩
/-! StrikeAwakeModel.readWhole(II)I k -/
abbrev uq_184_k (r0 : Nat) (a1 : Int) (a2 : Int) (rb : Nat) (B : Nat → Int) (n : Int) (q : Int) (lo : Int) (hi : Int) (T : wq_T) (H : wq_H) : Option Value → wq_T → wq_H → Prop := fun r T' H' => T = T' ∧ WT T H' ∧ wfr [(42, 8), (42, 9), (42, 10), (42, 11), (42, 12), (42, 13), (42, 14), (42, 15)] T H H' ∧ ∃ z : Int, some (vI z) = r ∧ (0 ≤ z ∧ z ≤ 100) ∧ (((xh B n q lo hi = 0) ∧ (z = xV B n q) ∧ (lo ≤ z ∧ z ≤ hi) ∧ RC T H' r0 B n (xN B n q)) ∨ ((z = 0) ∧ (xh B n q lo hi ≠ 0) ∧ RO T H' r0 (xh B n q lo hi) q))
set_option maxHeartbeats 4000000 in
theorem u_184_k {kt : Nat → Option mc_E} {T : wq_T} {H : wq_H} {r0 : Nat} {a1 : Int} {a2 : Int} {rb : Nat} {B : Nat → Int} {n : Int} {q : Int} {lo : Int} {hi : Int} (hW : WT T H) (g0 : T.2.2.2 r0 = some 42) (i1 : 0 ≤ a1 ∧ a1 ≤ 100) (i2 : 0 ≤ a2 ∧ a2 ≤ 100) (qrb : H r0 5 = (rb : Int)) (grb : T.2.2.2 rb = some 43) (p0 : a1 = lo) (p1 : a2 = hi) (hRC_r0 : RC T H r0 B n q) : wpc kt 3 184 [.ref r0, vI a1, vI a2] T H (uq_184_k r0 a1 a2 rb B n q lo hi T H) := by
  refine wp_enter e184 (Nat.le_of_ble_eq_true rfl) rfl ?_
  have f0 : wfr [(42, 8), (42, 9), (42, 10), (42, 11), (42, 12), (42, 13), (42, 14), (42, 15)] T H H := wfr.rf
  show wp _ _ 184 0 [(0, .ref r0), (1, vI a1), (2, vI a2)] [] _ H _
  have u44 := RC_k hRC_r0
  refine wp_of e184 c184_0 (rw_aload_n (pc' := 1) (v := .ref r0) rfl rfl rfl ?_)
  refine wp_of e184 c184_1 (rw_iload_n (pc' := 2) (z := a1) rfl rfl ?_)
  refine wp_of e184 c184_2 (rw_iload_n (pc' := 3) (z := a2) rfl rfl ?_)
  refine wp_of e184 c184_3 (xc_V (pc' := 6) (r := r0) (as := [vI a1, vI a2]) (st := []) (lm_9_129) rfl rfl (Nat.le_of_ble_eq_true rfl) hW g0 sh_42 (by decide) rfl (by decide) (u_185_k (B := B) (n := n) (q := q) (lo := lo) (hi := hi) hW g0 ⟨by omega, by omega⟩ ⟨by omega, by omega⟩ (by omega) (by omega) hRC_r0) (fun R45 T46 H47 p48 => ?_))
  obtain ⟨e49, w51, f52, z53, e50, b54, p55⟩ := p48
  subst e49
  subst e50
  rcases p55 with ⟨a56, a57, a58, a59, a60⟩ | ⟨a61, a62, a63⟩
  · have f64 := f0.tr f52 rfl
    show wp _ _ 184 6 [(0, .ref r0), (1, vI a1), (2, vI a2)] [vI z53] _ H47 _
    have u65 := RC_k a60
    refine wp_of e184 c184_6 (rw_istore_n (pc' := 7) (z := z53) (L' := [(3, vI z53), (0, .ref r0), (1, vI a1), (2, vI a2)]) rfl rfl rfl ?_)
    refine wp_of e184 c184_7 (rw_aload_n (pc' := 8) (v := .ref r0) rfl rfl rfl ?_)
    have k66 : H47 r0 5 = H r0 5 := (f52 r0 5 _ g0 rfl)
    have q67 : H47 r0 5 = (rb : Int) := k66.trans qrb
    have u68 := RC_a a60
    have h69 : TM T H47 rb B := RC_tm a60 q67
    refine wp_of e184 c184_8 (xc_V (pc' := 11) (r := r0) (as := []) (st := []) (lm_9_118) rfl rfl (Nat.le_of_ble_eq_true rfl) w51 g0 sh_42 (by decide) rfl (by decide) (u_172_k (B := B) (n := n) (a := (xE B n q)) (q := (xN B n q)) w51 g0 q67 grb (by omega) (by omega) (by omega) (by omega) (by omega) (rfl) h69) (fun R70 T71 H72 p73 => ?_))
    obtain ⟨e74, w76, f77, e75, p78⟩ := p73
    subst e74
    subst e75
    have f80 := f64.tr f77 rfl
    show wp _ _ 184 11 [(3, vI z53), (0, .ref r0), (1, vI a1), (2, vI a2)] [] _ H72 _
    have u81 := RC_k p78
    refine wp_of e184 c184_11 (rw_iload_n (pc' := 12) (z := z53) rfl rfl ?_)
    exact wp_ireturn e184 c184_12 rfl ⟨rfl, w76, f80, z53, rfl, ⟨by omega, by omega⟩, (Or.inl ⟨by omega, by omega, by omega, p78⟩)⟩
  · have f82 := f0.tr f52 rfl
    show wp _ _ 184 6 [(0, .ref r0), (1, vI a1), (2, vI a2)] [vI z53] _ H47 _
    have u83 := RO_k a63
    refine wp_of e184 c184_6 (rw_istore_n (pc' := 7) (z := z53) (L' := [(3, vI z53), (0, .ref r0), (1, vI a1), (2, vI a2)]) rfl rfl rfl ?_)
    refine wp_of e184 c184_7 (rw_aload_n (pc' := 8) (v := .ref r0) rfl rfl rfl ?_)
    refine wp_of e184 c184_8 (xc_V (pc' := 11) (r := r0) (as := []) (st := []) (lm_9_118) rfl rfl (Nat.le_of_ble_eq_true rfl) w51 g0 sh_42 (by decide) rfl (by decide) (u_172_o (fo := (xh B n q lo hi)) (po := q) w51 g0 a63) (fun R84 T85 H86 p87 => ?_))
    obtain ⟨e88, e90, e89, p91⟩ := p87
    subst e88
    subst e89
    subst e90
    show wp _ _ 184 11 [(3, vI z53), (0, .ref r0), (1, vI a1), (2, vI a2)] [] _ H47 _
    have u93 := RO_k p91
    refine wp_of e184 c184_11 (rw_iload_n (pc' := 12) (z := z53) rfl rfl ?_)
    exact wp_ireturn e184 c184_12 rfl ⟨rfl, w51, f82, z53, rfl, ⟨by omega, by omega⟩, (Or.inr ⟨by omega, by omega, RO_eq p91 (by omega) (by omega)⟩)⟩
/-! StrikeAwakeModel.readWhole(II)I o -/
abbrev uq_184_o (r0 : Nat) (a1 : Int) (a2 : Int) (rb : Nat) (fo : Int) (po : Int) (T : wq_T) (H : wq_H) : Option Value → wq_T → wq_H → Prop := fun r T' H' => T = T' ∧ H = H' ∧ ∃ z : Int, some (vI z) = r ∧ (0 ≤ z ∧ z ≤ 100) ∧ (((z = 0) ∧ RO T H r0 fo po))
set_option maxHeartbeats 4000000 in
theorem u_184_o {kt : Nat → Option mc_E} {T : wq_T} {H : wq_H} {r0 : Nat} {a1 : Int} {a2 : Int} {rb : Nat} {fo : Int} {po : Int} (hW : WT T H) (g0 : T.2.2.2 r0 = some 42) (i1 : 0 ≤ a1 ∧ a1 ≤ 100) (i2 : 0 ≤ a2 ∧ a2 ≤ 100) (qrb : H r0 5 = (rb : Int)) (grb : T.2.2.2 rb = some 43) (hRO_r0 : RO T H r0 fo po) : wpc kt 3 184 [.ref r0, vI a1, vI a2] T H (uq_184_o r0 a1 a2 rb fo po T H) := by
  refine wp_enter e184 (Nat.le_of_ble_eq_true rfl) rfl ?_
  show wp _ _ 184 0 [(0, .ref r0), (1, vI a1), (2, vI a2)] [] _ H _
  have u22 := RO_k hRO_r0
  refine wp_of e184 c184_0 (rw_aload_n (pc' := 1) (v := .ref r0) rfl rfl rfl ?_)
  refine wp_of e184 c184_1 (rw_iload_n (pc' := 2) (z := a1) rfl rfl ?_)
  refine wp_of e184 c184_2 (rw_iload_n (pc' := 3) (z := a2) rfl rfl ?_)
  refine wp_of e184 c184_3 (xc_V (pc' := 6) (r := r0) (as := [vI a1, vI a2]) (st := []) (lm_9_129) rfl rfl (Nat.le_of_ble_eq_true rfl) hW g0 sh_42 (by decide) rfl (by decide) (u_185_o (fo := fo) (po := po) hW g0 ⟨by omega, by omega⟩ ⟨by omega, by omega⟩ hRO_r0) (fun R23 T24 H25 p26 => ?_))
  obtain ⟨e27, e29, z30, e28, b31, p32⟩ := p26
  subst e27
  subst e28
  subst e29
  obtain ⟨a33, a34⟩ := p32
  show wp _ _ 184 6 [(0, .ref r0), (1, vI a1), (2, vI a2)] [vI z30] _ H _
  have u35 := RO_k a34
  refine wp_of e184 c184_6 (rw_istore_n (pc' := 7) (z := z30) (L' := [(3, vI z30), (0, .ref r0), (1, vI a1), (2, vI a2)]) rfl rfl rfl ?_)
  refine wp_of e184 c184_7 (rw_aload_n (pc' := 8) (v := .ref r0) rfl rfl rfl ?_)
  refine wp_of e184 c184_8 (xc_V (pc' := 11) (r := r0) (as := []) (st := []) (lm_9_118) rfl rfl (Nat.le_of_ble_eq_true rfl) hW g0 sh_42 (by decide) rfl (by decide) (u_172_o (fo := fo) (po := po) hW g0 a34) (fun R36 T37 H38 p39 => ?_))
  obtain ⟨e40, e42, e41, p43⟩ := p39
  subst e40
  subst e41
  subst e42
  show wp _ _ 184 11 [(3, vI z30), (0, .ref r0), (1, vI a1), (2, vI a2)] [] _ H _
  have u45 := RO_k p43
  refine wp_of e184 c184_11 (rw_iload_n (pc' := 12) (z := z30) rfl rfl ?_)
  exact wp_ireturn e184 c184_12 rfl ⟨rfl, rfl, z30, rfl, ⟨by omega, by omega⟩, ⟨by omega, p43⟩⟩
/-! StrikeAwakeModel.readPart(Ljava/lang/String;II)I k -/
abbrev uq_182_k (r0 : Nat) (s1 : Nat) (a2 : Int) (a3 : Int) (rb : Nat) (B : Nat → Int) (n : Int) (q : Int) (kk : Int) (lo : Int) (hi : Int) (T : wq_T) (H : wq_H) : Option Value → wq_T → wq_H → Prop := fun r T' H' => T = T' ∧ WT T H' ∧ wfr [(42, 8), (42, 9), (42, 10), (42, 11), (42, 12), (42, 13), (42, 14), (42, 15)] T H H' ∧ ∃ z : Int, some (vI z) = r ∧ (0 ≤ z ∧ z ≤ 100) ∧ (((xw B n q kk = 0) ∧ (xh B n (xN B n q) lo hi = 0) ∧ (q ≤ (xN B n (xN B n q))) ∧ (z = xV B n (xN B n q)) ∧ (lo ≤ z ∧ z ≤ hi) ∧ RC T H' r0 B n (xN B n (xN B n q))) ∨ ((z = 0) ∧ (xw B n q kk ≠ 0) ∧ RO T H' r0 (xw B n q kk) q) ∨ ((z = 0) ∧ (xw B n q kk = 0) ∧ (xh B n (xN B n q) lo hi ≠ 0) ∧ RO T H' r0 (xh B n (xN B n q) lo hi) (xN B n q)))
set_option maxHeartbeats 4000000 in
theorem u_182_k {kt : Nat → Option mc_E} {T : wq_T} {H : wq_H} {r0 : Nat} {s1 : Nat} {t1 : List Int32} {a2 : Int} {a3 : Int} {rb : Nat} {B : Nat → Int} {n : Int} {q : Int} {kk : Int} {lo : Int} {hi : Int} (hW : WT T H) (g0 : T.2.2.2 r0 = some 42) (h1 : mc_find mc_sb s1 = some t1) (i2 : 0 ≤ a2 ∧ a2 ≤ 100) (i3 : 0 ≤ a3 ∧ a3 ≤ 100) (qrb : H r0 5 = (rb : Int)) (grb : T.2.2.2 rb = some 43) (p0 : wkw t1 t1.length = kk) (p1 : a2 = lo) (p2 : a3 = hi) (hRC_r0 : RC T H r0 B n q) : wpc kt 4 182 [.ref r0, .ref s1, vI a2, vI a3] T H (uq_182_k r0 s1 a2 a3 rb B n q kk lo hi T H) := by
  refine wp_enter e182 (Nat.le_of_ble_eq_true rfl) rfl ?_
  have f0 : wfr [(42, 8), (42, 9), (42, 10), (42, 11), (42, 12), (42, 13), (42, 14), (42, 15)] T H H := wfr.rf
  show wp _ _ 182 0 [(0, .ref r0), (1, .ref s1), (2, vI a2), (3, vI a3)] [] _ H _
  have u52 := RC_k hRC_r0
  refine wp_of e182 c182_0 (rw_aload_n (pc' := 1) (v := .ref r0) rfl rfl rfl ?_)
  refine wp_of e182 c182_1 (rw_aload_n (pc' := 2) (v := .ref s1) rfl rfl rfl ?_)
  refine wp_of e182 c182_2 (xc_V (pc' := 5) (r := r0) (as := [.ref s1]) (st := []) (lm_9_133) rfl rfl (Nat.le_of_ble_eq_true rfl) hW g0 sh_42 (by decide) rfl (by decide) (u_183_k (B := B) (n := n) (q := q) (kk := kk) hW g0 h1 qrb grb (by assumption) hRC_r0) (fun R53 T54 H55 p56 => ?_))
  obtain ⟨e57, w59, f60, e58, p61⟩ := p56
  subst e57
  subst e58
  rcases p61 with ⟨a62, a63⟩ | ⟨a64, a65⟩
  · have f66 := f0.tr f60 rfl
    show wp _ _ 182 5 [(0, .ref r0), (1, .ref s1), (2, vI a2), (3, vI a3)] [] _ H55 _
    have u67 := RC_k a63
    refine wp_of e182 c182_5 (rw_aload_n (pc' := 6) (v := .ref r0) rfl rfl rfl ?_)
    refine wp_of e182 c182_6 (rw_iload_n (pc' := 7) (z := a2) rfl rfl ?_)
    refine wp_of e182 c182_7 (rw_iload_n (pc' := 8) (z := a3) rfl rfl ?_)
    have k68 : H55 r0 5 = H r0 5 := (f60 r0 5 _ g0 rfl)
    have q69 : H55 r0 5 = (rb : Int) := k68.trans qrb
    refine wp_of e182 c182_8 (xc_V (pc' := 11) (r := r0) (as := [vI a2, vI a3]) (st := []) (lm_9_137) rfl rfl (Nat.le_of_ble_eq_true rfl) w59 g0 sh_42 (by decide) rfl (by decide) (u_184_k (B := B) (n := n) (q := ((xN B n q))) (lo := lo) (hi := hi) w59 g0 ⟨by omega, by omega⟩ ⟨by omega, by omega⟩ q69 grb (by omega) (by omega) a63) (fun R70 T71 H72 p73 => ?_))
    obtain ⟨e74, w76, f77, z78, e75, b79, p80⟩ := p73
    subst e74
    subst e75
    rcases p80 with ⟨a81, a82, a83, a84⟩ | ⟨a85, a86, a87⟩
    · have f88 := f66.tr f77 rfl
      show wp _ _ 182 11 [(0, .ref r0), (1, .ref s1), (2, vI a2), (3, vI a3)] [vI z78] _ H72 _
      have u89 := RC_k a84
      exact wp_ireturn e182 c182_11 rfl ⟨rfl, w76, f88, z78, rfl, ⟨by omega, by omega⟩, (Or.inl ⟨by omega, by omega, by omega, by omega, by omega, a84⟩)⟩
    · have f90 := f66.tr f77 rfl
      show wp _ _ 182 11 [(0, .ref r0), (1, .ref s1), (2, vI a2), (3, vI a3)] [vI z78] _ H72 _
      have u91 := RO_k a87
      exact wp_ireturn e182 c182_11 rfl ⟨rfl, w76, f90, z78, rfl, ⟨by omega, by omega⟩, (Or.inr (Or.inr ⟨by omega, by omega, by omega, RO_eq a87 (by omega) (by omega)⟩))⟩
  · have f92 := f0.tr f60 rfl
    show wp _ _ 182 5 [(0, .ref r0), (1, .ref s1), (2, vI a2), (3, vI a3)] [] _ H55 _
    have u93 := RO_k a65
    refine wp_of e182 c182_5 (rw_aload_n (pc' := 6) (v := .ref r0) rfl rfl rfl ?_)
    refine wp_of e182 c182_6 (rw_iload_n (pc' := 7) (z := a2) rfl rfl ?_)
    refine wp_of e182 c182_7 (rw_iload_n (pc' := 8) (z := a3) rfl rfl ?_)
    have k94 : H55 r0 5 = H r0 5 := (f60 r0 5 _ g0 rfl)
    have q95 : H55 r0 5 = (rb : Int) := k94.trans qrb
    refine wp_of e182 c182_8 (xc_V (pc' := 11) (r := r0) (as := [vI a2, vI a3]) (st := []) (lm_9_137) rfl rfl (Nat.le_of_ble_eq_true rfl) w59 g0 sh_42 (by decide) rfl (by decide) (u_184_o (fo := (xw B n q kk)) (po := q) w59 g0 ⟨by omega, by omega⟩ ⟨by omega, by omega⟩ q95 grb a65) (fun R96 T97 H98 p99 => ?_))
    obtain ⟨e100, e102, z103, e101, b104, p105⟩ := p99
    subst e100
    subst e101
    subst e102
    obtain ⟨a106, a107⟩ := p105
    show wp _ _ 182 11 [(0, .ref r0), (1, .ref s1), (2, vI a2), (3, vI a3)] [vI z103] _ H55 _
    have u108 := RO_k a107
    exact wp_ireturn e182 c182_11 rfl ⟨rfl, w59, f92, z103, rfl, ⟨by omega, by omega⟩, (Or.inr (Or.inl ⟨by omega, by omega, RO_eq a107 (by omega) (by omega)⟩))⟩
/-! StrikeAwakeModel.readPart(Ljava/lang/String;II)I o -/
abbrev uq_182_o (r0 : Nat) (s1 : Nat) (a2 : Int) (a3 : Int) (rb : Nat) (fo : Int) (po : Int) (kk : Int) (T : wq_T) (H : wq_H) : Option Value → wq_T → wq_H → Prop := fun r T' H' => T = T' ∧ H = H' ∧ ∃ z : Int, some (vI z) = r ∧ (0 ≤ z ∧ z ≤ 100) ∧ (((z = 0) ∧ RO T H r0 fo po))
set_option maxHeartbeats 4000000 in
theorem u_182_o {kt : Nat → Option mc_E} {T : wq_T} {H : wq_H} {r0 : Nat} {s1 : Nat} {t1 : List Int32} {a2 : Int} {a3 : Int} {rb : Nat} {fo : Int} {po : Int} {kk : Int} (hW : WT T H) (g0 : T.2.2.2 r0 = some 42) (h1 : mc_find mc_sb s1 = some t1) (i2 : 0 ≤ a2 ∧ a2 ≤ 100) (i3 : 0 ≤ a3 ∧ a3 ≤ 100) (qrb : H r0 5 = (rb : Int)) (grb : T.2.2.2 rb = some 43) (p0 : wkw t1 t1.length = kk) (hRO_r0 : RO T H r0 fo po) : wpc kt 4 182 [.ref r0, .ref s1, vI a2, vI a3] T H (uq_182_o r0 s1 a2 a3 rb fo po kk T H) := by
  refine wp_enter e182 (Nat.le_of_ble_eq_true rfl) rfl ?_
  show wp _ _ 182 0 [(0, .ref r0), (1, .ref s1), (2, vI a2), (3, vI a3)] [] _ H _
  have u22 := RO_k hRO_r0
  refine wp_of e182 c182_0 (rw_aload_n (pc' := 1) (v := .ref r0) rfl rfl rfl ?_)
  refine wp_of e182 c182_1 (rw_aload_n (pc' := 2) (v := .ref s1) rfl rfl rfl ?_)
  refine wp_of e182 c182_2 (xc_V (pc' := 5) (r := r0) (as := [.ref s1]) (st := []) (lm_9_133) rfl rfl (Nat.le_of_ble_eq_true rfl) hW g0 sh_42 (by decide) rfl (by decide) (u_183_o (fo := fo) (po := po) (kk := kk) hW g0 h1 qrb grb (by assumption) hRO_r0) (fun R23 T24 H25 p26 => ?_))
  obtain ⟨e27, e29, e28, p30⟩ := p26
  subst e27
  subst e28
  subst e29
  show wp _ _ 182 5 [(0, .ref r0), (1, .ref s1), (2, vI a2), (3, vI a3)] [] _ H _
  have u32 := RO_k p30
  refine wp_of e182 c182_5 (rw_aload_n (pc' := 6) (v := .ref r0) rfl rfl rfl ?_)
  refine wp_of e182 c182_6 (rw_iload_n (pc' := 7) (z := a2) rfl rfl ?_)
  refine wp_of e182 c182_7 (rw_iload_n (pc' := 8) (z := a3) rfl rfl ?_)
  refine wp_of e182 c182_8 (xc_V (pc' := 11) (r := r0) (as := [vI a2, vI a3]) (st := []) (lm_9_137) rfl rfl (Nat.le_of_ble_eq_true rfl) hW g0 sh_42 (by decide) rfl (by decide) (u_184_o (fo := fo) (po := po) hW g0 ⟨by omega, by omega⟩ ⟨by omega, by omega⟩ qrb grb p30) (fun R33 T34 H35 p36 => ?_))
  obtain ⟨e37, e39, z40, e38, b41, p42⟩ := p36
  subst e37
  subst e38
  subst e39
  obtain ⟨a43, a44⟩ := p42
  show wp _ _ 182 11 [(0, .ref r0), (1, .ref s1), (2, vI a2), (3, vI a3)] [vI z40] _ H _
  have u45 := RO_k a44
  exact wp_ireturn e182 c182_11 rfl ⟨rfl, rfl, z40, rfl, ⟨by omega, by omega⟩, ⟨by omega, a44⟩⟩
/-! StrikeAwakeModel.isName()Z k -/
abbrev uq_189_k (r0 : Nat) (B : Nat → Int) (n : Int) (q : Int) (T : wq_T) (H : wq_H) : Option Value → wq_T → wq_H → Prop := fun r T' H' => T = T' ∧ H = H' ∧ ∃ z : Int, some (vI z) = r ∧ (0 ≤ z ∧ z ≤ 1) ∧ (((z = 1) ∧ (xre B n q = 11) ∧ (xK B n q = 1) ∧ (H r0 15 = xY B n q)) ∨ ((z = 0) ∧ (xre B n q ≠ 11)))
set_option maxHeartbeats 4000000 in
theorem u_189_k {kt : Nat → Option mc_E} {T : wq_T} {H : wq_H} {r0 : Nat} {B : Nat → Int} {n : Int} {q : Int} (hW : WT T H) (g0 : T.2.2.2 r0 = some 42) (hRC_r0 : RC T H r0 B n q) : wpc kt 3 189 [.ref r0] T H (uq_189_k r0 B n q T H) := by
  refine wp_enter e189 (Nat.le_of_ble_eq_true rfl) rfl ?_
  show wp _ _ 189 0 [(0, .ref r0)] [] _ H _
  have u191 := RC_k hRC_r0
  have _s := RC_s hRC_r0
  have _x := @xre_b B n q
  refine wp_of e189 c189_0 (rw_aload_n (pc' := 1) (v := .ref r0) rfl rfl rfl ?_)
  refine wp_of e189 c189_1 (xg_I (pc' := 4) lf_9_75 hW g0 sh_42 (by decide) (by decide) ty_42_9 rfl rfl (fun b192 b193 => ?_))
  refine wp_of e189 c189_4 (rw_iconst (pc' := 5) rfl ?_)
  refine wp_of e189 c189_5 (rw_icmp_ne (p1 := 62) (p2 := 8) (by decide) rfl ⟨by omega, by omega⟩ ⟨by omega, by omega⟩ (fun c194 => ?_) (fun c194 => ?_))
  · refine wp_of e189 c189_62 (rw_iconst (pc' := 63) rfl ?_)
    exact wp_zreturn e189 c189_63 rfl (by omega) ⟨rfl, rfl, 0, rfl, ⟨by omega, by omega⟩, (Or.inr ⟨by omega, by omega⟩)⟩
  · refine wp_of e189 c189_8 (rw_aload_n (pc' := 9) (v := .ref r0) rfl rfl rfl ?_)
    refine wp_of e189 c189_9 (rw_ldcS (pc' := 11) (k := 72) rfl rfl rfl rfl ?_)
    refine wp_of e189 c189_11 (xc_V (pc' := 14) (r := r0) (as := [.ref 72]) (st := []) (lm_9_114) rfl rfl (Nat.le_of_ble_eq_true rfl) hW g0 sh_42 (by decide) rfl (by decide) (u_178_k (B := B) (n := n) (q := q) (kk := 12343) hW g0 rfl (by decide +kernel) hRC_r0) (fun R195 T196 H197 p198 => ?_))
    obtain ⟨e199, e201, z202, e200, b203, p204⟩ := p198
    subst e199
    subst e200
    subst e201
    rcases p204 with ⟨a205, a206, a207⟩ | ⟨a208, a209⟩
    · show wp _ _ 189 14 [(0, .ref r0)] [vI z202] _ H _
      have y210 := xre_y (B := B) (n := n) (q := q) 0 12343 rfl (by decide) (by omega)
      refine wp_of e189 c189_14 (rw_if_ne (p1 := 62) (p2 := 17) (by decide) rfl ⟨by omega, by omega⟩ (fun c211 => ?_) (fun c211 => ?_))
      · refine wp_of e189 c189_62 (rw_iconst (pc' := 63) rfl ?_)
        exact wp_zreturn e189 c189_63 rfl (by omega) ⟨rfl, rfl, 0, rfl, ⟨by omega, by omega⟩, (Or.inr ⟨by omega, by omega⟩)⟩
      · exfalso
        omega
    · show wp _ _ 189 14 [(0, .ref r0)] [vI z202] _ H _
      have y212 := xre_n (B := B) (n := n) (q := q) 0 12343 rfl (by decide) (by omega)
      refine wp_of e189 c189_14 (rw_if_ne (p1 := 62) (p2 := 17) (by decide) rfl ⟨by omega, by omega⟩ (fun c213 => ?_) (fun c213 => ?_))
      · exfalso
        omega
      · refine wp_of e189 c189_17 (rw_aload_n (pc' := 18) (v := .ref r0) rfl rfl rfl ?_)
        refine wp_of e189 c189_18 (rw_ldcS (pc' := 20) (k := 76) rfl rfl rfl rfl ?_)
        refine wp_of e189 c189_20 (xc_V (pc' := 23) (r := r0) (as := [.ref 76]) (st := []) (lm_9_114) rfl rfl (Nat.le_of_ble_eq_true rfl) hW g0 sh_42 (by decide) rfl (by decide) (u_178_k (B := B) (n := n) (q := q) (kk := 542723566) hW g0 rfl (by decide +kernel) hRC_r0) (fun R214 T215 H216 p217 => ?_))
        obtain ⟨e218, e220, z221, e219, b222, p223⟩ := p217
        subst e218
        subst e219
        subst e220
        rcases p223 with ⟨a224, a225, a226⟩ | ⟨a227, a228⟩
        · show wp _ _ 189 23 [(0, .ref r0)] [vI z221] _ H _
          have y229 := xre_y (B := B) (n := n) (q := q) 1 542723566 rfl (by decide) (by omega)
          refine wp_of e189 c189_23 (rw_if_ne (p1 := 62) (p2 := 26) (by decide) rfl ⟨by omega, by omega⟩ (fun c230 => ?_) (fun c230 => ?_))
          · refine wp_of e189 c189_62 (rw_iconst (pc' := 63) rfl ?_)
            exact wp_zreturn e189 c189_63 rfl (by omega) ⟨rfl, rfl, 0, rfl, ⟨by omega, by omega⟩, (Or.inr ⟨by omega, by omega⟩)⟩
          · exfalso
            omega
        · show wp _ _ 189 23 [(0, .ref r0)] [vI z221] _ H _
          have y231 := xre_n (B := B) (n := n) (q := q) 1 542723566 rfl (by decide) (by omega)
          refine wp_of e189 c189_23 (rw_if_ne (p1 := 62) (p2 := 26) (by decide) rfl ⟨by omega, by omega⟩ (fun c232 => ?_) (fun c232 => ?_))
          · exfalso
            omega
          · refine wp_of e189 c189_26 (rw_aload_n (pc' := 27) (v := .ref r0) rfl rfl rfl ?_)
            refine wp_of e189 c189_27 (rw_ldcS (pc' := 29) (k := 77) rfl rfl rfl rfl ?_)
            refine wp_of e189 c189_29 (xc_V (pc' := 32) (r := r0) (as := [.ref 77]) (st := []) (lm_9_114) rfl rfl (Nat.le_of_ble_eq_true rfl) hW g0 sh_42 (by decide) rfl (by decide) (u_178_k (B := B) (n := n) (q := q) (kk := 643584494) hW g0 rfl (by decide +kernel) hRC_r0) (fun R233 T234 H235 p236 => ?_))
            obtain ⟨e237, e239, z240, e238, b241, p242⟩ := p236
            subst e237
            subst e238
            subst e239
            rcases p242 with ⟨a243, a244, a245⟩ | ⟨a246, a247⟩
            · show wp _ _ 189 32 [(0, .ref r0)] [vI z240] _ H _
              have y248 := xre_y (B := B) (n := n) (q := q) 2 643584494 rfl (by decide) (by omega)
              refine wp_of e189 c189_32 (rw_if_ne (p1 := 62) (p2 := 35) (by decide) rfl ⟨by omega, by omega⟩ (fun c249 => ?_) (fun c249 => ?_))
              · refine wp_of e189 c189_62 (rw_iconst (pc' := 63) rfl ?_)
                exact wp_zreturn e189 c189_63 rfl (by omega) ⟨rfl, rfl, 0, rfl, ⟨by omega, by omega⟩, (Or.inr ⟨by omega, by omega⟩)⟩
              · exfalso
                omega
            · show wp _ _ 189 32 [(0, .ref r0)] [vI z240] _ H _
              have y250 := xre_n (B := B) (n := n) (q := q) 2 643584494 rfl (by decide) (by omega)
              refine wp_of e189 c189_32 (rw_if_ne (p1 := 62) (p2 := 35) (by decide) rfl ⟨by omega, by omega⟩ (fun c251 => ?_) (fun c251 => ?_))
              · exfalso
                omega
              · refine wp_of e189 c189_35 (rw_aload_n (pc' := 36) (v := .ref r0) rfl rfl rfl ?_)
                refine wp_of e189 c189_36 (rw_ldcS (pc' := 38) (k := 78) rfl rfl rfl rfl ?_)
                refine wp_of e189 c189_38 (xc_V (pc' := 41) (r := r0) (as := [.ref 78]) (st := []) (lm_9_114) rfl rfl (Nat.le_of_ble_eq_true rfl) hW g0 sh_42 (by decide) rfl (by decide) (u_178_k (B := B) (n := n) (q := q) (kk := 1574484) hW g0 rfl (by decide +kernel) hRC_r0) (fun R252 T253 H254 p255 => ?_))
                obtain ⟨e256, e258, z259, e257, b260, p261⟩ := p255
                subst e256
                subst e257
                subst e258
                rcases p261 with ⟨a262, a263, a264⟩ | ⟨a265, a266⟩
                · show wp _ _ 189 41 [(0, .ref r0)] [vI z259] _ H _
                  have y267 := xre_y (B := B) (n := n) (q := q) 3 1574484 rfl (by decide) (by omega)
                  refine wp_of e189 c189_41 (rw_if_ne (p1 := 62) (p2 := 44) (by decide) rfl ⟨by omega, by omega⟩ (fun c268 => ?_) (fun c268 => ?_))
                  · refine wp_of e189 c189_62 (rw_iconst (pc' := 63) rfl ?_)
                    exact wp_zreturn e189 c189_63 rfl (by omega) ⟨rfl, rfl, 0, rfl, ⟨by omega, by omega⟩, (Or.inr ⟨by omega, by omega⟩)⟩
                  · exfalso
                    omega
                · show wp _ _ 189 41 [(0, .ref r0)] [vI z259] _ H _
                  have y269 := xre_n (B := B) (n := n) (q := q) 3 1574484 rfl (by decide) (by omega)
                  refine wp_of e189 c189_41 (rw_if_ne (p1 := 62) (p2 := 44) (by decide) rfl ⟨by omega, by omega⟩ (fun c270 => ?_) (fun c270 => ?_))
                  · exfalso
                    omega
                  · refine wp_of e189 c189_44 (rw_aload_n (pc' := 45) (v := .ref r0) rfl rfl rfl ?_)
                    refine wp_of e189 c189_45 (rw_ldcS (pc' := 47) (k := 79) rfl rfl rfl rfl ?_)
                    refine wp_of e189 c189_47 (xc_V (pc' := 50) (r := r0) (as := [.ref 79]) (st := []) (lm_9_114) rfl rfl (Nat.le_of_ble_eq_true rfl) hW g0 sh_42 (by decide) rfl (by decide) (u_178_k (B := B) (n := n) (q := q) (kk := 81486) hW g0 rfl (by decide +kernel) hRC_r0) (fun R271 T272 H273 p274 => ?_))
                    obtain ⟨e275, e277, z278, e276, b279, p280⟩ := p274
                    subst e275
                    subst e276
                    subst e277
                    rcases p280 with ⟨a281, a282, a283⟩ | ⟨a284, a285⟩
                    · show wp _ _ 189 50 [(0, .ref r0)] [vI z278] _ H _
                      have y286 := xre_y (B := B) (n := n) (q := q) 4 81486 rfl (by decide) (by omega)
                      refine wp_of e189 c189_50 (rw_if_ne (p1 := 62) (p2 := 53) (by decide) rfl ⟨by omega, by omega⟩ (fun c287 => ?_) (fun c287 => ?_))
                      · refine wp_of e189 c189_62 (rw_iconst (pc' := 63) rfl ?_)
                        exact wp_zreturn e189 c189_63 rfl (by omega) ⟨rfl, rfl, 0, rfl, ⟨by omega, by omega⟩, (Or.inr ⟨by omega, by omega⟩)⟩
                      · exfalso
                        omega
                    · show wp _ _ 189 50 [(0, .ref r0)] [vI z278] _ H _
                      have y288 := xre_n (B := B) (n := n) (q := q) 4 81486 rfl (by decide) (by omega)
                      refine wp_of e189 c189_50 (rw_if_ne (p1 := 62) (p2 := 53) (by decide) rfl ⟨by omega, by omega⟩ (fun c289 => ?_) (fun c289 => ?_))
                      · exfalso
                        omega
                      · refine wp_of e189 c189_53 (rw_aload_n (pc' := 54) (v := .ref r0) rfl rfl rfl ?_)
                        refine wp_of e189 c189_54 (rw_ldcS (pc' := 56) (k := 80) rfl rfl rfl rfl ?_)
                        refine wp_of e189 c189_56 (xc_V (pc' := 59) (r := r0) (as := [.ref 80]) (st := []) (lm_9_114) rfl rfl (Nat.le_of_ble_eq_true rfl) hW g0 sh_42 (by decide) rfl (by decide) (u_178_k (B := B) (n := n) (q := q) (kk := 659117163) hW g0 rfl (by decide +kernel) hRC_r0) (fun R290 T291 H292 p293 => ?_))
                        obtain ⟨e294, e296, z297, e295, b298, p299⟩ := p293
                        subst e294
                        subst e295
                        subst e296
                        rcases p299 with ⟨a300, a301, a302⟩ | ⟨a303, a304⟩
                        · show wp _ _ 189 59 [(0, .ref r0)] [vI z297] _ H _
                          have y305 := xre_y (B := B) (n := n) (q := q) 5 659117163 rfl (by decide) (by omega)
                          refine wp_of e189 c189_59 (rw_if_eq (p1 := 64) (p2 := 62) (by decide) rfl ⟨by omega, by omega⟩ (fun c306 => ?_) (fun c306 => ?_))
                          · exfalso
                            omega
                          · refine wp_of e189 c189_62 (rw_iconst (pc' := 63) rfl ?_)
                            exact wp_zreturn e189 c189_63 rfl (by omega) ⟨rfl, rfl, 0, rfl, ⟨by omega, by omega⟩, (Or.inr ⟨by omega, by omega⟩)⟩
                        · show wp _ _ 189 59 [(0, .ref r0)] [vI z297] _ H _
                          have y307 := xre_n (B := B) (n := n) (q := q) 5 659117163 rfl (by decide) (by omega)
                          refine wp_of e189 c189_59 (rw_if_eq (p1 := 64) (p2 := 62) (by decide) rfl ⟨by omega, by omega⟩ (fun c308 => ?_) (fun c308 => ?_))
                          · refine wp_of e189 c189_64 (rw_aload_n (pc' := 65) (v := .ref r0) rfl rfl rfl ?_)
                            refine wp_of e189 c189_65 (rw_ldcS (pc' := 67) (k := 81) rfl rfl rfl rfl ?_)
                            refine wp_of e189 c189_67 (xc_V (pc' := 70) (r := r0) (as := [.ref 81]) (st := []) (lm_9_114) rfl rfl (Nat.le_of_ble_eq_true rfl) hW g0 sh_42 (by decide) rfl (by decide) (u_178_k (B := B) (n := n) (q := q) (kk := 671108) hW g0 rfl (by decide +kernel) hRC_r0) (fun R309 T310 H311 p312 => ?_))
                            obtain ⟨e313, e315, z316, e314, b317, p318⟩ := p312
                            subst e313
                            subst e314
                            subst e315
                            rcases p318 with ⟨a319, a320, a321⟩ | ⟨a322, a323⟩
                            · show wp _ _ 189 70 [(0, .ref r0)] [vI z316] _ H _
                              have y324 := xre_y (B := B) (n := n) (q := q) 6 671108 rfl (by decide) (by omega)
                              refine wp_of e189 c189_70 (rw_if_ne (p1 := 113) (p2 := 73) (by decide) rfl ⟨by omega, by omega⟩ (fun c325 => ?_) (fun c325 => ?_))
                              · refine wp_of e189 c189_113 (rw_iconst (pc' := 114) rfl ?_)
                                exact wp_zreturn e189 c189_114 rfl (by omega) ⟨rfl, rfl, 0, rfl, ⟨by omega, by omega⟩, (Or.inr ⟨by omega, by omega⟩)⟩
                              · exfalso
                                omega
                            · show wp _ _ 189 70 [(0, .ref r0)] [vI z316] _ H _
                              have y326 := xre_n (B := B) (n := n) (q := q) 6 671108 rfl (by decide) (by omega)
                              refine wp_of e189 c189_70 (rw_if_ne (p1 := 113) (p2 := 73) (by decide) rfl ⟨by omega, by omega⟩ (fun c327 => ?_) (fun c327 => ?_))
                              · exfalso
                                omega
                              · refine wp_of e189 c189_73 (rw_aload_n (pc' := 74) (v := .ref r0) rfl rfl rfl ?_)
                                refine wp_of e189 c189_74 (rw_ldcS (pc' := 76) (k := 82) rfl rfl rfl rfl ?_)
                                refine wp_of e189 c189_76 (xc_V (pc' := 79) (r := r0) (as := [.ref 82]) (st := []) (lm_9_114) rfl rfl (Nat.le_of_ble_eq_true rfl) hW g0 sh_42 (by decide) rfl (by decide) (u_178_k (B := B) (n := n) (q := q) (kk := 15931570) hW g0 rfl (by decide +kernel) hRC_r0) (fun R328 T329 H330 p331 => ?_))
                                obtain ⟨e332, e334, z335, e333, b336, p337⟩ := p331
                                subst e332
                                subst e333
                                subst e334
                                rcases p337 with ⟨a338, a339, a340⟩ | ⟨a341, a342⟩
                                · show wp _ _ 189 79 [(0, .ref r0)] [vI z335] _ H _
                                  have y343 := xre_y (B := B) (n := n) (q := q) 7 15931570 rfl (by decide) (by omega)
                                  refine wp_of e189 c189_79 (rw_if_ne (p1 := 113) (p2 := 82) (by decide) rfl ⟨by omega, by omega⟩ (fun c344 => ?_) (fun c344 => ?_))
                                  · refine wp_of e189 c189_113 (rw_iconst (pc' := 114) rfl ?_)
                                    exact wp_zreturn e189 c189_114 rfl (by omega) ⟨rfl, rfl, 0, rfl, ⟨by omega, by omega⟩, (Or.inr ⟨by omega, by omega⟩)⟩
                                  · exfalso
                                    omega
                                · show wp _ _ 189 79 [(0, .ref r0)] [vI z335] _ H _
                                  have y345 := xre_n (B := B) (n := n) (q := q) 7 15931570 rfl (by decide) (by omega)
                                  refine wp_of e189 c189_79 (rw_if_ne (p1 := 113) (p2 := 82) (by decide) rfl ⟨by omega, by omega⟩ (fun c346 => ?_) (fun c346 => ?_))
                                  · exfalso
                                    omega
                                  · refine wp_of e189 c189_82 (rw_aload_n (pc' := 83) (v := .ref r0) rfl rfl rfl ?_)
                                    refine wp_of e189 c189_83 (rw_ldcS (pc' := 85) (k := 83) rfl rfl rfl rfl ?_)
                                    refine wp_of e189 c189_85 (xc_V (pc' := 88) (r := r0) (as := [.ref 83]) (st := []) (lm_9_114) rfl rfl (Nat.le_of_ble_eq_true rfl) hW g0 sh_42 (by decide) rfl (by decide) (u_178_k (B := B) (n := n) (q := q) (kk := 8423732) hW g0 rfl (by decide +kernel) hRC_r0) (fun R347 T348 H349 p350 => ?_))
                                    obtain ⟨e351, e353, z354, e352, b355, p356⟩ := p350
                                    subst e351
                                    subst e352
                                    subst e353
                                    rcases p356 with ⟨a357, a358, a359⟩ | ⟨a360, a361⟩
                                    · show wp _ _ 189 88 [(0, .ref r0)] [vI z354] _ H _
                                      have y362 := xre_y (B := B) (n := n) (q := q) 8 8423732 rfl (by decide) (by omega)
                                      refine wp_of e189 c189_88 (rw_if_ne (p1 := 113) (p2 := 91) (by decide) rfl ⟨by omega, by omega⟩ (fun c363 => ?_) (fun c363 => ?_))
                                      · refine wp_of e189 c189_113 (rw_iconst (pc' := 114) rfl ?_)
                                        exact wp_zreturn e189 c189_114 rfl (by omega) ⟨rfl, rfl, 0, rfl, ⟨by omega, by omega⟩, (Or.inr ⟨by omega, by omega⟩)⟩
                                      · exfalso
                                        omega
                                    · show wp _ _ 189 88 [(0, .ref r0)] [vI z354] _ H _
                                      have y364 := xre_n (B := B) (n := n) (q := q) 8 8423732 rfl (by decide) (by omega)
                                      refine wp_of e189 c189_88 (rw_if_ne (p1 := 113) (p2 := 91) (by decide) rfl ⟨by omega, by omega⟩ (fun c365 => ?_) (fun c365 => ?_))
                                      · exfalso
                                        omega
                                      · refine wp_of e189 c189_91 (rw_aload_n (pc' := 92) (v := .ref r0) rfl rfl rfl ?_)
                                        refine wp_of e189 c189_92 (rw_ldcS (pc' := 94) (k := 84) rfl rfl rfl rfl ?_)
                                        refine wp_of e189 c189_94 (xc_V (pc' := 97) (r := r0) (as := [.ref 84]) (st := []) (lm_9_114) rfl rfl (Nat.le_of_ble_eq_true rfl) hW g0 sh_42 (by decide) rfl (by decide) (u_178_k (B := B) (n := n) (q := q) (kk := 14384) hW g0 rfl (by decide +kernel) hRC_r0) (fun R366 T367 H368 p369 => ?_))
                                        obtain ⟨e370, e372, z373, e371, b374, p375⟩ := p369
                                        subst e370
                                        subst e371
                                        subst e372
                                        rcases p375 with ⟨a376, a377, a378⟩ | ⟨a379, a380⟩
                                        · show wp _ _ 189 97 [(0, .ref r0)] [vI z373] _ H _
                                          have y381 := xre_y (B := B) (n := n) (q := q) 9 14384 rfl (by decide) (by omega)
                                          refine wp_of e189 c189_97 (rw_if_ne (p1 := 113) (p2 := 100) (by decide) rfl ⟨by omega, by omega⟩ (fun c382 => ?_) (fun c382 => ?_))
                                          · refine wp_of e189 c189_113 (rw_iconst (pc' := 114) rfl ?_)
                                            exact wp_zreturn e189 c189_114 rfl (by omega) ⟨rfl, rfl, 0, rfl, ⟨by omega, by omega⟩, (Or.inr ⟨by omega, by omega⟩)⟩
                                          · exfalso
                                            omega
                                        · show wp _ _ 189 97 [(0, .ref r0)] [vI z373] _ H _
                                          have y383 := xre_n (B := B) (n := n) (q := q) 9 14384 rfl (by decide) (by omega)
                                          refine wp_of e189 c189_97 (rw_if_ne (p1 := 113) (p2 := 100) (by decide) rfl ⟨by omega, by omega⟩ (fun c384 => ?_) (fun c384 => ?_))
                                          · exfalso
                                            omega
                                          · refine wp_of e189 c189_100 (rw_aload_n (pc' := 101) (v := .ref r0) rfl rfl rfl ?_)
                                            refine wp_of e189 c189_101 (rw_ldcS (pc' := 103) (k := 85) rfl rfl rfl rfl ?_)
                                            refine wp_of e189 c189_103 (xc_V (pc' := 106) (r := r0) (as := [.ref 85]) (st := []) (lm_9_114) rfl rfl (Nat.le_of_ble_eq_true rfl) hW g0 sh_42 (by decide) rfl (by decide) (u_178_k (B := B) (n := n) (q := q) (kk := 56377) hW g0 rfl (by decide +kernel) hRC_r0) (fun R385 T386 H387 p388 => ?_))
                                            obtain ⟨e389, e391, z392, e390, b393, p394⟩ := p388
                                            subst e389
                                            subst e390
                                            subst e391
                                            rcases p394 with ⟨a395, a396, a397⟩ | ⟨a398, a399⟩
                                            · show wp _ _ 189 106 [(0, .ref r0)] [vI z392] _ H _
                                              have y400 := xre_y (B := B) (n := n) (q := q) 10 56377 rfl (by decide) (by omega)
                                              refine wp_of e189 c189_106 (rw_if_ne (p1 := 113) (p2 := 109) (by decide) rfl ⟨by omega, by omega⟩ (fun c401 => ?_) (fun c401 => ?_))
                                              · refine wp_of e189 c189_113 (rw_iconst (pc' := 114) rfl ?_)
                                                exact wp_zreturn e189 c189_114 rfl (by omega) ⟨rfl, rfl, 0, rfl, ⟨by omega, by omega⟩, (Or.inr ⟨by omega, by omega⟩)⟩
                                              · exfalso
                                                omega
                                            · show wp _ _ 189 106 [(0, .ref r0)] [vI z392] _ H _
                                              have y402 := xre_n (B := B) (n := n) (q := q) 10 56377 rfl (by decide) (by omega)
                                              refine wp_of e189 c189_106 (rw_if_ne (p1 := 113) (p2 := 109) (by decide) rfl ⟨by omega, by omega⟩ (fun c403 => ?_) (fun c403 => ?_))
                                              · exfalso
                                                omega
                                              · refine wp_of e189 c189_109 (rw_iconst (pc' := 110) rfl ?_)
                                                refine wp_of e189 c189_110 (rw_goto (p1 := 114) (by decide) ?_)
                                                exact wp_zreturn e189 c189_114 rfl (by omega) ⟨rfl, rfl, 1, rfl, ⟨by omega, by omega⟩, (Or.inl ⟨by omega, by omega, by omega, by omega⟩)⟩
                          · exfalso
                            omega
/-! StrikeAwakeModel.isName()Z o -/
abbrev uq_189_o (r0 : Nat) (fo : Int) (po : Int) (T : wq_T) (H : wq_H) : Option Value → wq_T → wq_H → Prop := fun r T' H' => T = T' ∧ H = H' ∧ ∃ z : Int, some (vI z) = r ∧ (0 ≤ z ∧ z ≤ 1) ∧ (((z = 0)))
set_option maxHeartbeats 4000000 in
theorem u_189_o {kt : Nat → Option mc_E} {T : wq_T} {H : wq_H} {r0 : Nat} {fo : Int} {po : Int} (hW : WT T H) (g0 : T.2.2.2 r0 = some 42) (hRO_r0 : RO T H r0 fo po) : wpc kt 3 189 [.ref r0] T H (uq_189_o r0 fo po T H) := by
  refine wp_enter e189 (Nat.le_of_ble_eq_true rfl) rfl ?_
  show wp _ _ 189 0 [(0, .ref r0)] [] _ H _
  have u4 := RO_k hRO_r0
  refine wp_of e189 c189_0 (rw_aload_n (pc' := 1) (v := .ref r0) rfl rfl rfl ?_)
  refine wp_of e189 c189_1 (xg_I (pc' := 4) lf_9_75 hW g0 sh_42 (by decide) (by decide) ty_42_9 rfl rfl (fun b5 b6 => ?_))
  refine wp_of e189 c189_4 (rw_iconst (pc' := 5) rfl ?_)
  refine wp_of e189 c189_5 (rw_icmp_ne (p1 := 62) (p2 := 8) (by decide) rfl ⟨by omega, by omega⟩ ⟨by omega, by omega⟩ (fun c7 => ?_) (fun c7 => ?_))
  · refine wp_of e189 c189_62 (rw_iconst (pc' := 63) rfl ?_)
    exact wp_zreturn e189 c189_63 rfl (by omega) ⟨rfl, rfl, 0, rfl, ⟨by omega, by omega⟩, (by omega)⟩
  · exfalso
    omega
/-! StrikeAwakeModel.begins(II)V k -/
abbrev uq_188_k (r0 : Nat) (a1 : Int) (a2 : Int) (rb : Nat) (B : Nat → Int) (n : Int) (q : Int) (T : wq_T) (H : wq_H) : Option Value → wq_T → wq_H → Prop := fun r T' H' => T = T' ∧ WT T H' ∧ wfr [(42, 8), (42, 9), (42, 10), (42, 11), (42, 12), (42, 13), (42, 14), (42, 15)] T H H' ∧ none = r ∧ (((a1 ≠ a2) ∧ RC T H' r0 B n (xN B n q)) ∨ ((a1 = a2) ∧ RO T H' r0 (5) q))
set_option maxHeartbeats 4000000 in
theorem u_188_k {kt : Nat → Option mc_E} {T : wq_T} {H : wq_H} {r0 : Nat} {a1 : Int} {a2 : Int} {rb : Nat} {B : Nat → Int} {n : Int} {q : Int} (hW : WT T H) (g0 : T.2.2.2 r0 = some 42) (i1 : (-2147483648) ≤ a1 ∧ a1 ≤ 2147483647) (i2 : (-2147483648) ≤ a2 ∧ a2 ≤ 2147483647) (qrb : H r0 5 = (rb : Int)) (grb : T.2.2.2 rb = some 43) (p0 : xK B n q = 1) (hRC_r0 : RC T H r0 B n q) : wpc kt 3 188 [.ref r0, vI a1, vI a2] T H (uq_188_k r0 a1 a2 rb B n q T H) := by
  refine wp_enter e188 (Nat.le_of_ble_eq_true rfl) rfl ?_
  have f0 : wfr [(42, 8), (42, 9), (42, 10), (42, 11), (42, 12), (42, 13), (42, 14), (42, 15)] T H H := wfr.rf
  show wp _ _ 188 0 [(0, .ref r0), (1, vI a1), (2, vI a2)] [] _ H _
  have u33 := RC_k hRC_r0
  refine wp_of e188 c188_0 (rw_iload_n (pc' := 1) (z := a1) rfl rfl ?_)
  refine wp_of e188 c188_1 (rw_iload_n (pc' := 2) (z := a2) rfl rfl ?_)
  refine wp_of e188 c188_2 (rw_icmp_ne (p1 := 10) (p2 := 5) (by decide) rfl ⟨by omega, by omega⟩ ⟨by omega, by omega⟩ (fun c34 => ?_) (fun c34 => ?_))
  · refine wp_of e188 c188_10 (rw_aload_n (pc' := 11) (v := .ref r0) rfl rfl rfl ?_)
    have u35 := RC_a hRC_r0
    have h36 : TM T H rb B := RC_tm hRC_r0 qrb
    refine wp_of e188 c188_11 (xc_V (pc' := 14) (r := r0) (as := []) (st := []) (lm_9_118) rfl rfl (Nat.le_of_ble_eq_true rfl) hW g0 sh_42 (by decide) rfl (by decide) (u_172_k (B := B) (n := n) (a := (xE B n q)) (q := (xN B n q)) hW g0 qrb grb (by omega) (by omega) (by omega) (by omega) (by omega) (rfl) h36) (fun R37 T38 H39 p40 => ?_))
    obtain ⟨e41, w43, f44, e42, p45⟩ := p40
    subst e41
    subst e42
    have f47 := f0.tr f44 rfl
    show wp _ _ 188 14 [(0, .ref r0), (1, vI a1), (2, vI a2)] [] _ H39 _
    have u48 := RC_k p45
    exact wp_return e188 c188_14 rfl ⟨rfl, w43, f47, rfl, (Or.inl ⟨by omega, p45⟩)⟩
  · refine wp_of e188 c188_5 (rw_aload_n (pc' := 6) (v := .ref r0) rfl rfl rfl ?_)
    refine wp_of e188 c188_6 (rw_iconst (pc' := 7) rfl ?_)
    refine wp_of e188 c188_7 (xc_V (pc' := 10) (r := r0) (as := [vI 5]) (st := []) (lm_9_121) rfl rfl (Nat.le_of_ble_eq_true rfl) hW g0 sh_42 (by decide) rfl (by decide) (u_181_k (B := B) (n := n) (q := q) hW g0 ⟨by omega, by omega⟩ (by omega) hRC_r0) (fun R49 T50 H51 p52 => ?_))
    obtain ⟨e53, w55, f56, e54, p57⟩ := p52
    subst e53
    subst e54
    have f59 := f0.tr f56 rfl
    show wp _ _ 188 10 [(0, .ref r0), (1, vI a1), (2, vI a2)] [] _ H51 _
    have u60 := RO_k p57
    refine wp_of e188 c188_10 (rw_aload_n (pc' := 11) (v := .ref r0) rfl rfl rfl ?_)
    refine wp_of e188 c188_11 (xc_V (pc' := 14) (r := r0) (as := []) (st := []) (lm_9_118) rfl rfl (Nat.le_of_ble_eq_true rfl) w55 g0 sh_42 (by decide) rfl (by decide) (u_172_o (fo := 5) (po := q) w55 g0 p57) (fun R61 T62 H63 p64 => ?_))
    obtain ⟨e65, e67, e66, p68⟩ := p64
    subst e65
    subst e66
    subst e67
    show wp _ _ 188 14 [(0, .ref r0), (1, vI a1), (2, vI a2)] [] _ H51 _
    have u70 := RO_k p68
    exact wp_return e188 c188_14 rfl ⟨rfl, w55, f59, rfl, (Or.inr ⟨by omega, RO_eq p68 (by omega) (by omega)⟩)⟩
/-! StrikeAwakeModel.begins(II)V o -/
abbrev uq_188_o (r0 : Nat) (a1 : Int) (a2 : Int) (rb : Nat) (fo : Int) (po : Int) (T : wq_T) (H : wq_H) : Option Value → wq_T → wq_H → Prop := fun r T' H' => T = T' ∧ H = H' ∧ none = r ∧ ((RO T H r0 fo po))
set_option maxHeartbeats 4000000 in
theorem u_188_o {kt : Nat → Option mc_E} {T : wq_T} {H : wq_H} {r0 : Nat} {a1 : Int} {a2 : Int} {rb : Nat} {fo : Int} {po : Int} (hW : WT T H) (g0 : T.2.2.2 r0 = some 42) (i1 : (-2147483648) ≤ a1 ∧ a1 ≤ 2147483647) (i2 : (-2147483648) ≤ a2 ∧ a2 ≤ 2147483647) (qrb : H r0 5 = (rb : Int)) (grb : T.2.2.2 rb = some 43) (hRO_r0 : RO T H r0 fo po) : wpc kt 3 188 [.ref r0, vI a1, vI a2] T H (uq_188_o r0 a1 a2 rb fo po T H) := by
  refine wp_enter e188 (Nat.le_of_ble_eq_true rfl) rfl ?_
  show wp _ _ 188 0 [(0, .ref r0), (1, vI a1), (2, vI a2)] [] _ H _
  have u29 := RO_k hRO_r0
  refine wp_of e188 c188_0 (rw_iload_n (pc' := 1) (z := a1) rfl rfl ?_)
  refine wp_of e188 c188_1 (rw_iload_n (pc' := 2) (z := a2) rfl rfl ?_)
  refine wp_of e188 c188_2 (rw_icmp_ne (p1 := 10) (p2 := 5) (by decide) rfl ⟨by omega, by omega⟩ ⟨by omega, by omega⟩ (fun c30 => ?_) (fun c30 => ?_))
  · refine wp_of e188 c188_10 (rw_aload_n (pc' := 11) (v := .ref r0) rfl rfl rfl ?_)
    refine wp_of e188 c188_11 (xc_V (pc' := 14) (r := r0) (as := []) (st := []) (lm_9_118) rfl rfl (Nat.le_of_ble_eq_true rfl) hW g0 sh_42 (by decide) rfl (by decide) (u_172_o (fo := fo) (po := po) hW g0 hRO_r0) (fun R31 T32 H33 p34 => ?_))
    obtain ⟨e35, e37, e36, p38⟩ := p34
    subst e35
    subst e36
    subst e37
    show wp _ _ 188 14 [(0, .ref r0), (1, vI a1), (2, vI a2)] [] _ H _
    have u40 := RO_k p38
    exact wp_return e188 c188_14 rfl ⟨rfl, rfl, rfl, (p38)⟩
  · refine wp_of e188 c188_5 (rw_aload_n (pc' := 6) (v := .ref r0) rfl rfl rfl ?_)
    refine wp_of e188 c188_6 (rw_iconst (pc' := 7) rfl ?_)
    refine wp_of e188 c188_7 (xc_V (pc' := 10) (r := r0) (as := [vI 5]) (st := []) (lm_9_121) rfl rfl (Nat.le_of_ble_eq_true rfl) hW g0 sh_42 (by decide) rfl (by decide) (u_181_o (fo := fo) (po := po) hW g0 ⟨by omega, by omega⟩ hRO_r0) (fun R41 T42 H43 p44 => ?_))
    obtain ⟨e45, e47, e46, p48⟩ := p44
    subst e45
    subst e46
    subst e47
    show wp _ _ 188 10 [(0, .ref r0), (1, vI a1), (2, vI a2)] [] _ H _
    have u50 := RO_k p48
    refine wp_of e188 c188_10 (rw_aload_n (pc' := 11) (v := .ref r0) rfl rfl rfl ?_)
    refine wp_of e188 c188_11 (xc_V (pc' := 14) (r := r0) (as := []) (st := []) (lm_9_118) rfl rfl (Nat.le_of_ble_eq_true rfl) hW g0 sh_42 (by decide) rfl (by decide) (u_172_o (fo := fo) (po := po) hW g0 p48) (fun R51 T52 H53 p54 => ?_))
    obtain ⟨e55, e57, e56, p58⟩ := p54
    subst e55
    subst e56
    subst e57
    show wp _ _ 188 14 [(0, .ref r0), (1, vI a1), (2, vI a2)] [] _ H _
    have u60 := RO_k p58
    exact wp_return e188 c188_14 rfl ⟨rfl, rfl, rfl, (p58)⟩
/-! StrikeAwakeModel$Parish.find(J)I k -/
abbrev uq_190_k (r0 : Nat) (a1 : Int) (mm : Nat) (d : xD) (y : Int) (T : wq_T) (H : wq_H) : Option Value → wq_T → wq_H → Prop := fun r T' H' => T = T' ∧ H = H' ∧ ∃ z : Int, some (vI z) = r ∧ ((-1) ≤ z ∧ z ≤ 5) ∧ (((-1 ≤ z ∧ z ≤ 5) ∧ (z = xfi (d 1) (d 0 3) y)))
set_option maxHeartbeats 4000000 in
theorem u_190_k {kt : Nat → Option mc_E} {T : wq_T} {H : wq_H} {r0 : Nat} {a1 : Int} {mm : Nat} {d : xD} {y : Int} (hW : WT T H) (g0 : T.2.2.2 r0 = some 54) (i1 : (-9223372036854775808) ≤ a1 ∧ a1 ≤ 9223372036854775807) (p0 : a1 = y) (hDM_r0 : DM T H r0 mm d) : wpc kt 1 190 [.ref r0, vL a1] T H (uq_190_k r0 a1 mm d y T H) := by
  refine wp_enter e190 (Nat.le_of_ble_eq_true rfl) rfl ?_
  show wp _ _ 190 0 [(0, .ref r0), (1, vL a1)] [] _ H _
  have u90 := DM_k hDM_r0
  have h91 : MA9 T H r0 (d 1) := hDM_r0.2.2.2.1
  refine wp_of e190 c190_0 (rw_iconst (pc' := 1) rfl ?_)
  refine wp_of e190 c190_1 (rw_istore_n (pc' := 2) (z := 0) (L' := [(3, vI 0), (0, .ref r0), (1, vL a1)]) rfl rfl rfl ?_)
  have lp169 : ∀ (n170 : Nat) (v172 : Int), (0 ≤ v172 ∧ v172 ≤ 6) → (xfr (d 1) (d 0 3) y v172 = xfi (d 1) (d 0 3) y) → (6 - v172).toNat = n170 → wp kt 0 190 2 [(3, vI v172), (0, .ref r0), (1, vL a1)] [] T H (uq_190_k r0 a1 mm d y T H) := by
    intro n170
    induction n170 using Nat.strongRecOn with
    | _ n170 ih171 =>
      intro v172 b175 x176 m177
      refine wp_of e190 c190_2 (rw_iload_n (pc' := 3) (z := v172) rfl rfl ?_)
      refine wp_of e190 c190_3 (rw_aload_n (pc' := 4) (v := .ref r0) rfl rfl rfl ?_)
      refine wp_of e190 c190_4 (xg_I (pc' := 7) lf_10_72 hW g0 sh_54 (by decide) (by decide) ty_54_3 rfl rfl (fun b178 b179 => ?_))
      refine wp_of e190 c190_7 (rw_icmp_ge (p1 := 29) (p2 := 10) (by decide) rfl ⟨by omega, by omega⟩ ⟨by omega, by omega⟩ (fun c180 => ?_) (fun c180 => ?_))
      · have := @xfr_n (d 1) (d 0 3) y v172 (by omega)
        refine wp_of e190 c190_29 (rw_iconst (pc' := 30) rfl ?_)
        exact wp_ireturn e190 c190_30 rfl ⟨rfl, rfl, -1, rfl, ⟨by omega, by omega⟩, ⟨by omega, by omega⟩⟩
      · refine wp_of e190 c190_10 (rw_aload_n (pc' := 11) (v := .ref r0) rfl rfl rfl ?_)
        refine wp_of e190 c190_11 (xg_R (pc' := 14) lf_10_15 hW g0 sh_54 (by decide) (by decide) ty_54_9 rfl rfl (fun r181 q182 g183 => ?_))
        refine wp_of e190 c190_14 (rw_iload_n (pc' := 15) (z := v172) rfl rfl ?_)
        refine wp_of e190 c190_15 (xa_L (pc' := 16) hW g183 sh_55 (by decide) (ty_55 _) (by omega) (by omega) rfl (fun b184 b185 => ?_))
        have := MA_at h91 q182 (k := (v172.toNat)) (by omega)
        refine wp_of e190 c190_16 (rw_lload_n (pc' := 17) (z := a1) rfl rfl ?_)
        refine wp_of e190 c190_17 (rw_lcmp (pc' := 18) rfl ⟨by omega, by omega⟩ ⟨by omega, by omega⟩ ?_)
        have b186 := wq_cmp_b (H r181 (v172.toNat)) a1
        refine wp_of e190 c190_18 (rw_if_ne (p1 := 23) (p2 := 21) (by decide) rfl ⟨by omega, by omega⟩ (fun c187 => ?_) (fun c187 => ?_))
        · have := @xfr_s (d 1) (d 0 3) y v172 (by omega) (by omega)
          refine wp_of e190 c190_23 (rw_iinc (pc' := 26) (z := v172) (L' := [(3, vI (v172 + 1)), (0, .ref r0), (1, vL a1)]) rfl rfl rfl rfl ?_)
          refine wp_of e190 c190_26 (rw_goto (p1 := 2) (by decide) ?_)
          exact wp_lc (ks := [3, 0, 1]) (wl_c rfl (wl_c rfl (wl_c rfl wl_n))) rfl (by decide) (ih171 _ (by omega) (v172 + 1) ⟨by omega, by omega⟩ (by omega) rfl)
        · have := @xfr_e (d 1) (d 0 3) y v172 (by omega) (by omega)
          refine wp_of e190 c190_21 (rw_iload_n (pc' := 22) (z := v172) rfl rfl ?_)
          exact wp_ireturn e190 c190_22 rfl ⟨rfl, rfl, v172, rfl, ⟨by omega, by omega⟩, ⟨by omega, by omega⟩⟩
  have : xfr (d 1) (d 0 3) y 0 = xfi (d 1) (d 0 3) y := rfl
  exact wp_lc (ks := [3, 0, 1]) (wl_c rfl (wl_c rfl (wl_c rfl wl_n))) rfl (by decide) (lp169 _ 0 ⟨by omega, by omega⟩ (by omega) rfl)
/-! StrikeAwakeModel$Parish.find(J)I o -/
abbrev uq_190_o (r0 : Nat) (a1 : Int) (T : wq_T) (H : wq_H) : Option Value → wq_T → wq_H → Prop := fun r T' H' => T = T' ∧ H = H' ∧ ∃ z : Int, some (vI z) = r ∧ ((-1) ≤ z ∧ z ≤ 5) ∧ (((-1 ≤ z ∧ z ≤ 5)))
set_option maxHeartbeats 4000000 in
theorem u_190_o {kt : Nat → Option mc_E} {T : wq_T} {H : wq_H} {r0 : Nat} {a1 : Int} (hW : WT T H) (g0 : T.2.2.2 r0 = some 54) (i1 : (-9223372036854775808) ≤ a1 ∧ a1 ≤ 9223372036854775807) : wpc kt 1 190 [.ref r0, vL a1] T H (uq_190_o r0 a1 T H) := by
  refine wp_enter e190 (Nat.le_of_ble_eq_true rfl) rfl ?_
  show wp _ _ 190 0 [(0, .ref r0), (1, vL a1)] [] _ H _
  refine wp_of e190 c190_0 (rw_iconst (pc' := 1) rfl ?_)
  refine wp_of e190 c190_1 (rw_istore_n (pc' := 2) (z := 0) (L' := [(3, vI 0), (0, .ref r0), (1, vL a1)]) rfl rfl rfl ?_)
  have lp152 : ∀ (n153 : Nat) (v155 : Int), (0 ≤ v155 ∧ v155 ≤ 6) → (6 - v155).toNat = n153 → wp kt 0 190 2 [(3, vI v155), (0, .ref r0), (1, vL a1)] [] T H (uq_190_o r0 a1 T H) := by
    intro n153
    induction n153 using Nat.strongRecOn with
    | _ n153 ih154 =>
      intro v155 b158 m159
      refine wp_of e190 c190_2 (rw_iload_n (pc' := 3) (z := v155) rfl rfl ?_)
      refine wp_of e190 c190_3 (rw_aload_n (pc' := 4) (v := .ref r0) rfl rfl rfl ?_)
      refine wp_of e190 c190_4 (xg_I (pc' := 7) lf_10_72 hW g0 sh_54 (by decide) (by decide) ty_54_3 rfl rfl (fun b160 b161 => ?_))
      refine wp_of e190 c190_7 (rw_icmp_ge (p1 := 29) (p2 := 10) (by decide) rfl ⟨by omega, by omega⟩ ⟨by omega, by omega⟩ (fun c162 => ?_) (fun c162 => ?_))
      · refine wp_of e190 c190_29 (rw_iconst (pc' := 30) rfl ?_)
        exact wp_ireturn e190 c190_30 rfl ⟨rfl, rfl, -1, rfl, ⟨by omega, by omega⟩, (by omega)⟩
      · refine wp_of e190 c190_10 (rw_aload_n (pc' := 11) (v := .ref r0) rfl rfl rfl ?_)
        refine wp_of e190 c190_11 (xg_R (pc' := 14) lf_10_15 hW g0 sh_54 (by decide) (by decide) ty_54_9 rfl rfl (fun r163 q164 g165 => ?_))
        refine wp_of e190 c190_14 (rw_iload_n (pc' := 15) (z := v155) rfl rfl ?_)
        refine wp_of e190 c190_15 (xa_L (pc' := 16) hW g165 sh_55 (by decide) (ty_55 _) (by omega) (by omega) rfl (fun b166 b167 => ?_))
        refine wp_of e190 c190_16 (rw_lload_n (pc' := 17) (z := a1) rfl rfl ?_)
        refine wp_of e190 c190_17 (rw_lcmp (pc' := 18) rfl ⟨by omega, by omega⟩ ⟨by omega, by omega⟩ ?_)
        have b168 := wq_cmp_b (H r163 (v155.toNat)) a1
        refine wp_of e190 c190_18 (rw_if_ne (p1 := 23) (p2 := 21) (by decide) rfl ⟨by omega, by omega⟩ (fun c169 => ?_) (fun c169 => ?_))
        · refine wp_of e190 c190_23 (rw_iinc (pc' := 26) (z := v155) (L' := [(3, vI (v155 + 1)), (0, .ref r0), (1, vL a1)]) rfl rfl rfl rfl ?_)
          refine wp_of e190 c190_26 (rw_goto (p1 := 2) (by decide) ?_)
          exact wp_lc (ks := [3, 0, 1]) (wl_c rfl (wl_c rfl (wl_c rfl wl_n))) rfl (by decide) (ih154 _ (by omega) (v155 + 1) ⟨by omega, by omega⟩ rfl)
        · refine wp_of e190 c190_21 (rw_iload_n (pc' := 22) (z := v155) rfl rfl ?_)
          exact wp_ireturn e190 c190_22 rfl ⟨rfl, rfl, v155, rfl, ⟨by omega, by omega⟩, (by omega)⟩
  exact wp_lc (ks := [3, 0, 1]) (wl_c rfl (wl_c rfl (wl_c rfl wl_n))) rfl (by decide) (lp152 _ 0 ⟨by omega, by omega⟩ rfl)
/-! StrikeAwakeModel.known()I k -/
abbrev uq_195_k (r0 : Nat) (rp : Nat) (B : Nat → Int) (n : Int) (q : Int) (d : xD) (T : wq_T) (H : wq_H) : Option Value → wq_T → wq_H → Prop := fun r T' H' => T = T' ∧ WT T H' ∧ wfr [(42, 9), (42, 13), (42, 14)] T H H' ∧ ∃ z : Int, some (vI z) = r ∧ (0 ≤ z ∧ z ≤ 5) ∧ (((0 ≤ z ∧ z ≤ 5) ∧ (xkn B n q d = 0) ∧ (z = xwho B n q d) ∧ (z < d 0 3) ∧ (xK B n q = 1) ∧ RC T H' r0 B n q) ∨ ((z = 0) ∧ (xkn B n q d ≠ 0) ∧ RO T H' r0 (xkn B n q d) q))
set_option maxHeartbeats 4000000 in
theorem u_195_k {kt : Nat → Option mc_E} {T : wq_T} {H : wq_H} {r0 : Nat} {rp : Nat} {B : Nat → Int} {n : Int} {q : Int} {d : xD} (hW : WT T H) (g0 : T.2.2.2 r0 = some 42) (qrp : H r0 4 = (rp : Int)) (grp : T.2.2.2 rp = some 54) (hRC_r0 : RC T H r0 B n q) (hDM_rp : DM T H rp r0 d) : wpc kt 4 195 [.ref r0] T H (uq_195_k r0 rp B n q d T H) := by
  refine wp_enter e195 (Nat.le_of_ble_eq_true rfl) rfl ?_
  have f0 : wfr [(42, 9), (42, 13), (42, 14)] T H H := wfr.rf
  show wp _ _ 195 0 [(0, .ref r0)] [] _ H _
  have u94 := RC_k hRC_r0
  have u95 := DM_k hDM_rp
  have _s := RC_s hRC_r0
  have _x1 := @xkn_b d B n q
  have _x2 := @xwho_e d B n q
  refine wp_of e195 c195_0 (rw_aload_n (pc' := 1) (v := .ref r0) rfl rfl rfl ?_)
  refine wp_of e195 c195_1 (xc_V (pc' := 4) (r := r0) (as := []) (st := []) (lm_9_162) rfl rfl (Nat.le_of_ble_eq_true rfl) hW g0 sh_42 (by decide) rfl (by decide) (u_189_k (B := B) (n := n) (q := q) hW g0 hRC_r0) (fun R96 T97 H98 p99 => ?_))
  obtain ⟨e100, e102, z103, e101, b104, p105⟩ := p99
  subst e100
  subst e101
  subst e102
  rcases p105 with ⟨a106, a107, a108, a109⟩ | ⟨a110, a111⟩
  · show wp _ _ 195 4 [(0, .ref r0)] [vI z103] _ H _
    refine wp_of e195 c195_4 (rw_if_ne (p1 := 12) (p2 := 7) (by decide) rfl ⟨by omega, by omega⟩ (fun c112 => ?_) (fun c112 => ?_))
    · refine wp_of e195 c195_12 (rw_aload_n (pc' := 13) (v := .ref r0) rfl rfl rfl ?_)
      refine wp_of e195 c195_13 (xg_K (pc' := 16) lf_9_166 hW g0 sh_42 (by decide) (by decide) rfl qrp rfl ?_)
      refine wp_of e195 c195_16 (rw_aload_n (pc' := 17) (v := .ref r0) rfl rfl rfl ?_)
      refine wp_of e195 c195_17 (xg_L (pc' := 20) lf_9_94 hW g0 sh_42 (by decide) (by decide) ty_42_15 rfl rfl (fun b113 b114 => ?_))
      refine wp_of e195 c195_20 (xc_V (pc' := 23) (r := rp) (as := [vL (H r0 15)]) (st := []) (lm_9_170) rfl rfl (Nat.le_of_ble_eq_true rfl) hW grp sh_54 (by decide) rfl (by decide) (u_190_k (mm := r0) (d := d) (y := (xY B n q)) hW grp ⟨by omega, by omega⟩ (by omega) hDM_rp) (fun R115 T116 H117 p118 => ?_))
      obtain ⟨e119, e121, z122, e120, b123, p124⟩ := p118
      subst e119
      subst e120
      subst e121
      obtain ⟨a125, a126⟩ := p124
      show wp _ _ 195 23 [(0, .ref r0)] [vI z122] _ H _
      refine wp_of e195 c195_23 (rw_istore_n (pc' := 24) (z := z122) (L' := [(1, vI z122), (0, .ref r0)]) rfl rfl rfl ?_)
      refine wp_of e195 c195_24 (rw_iload_n (pc' := 25) (z := z122) rfl rfl ?_)
      refine wp_of e195 c195_25 (rw_iconst (pc' := 26) rfl ?_)
      refine wp_of e195 c195_26 (rw_icmp_ne (p1 := 34) (p2 := 29) (by decide) rfl ⟨by omega, by omega⟩ ⟨by omega, by omega⟩ (fun c127 => ?_) (fun c127 => ?_))
      · refine wp_of e195 c195_34 (rw_aload_n (pc' := 35) (v := .ref r0) rfl rfl rfl ?_)
        refine wp_of e195 c195_35 (xg_I (pc' := 38) lf_9_75 hW g0 sh_42 (by decide) (by decide) ty_42_9 rfl rfl (fun b128 b129 => ?_))
        refine wp_of e195 c195_38 (rw_iconst (pc' := 39) rfl ?_)
        refine wp_of e195 c195_39 (rw_icmp_ne (p1 := 46) (p2 := 42) (by decide) rfl ⟨by omega, by omega⟩ ⟨by omega, by omega⟩ (fun c130 => ?_) (fun c130 => ?_))
        · refine wp_of e195 c195_46 (rw_iload_n (pc' := 47) (z := z122) rfl rfl ?_)
          exact wp_ireturn e195 c195_47 rfl ⟨rfl, hW, f0, z122, rfl, ⟨by omega, by omega⟩, (Or.inl ⟨by omega, by omega, by omega, by omega, by omega, hRC_r0⟩)⟩
        · exfalso
          omega
      · refine wp_of e195 c195_29 (rw_aload_n (pc' := 30) (v := .ref r0) rfl rfl rfl ?_)
        refine wp_of e195 c195_30 (rw_iconst (pc' := 31) rfl ?_)
        refine wp_of e195 c195_31 (xc_V (pc' := 34) (r := r0) (as := [vI 2]) (st := []) (lm_9_121) rfl rfl (Nat.le_of_ble_eq_true rfl) hW g0 sh_42 (by decide) rfl (by decide) (u_181_k (B := B) (n := n) (q := q) hW g0 ⟨by omega, by omega⟩ (by omega) hRC_r0) (fun R131 T132 H133 p134 => ?_))
        obtain ⟨e135, w137, f138, e136, p139⟩ := p134
        subst e135
        subst e136
        have f141 := f0.tr f138 rfl
        show wp _ _ 195 34 [(1, vI z122), (0, .ref r0)] [] _ H133 _
        have u142 := RO_k p139
        refine wp_of e195 c195_34 (rw_aload_n (pc' := 35) (v := .ref r0) rfl rfl rfl ?_)
        refine wp_of e195 c195_35 (xg_I (pc' := 38) lf_9_75 w137 g0 sh_42 (by decide) (by decide) ty_42_9 rfl rfl (fun b143 b144 => ?_))
        refine wp_of e195 c195_38 (rw_iconst (pc' := 39) rfl ?_)
        refine wp_of e195 c195_39 (rw_icmp_ne (p1 := 46) (p2 := 42) (by decide) rfl ⟨by omega, by omega⟩ ⟨by omega, by omega⟩ (fun c145 => ?_) (fun c145 => ?_))
        · exfalso
          omega
        · refine wp_of e195 c195_42 (rw_iconst (pc' := 43) rfl ?_)
          refine wp_of e195 c195_43 (rw_goto (p1 := 47) (by decide) ?_)
          exact wp_ireturn e195 c195_47 rfl ⟨rfl, w137, f141, 0, rfl, ⟨by omega, by omega⟩, (Or.inr ⟨by omega, by omega, RO_eq p139 (by omega) (by omega)⟩)⟩
    · exfalso
      omega
  · show wp _ _ 195 4 [(0, .ref r0)] [vI z103] _ H _
    refine wp_of e195 c195_4 (rw_if_ne (p1 := 12) (p2 := 7) (by decide) rfl ⟨by omega, by omega⟩ (fun c146 => ?_) (fun c146 => ?_))
    · exfalso
      omega
    · refine wp_of e195 c195_7 (rw_aload_n (pc' := 8) (v := .ref r0) rfl rfl rfl ?_)
      refine wp_of e195 c195_8 (rw_iconst (pc' := 9) rfl ?_)
      refine wp_of e195 c195_9 (xc_V (pc' := 12) (r := r0) (as := [vI 1]) (st := []) (lm_9_121) rfl rfl (Nat.le_of_ble_eq_true rfl) hW g0 sh_42 (by decide) rfl (by decide) (u_181_k (B := B) (n := n) (q := q) hW g0 ⟨by omega, by omega⟩ (by omega) hRC_r0) (fun R147 T148 H149 p150 => ?_))
      obtain ⟨e151, w153, f154, e152, p155⟩ := p150
      subst e151
      subst e152
      have f157 := f0.tr f154 rfl
      show wp _ _ 195 12 [(0, .ref r0)] [] _ H149 _
      have u158 := RO_k p155
      refine wp_of e195 c195_12 (rw_aload_n (pc' := 13) (v := .ref r0) rfl rfl rfl ?_)
      have k159 : H149 r0 4 = H r0 4 := (f154 r0 4 _ g0 rfl)
      have q160 : H149 r0 4 = (rp : Int) := k159.trans qrp
      refine wp_of e195 c195_13 (xg_K (pc' := 16) lf_9_166 w153 g0 sh_42 (by decide) (by decide) rfl q160 rfl ?_)
      refine wp_of e195 c195_16 (rw_aload_n (pc' := 17) (v := .ref r0) rfl rfl rfl ?_)
      have k161 : H149 r0 15 = H r0 15 := (f154 r0 15 _ g0 rfl)
      refine wp_of e195 c195_17 (xg_L (pc' := 20) lf_9_94 w153 g0 sh_42 (by decide) (by decide) ty_42_15 rfl rfl (fun b162 b163 => ?_))
      refine wp_of e195 c195_20 (xc_V (pc' := 23) (r := rp) (as := [vL (H149 r0 15)]) (st := []) (lm_9_170) rfl rfl (Nat.le_of_ble_eq_true rfl) w153 grp sh_54 (by decide) rfl (by decide) (u_190_o  w153 grp ⟨by omega, by omega⟩) (fun R164 T165 H166 p167 => ?_))
      obtain ⟨e168, e170, z171, e169, b172, p173⟩ := p167
      subst e168
      subst e169
      subst e170
      show wp _ _ 195 23 [(0, .ref r0)] [vI z171] _ H149 _
      refine wp_of e195 c195_23 (rw_istore_n (pc' := 24) (z := z171) (L' := [(1, vI z171), (0, .ref r0)]) rfl rfl rfl ?_)
      refine wp_of e195 c195_24 (rw_iload_n (pc' := 25) (z := z171) rfl rfl ?_)
      refine wp_of e195 c195_25 (rw_iconst (pc' := 26) rfl ?_)
      refine wp_of e195 c195_26 (rw_icmp_ne (p1 := 34) (p2 := 29) (by decide) rfl ⟨by omega, by omega⟩ ⟨by omega, by omega⟩ (fun c175 => ?_) (fun c175 => ?_))
      · refine wp_of e195 c195_34 (rw_aload_n (pc' := 35) (v := .ref r0) rfl rfl rfl ?_)
        refine wp_of e195 c195_35 (xg_I (pc' := 38) lf_9_75 w153 g0 sh_42 (by decide) (by decide) ty_42_9 rfl rfl (fun b176 b177 => ?_))
        refine wp_of e195 c195_38 (rw_iconst (pc' := 39) rfl ?_)
        refine wp_of e195 c195_39 (rw_icmp_ne (p1 := 46) (p2 := 42) (by decide) rfl ⟨by omega, by omega⟩ ⟨by omega, by omega⟩ (fun c178 => ?_) (fun c178 => ?_))
        · exfalso
          omega
        · refine wp_of e195 c195_42 (rw_iconst (pc' := 43) rfl ?_)
          refine wp_of e195 c195_43 (rw_goto (p1 := 47) (by decide) ?_)
          exact wp_ireturn e195 c195_47 rfl ⟨rfl, w153, f157, 0, rfl, ⟨by omega, by omega⟩, (Or.inr ⟨by omega, by omega, RO_eq p155 (by omega) (by omega)⟩)⟩
      · refine wp_of e195 c195_29 (rw_aload_n (pc' := 30) (v := .ref r0) rfl rfl rfl ?_)
        refine wp_of e195 c195_30 (rw_iconst (pc' := 31) rfl ?_)
        refine wp_of e195 c195_31 (xc_V (pc' := 34) (r := r0) (as := [vI 2]) (st := []) (lm_9_121) rfl rfl (Nat.le_of_ble_eq_true rfl) w153 g0 sh_42 (by decide) rfl (by decide) (u_181_o (fo := 1) (po := q) w153 g0 ⟨by omega, by omega⟩ p155) (fun R179 T180 H181 p182 => ?_))
        obtain ⟨e183, e185, e184, p186⟩ := p182
        subst e183
        subst e184
        subst e185
        show wp _ _ 195 34 [(1, vI z171), (0, .ref r0)] [] _ H149 _
        have u188 := RO_k p186
        refine wp_of e195 c195_34 (rw_aload_n (pc' := 35) (v := .ref r0) rfl rfl rfl ?_)
        refine wp_of e195 c195_35 (xg_I (pc' := 38) lf_9_75 w153 g0 sh_42 (by decide) (by decide) ty_42_9 rfl rfl (fun b189 b190 => ?_))
        refine wp_of e195 c195_38 (rw_iconst (pc' := 39) rfl ?_)
        refine wp_of e195 c195_39 (rw_icmp_ne (p1 := 46) (p2 := 42) (by decide) rfl ⟨by omega, by omega⟩ ⟨by omega, by omega⟩ (fun c191 => ?_) (fun c191 => ?_))
        · exfalso
          omega
        · refine wp_of e195 c195_42 (rw_iconst (pc' := 43) rfl ?_)
          refine wp_of e195 c195_43 (rw_goto (p1 := 47) (by decide) ?_)
          exact wp_ireturn e195 c195_47 rfl ⟨rfl, w153, f157, 0, rfl, ⟨by omega, by omega⟩, (Or.inr ⟨by omega, by omega, RO_eq p186 (by omega) (by omega)⟩)⟩
/-! StrikeAwakeModel.known()I o -/
abbrev uq_195_o (r0 : Nat) (rp : Nat) (fo : Int) (po : Int) (T : wq_T) (H : wq_H) : Option Value → wq_T → wq_H → Prop := fun r T' H' => T = T' ∧ H = H' ∧ ∃ z : Int, some (vI z) = r ∧ (0 ≤ z ∧ z ≤ 5) ∧ (((z = 0) ∧ RO T H r0 fo po))
set_option maxHeartbeats 4000000 in
theorem u_195_o {kt : Nat → Option mc_E} {T : wq_T} {H : wq_H} {r0 : Nat} {rp : Nat} {fo : Int} {po : Int} (hW : WT T H) (g0 : T.2.2.2 r0 = some 42) (qrp : H r0 4 = (rp : Int)) (grp : T.2.2.2 rp = some 54) (hRO_r0 : RO T H r0 fo po) : wpc kt 4 195 [.ref r0] T H (uq_195_o r0 rp fo po T H) := by
  refine wp_enter e195 (Nat.le_of_ble_eq_true rfl) rfl ?_
  show wp _ _ 195 0 [(0, .ref r0)] [] _ H _
  have u51 := RO_k hRO_r0
  refine wp_of e195 c195_0 (rw_aload_n (pc' := 1) (v := .ref r0) rfl rfl rfl ?_)
  refine wp_of e195 c195_1 (xc_V (pc' := 4) (r := r0) (as := []) (st := []) (lm_9_162) rfl rfl (Nat.le_of_ble_eq_true rfl) hW g0 sh_42 (by decide) rfl (by decide) (u_189_o (fo := fo) (po := po) hW g0 hRO_r0) (fun R52 T53 H54 p55 => ?_))
  obtain ⟨e56, e58, z59, e57, b60, p61⟩ := p55
  subst e56
  subst e57
  subst e58
  show wp _ _ 195 4 [(0, .ref r0)] [vI z59] _ H _
  refine wp_of e195 c195_4 (rw_if_ne (p1 := 12) (p2 := 7) (by decide) rfl ⟨by omega, by omega⟩ (fun c63 => ?_) (fun c63 => ?_))
  · exfalso
    omega
  · refine wp_of e195 c195_7 (rw_aload_n (pc' := 8) (v := .ref r0) rfl rfl rfl ?_)
    refine wp_of e195 c195_8 (rw_iconst (pc' := 9) rfl ?_)
    refine wp_of e195 c195_9 (xc_V (pc' := 12) (r := r0) (as := [vI 1]) (st := []) (lm_9_121) rfl rfl (Nat.le_of_ble_eq_true rfl) hW g0 sh_42 (by decide) rfl (by decide) (u_181_o (fo := fo) (po := po) hW g0 ⟨by omega, by omega⟩ hRO_r0) (fun R64 T65 H66 p67 => ?_))
    obtain ⟨e68, e70, e69, p71⟩ := p67
    subst e68
    subst e69
    subst e70
    show wp _ _ 195 12 [(0, .ref r0)] [] _ H _
    have u73 := RO_k p71
    refine wp_of e195 c195_12 (rw_aload_n (pc' := 13) (v := .ref r0) rfl rfl rfl ?_)
    refine wp_of e195 c195_13 (xg_K (pc' := 16) lf_9_166 hW g0 sh_42 (by decide) (by decide) rfl qrp rfl ?_)
    refine wp_of e195 c195_16 (rw_aload_n (pc' := 17) (v := .ref r0) rfl rfl rfl ?_)
    refine wp_of e195 c195_17 (xg_L (pc' := 20) lf_9_94 hW g0 sh_42 (by decide) (by decide) ty_42_15 rfl rfl (fun b74 b75 => ?_))
    refine wp_of e195 c195_20 (xc_V (pc' := 23) (r := rp) (as := [vL (H r0 15)]) (st := []) (lm_9_170) rfl rfl (Nat.le_of_ble_eq_true rfl) hW grp sh_54 (by decide) rfl (by decide) (u_190_o  hW grp ⟨by omega, by omega⟩) (fun R76 T77 H78 p79 => ?_))
    obtain ⟨e80, e82, z83, e81, b84, p85⟩ := p79
    subst e80
    subst e81
    subst e82
    show wp _ _ 195 23 [(0, .ref r0)] [vI z83] _ H _
    refine wp_of e195 c195_23 (rw_istore_n (pc' := 24) (z := z83) (L' := [(1, vI z83), (0, .ref r0)]) rfl rfl rfl ?_)
    refine wp_of e195 c195_24 (rw_iload_n (pc' := 25) (z := z83) rfl rfl ?_)
    refine wp_of e195 c195_25 (rw_iconst (pc' := 26) rfl ?_)
    refine wp_of e195 c195_26 (rw_icmp_ne (p1 := 34) (p2 := 29) (by decide) rfl ⟨by omega, by omega⟩ ⟨by omega, by omega⟩ (fun c87 => ?_) (fun c87 => ?_))
    · refine wp_of e195 c195_34 (rw_aload_n (pc' := 35) (v := .ref r0) rfl rfl rfl ?_)
      refine wp_of e195 c195_35 (xg_I (pc' := 38) lf_9_75 hW g0 sh_42 (by decide) (by decide) ty_42_9 rfl rfl (fun b88 b89 => ?_))
      refine wp_of e195 c195_38 (rw_iconst (pc' := 39) rfl ?_)
      refine wp_of e195 c195_39 (rw_icmp_ne (p1 := 46) (p2 := 42) (by decide) rfl ⟨by omega, by omega⟩ ⟨by omega, by omega⟩ (fun c90 => ?_) (fun c90 => ?_))
      · exfalso
        omega
      · refine wp_of e195 c195_42 (rw_iconst (pc' := 43) rfl ?_)
        refine wp_of e195 c195_43 (rw_goto (p1 := 47) (by decide) ?_)
        exact wp_ireturn e195 c195_47 rfl ⟨rfl, rfl, 0, rfl, ⟨by omega, by omega⟩, ⟨by omega, p71⟩⟩
    · refine wp_of e195 c195_29 (rw_aload_n (pc' := 30) (v := .ref r0) rfl rfl rfl ?_)
      refine wp_of e195 c195_30 (rw_iconst (pc' := 31) rfl ?_)
      refine wp_of e195 c195_31 (xc_V (pc' := 34) (r := r0) (as := [vI 2]) (st := []) (lm_9_121) rfl rfl (Nat.le_of_ble_eq_true rfl) hW g0 sh_42 (by decide) rfl (by decide) (u_181_o (fo := fo) (po := po) hW g0 ⟨by omega, by omega⟩ p71) (fun R91 T92 H93 p94 => ?_))
      obtain ⟨e95, e97, e96, p98⟩ := p94
      subst e95
      subst e96
      subst e97
      show wp _ _ 195 34 [(1, vI z83), (0, .ref r0)] [] _ H _
      have u100 := RO_k p98
      refine wp_of e195 c195_34 (rw_aload_n (pc' := 35) (v := .ref r0) rfl rfl rfl ?_)
      refine wp_of e195 c195_35 (xg_I (pc' := 38) lf_9_75 hW g0 sh_42 (by decide) (by decide) ty_42_9 rfl rfl (fun b101 b102 => ?_))
      refine wp_of e195 c195_38 (rw_iconst (pc' := 39) rfl ?_)
      refine wp_of e195 c195_39 (rw_icmp_ne (p1 := 46) (p2 := 42) (by decide) rfl ⟨by omega, by omega⟩ ⟨by omega, by omega⟩ (fun c103 => ?_) (fun c103 => ?_))
      · exfalso
        omega
      · refine wp_of e195 c195_42 (rw_iconst (pc' := 43) rfl ?_)
        refine wp_of e195 c195_43 (rw_goto (p1 := 47) (by decide) ?_)
        exact wp_ireturn e195 c195_47 rfl ⟨rfl, rfl, 0, rfl, ⟨by omega, by omega⟩, ⟨by omega, p98⟩⟩
/-! StrikeAwakeModel.readKnown()I k -/
abbrev uq_194_k (r0 : Nat) (rp : Nat) (rb : Nat) (B : Nat → Int) (n : Int) (q : Int) (d : xD) (T : wq_T) (H : wq_H) : Option Value → wq_T → wq_H → Prop := fun r T' H' => T = T' ∧ WT T H' ∧ wfr [(42, 8), (42, 9), (42, 10), (42, 11), (42, 12), (42, 13), (42, 14), (42, 15)] T H H' ∧ ∃ z : Int, some (vI z) = r ∧ (0 ≤ z ∧ z ≤ 5) ∧ (((0 ≤ z ∧ z ≤ 5) ∧ (xkn B n q d = 0) ∧ (z = xwho B n q d) ∧ (z < d 0 3) ∧ RC T H' r0 B n (xN B n q)) ∨ ((z = 0) ∧ (xkn B n q d ≠ 0) ∧ RO T H' r0 (xkn B n q d) q))
set_option maxHeartbeats 4000000 in
theorem u_194_k {kt : Nat → Option mc_E} {T : wq_T} {H : wq_H} {r0 : Nat} {rp : Nat} {rb : Nat} {B : Nat → Int} {n : Int} {q : Int} {d : xD} (hW : WT T H) (g0 : T.2.2.2 r0 = some 42) (qrp : H r0 4 = (rp : Int)) (grp : T.2.2.2 rp = some 54) (qrb : H r0 5 = (rb : Int)) (grb : T.2.2.2 rb = some 43) (hRC_r0 : RC T H r0 B n q) (hDM_rp : DM T H rp r0 d) : wpc kt 5 194 [.ref r0] T H (uq_194_k r0 rp rb B n q d T H) := by
  refine wp_enter e194 (Nat.le_of_ble_eq_true rfl) rfl ?_
  have f0 : wfr [(42, 8), (42, 9), (42, 10), (42, 11), (42, 12), (42, 13), (42, 14), (42, 15)] T H H := wfr.rf
  show wp _ _ 194 0 [(0, .ref r0)] [] _ H _
  have u45 := RC_k hRC_r0
  have u46 := DM_k hDM_rp
  refine wp_of e194 c194_0 (rw_aload_n (pc' := 1) (v := .ref r0) rfl rfl rfl ?_)
  refine wp_of e194 c194_1 (xc_V (pc' := 4) (r := r0) (as := []) (st := []) (lm_9_176) rfl rfl (Nat.le_of_ble_eq_true rfl) hW g0 sh_42 (by decide) rfl (by decide) (u_195_k (B := B) (n := n) (q := q) (d := d) hW g0 qrp grp hRC_r0 hDM_rp) (fun R47 T48 H49 p50 => ?_))
  obtain ⟨e51, w53, f54, z55, e52, b56, p57⟩ := p50
  subst e51
  subst e52
  rcases p57 with ⟨a58, a59, a60, a61, a62, a63⟩ | ⟨a64, a65, a66⟩
  · have f67 := f0.tr f54 rfl
    show wp _ _ 194 4 [(0, .ref r0)] [vI z55] _ H49 _
    have u68 := RC_k a63
    refine wp_of e194 c194_4 (rw_istore_n (pc' := 5) (z := z55) (L' := [(1, vI z55), (0, .ref r0)]) rfl rfl rfl ?_)
    refine wp_of e194 c194_5 (rw_aload_n (pc' := 6) (v := .ref r0) rfl rfl rfl ?_)
    have k69 : H49 r0 5 = H r0 5 := (f54 r0 5 _ g0 rfl)
    have q70 : H49 r0 5 = (rb : Int) := k69.trans qrb
    have u71 := RC_a a63
    have h72 : TM T H49 rb B := RC_tm a63 q70
    refine wp_of e194 c194_6 (xc_V (pc' := 9) (r := r0) (as := []) (st := []) (lm_9_118) rfl rfl (Nat.le_of_ble_eq_true rfl) w53 g0 sh_42 (by decide) rfl (by decide) (u_172_k (B := B) (n := n) (a := (xE B n q)) (q := (xN B n q)) w53 g0 q70 grb (by omega) (by omega) (by omega) (by omega) (by omega) (rfl) h72) (fun R73 T74 H75 p76 => ?_))
    obtain ⟨e77, w79, f80, e78, p81⟩ := p76
    subst e77
    subst e78
    have f83 := f67.tr f80 rfl
    show wp _ _ 194 9 [(1, vI z55), (0, .ref r0)] [] _ H75 _
    have u84 := RC_k p81
    refine wp_of e194 c194_9 (rw_iload_n (pc' := 10) (z := z55) rfl rfl ?_)
    exact wp_ireturn e194 c194_10 rfl ⟨rfl, w79, f83, z55, rfl, ⟨by omega, by omega⟩, (Or.inl ⟨by omega, by omega, by omega, by omega, p81⟩)⟩
  · have f85 := f0.tr f54 rfl
    show wp _ _ 194 4 [(0, .ref r0)] [vI z55] _ H49 _
    have u86 := RO_k a66
    refine wp_of e194 c194_4 (rw_istore_n (pc' := 5) (z := z55) (L' := [(1, vI z55), (0, .ref r0)]) rfl rfl rfl ?_)
    refine wp_of e194 c194_5 (rw_aload_n (pc' := 6) (v := .ref r0) rfl rfl rfl ?_)
    refine wp_of e194 c194_6 (xc_V (pc' := 9) (r := r0) (as := []) (st := []) (lm_9_118) rfl rfl (Nat.le_of_ble_eq_true rfl) w53 g0 sh_42 (by decide) rfl (by decide) (u_172_o (fo := (xkn B n q d)) (po := q) w53 g0 a66) (fun R87 T88 H89 p90 => ?_))
    obtain ⟨e91, e93, e92, p94⟩ := p90
    subst e91
    subst e92
    subst e93
    show wp _ _ 194 9 [(1, vI z55), (0, .ref r0)] [] _ H49 _
    have u96 := RO_k p94
    refine wp_of e194 c194_9 (rw_iload_n (pc' := 10) (z := z55) rfl rfl ?_)
    exact wp_ireturn e194 c194_10 rfl ⟨rfl, w53, f85, z55, rfl, ⟨by omega, by omega⟩, (Or.inr ⟨by omega, by omega, RO_eq p94 (by omega) (by omega)⟩)⟩
/-! StrikeAwakeModel.readKnown()I o -/
abbrev uq_194_o (r0 : Nat) (rp : Nat) (rb : Nat) (fo : Int) (po : Int) (T : wq_T) (H : wq_H) : Option Value → wq_T → wq_H → Prop := fun r T' H' => T = T' ∧ H = H' ∧ ∃ z : Int, some (vI z) = r ∧ (0 ≤ z ∧ z ≤ 5) ∧ (((z = 0) ∧ RO T H r0 fo po))
set_option maxHeartbeats 4000000 in
theorem u_194_o {kt : Nat → Option mc_E} {T : wq_T} {H : wq_H} {r0 : Nat} {rp : Nat} {rb : Nat} {fo : Int} {po : Int} (hW : WT T H) (g0 : T.2.2.2 r0 = some 42) (qrp : H r0 4 = (rp : Int)) (grp : T.2.2.2 rp = some 54) (qrb : H r0 5 = (rb : Int)) (grb : T.2.2.2 rb = some 43) (hRO_r0 : RO T H r0 fo po) : wpc kt 5 194 [.ref r0] T H (uq_194_o r0 rp rb fo po T H) := by
  refine wp_enter e194 (Nat.le_of_ble_eq_true rfl) rfl ?_
  show wp _ _ 194 0 [(0, .ref r0)] [] _ H _
  have u22 := RO_k hRO_r0
  refine wp_of e194 c194_0 (rw_aload_n (pc' := 1) (v := .ref r0) rfl rfl rfl ?_)
  refine wp_of e194 c194_1 (xc_V (pc' := 4) (r := r0) (as := []) (st := []) (lm_9_176) rfl rfl (Nat.le_of_ble_eq_true rfl) hW g0 sh_42 (by decide) rfl (by decide) (u_195_o (fo := fo) (po := po) hW g0 qrp grp hRO_r0) (fun R23 T24 H25 p26 => ?_))
  obtain ⟨e27, e29, z30, e28, b31, p32⟩ := p26
  subst e27
  subst e28
  subst e29
  obtain ⟨a33, a34⟩ := p32
  show wp _ _ 194 4 [(0, .ref r0)] [vI z30] _ H _
  have u35 := RO_k a34
  refine wp_of e194 c194_4 (rw_istore_n (pc' := 5) (z := z30) (L' := [(1, vI z30), (0, .ref r0)]) rfl rfl rfl ?_)
  refine wp_of e194 c194_5 (rw_aload_n (pc' := 6) (v := .ref r0) rfl rfl rfl ?_)
  refine wp_of e194 c194_6 (xc_V (pc' := 9) (r := r0) (as := []) (st := []) (lm_9_118) rfl rfl (Nat.le_of_ble_eq_true rfl) hW g0 sh_42 (by decide) rfl (by decide) (u_172_o (fo := fo) (po := po) hW g0 a34) (fun R36 T37 H38 p39 => ?_))
  obtain ⟨e40, e42, e41, p43⟩ := p39
  subst e40
  subst e41
  subst e42
  show wp _ _ 194 9 [(1, vI z30), (0, .ref r0)] [] _ H _
  have u45 := RO_k p43
  refine wp_of e194 c194_9 (rw_iload_n (pc' := 10) (z := z30) rfl rfl ?_)
  exact wp_ireturn e194 c194_10 rfl ⟨rfl, rfl, z30, rfl, ⟨by omega, by omega⟩, ⟨by omega, p43⟩⟩
/-! StrikeAwakeModel.hoursFrom(II)I  -/
abbrev uq_202 (a0 : Int) (a1 : Int) (lo : Int) (hi : Int) (T : wq_T) (H : wq_H) : Option Value → wq_T → wq_H → Prop := fun r T' H' => T = T' ∧ H = H' ∧ ∃ z : Int, some (vI z) = r ∧ ((-2147483648) ≤ z ∧ z ≤ 2147483647) ∧ (((z = xhs lo hi)))
set_option maxHeartbeats 4000000 in
theorem u_202 {kt : Nat → Option mc_E} {T : wq_T} {H : wq_H} {a0 : Int} {a1 : Int} {lo : Int} {hi : Int} (hW : WT T H) (i0 : 0 ≤ a0 ∧ a0 ≤ 24) (i1 : 0 ≤ a1 ∧ a1 ≤ 40) (p0 : a0 = lo) (p1 : a1 = hi) (p2 : lo ≤ hi) : wpc kt 1 202 [vI a0, vI a1] T H (uq_202 a0 a1 lo hi T H) := by
  refine wp_enter e202 (Nat.le_of_ble_eq_true rfl) rfl ?_
  show wp _ _ 202 0 [(0, vI a0), (1, vI a1)] [] _ H _
  refine wp_of e202 c202_0 (rw_iconst (pc' := 1) rfl ?_)
  refine wp_of e202 c202_1 (rw_istore_n (pc' := 2) (z := 0) (L' := [(2, vI 0), (0, vI a0), (1, vI a1)]) rfl rfl rfl ?_)
  refine wp_of e202 c202_2 (rw_iload_n (pc' := 3) (z := a0) rfl rfl ?_)
  refine wp_of e202 c202_3 (rw_istore_n (pc' := 4) (z := a0) (L' := [(3, vI a0), (2, vI 0), (0, vI a0), (1, vI a1)]) rfl rfl rfl ?_)
  have lp32 : ∀ (n33 : Nat) (v35 : Int) (v36 : Int), (0 ≤ v35 ∧ v35 ≤ 24) → (0 ≤ v36 ∧ v36 ≤ 16777215) → (v36 = xhs lo v35) → (lo ≤ v35) → (v35 ≤ hi) → (24 - v35).toNat = n33 → wp kt 0 202 4 [(3, vI v35), (2, vI v36), (1, vI a1)] [] T H (uq_202 a0 a1 lo hi T H) := by
    intro n33
    induction n33 using Nat.strongRecOn with
    | _ n33 ih34 =>
      intro v35 v36 b39 b40 x41 x42 x43 m44
      refine wp_of e202 c202_4 (rw_iload_n (pc' := 5) (z := v35) rfl rfl ?_)
      refine wp_of e202 c202_5 (rw_iload_n (pc' := 6) (z := a1) rfl rfl ?_)
      refine wp_of e202 c202_6 (rw_icmp_ge (p1 := 27) (p2 := 9) (by decide) rfl ⟨by omega, by omega⟩ ⟨by omega, by omega⟩ (fun c45 => ?_) (fun c45 => ?_))
      · have : xhs lo v35 = xhs lo hi := by
          by_cases e : v35 = hi
          · rw [e]
          · rw [show v35 = 24 by omega]
            exact (xhs_24 (by omega)).symm
        refine wp_of e202 c202_27 (rw_iload_n (pc' := 28) (z := v36) rfl rfl ?_)
        exact wp_ireturn e202 c202_28 rfl ⟨rfl, rfl, v36, rfl, ⟨by omega, by omega⟩, (by omega)⟩
      · refine wp_of e202 c202_9 (rw_iload_n (pc' := 10) (z := v35) rfl rfl ?_)
        refine wp_of e202 c202_10 (rw_bipush (pc' := 12) (z := 24) rfl (by decide) ?_)
        refine wp_of e202 c202_12 (rw_icmp_ge (p1 := 27) (p2 := 15) (by decide) rfl ⟨by omega, by omega⟩ ⟨by omega, by omega⟩ (fun c46 => ?_) (fun c46 => ?_))
        · have : xhs lo v35 = xhs lo hi := by
            by_cases e : v35 = hi
            · rw [e]
            · rw [show v35 = 24 by omega]
              exact (xhs_24 (by omega)).symm
          refine wp_of e202 c202_27 (rw_iload_n (pc' := 28) (z := v36) rfl rfl ?_)
          exact wp_ireturn e202 c202_28 rfl ⟨rfl, rfl, v36, rfl, ⟨by omega, by omega⟩, (by omega)⟩
        · refine wp_of e202 c202_15 (rw_iload_n (pc' := 16) (z := v36) rfl rfl ?_)
          refine wp_of e202 c202_16 (rw_iconst (pc' := 17) rfl ?_)
          refine wp_of e202 c202_17 (rw_iload_n (pc' := 18) (z := v35) rfl rfl ?_)
          refine wp_of e202 c202_18 (rw_ishl (pc' := 19) rfl ?_)
          obtain ⟨v47, e48⟩ : ∃ x : Int, x = wq_shl 1 v35 := ⟨_, rfl⟩
          rw [← e48]
          have b49 : 1 ≤ v47 ∧ v47 ≤ 8388608 := by
            rw [e48]
            exact wq_shl1_24 ⟨by omega, by omega⟩
          refine wp_of e202 c202_19 (rw_ior (pc' := 20) rfl ?_)
          obtain ⟨v50, e51⟩ : ∃ x : Int, x = wq_or v36 v47 := ⟨_, rfl⟩
          rw [← e51]
          have b52 : 0 ≤ v50 ∧ v50 ≤ 16777215 := by
            rw [e51]
            exact wq_or_24 ⟨by omega, by omega⟩ ⟨by omega, by omega⟩
          refine wp_of e202 c202_20 (rw_istore_n (pc' := 21) (z := v50) (L' := [(2, vI v50), (3, vI v35), (1, vI a1)]) rfl rfl rfl ?_)
          refine wp_of e202 c202_21 (rw_iinc (pc' := 24) (z := v35) (L' := [(3, vI (v35 + 1)), (2, vI v50), (1, vI a1)]) rfl rfl rfl rfl ?_)
          refine wp_of e202 c202_24 (rw_goto (p1 := 4) (by decide) ?_)
          have : xhs lo (v35 + 1) = v50 := by
            have e := @hf_ok lo v35 (by omega) (by omega) (by omega) (by omega)
            rw [← e]
            subst_vars
            rfl
          exact wp_lc (ks := [3, 2, 1]) (wl_c rfl (wl_c rfl (wl_c rfl wl_n))) rfl (by decide) (ih34 _ (by omega) (v35 + 1) v50 ⟨by omega, by omega⟩ ⟨by omega, by omega⟩ (by omega) (by omega) (by omega) rfl)
  have : xhs lo a0 = 0 := by
    rw [show lo = a0 by omega]
    exact hf_z (by omega) (by omega)
  exact wp_lc (ks := [3, 2, 0, 1]) (wl_c rfl (wl_c rfl (wl_c rfl wl_n))) rfl (by decide) (lp32 _ a0 0 ⟨by omega, by omega⟩ ⟨by omega, by omega⟩ (by omega) (by omega) (by omega) rfl)
/-! StrikeAwakeModel.readLaw()V k -/
abbrev uq_180_k (r0 : Nat) (rp : Nat) (rb : Nat) (B : Nat → Int) (n : Int) (q : Int) (d : xD) (T : wq_T) (H : wq_H) : Option Value → wq_T → wq_H → Prop := fun r T' H' => T = T' ∧ WT T H' ∧ wfr [(54, 0), (54, 1), (54, 2), (42, 8), (42, 9), (42, 10), (42, 11), (42, 12), (42, 13), (42, 14), (42, 15)] T H H' ∧ none = r ∧ ((((xl0 B n q d).1 = 0) ∧ ((xl0 B n q d).2.2 = (xN B n (xN B n (xN B n (xN B n (xN B n (xN B n (xN B n q)))))))) ∧ (q ≤ (xN B n (xN B n (xN B n (xN B n (xN B n (xN B n (xN B n q)))))))) ∧ RC T H' r0 B n (xN B n (xN B n (xN B n (xN B n (xN B n (xN B n (xN B n q))))))) ∧ DM T H' rp r0 (xdlaw B n (xN B n q) d)) ∨ (((xl0 B n q d).1 ≠ 0) ∧ RO T H' r0 ((xl0 B n q d).1) ((xl0 B n q d).2.1)))
set_option maxHeartbeats 4000000 in
theorem u_180_k {kt : Nat → Option mc_E} {T : wq_T} {H : wq_H} {r0 : Nat} {rp : Nat} {rb : Nat} {B : Nat → Int} {n : Int} {q : Int} {d : xD} (hW : WT T H) (g0 : T.2.2.2 r0 = some 42) (qrp : H r0 4 = (rp : Int)) (grp : T.2.2.2 rp = some 54) (qrb : H r0 5 = (rb : Int)) (grb : T.2.2.2 rb = some 43) (p0 : xK B n q = 1) (hRC_r0 : RC T H r0 B n q) (hDM_rp : DM T H rp r0 d) : wpc kt 5 180 [.ref r0] T H (uq_180_k r0 rp rb B n q d T H) := by
  refine wp_enter e180 (Nat.le_of_ble_eq_true rfl) rfl ?_
  have f0 : wfr [(54, 0), (54, 1), (54, 2), (42, 8), (42, 9), (42, 10), (42, 11), (42, 12), (42, 13), (42, 14), (42, 15)] T H H := wfr.rf
  show wp _ _ 180 0 [(0, .ref r0)] [] _ H _
  have u392 := RC_k hRC_r0
  have u393 := DM_k hDM_rp
  have h394 : MA9 T H rp (d 1) := hDM_rp.2.2.2.1
  have h395 : MA10 T H rp (d 2) := hDM_rp.2.2.2.2.1
  have h396 : MA11 T H rp (d 3) := hDM_rp.2.2.2.2.2.1
  have h397 : MA12 T H rp (d 4) := hDM_rp.2.2.2.2.2.2.1
  have h398 : MA13 T H rp (d 5) := hDM_rp.2.2.2.2.2.2.2.1
  have h399 : MA14 T H rp (d 6) := hDM_rp.2.2.2.2.2.2.2.2.1
  have h400 : MA15 T H rp (d 7) := hDM_rp.2.2.2.2.2.2.2.2.2.1
  have h401 : MA16 T H rp (d 8) := hDM_rp.2.2.2.2.2.2.2.2.2.2.1
  have h402 : MA17 T H rp (d 9) := hDM_rp.2.2.2.2.2.2.2.2.2.2.2.1
  have h403 : MA18 T H rp (d 10) := hDM_rp.2.2.2.2.2.2.2.2.2.2.2.2.1
  have h404 : MA19 T H rp (d 11) := hDM_rp.2.2.2.2.2.2.2.2.2.2.2.2.2.1
  have h405 : MA20 T H rp (d 12) := hDM_rp.2.2.2.2.2.2.2.2.2.2.2.2.2.2.1
  have h406 : MA21 T H rp (d 13) := hDM_rp.2.2.2.2.2.2.2.2.2.2.2.2.2.2.2.1
  have h407 : MA22 T H rp (d 14) := hDM_rp.2.2.2.2.2.2.2.2.2.2.2.2.2.2.2.2.1
  have h408 : MA23 T H rp (d 15) := hDM_rp.2.2.2.2.2.2.2.2.2.2.2.2.2.2.2.2.2.1
  have h409 : MA25 T H rp (d 17) := hDM_rp.2.2.2.2.2.2.2.2.2.2.2.2.2.2.2.2.2.2.1
  have h410 : MA26 T H rp (d 16) := hDM_rp.2.2.2.2.2.2.2.2.2.2.2.2.2.2.2.2.2.2.2
  refine wp_of e180 c180_0 (rw_aload_n (pc' := 1) (v := .ref r0) rfl rfl rfl ?_)
  refine wp_of e180 c180_1 (xg_K (pc' := 4) lf_9_166 hW g0 sh_42 (by decide) (by decide) rfl qrp rfl ?_)
  refine wp_of e180 c180_4 (xg_I (pc' := 7) lf_9_185 hW grp sh_54 (by decide) (by decide) ty_54_0 rfl rfl (fun b411 b412 => ?_))
  refine wp_of e180 c180_7 (rw_if_le (p1 := 15) (p2 := 10) (by decide) rfl ⟨by omega, by omega⟩ (fun c413 => ?_) (fun c413 => ?_))
  · refine wp_of e180 c180_15 (rw_aload_n (pc' := 16) (v := .ref r0) rfl rfl rfl ?_)
    have u414 := RC_a hRC_r0
    have h415 : TM T H rb B := RC_tm hRC_r0 qrb
    refine wp_of e180 c180_16 (xc_V (pc' := 19) (r := r0) (as := []) (st := []) (lm_9_118) rfl rfl (Nat.le_of_ble_eq_true rfl) hW g0 sh_42 (by decide) rfl (by decide) (u_172_k (B := B) (n := n) (a := (xE B n q)) (q := (xN B n q)) hW g0 qrb grb (by omega) (by omega) (by omega) (by omega) (by omega) (rfl) h415) (fun R416 T417 H418 p419 => ?_))
    obtain ⟨e420, w422, f423, e421, p424⟩ := p419
    subst e420
    subst e421
    have f426 := f0.tr f423 rfl
    show wp _ _ 180 19 [(0, .ref r0)] [] _ H418 _
    have u427 := RC_k p424
    refine wp_of e180 c180_19 (rw_aload_n (pc' := 20) (v := .ref r0) rfl rfl rfl ?_)
    refine wp_of e180 c180_20 (rw_ldcS (pc' := 22) (k := 73) rfl rfl rfl rfl ?_)
    refine wp_of e180 c180_22 (rw_iconst (pc' := 23) rfl ?_)
    refine wp_of e180 c180_23 (rw_bipush (pc' := 25) (z := 24) rfl (by decide) ?_)
    have k428 : H418 r0 5 = H r0 5 := (f423 r0 5 _ g0 rfl)
    have q429 : H418 r0 5 = (rb : Int) := k428.trans qrb
    refine wp_of e180 c180_25 (xc_V (pc' := 28) (r := r0) (as := [.ref 73, vI 1, vI 24]) (st := []) (lm_9_216) rfl rfl (Nat.le_of_ble_eq_true rfl) w422 g0 sh_42 (by decide) rfl (by decide) (u_182_k (B := B) (n := n) (q := ((xN B n q))) (kk := 8902227) (lo := 1) (hi := 24) w422 g0 rfl ⟨by omega, by omega⟩ ⟨by omega, by omega⟩ q429 grb (by decide +kernel) (by omega) (by omega) p424) (fun R430 T431 H432 p433 => ?_))
    obtain ⟨e434, w436, f437, z438, e435, b439, p440⟩ := p433
    subst e434
    subst e435
    rcases p440 with ⟨a441, a442, a443, a444, a445, a446⟩ | ⟨a447, a448, a449⟩ | ⟨a450, a451, a452, a453⟩
    · have f454 := f426.tr f437 rfl
      show wp _ _ 180 28 [(0, .ref r0)] [vI z438] _ H432 _
      have u455 := RC_k a446
      refine wp_of e180 c180_28 (rw_istore_n (pc' := 29) (z := z438) (L' := [(1, vI z438), (0, .ref r0)]) rfl rfl rfl ?_)
      refine wp_of e180 c180_29 (rw_aload_n (pc' := 30) (v := .ref r0) rfl rfl rfl ?_)
      have k456 : H432 r0 4 = H r0 4 := ((f437 r0 4 _ g0 rfl).trans (f423 r0 4 _ g0 rfl))
      have q457 : H432 r0 4 = (rp : Int) := k456.trans qrp
      refine wp_of e180 c180_30 (xg_K (pc' := 33) lf_9_166 w436 g0 sh_42 (by decide) (by decide) rfl q457 rfl ?_)
      refine wp_of e180 c180_33 (rw_aload_n (pc' := 34) (v := .ref r0) rfl rfl rfl ?_)
      refine wp_of e180 c180_34 (rw_ldcS (pc' := 36) (k := 74) rfl rfl rfl rfl ?_)
      refine wp_of e180 c180_36 (rw_iconst (pc' := 37) rfl ?_)
      refine wp_of e180 c180_37 (rw_bipush (pc' := 39) (z := 9) rfl (by decide) ?_)
      have k458 : H432 r0 5 = H418 r0 5 := (f437 r0 5 _ g0 rfl)
      have q459 : H432 r0 5 = (rb : Int) := k458.trans q429
      refine wp_of e180 c180_39 (xc_V (pc' := 42) (r := r0) (as := [.ref 74, vI 0, vI 9]) (st := [.ref rp]) (lm_9_216) rfl rfl (Nat.le_of_ble_eq_true rfl) w436 g0 sh_42 (by decide) rfl (by decide) (u_182_k (B := B) (n := n) (q := ((xN B n (xN B n ((xN B n q)))))) (kk := 72983685) (lo := 0) (hi := 9) w436 g0 rfl ⟨by omega, by omega⟩ ⟨by omega, by omega⟩ q459 grb (by decide +kernel) (by omega) (by omega) a446) (fun R460 T461 H462 p463 => ?_))
      obtain ⟨e464, w466, f467, z468, e465, b469, p470⟩ := p463
      subst e464
      subst e465
      rcases p470 with ⟨a471, a472, a473, a474, a475, a476⟩ | ⟨a477, a478, a479⟩ | ⟨a480, a481, a482, a483⟩
      · have f484 := f454.tr f467 rfl
        show wp _ _ 180 42 [(1, vI z438), (0, .ref r0)] [vI z468, .ref rp] _ H462 _
        have u485 := RC_k a476
        refine wp_of e180 c180_42 (xp_I (pc' := 45) lf_9_222 w466 grp sh_54 (by decide) (by decide) ty_54_1 rfl rfl (by omega) (by omega) ⟨by omega, by omega⟩ rfl (fun H486 e487 w488 => ?_))
        have f489 := f484.put' e487 grp rfl
        have k490 : H486 rp 1 = z468 := wq_u_s e487
        refine wp_of e180 c180_45 (rw_aload_n (pc' := 46) (v := .ref r0) rfl rfl rfl ?_)
        have k491 : H486 r0 4 = H432 r0 4 := ((wq_u_t e487 grp g0 rfl 4).trans (f467 r0 4 _ g0 rfl))
        have q492 : H486 r0 4 = (rp : Int) := k491.trans q457
        refine wp_of e180 c180_46 (xg_K (pc' := 49) lf_9_166 w488 g0 sh_42 (by decide) (by decide) rfl q492 rfl ?_)
        refine wp_of e180 c180_49 (rw_aload_n (pc' := 50) (v := .ref r0) rfl rfl rfl ?_)
        refine wp_of e180 c180_50 (rw_ldcS (pc' := 52) (k := 75) rfl rfl rfl rfl ?_)
        refine wp_of e180 c180_52 (rw_iconst (pc' := 53) rfl ?_)
        refine wp_of e180 c180_53 (rw_iconst (pc' := 54) rfl ?_)
        have k493 : H486 r0 5 = H432 r0 5 := ((wq_u_t e487 grp g0 rfl 5).trans (f467 r0 5 _ g0 rfl))
        have q494 : H486 r0 5 = (rb : Int) := k493.trans q459
        have h495 : RC T H486 r0 B n (xN B n (xN B n ((xN B n (xN B n ((xN B n q))))))) := (RC_fr w466 g0 ((wfr.rf (l := [(54, 1)])).put' e487 grp rfl) rfl a476)
        refine wp_of e180 c180_54 (xc_V (pc' := 57) (r := r0) (as := [.ref 75, vI 0, vI 3]) (st := [.ref rp]) (lm_9_216) rfl rfl (Nat.le_of_ble_eq_true rfl) w488 g0 sh_42 (by decide) rfl (by decide) (u_182_k (B := B) (n := n) (q := ((xN B n (xN B n ((xN B n (xN B n ((xN B n q))))))))) (kk := 15558) (lo := 0) (hi := 3) w488 g0 rfl ⟨by omega, by omega⟩ ⟨by omega, by omega⟩ q494 grb (by decide +kernel) (by omega) (by omega) h495) (fun R496 T497 H498 p499 => ?_))
        obtain ⟨e500, w502, f503, z504, e501, b505, p506⟩ := p499
        subst e500
        subst e501
        rcases p506 with ⟨a507, a508, a509, a510, a511, a512⟩ | ⟨a513, a514, a515⟩ | ⟨a516, a517, a518, a519⟩
        · have f520 := f489.tr f503 rfl
          show wp _ _ 180 57 [(1, vI z438), (0, .ref r0)] [vI z504, .ref rp] _ H498 _
          have u521 := RC_k a512
          refine wp_of e180 c180_57 (xp_I (pc' := 60) lf_9_226 w502 grp sh_54 (by decide) (by decide) ty_54_2 rfl rfl (by omega) (by omega) ⟨by omega, by omega⟩ rfl (fun H522 e523 w524 => ?_))
          have f525 := f520.put' e523 grp rfl
          have k526 : H522 rp 2 = z504 := wq_u_s e523
          refine wp_of e180 c180_60 (rw_aload_n (pc' := 61) (v := .ref r0) rfl rfl rfl ?_)
          have k527 : H522 r0 9 = H498 r0 9 := (wq_u_t e523 grp g0 rfl 9)
          refine wp_of e180 c180_61 (xg_I (pc' := 64) lf_9_75 w524 g0 sh_42 (by decide) (by decide) ty_42_9 rfl rfl (fun b528 b529 => ?_))
          refine wp_of e180 c180_64 (rw_iconst (pc' := 65) rfl ?_)
          refine wp_of e180 c180_65 (rw_icmp_eq (p1 := 76) (p2 := 68) (by decide) rfl ⟨by omega, by omega⟩ ⟨by omega, by omega⟩ (fun c530 => ?_) (fun c530 => ?_))
          · exfalso
            omega
          · refine wp_of e180 c180_68 (rw_aload_n (pc' := 69) (v := .ref r0) rfl rfl rfl ?_)
            have k531 : H522 r0 4 = H486 r0 4 := ((wq_u_t e523 grp g0 rfl 4).trans (f503 r0 4 _ g0 rfl))
            have q532 : H522 r0 4 = (rp : Int) := k531.trans q492
            refine wp_of e180 c180_69 (xg_K (pc' := 72) lf_9_166 w524 g0 sh_42 (by decide) (by decide) rfl q532 rfl ?_)
            refine wp_of e180 c180_72 (rw_iload_n (pc' := 73) (z := z438) rfl rfl ?_)
            refine wp_of e180 c180_73 (xp_I (pc' := 76) lf_9_185 w524 grp sh_54 (by decide) (by decide) ty_54_0 rfl rfl (by omega) (by omega) ⟨by omega, by omega⟩ rfl (fun H533 e534 w535 => ?_))
            have f536 := f525.put' e534 grp rfl
            have k537 : H533 rp 0 = z438 := wq_u_s e534
            have k538 : H533 rp 1 = H486 rp 1 := ((wq_u_j e534 rfl).trans ((wq_u_j e523 rfl).trans (f503 rp 1 _ grp rfl)))
            have k539 : H533 rp 2 = H522 rp 2 := (wq_u_j e534 rfl)
            have k540 : H533 rp 3 = H rp 3 := ((wq_u_j e534 rfl).trans ((wq_u_j e523 rfl).trans ((f503 rp 3 _ grp rfl).trans ((wq_u_j e487 rfl).trans ((f467 rp 3 _ grp rfl).trans ((f437 rp 3 _ grp rfl).trans (f423 rp 3 _ grp rfl)))))))
            have k541 : H533 rp 4 = H rp 4 := ((wq_u_j e534 rfl).trans ((wq_u_j e523 rfl).trans ((f503 rp 4 _ grp rfl).trans ((wq_u_j e487 rfl).trans ((f467 rp 4 _ grp rfl).trans ((f437 rp 4 _ grp rfl).trans (f423 rp 4 _ grp rfl)))))))
            have k542 : H533 rp 5 = H rp 5 := ((wq_u_j e534 rfl).trans ((wq_u_j e523 rfl).trans ((f503 rp 5 _ grp rfl).trans ((wq_u_j e487 rfl).trans ((f467 rp 5 _ grp rfl).trans ((f437 rp 5 _ grp rfl).trans (f423 rp 5 _ grp rfl)))))))
            have k543 : H533 rp 6 = H rp 6 := ((wq_u_j e534 rfl).trans ((wq_u_j e523 rfl).trans ((f503 rp 6 _ grp rfl).trans ((wq_u_j e487 rfl).trans ((f467 rp 6 _ grp rfl).trans ((f437 rp 6 _ grp rfl).trans (f423 rp 6 _ grp rfl)))))))
            have k544 : H533 rp 7 = H rp 7 := ((wq_u_j e534 rfl).trans ((wq_u_j e523 rfl).trans ((f503 rp 7 _ grp rfl).trans ((wq_u_j e487 rfl).trans ((f467 rp 7 _ grp rfl).trans ((f437 rp 7 _ grp rfl).trans (f423 rp 7 _ grp rfl)))))))
            have k545 : H533 rp 8 = H rp 8 := ((wq_u_j e534 rfl).trans ((wq_u_j e523 rfl).trans ((f503 rp 8 _ grp rfl).trans ((wq_u_j e487 rfl).trans ((f467 rp 8 _ grp rfl).trans ((f437 rp 8 _ grp rfl).trans (f423 rp 8 _ grp rfl)))))))
            have k546 : H533 r0 16 = H r0 16 := ((wq_u_t e534 grp g0 rfl 16).trans ((wq_u_t e523 grp g0 rfl 16).trans ((f503 r0 16 _ g0 rfl).trans ((wq_u_t e487 grp g0 rfl 16).trans ((f467 r0 16 _ g0 rfl).trans ((f437 r0 16 _ g0 rfl).trans (f423 r0 16 _ g0 rfl)))))))
            have o547 : (xl0 B n q d) = (0, (xN B n q), (xN B n (xN B n ((xN B n (xN B n ((xN B n (xN B n ((xN B n q))))))))))) := by
              unfold xl0 xlaw
              repeat first | rw [xs_0 (by omega)] | rw [xs_1 (by omega)] | rw [if_pos (by omega)] | rw [if_neg (by omega)]
              first | done | rfl | assumption | (exfalso; omega) | (refine Prod.ext ?_ (Prod.ext ?_ ?_) <;> (try dsimp only) <;> omega)
            have o547a : ((xl0 B n q d)).1 = 0 := by rw [o547]
            have o547b : ((xl0 B n q d)).2.1 = (xN B n q) := by rw [o547]
            have o547c : ((xl0 B n q d)).2.2 = (xN B n (xN B n ((xN B n (xN B n ((xN B n (xN B n ((xN B n q)))))))))) := by rw [o547]
            have _l := @xdlaw_v B n (xN B n q) d
            have h548 : RC T H533 r0 B n (xN B n (xN B n ((xN B n (xN B n ((xN B n (xN B n ((xN B n q)))))))))) := (RC_fr w524 g0 ((wfr.rf (l := [(54, 0)])).put' e534 grp rfl) rfl (RC_fr w502 g0 ((wfr.rf (l := [(54, 2)])).put' e523 grp rfl) rfl a512))
            have h549 : MA9 T H533 rp (d 1) := (MA9_fr w524 grp ((wfr.rf (l := [(54, 0)])).put' e534 grp rfl) rfl (MA9_fr w502 grp ((wfr.rf (l := [(54, 2)])).put' e523 grp rfl) rfl (MA9_fr w488 grp f503 rfl (MA9_fr w466 grp ((wfr.rf (l := [(54, 1)])).put' e487 grp rfl) rfl (MA9_fr w436 grp f467 rfl (MA9_fr w422 grp f437 rfl (MA9_fr hW grp f423 rfl h394)))))))
            have h550 : MA10 T H533 rp (d 2) := (MA10_fr w524 grp ((wfr.rf (l := [(54, 0)])).put' e534 grp rfl) rfl (MA10_fr w502 grp ((wfr.rf (l := [(54, 2)])).put' e523 grp rfl) rfl (MA10_fr w488 grp f503 rfl (MA10_fr w466 grp ((wfr.rf (l := [(54, 1)])).put' e487 grp rfl) rfl (MA10_fr w436 grp f467 rfl (MA10_fr w422 grp f437 rfl (MA10_fr hW grp f423 rfl h395)))))))
            have h551 : MA11 T H533 rp (d 3) := (MA11_fr w524 grp ((wfr.rf (l := [(54, 0)])).put' e534 grp rfl) rfl (MA11_fr w502 grp ((wfr.rf (l := [(54, 2)])).put' e523 grp rfl) rfl (MA11_fr w488 grp f503 rfl (MA11_fr w466 grp ((wfr.rf (l := [(54, 1)])).put' e487 grp rfl) rfl (MA11_fr w436 grp f467 rfl (MA11_fr w422 grp f437 rfl (MA11_fr hW grp f423 rfl h396)))))))
            have h552 : MA12 T H533 rp (d 4) := (MA12_fr w524 grp ((wfr.rf (l := [(54, 0)])).put' e534 grp rfl) rfl (MA12_fr w502 grp ((wfr.rf (l := [(54, 2)])).put' e523 grp rfl) rfl (MA12_fr w488 grp f503 rfl (MA12_fr w466 grp ((wfr.rf (l := [(54, 1)])).put' e487 grp rfl) rfl (MA12_fr w436 grp f467 rfl (MA12_fr w422 grp f437 rfl (MA12_fr hW grp f423 rfl h397)))))))
            have h553 : MA13 T H533 rp (d 5) := (MA13_fr w524 grp ((wfr.rf (l := [(54, 0)])).put' e534 grp rfl) rfl (MA13_fr w502 grp ((wfr.rf (l := [(54, 2)])).put' e523 grp rfl) rfl (MA13_fr w488 grp f503 rfl (MA13_fr w466 grp ((wfr.rf (l := [(54, 1)])).put' e487 grp rfl) rfl (MA13_fr w436 grp f467 rfl (MA13_fr w422 grp f437 rfl (MA13_fr hW grp f423 rfl h398)))))))
            have h554 : MA14 T H533 rp (d 6) := (MA14_fr w524 grp ((wfr.rf (l := [(54, 0)])).put' e534 grp rfl) rfl (MA14_fr w502 grp ((wfr.rf (l := [(54, 2)])).put' e523 grp rfl) rfl (MA14_fr w488 grp f503 rfl (MA14_fr w466 grp ((wfr.rf (l := [(54, 1)])).put' e487 grp rfl) rfl (MA14_fr w436 grp f467 rfl (MA14_fr w422 grp f437 rfl (MA14_fr hW grp f423 rfl h399)))))))
            have h555 : MA15 T H533 rp (d 7) := (MA15_fr w524 grp ((wfr.rf (l := [(54, 0)])).put' e534 grp rfl) rfl (MA15_fr w502 grp ((wfr.rf (l := [(54, 2)])).put' e523 grp rfl) rfl (MA15_fr w488 grp f503 rfl (MA15_fr w466 grp ((wfr.rf (l := [(54, 1)])).put' e487 grp rfl) rfl (MA15_fr w436 grp f467 rfl (MA15_fr w422 grp f437 rfl (MA15_fr hW grp f423 rfl h400)))))))
            have h556 : MA16 T H533 rp (d 8) := (MA16_fr w524 grp ((wfr.rf (l := [(54, 0)])).put' e534 grp rfl) rfl (MA16_fr w502 grp ((wfr.rf (l := [(54, 2)])).put' e523 grp rfl) rfl (MA16_fr w488 grp f503 rfl (MA16_fr w466 grp ((wfr.rf (l := [(54, 1)])).put' e487 grp rfl) rfl (MA16_fr w436 grp f467 rfl (MA16_fr w422 grp f437 rfl (MA16_fr hW grp f423 rfl h401)))))))
            have h557 : MA17 T H533 rp (d 9) := (MA17_fr w524 grp ((wfr.rf (l := [(54, 0)])).put' e534 grp rfl) rfl (MA17_fr w502 grp ((wfr.rf (l := [(54, 2)])).put' e523 grp rfl) rfl (MA17_fr w488 grp f503 rfl (MA17_fr w466 grp ((wfr.rf (l := [(54, 1)])).put' e487 grp rfl) rfl (MA17_fr w436 grp f467 rfl (MA17_fr w422 grp f437 rfl (MA17_fr hW grp f423 rfl h402)))))))
            have h558 : MA18 T H533 rp (d 10) := (MA18_fr w524 grp ((wfr.rf (l := [(54, 0)])).put' e534 grp rfl) rfl (MA18_fr w502 grp ((wfr.rf (l := [(54, 2)])).put' e523 grp rfl) rfl (MA18_fr w488 grp f503 rfl (MA18_fr w466 grp ((wfr.rf (l := [(54, 1)])).put' e487 grp rfl) rfl (MA18_fr w436 grp f467 rfl (MA18_fr w422 grp f437 rfl (MA18_fr hW grp f423 rfl h403)))))))
            have h559 : MA19 T H533 rp (d 11) := (MA19_fr w524 grp ((wfr.rf (l := [(54, 0)])).put' e534 grp rfl) rfl (MA19_fr w502 grp ((wfr.rf (l := [(54, 2)])).put' e523 grp rfl) rfl (MA19_fr w488 grp f503 rfl (MA19_fr w466 grp ((wfr.rf (l := [(54, 1)])).put' e487 grp rfl) rfl (MA19_fr w436 grp f467 rfl (MA19_fr w422 grp f437 rfl (MA19_fr hW grp f423 rfl h404)))))))
            have h560 : MA20 T H533 rp (d 12) := (MA20_fr w524 grp ((wfr.rf (l := [(54, 0)])).put' e534 grp rfl) rfl (MA20_fr w502 grp ((wfr.rf (l := [(54, 2)])).put' e523 grp rfl) rfl (MA20_fr w488 grp f503 rfl (MA20_fr w466 grp ((wfr.rf (l := [(54, 1)])).put' e487 grp rfl) rfl (MA20_fr w436 grp f467 rfl (MA20_fr w422 grp f437 rfl (MA20_fr hW grp f423 rfl h405)))))))
            have h561 : MA21 T H533 rp (d 13) := (MA21_fr w524 grp ((wfr.rf (l := [(54, 0)])).put' e534 grp rfl) rfl (MA21_fr w502 grp ((wfr.rf (l := [(54, 2)])).put' e523 grp rfl) rfl (MA21_fr w488 grp f503 rfl (MA21_fr w466 grp ((wfr.rf (l := [(54, 1)])).put' e487 grp rfl) rfl (MA21_fr w436 grp f467 rfl (MA21_fr w422 grp f437 rfl (MA21_fr hW grp f423 rfl h406)))))))
            have h562 : MA22 T H533 rp (d 14) := (MA22_fr w524 grp ((wfr.rf (l := [(54, 0)])).put' e534 grp rfl) rfl (MA22_fr w502 grp ((wfr.rf (l := [(54, 2)])).put' e523 grp rfl) rfl (MA22_fr w488 grp f503 rfl (MA22_fr w466 grp ((wfr.rf (l := [(54, 1)])).put' e487 grp rfl) rfl (MA22_fr w436 grp f467 rfl (MA22_fr w422 grp f437 rfl (MA22_fr hW grp f423 rfl h407)))))))
            have h563 : MA23 T H533 rp (d 15) := (MA23_fr w524 grp ((wfr.rf (l := [(54, 0)])).put' e534 grp rfl) rfl (MA23_fr w502 grp ((wfr.rf (l := [(54, 2)])).put' e523 grp rfl) rfl (MA23_fr w488 grp f503 rfl (MA23_fr w466 grp ((wfr.rf (l := [(54, 1)])).put' e487 grp rfl) rfl (MA23_fr w436 grp f467 rfl (MA23_fr w422 grp f437 rfl (MA23_fr hW grp f423 rfl h408)))))))
            have h564 : MA25 T H533 rp (d 17) := (MA25_fr w524 grp ((wfr.rf (l := [(54, 0)])).put' e534 grp rfl) rfl (MA25_fr w502 grp ((wfr.rf (l := [(54, 2)])).put' e523 grp rfl) rfl (MA25_fr w488 grp f503 rfl (MA25_fr w466 grp ((wfr.rf (l := [(54, 1)])).put' e487 grp rfl) rfl (MA25_fr w436 grp f467 rfl (MA25_fr w422 grp f437 rfl (MA25_fr hW grp f423 rfl h409)))))))
            have h565 : MA26 T H533 rp (d 16) := (MA26_fr w524 grp ((wfr.rf (l := [(54, 0)])).put' e534 grp rfl) rfl (MA26_fr w502 grp ((wfr.rf (l := [(54, 2)])).put' e523 grp rfl) rfl (MA26_fr w488 grp f503 rfl (MA26_fr w466 grp ((wfr.rf (l := [(54, 1)])).put' e487 grp rfl) rfl (MA26_fr w436 grp f467 rfl (MA26_fr w422 grp f437 rfl (MA26_fr hW grp f423 rfl h410)))))))
            exact wp_return e180 c180_76 rfl ⟨rfl, w535, f536, rfl, (Or.inl ⟨by omega, by omega, by omega, h548, DM_mk hDM_rp.1 ⟨by omega, by omega, by omega, by omega, by omega, by omega, by omega, by omega, by omega, by omega, by omega, by omega⟩ (xdP_cg hDM_rp.2.2.1 (fun i h1 h2 => by unfold xdlaw; rw [wq_u_row (by omega), wq_u_row (by omega), wq_u_row (by omega)])) h549 h550 h551 h552 h553 h554 h555 h556 h557 h558 h559 h560 h561 h562 h563 h564 h565 ⟨(by unfold xdlaw; rw [wq_u_row (by decide), wq_u_row (by decide), wq_u_row (by decide)]), (by unfold xdlaw; rw [wq_u_row (by decide), wq_u_row (by decide), wq_u_row (by decide)]), (by unfold xdlaw; rw [wq_u_row (by decide), wq_u_row (by decide), wq_u_row (by decide)]), (by unfold xdlaw; rw [wq_u_row (by decide), wq_u_row (by decide), wq_u_row (by decide)]), (by unfold xdlaw; rw [wq_u_row (by decide), wq_u_row (by decide), wq_u_row (by decide)]), (by unfold xdlaw; rw [wq_u_row (by decide), wq_u_row (by decide), wq_u_row (by decide)]), (by unfold xdlaw; rw [wq_u_row (by decide), wq_u_row (by decide), wq_u_row (by decide)]), (by unfold xdlaw; rw [wq_u_row (by decide), wq_u_row (by decide), wq_u_row (by decide)]), (by unfold xdlaw; rw [wq_u_row (by decide), wq_u_row (by decide), wq_u_row (by decide)]), (by unfold xdlaw; rw [wq_u_row (by decide), wq_u_row (by decide), wq_u_row (by decide)]), (by unfold xdlaw; rw [wq_u_row (by decide), wq_u_row (by decide), wq_u_row (by decide)]), (by unfold xdlaw; rw [wq_u_row (by decide), wq_u_row (by decide), wq_u_row (by decide)]), (by unfold xdlaw; rw [wq_u_row (by decide), wq_u_row (by decide), wq_u_row (by decide)]), (by unfold xdlaw; rw [wq_u_row (by decide), wq_u_row (by decide), wq_u_row (by decide)]), (by unfold xdlaw; rw [wq_u_row (by decide), wq_u_row (by decide), wq_u_row (by decide)]), (by unfold xdlaw; rw [wq_u_row (by decide), wq_u_row (by decide), wq_u_row (by decide)]), (by unfold xdlaw; rw [wq_u_row (by decide), wq_u_row (by decide), wq_u_row (by decide)])⟩⟩)⟩
        · have f566 := f489.tr f503 rfl
          show wp _ _ 180 57 [(1, vI z438), (0, .ref r0)] [vI z504, .ref rp] _ H498 _
          have u567 := RO_k a515
          refine wp_of e180 c180_57 (xp_I (pc' := 60) lf_9_226 w502 grp sh_54 (by decide) (by decide) ty_54_2 rfl rfl (by omega) (by omega) ⟨by omega, by omega⟩ rfl (fun H568 e569 w570 => ?_))
          have f571 := f566.put' e569 grp rfl
          have k572 : H568 rp 2 = z504 := wq_u_s e569
          refine wp_of e180 c180_60 (rw_aload_n (pc' := 61) (v := .ref r0) rfl rfl rfl ?_)
          have k573 : H568 r0 9 = H498 r0 9 := (wq_u_t e569 grp g0 rfl 9)
          refine wp_of e180 c180_61 (xg_I (pc' := 64) lf_9_75 w570 g0 sh_42 (by decide) (by decide) ty_42_9 rfl rfl (fun b574 b575 => ?_))
          refine wp_of e180 c180_64 (rw_iconst (pc' := 65) rfl ?_)
          refine wp_of e180 c180_65 (rw_icmp_eq (p1 := 76) (p2 := 68) (by decide) rfl ⟨by omega, by omega⟩ ⟨by omega, by omega⟩ (fun c576 => ?_) (fun c576 => ?_))
          · have o577 : (xl0 B n q d) = (xw B n ((xN B n (xN B n ((xN B n (xN B n ((xN B n q)))))))) 15558, ((xN B n (xN B n ((xN B n (xN B n ((xN B n q)))))))), ((xN B n (xN B n ((xN B n (xN B n ((xN B n q))))))))) := by
              unfold xl0 xlaw
              repeat first | rw [xs_0 (by omega)] | rw [xs_1 (by omega)] | rw [if_pos (by omega)] | rw [if_neg (by omega)]
              first | done | rfl | assumption | (exfalso; omega) | (refine Prod.ext ?_ (Prod.ext ?_ ?_) <;> (try dsimp only) <;> omega)
            have o577a : ((xl0 B n q d)).1 = xw B n ((xN B n (xN B n ((xN B n (xN B n ((xN B n q)))))))) 15558 := by rw [o577]
            have o577b : ((xl0 B n q d)).2.1 = ((xN B n (xN B n ((xN B n (xN B n ((xN B n q)))))))) := by rw [o577]
            have o577c : ((xl0 B n q d)).2.2 = ((xN B n (xN B n ((xN B n (xN B n ((xN B n q)))))))) := by rw [o577]
            have h578 : RO T H568 r0 (xw B n ((xN B n (xN B n ((xN B n (xN B n ((xN B n q)))))))) 15558) ((xN B n (xN B n ((xN B n (xN B n ((xN B n q)))))))) := (RO_fr w502 g0 ((wfr.rf (l := [(54, 2)])).put' e569 grp rfl) rfl a515)
            exact wp_return e180 c180_76 rfl ⟨rfl, w570, f571, rfl, (Or.inr ⟨by omega, RO_eq h578 (by omega) (by omega)⟩)⟩
          · exfalso
            omega
        · have f579 := f489.tr f503 rfl
          show wp _ _ 180 57 [(1, vI z438), (0, .ref r0)] [vI z504, .ref rp] _ H498 _
          have u580 := RO_k a519
          refine wp_of e180 c180_57 (xp_I (pc' := 60) lf_9_226 w502 grp sh_54 (by decide) (by decide) ty_54_2 rfl rfl (by omega) (by omega) ⟨by omega, by omega⟩ rfl (fun H581 e582 w583 => ?_))
          have f584 := f579.put' e582 grp rfl
          have k585 : H581 rp 2 = z504 := wq_u_s e582
          refine wp_of e180 c180_60 (rw_aload_n (pc' := 61) (v := .ref r0) rfl rfl rfl ?_)
          have k586 : H581 r0 9 = H498 r0 9 := (wq_u_t e582 grp g0 rfl 9)
          refine wp_of e180 c180_61 (xg_I (pc' := 64) lf_9_75 w583 g0 sh_42 (by decide) (by decide) ty_42_9 rfl rfl (fun b587 b588 => ?_))
          refine wp_of e180 c180_64 (rw_iconst (pc' := 65) rfl ?_)
          refine wp_of e180 c180_65 (rw_icmp_eq (p1 := 76) (p2 := 68) (by decide) rfl ⟨by omega, by omega⟩ ⟨by omega, by omega⟩ (fun c589 => ?_) (fun c589 => ?_))
          · have o590 : (xl0 B n q d) = (xh B n (xN B n ((xN B n (xN B n ((xN B n (xN B n ((xN B n q))))))))) 0 3, (xN B n ((xN B n (xN B n ((xN B n (xN B n ((xN B n q))))))))), (xN B n ((xN B n (xN B n ((xN B n (xN B n ((xN B n q)))))))))) := by
              unfold xl0 xlaw
              repeat first | rw [xs_0 (by omega)] | rw [xs_1 (by omega)] | rw [if_pos (by omega)] | rw [if_neg (by omega)]
              first | done | rfl | assumption | (exfalso; omega) | (refine Prod.ext ?_ (Prod.ext ?_ ?_) <;> (try dsimp only) <;> omega)
            have o590a : ((xl0 B n q d)).1 = xh B n (xN B n ((xN B n (xN B n ((xN B n (xN B n ((xN B n q))))))))) 0 3 := by rw [o590]
            have o590b : ((xl0 B n q d)).2.1 = (xN B n ((xN B n (xN B n ((xN B n (xN B n ((xN B n q))))))))) := by rw [o590]
            have o590c : ((xl0 B n q d)).2.2 = (xN B n ((xN B n (xN B n ((xN B n (xN B n ((xN B n q))))))))) := by rw [o590]
            have h591 : RO T H581 r0 (xh B n (xN B n ((xN B n (xN B n ((xN B n (xN B n ((xN B n q))))))))) 0 3) (xN B n ((xN B n (xN B n ((xN B n (xN B n ((xN B n q))))))))) := (RO_fr w502 g0 ((wfr.rf (l := [(54, 2)])).put' e582 grp rfl) rfl a519)
            exact wp_return e180 c180_76 rfl ⟨rfl, w583, f584, rfl, (Or.inr ⟨by omega, RO_eq h591 (by omega) (by omega)⟩)⟩
          · exfalso
            omega
      · have f592 := f454.tr f467 rfl
        show wp _ _ 180 42 [(1, vI z438), (0, .ref r0)] [vI z468, .ref rp] _ H462 _
        have u593 := RO_k a479
        refine wp_of e180 c180_42 (xp_I (pc' := 45) lf_9_222 w466 grp sh_54 (by decide) (by decide) ty_54_1 rfl rfl (by omega) (by omega) ⟨by omega, by omega⟩ rfl (fun H594 e595 w596 => ?_))
        have f597 := f592.put' e595 grp rfl
        have k598 : H594 rp 1 = z468 := wq_u_s e595
        refine wp_of e180 c180_45 (rw_aload_n (pc' := 46) (v := .ref r0) rfl rfl rfl ?_)
        have k599 : H594 r0 4 = H432 r0 4 := ((wq_u_t e595 grp g0 rfl 4).trans (f467 r0 4 _ g0 rfl))
        have q600 : H594 r0 4 = (rp : Int) := k599.trans q457
        refine wp_of e180 c180_46 (xg_K (pc' := 49) lf_9_166 w596 g0 sh_42 (by decide) (by decide) rfl q600 rfl ?_)
        refine wp_of e180 c180_49 (rw_aload_n (pc' := 50) (v := .ref r0) rfl rfl rfl ?_)
        refine wp_of e180 c180_50 (rw_ldcS (pc' := 52) (k := 75) rfl rfl rfl rfl ?_)
        refine wp_of e180 c180_52 (rw_iconst (pc' := 53) rfl ?_)
        refine wp_of e180 c180_53 (rw_iconst (pc' := 54) rfl ?_)
        have k601 : H594 r0 5 = H432 r0 5 := ((wq_u_t e595 grp g0 rfl 5).trans (f467 r0 5 _ g0 rfl))
        have q602 : H594 r0 5 = (rb : Int) := k601.trans q459
        have h603 : RO T H594 r0 (xw B n ((xN B n (xN B n ((xN B n q))))) 72983685) ((xN B n (xN B n ((xN B n q))))) := (RO_fr w466 g0 ((wfr.rf (l := [(54, 1)])).put' e595 grp rfl) rfl a479)
        refine wp_of e180 c180_54 (xc_V (pc' := 57) (r := r0) (as := [.ref 75, vI 0, vI 3]) (st := [.ref rp]) (lm_9_216) rfl rfl (Nat.le_of_ble_eq_true rfl) w596 g0 sh_42 (by decide) rfl (by decide) (u_182_o (fo := (xw B n ((xN B n (xN B n ((xN B n q))))) 72983685)) (po := (((xN B n (xN B n ((xN B n q))))))) (kk := 15558) w596 g0 rfl ⟨by omega, by omega⟩ ⟨by omega, by omega⟩ q602 grb (by decide +kernel) h603) (fun R604 T605 H606 p607 => ?_))
        obtain ⟨e608, e610, z611, e609, b612, p613⟩ := p607
        subst e608
        subst e609
        subst e610
        obtain ⟨a614, a615⟩ := p613
        show wp _ _ 180 57 [(1, vI z438), (0, .ref r0)] [vI z611, .ref rp] _ H594 _
        have u616 := RO_k a615
        refine wp_of e180 c180_57 (xp_I (pc' := 60) lf_9_226 w596 grp sh_54 (by decide) (by decide) ty_54_2 rfl rfl (by omega) (by omega) ⟨by omega, by omega⟩ rfl (fun H617 e618 w619 => ?_))
        have f620 := f597.put' e618 grp rfl
        have k621 : H617 rp 2 = z611 := wq_u_s e618
        refine wp_of e180 c180_60 (rw_aload_n (pc' := 61) (v := .ref r0) rfl rfl rfl ?_)
        have k622 : H617 r0 9 = H594 r0 9 := (wq_u_t e618 grp g0 rfl 9)
        refine wp_of e180 c180_61 (xg_I (pc' := 64) lf_9_75 w619 g0 sh_42 (by decide) (by decide) ty_42_9 rfl rfl (fun b623 b624 => ?_))
        refine wp_of e180 c180_64 (rw_iconst (pc' := 65) rfl ?_)
        refine wp_of e180 c180_65 (rw_icmp_eq (p1 := 76) (p2 := 68) (by decide) rfl ⟨by omega, by omega⟩ ⟨by omega, by omega⟩ (fun c625 => ?_) (fun c625 => ?_))
        · have o626 : (xl0 B n q d) = (xw B n ((xN B n (xN B n ((xN B n q))))) 72983685, ((xN B n (xN B n ((xN B n q))))), ((xN B n (xN B n ((xN B n q)))))) := by
            unfold xl0 xlaw
            repeat first | rw [xs_0 (by omega)] | rw [xs_1 (by omega)] | rw [if_pos (by omega)] | rw [if_neg (by omega)]
            first | done | rfl | assumption | (exfalso; omega) | (refine Prod.ext ?_ (Prod.ext ?_ ?_) <;> (try dsimp only) <;> omega)
          have o626a : ((xl0 B n q d)).1 = xw B n ((xN B n (xN B n ((xN B n q))))) 72983685 := by rw [o626]
          have o626b : ((xl0 B n q d)).2.1 = ((xN B n (xN B n ((xN B n q))))) := by rw [o626]
          have o626c : ((xl0 B n q d)).2.2 = ((xN B n (xN B n ((xN B n q))))) := by rw [o626]
          have h627 : RO T H617 r0 (xw B n ((xN B n (xN B n ((xN B n q))))) 72983685) (((xN B n (xN B n ((xN B n q)))))) := (RO_fr w596 g0 ((wfr.rf (l := [(54, 2)])).put' e618 grp rfl) rfl a615)
          exact wp_return e180 c180_76 rfl ⟨rfl, w619, f620, rfl, (Or.inr ⟨by omega, RO_eq h627 (by omega) (by omega)⟩)⟩
        · exfalso
          omega
      · have f628 := f454.tr f467 rfl
        show wp _ _ 180 42 [(1, vI z438), (0, .ref r0)] [vI z468, .ref rp] _ H462 _
        have u629 := RO_k a483
        refine wp_of e180 c180_42 (xp_I (pc' := 45) lf_9_222 w466 grp sh_54 (by decide) (by decide) ty_54_1 rfl rfl (by omega) (by omega) ⟨by omega, by omega⟩ rfl (fun H630 e631 w632 => ?_))
        have f633 := f628.put' e631 grp rfl
        have k634 : H630 rp 1 = z468 := wq_u_s e631
        refine wp_of e180 c180_45 (rw_aload_n (pc' := 46) (v := .ref r0) rfl rfl rfl ?_)
        have k635 : H630 r0 4 = H432 r0 4 := ((wq_u_t e631 grp g0 rfl 4).trans (f467 r0 4 _ g0 rfl))
        have q636 : H630 r0 4 = (rp : Int) := k635.trans q457
        refine wp_of e180 c180_46 (xg_K (pc' := 49) lf_9_166 w632 g0 sh_42 (by decide) (by decide) rfl q636 rfl ?_)
        refine wp_of e180 c180_49 (rw_aload_n (pc' := 50) (v := .ref r0) rfl rfl rfl ?_)
        refine wp_of e180 c180_50 (rw_ldcS (pc' := 52) (k := 75) rfl rfl rfl rfl ?_)
        refine wp_of e180 c180_52 (rw_iconst (pc' := 53) rfl ?_)
        refine wp_of e180 c180_53 (rw_iconst (pc' := 54) rfl ?_)
        have k637 : H630 r0 5 = H432 r0 5 := ((wq_u_t e631 grp g0 rfl 5).trans (f467 r0 5 _ g0 rfl))
        have q638 : H630 r0 5 = (rb : Int) := k637.trans q459
        have h639 : RO T H630 r0 (xh B n (xN B n ((xN B n (xN B n ((xN B n q)))))) 0 9) (xN B n ((xN B n (xN B n ((xN B n q)))))) := (RO_fr w466 g0 ((wfr.rf (l := [(54, 1)])).put' e631 grp rfl) rfl a483)
        refine wp_of e180 c180_54 (xc_V (pc' := 57) (r := r0) (as := [.ref 75, vI 0, vI 3]) (st := [.ref rp]) (lm_9_216) rfl rfl (Nat.le_of_ble_eq_true rfl) w632 g0 sh_42 (by decide) rfl (by decide) (u_182_o (fo := (xh B n (xN B n ((xN B n (xN B n ((xN B n q)))))) 0 9)) (po := ((xN B n ((xN B n (xN B n ((xN B n q)))))))) (kk := 15558) w632 g0 rfl ⟨by omega, by omega⟩ ⟨by omega, by omega⟩ q638 grb (by decide +kernel) h639) (fun R640 T641 H642 p643 => ?_))
        obtain ⟨e644, e646, z647, e645, b648, p649⟩ := p643
        subst e644
        subst e645
        subst e646
        obtain ⟨a650, a651⟩ := p649
        show wp _ _ 180 57 [(1, vI z438), (0, .ref r0)] [vI z647, .ref rp] _ H630 _
        have u652 := RO_k a651
        refine wp_of e180 c180_57 (xp_I (pc' := 60) lf_9_226 w632 grp sh_54 (by decide) (by decide) ty_54_2 rfl rfl (by omega) (by omega) ⟨by omega, by omega⟩ rfl (fun H653 e654 w655 => ?_))
        have f656 := f633.put' e654 grp rfl
        have k657 : H653 rp 2 = z647 := wq_u_s e654
        refine wp_of e180 c180_60 (rw_aload_n (pc' := 61) (v := .ref r0) rfl rfl rfl ?_)
        have k658 : H653 r0 9 = H630 r0 9 := (wq_u_t e654 grp g0 rfl 9)
        refine wp_of e180 c180_61 (xg_I (pc' := 64) lf_9_75 w655 g0 sh_42 (by decide) (by decide) ty_42_9 rfl rfl (fun b659 b660 => ?_))
        refine wp_of e180 c180_64 (rw_iconst (pc' := 65) rfl ?_)
        refine wp_of e180 c180_65 (rw_icmp_eq (p1 := 76) (p2 := 68) (by decide) rfl ⟨by omega, by omega⟩ ⟨by omega, by omega⟩ (fun c661 => ?_) (fun c661 => ?_))
        · have o662 : (xl0 B n q d) = (xh B n (xN B n ((xN B n (xN B n ((xN B n q)))))) 0 9, (xN B n ((xN B n (xN B n ((xN B n q)))))), (xN B n ((xN B n (xN B n ((xN B n q))))))) := by
            unfold xl0 xlaw
            repeat first | rw [xs_0 (by omega)] | rw [xs_1 (by omega)] | rw [if_pos (by omega)] | rw [if_neg (by omega)]
            first | done | rfl | assumption | (exfalso; omega) | (refine Prod.ext ?_ (Prod.ext ?_ ?_) <;> (try dsimp only) <;> omega)
          have o662a : ((xl0 B n q d)).1 = xh B n (xN B n ((xN B n (xN B n ((xN B n q)))))) 0 9 := by rw [o662]
          have o662b : ((xl0 B n q d)).2.1 = (xN B n ((xN B n (xN B n ((xN B n q)))))) := by rw [o662]
          have o662c : ((xl0 B n q d)).2.2 = (xN B n ((xN B n (xN B n ((xN B n q)))))) := by rw [o662]
          have h663 : RO T H653 r0 (xh B n (xN B n ((xN B n (xN B n ((xN B n q)))))) 0 9) ((xN B n ((xN B n (xN B n ((xN B n q))))))) := (RO_fr w632 g0 ((wfr.rf (l := [(54, 2)])).put' e654 grp rfl) rfl a651)
          exact wp_return e180 c180_76 rfl ⟨rfl, w655, f656, rfl, (Or.inr ⟨by omega, RO_eq h663 (by omega) (by omega)⟩)⟩
        · exfalso
          omega
    · have f664 := f426.tr f437 rfl
      show wp _ _ 180 28 [(0, .ref r0)] [vI z438] _ H432 _
      have u665 := RO_k a449
      refine wp_of e180 c180_28 (rw_istore_n (pc' := 29) (z := z438) (L' := [(1, vI z438), (0, .ref r0)]) rfl rfl rfl ?_)
      refine wp_of e180 c180_29 (rw_aload_n (pc' := 30) (v := .ref r0) rfl rfl rfl ?_)
      have k666 : H432 r0 4 = H r0 4 := ((f437 r0 4 _ g0 rfl).trans (f423 r0 4 _ g0 rfl))
      have q667 : H432 r0 4 = (rp : Int) := k666.trans qrp
      refine wp_of e180 c180_30 (xg_K (pc' := 33) lf_9_166 w436 g0 sh_42 (by decide) (by decide) rfl q667 rfl ?_)
      refine wp_of e180 c180_33 (rw_aload_n (pc' := 34) (v := .ref r0) rfl rfl rfl ?_)
      refine wp_of e180 c180_34 (rw_ldcS (pc' := 36) (k := 74) rfl rfl rfl rfl ?_)
      refine wp_of e180 c180_36 (rw_iconst (pc' := 37) rfl ?_)
      refine wp_of e180 c180_37 (rw_bipush (pc' := 39) (z := 9) rfl (by decide) ?_)
      have k668 : H432 r0 5 = H418 r0 5 := (f437 r0 5 _ g0 rfl)
      have q669 : H432 r0 5 = (rb : Int) := k668.trans q429
      refine wp_of e180 c180_39 (xc_V (pc' := 42) (r := r0) (as := [.ref 74, vI 0, vI 9]) (st := [.ref rp]) (lm_9_216) rfl rfl (Nat.le_of_ble_eq_true rfl) w436 g0 sh_42 (by decide) rfl (by decide) (u_182_o (fo := (xw B n ((xN B n q)) 8902227)) (po := (((xN B n q)))) (kk := 72983685) w436 g0 rfl ⟨by omega, by omega⟩ ⟨by omega, by omega⟩ q669 grb (by decide +kernel) a449) (fun R670 T671 H672 p673 => ?_))
      obtain ⟨e674, e676, z677, e675, b678, p679⟩ := p673
      subst e674
      subst e675
      subst e676
      obtain ⟨a680, a681⟩ := p679
      show wp _ _ 180 42 [(1, vI z438), (0, .ref r0)] [vI z677, .ref rp] _ H432 _
      have u682 := RO_k a681
      refine wp_of e180 c180_42 (xp_I (pc' := 45) lf_9_222 w436 grp sh_54 (by decide) (by decide) ty_54_1 rfl rfl (by omega) (by omega) ⟨by omega, by omega⟩ rfl (fun H683 e684 w685 => ?_))
      have f686 := f664.put' e684 grp rfl
      have k687 : H683 rp 1 = z677 := wq_u_s e684
      refine wp_of e180 c180_45 (rw_aload_n (pc' := 46) (v := .ref r0) rfl rfl rfl ?_)
      have k688 : H683 r0 4 = H432 r0 4 := (wq_u_t e684 grp g0 rfl 4)
      have q689 : H683 r0 4 = (rp : Int) := k688.trans q667
      refine wp_of e180 c180_46 (xg_K (pc' := 49) lf_9_166 w685 g0 sh_42 (by decide) (by decide) rfl q689 rfl ?_)
      refine wp_of e180 c180_49 (rw_aload_n (pc' := 50) (v := .ref r0) rfl rfl rfl ?_)
      refine wp_of e180 c180_50 (rw_ldcS (pc' := 52) (k := 75) rfl rfl rfl rfl ?_)
      refine wp_of e180 c180_52 (rw_iconst (pc' := 53) rfl ?_)
      refine wp_of e180 c180_53 (rw_iconst (pc' := 54) rfl ?_)
      have k690 : H683 r0 5 = H432 r0 5 := (wq_u_t e684 grp g0 rfl 5)
      have q691 : H683 r0 5 = (rb : Int) := k690.trans q669
      have h692 : RO T H683 r0 (xw B n ((xN B n q)) 8902227) (((xN B n q))) := (RO_fr w436 g0 ((wfr.rf (l := [(54, 1)])).put' e684 grp rfl) rfl a681)
      refine wp_of e180 c180_54 (xc_V (pc' := 57) (r := r0) (as := [.ref 75, vI 0, vI 3]) (st := [.ref rp]) (lm_9_216) rfl rfl (Nat.le_of_ble_eq_true rfl) w685 g0 sh_42 (by decide) rfl (by decide) (u_182_o (fo := (xw B n ((xN B n q)) 8902227)) (po := (((xN B n q)))) (kk := 15558) w685 g0 rfl ⟨by omega, by omega⟩ ⟨by omega, by omega⟩ q691 grb (by decide +kernel) h692) (fun R693 T694 H695 p696 => ?_))
      obtain ⟨e697, e699, z700, e698, b701, p702⟩ := p696
      subst e697
      subst e698
      subst e699
      obtain ⟨a703, a704⟩ := p702
      show wp _ _ 180 57 [(1, vI z438), (0, .ref r0)] [vI z700, .ref rp] _ H683 _
      have u705 := RO_k a704
      refine wp_of e180 c180_57 (xp_I (pc' := 60) lf_9_226 w685 grp sh_54 (by decide) (by decide) ty_54_2 rfl rfl (by omega) (by omega) ⟨by omega, by omega⟩ rfl (fun H706 e707 w708 => ?_))
      have f709 := f686.put' e707 grp rfl
      have k710 : H706 rp 2 = z700 := wq_u_s e707
      refine wp_of e180 c180_60 (rw_aload_n (pc' := 61) (v := .ref r0) rfl rfl rfl ?_)
      have k711 : H706 r0 9 = H683 r0 9 := (wq_u_t e707 grp g0 rfl 9)
      refine wp_of e180 c180_61 (xg_I (pc' := 64) lf_9_75 w708 g0 sh_42 (by decide) (by decide) ty_42_9 rfl rfl (fun b712 b713 => ?_))
      refine wp_of e180 c180_64 (rw_iconst (pc' := 65) rfl ?_)
      refine wp_of e180 c180_65 (rw_icmp_eq (p1 := 76) (p2 := 68) (by decide) rfl ⟨by omega, by omega⟩ ⟨by omega, by omega⟩ (fun c714 => ?_) (fun c714 => ?_))
      · have o715 : (xl0 B n q d) = (xw B n ((xN B n q)) 8902227, ((xN B n q)), ((xN B n q))) := by
          unfold xl0 xlaw
          repeat first | rw [xs_0 (by omega)] | rw [xs_1 (by omega)] | rw [if_pos (by omega)] | rw [if_neg (by omega)]
          first | done | rfl | assumption | (exfalso; omega) | (refine Prod.ext ?_ (Prod.ext ?_ ?_) <;> (try dsimp only) <;> omega)
        have o715a : ((xl0 B n q d)).1 = xw B n ((xN B n q)) 8902227 := by rw [o715]
        have o715b : ((xl0 B n q d)).2.1 = ((xN B n q)) := by rw [o715]
        have o715c : ((xl0 B n q d)).2.2 = ((xN B n q)) := by rw [o715]
        have h716 : RO T H706 r0 (xw B n ((xN B n q)) 8902227) (((xN B n q))) := (RO_fr w685 g0 ((wfr.rf (l := [(54, 2)])).put' e707 grp rfl) rfl a704)
        exact wp_return e180 c180_76 rfl ⟨rfl, w708, f709, rfl, (Or.inr ⟨by omega, RO_eq h716 (by omega) (by omega)⟩)⟩
      · exfalso
        omega
    · have f717 := f426.tr f437 rfl
      show wp _ _ 180 28 [(0, .ref r0)] [vI z438] _ H432 _
      have u718 := RO_k a453
      refine wp_of e180 c180_28 (rw_istore_n (pc' := 29) (z := z438) (L' := [(1, vI z438), (0, .ref r0)]) rfl rfl rfl ?_)
      refine wp_of e180 c180_29 (rw_aload_n (pc' := 30) (v := .ref r0) rfl rfl rfl ?_)
      have k719 : H432 r0 4 = H r0 4 := ((f437 r0 4 _ g0 rfl).trans (f423 r0 4 _ g0 rfl))
      have q720 : H432 r0 4 = (rp : Int) := k719.trans qrp
      refine wp_of e180 c180_30 (xg_K (pc' := 33) lf_9_166 w436 g0 sh_42 (by decide) (by decide) rfl q720 rfl ?_)
      refine wp_of e180 c180_33 (rw_aload_n (pc' := 34) (v := .ref r0) rfl rfl rfl ?_)
      refine wp_of e180 c180_34 (rw_ldcS (pc' := 36) (k := 74) rfl rfl rfl rfl ?_)
      refine wp_of e180 c180_36 (rw_iconst (pc' := 37) rfl ?_)
      refine wp_of e180 c180_37 (rw_bipush (pc' := 39) (z := 9) rfl (by decide) ?_)
      have k721 : H432 r0 5 = H418 r0 5 := (f437 r0 5 _ g0 rfl)
      have q722 : H432 r0 5 = (rb : Int) := k721.trans q429
      refine wp_of e180 c180_39 (xc_V (pc' := 42) (r := r0) (as := [.ref 74, vI 0, vI 9]) (st := [.ref rp]) (lm_9_216) rfl rfl (Nat.le_of_ble_eq_true rfl) w436 g0 sh_42 (by decide) rfl (by decide) (u_182_o (fo := (xh B n (xN B n ((xN B n q))) 1 24)) (po := ((xN B n ((xN B n q))))) (kk := 72983685) w436 g0 rfl ⟨by omega, by omega⟩ ⟨by omega, by omega⟩ q722 grb (by decide +kernel) a453) (fun R723 T724 H725 p726 => ?_))
      obtain ⟨e727, e729, z730, e728, b731, p732⟩ := p726
      subst e727
      subst e728
      subst e729
      obtain ⟨a733, a734⟩ := p732
      show wp _ _ 180 42 [(1, vI z438), (0, .ref r0)] [vI z730, .ref rp] _ H432 _
      have u735 := RO_k a734
      refine wp_of e180 c180_42 (xp_I (pc' := 45) lf_9_222 w436 grp sh_54 (by decide) (by decide) ty_54_1 rfl rfl (by omega) (by omega) ⟨by omega, by omega⟩ rfl (fun H736 e737 w738 => ?_))
      have f739 := f717.put' e737 grp rfl
      have k740 : H736 rp 1 = z730 := wq_u_s e737
      refine wp_of e180 c180_45 (rw_aload_n (pc' := 46) (v := .ref r0) rfl rfl rfl ?_)
      have k741 : H736 r0 4 = H432 r0 4 := (wq_u_t e737 grp g0 rfl 4)
      have q742 : H736 r0 4 = (rp : Int) := k741.trans q720
      refine wp_of e180 c180_46 (xg_K (pc' := 49) lf_9_166 w738 g0 sh_42 (by decide) (by decide) rfl q742 rfl ?_)
      refine wp_of e180 c180_49 (rw_aload_n (pc' := 50) (v := .ref r0) rfl rfl rfl ?_)
      refine wp_of e180 c180_50 (rw_ldcS (pc' := 52) (k := 75) rfl rfl rfl rfl ?_)
      refine wp_of e180 c180_52 (rw_iconst (pc' := 53) rfl ?_)
      refine wp_of e180 c180_53 (rw_iconst (pc' := 54) rfl ?_)
      have k743 : H736 r0 5 = H432 r0 5 := (wq_u_t e737 grp g0 rfl 5)
      have q744 : H736 r0 5 = (rb : Int) := k743.trans q722
      have h745 : RO T H736 r0 (xh B n (xN B n ((xN B n q))) 1 24) ((xN B n ((xN B n q)))) := (RO_fr w436 g0 ((wfr.rf (l := [(54, 1)])).put' e737 grp rfl) rfl a734)
      refine wp_of e180 c180_54 (xc_V (pc' := 57) (r := r0) (as := [.ref 75, vI 0, vI 3]) (st := [.ref rp]) (lm_9_216) rfl rfl (Nat.le_of_ble_eq_true rfl) w738 g0 sh_42 (by decide) rfl (by decide) (u_182_o (fo := (xh B n (xN B n ((xN B n q))) 1 24)) (po := ((xN B n ((xN B n q))))) (kk := 15558) w738 g0 rfl ⟨by omega, by omega⟩ ⟨by omega, by omega⟩ q744 grb (by decide +kernel) h745) (fun R746 T747 H748 p749 => ?_))
      obtain ⟨e750, e752, z753, e751, b754, p755⟩ := p749
      subst e750
      subst e751
      subst e752
      obtain ⟨a756, a757⟩ := p755
      show wp _ _ 180 57 [(1, vI z438), (0, .ref r0)] [vI z753, .ref rp] _ H736 _
      have u758 := RO_k a757
      refine wp_of e180 c180_57 (xp_I (pc' := 60) lf_9_226 w738 grp sh_54 (by decide) (by decide) ty_54_2 rfl rfl (by omega) (by omega) ⟨by omega, by omega⟩ rfl (fun H759 e760 w761 => ?_))
      have f762 := f739.put' e760 grp rfl
      have k763 : H759 rp 2 = z753 := wq_u_s e760
      refine wp_of e180 c180_60 (rw_aload_n (pc' := 61) (v := .ref r0) rfl rfl rfl ?_)
      have k764 : H759 r0 9 = H736 r0 9 := (wq_u_t e760 grp g0 rfl 9)
      refine wp_of e180 c180_61 (xg_I (pc' := 64) lf_9_75 w761 g0 sh_42 (by decide) (by decide) ty_42_9 rfl rfl (fun b765 b766 => ?_))
      refine wp_of e180 c180_64 (rw_iconst (pc' := 65) rfl ?_)
      refine wp_of e180 c180_65 (rw_icmp_eq (p1 := 76) (p2 := 68) (by decide) rfl ⟨by omega, by omega⟩ ⟨by omega, by omega⟩ (fun c767 => ?_) (fun c767 => ?_))
      · have o768 : (xl0 B n q d) = (xh B n (xN B n ((xN B n q))) 1 24, (xN B n ((xN B n q))), (xN B n ((xN B n q)))) := by
          unfold xl0 xlaw
          repeat first | rw [xs_0 (by omega)] | rw [xs_1 (by omega)] | rw [if_pos (by omega)] | rw [if_neg (by omega)]
          first | done | rfl | assumption | (exfalso; omega) | (refine Prod.ext ?_ (Prod.ext ?_ ?_) <;> (try dsimp only) <;> omega)
        have o768a : ((xl0 B n q d)).1 = xh B n (xN B n ((xN B n q))) 1 24 := by rw [o768]
        have o768b : ((xl0 B n q d)).2.1 = (xN B n ((xN B n q))) := by rw [o768]
        have o768c : ((xl0 B n q d)).2.2 = (xN B n ((xN B n q))) := by rw [o768]
        have h769 : RO T H759 r0 (xh B n (xN B n ((xN B n q))) 1 24) ((xN B n ((xN B n q)))) := (RO_fr w738 g0 ((wfr.rf (l := [(54, 2)])).put' e760 grp rfl) rfl a757)
        exact wp_return e180 c180_76 rfl ⟨rfl, w761, f762, rfl, (Or.inr ⟨by omega, RO_eq h769 (by omega) (by omega)⟩)⟩
      · exfalso
        omega
  · refine wp_of e180 c180_10 (rw_aload_n (pc' := 11) (v := .ref r0) rfl rfl rfl ?_)
    refine wp_of e180 c180_11 (rw_iconst (pc' := 12) rfl ?_)
    refine wp_of e180 c180_12 (xc_V (pc' := 15) (r := r0) (as := [vI 3]) (st := []) (lm_9_121) rfl rfl (Nat.le_of_ble_eq_true rfl) hW g0 sh_42 (by decide) rfl (by decide) (u_181_k (B := B) (n := n) (q := q) hW g0 ⟨by omega, by omega⟩ (by omega) hRC_r0) (fun R770 T771 H772 p773 => ?_))
    obtain ⟨e774, w776, f777, e775, p778⟩ := p773
    subst e774
    subst e775
    have f780 := f0.tr f777 rfl
    show wp _ _ 180 15 [(0, .ref r0)] [] _ H772 _
    have u781 := RO_k p778
    refine wp_of e180 c180_15 (rw_aload_n (pc' := 16) (v := .ref r0) rfl rfl rfl ?_)
    refine wp_of e180 c180_16 (xc_V (pc' := 19) (r := r0) (as := []) (st := []) (lm_9_118) rfl rfl (Nat.le_of_ble_eq_true rfl) w776 g0 sh_42 (by decide) rfl (by decide) (u_172_o (fo := 3) (po := q) w776 g0 p778) (fun R782 T783 H784 p785 => ?_))
    obtain ⟨e786, e788, e787, p789⟩ := p785
    subst e786
    subst e787
    subst e788
    show wp _ _ 180 19 [(0, .ref r0)] [] _ H772 _
    have u791 := RO_k p789
    refine wp_of e180 c180_19 (rw_aload_n (pc' := 20) (v := .ref r0) rfl rfl rfl ?_)
    refine wp_of e180 c180_20 (rw_ldcS (pc' := 22) (k := 73) rfl rfl rfl rfl ?_)
    refine wp_of e180 c180_22 (rw_iconst (pc' := 23) rfl ?_)
    refine wp_of e180 c180_23 (rw_bipush (pc' := 25) (z := 24) rfl (by decide) ?_)
    have k792 : H772 r0 5 = H r0 5 := (f777 r0 5 _ g0 rfl)
    have q793 : H772 r0 5 = (rb : Int) := k792.trans qrb
    refine wp_of e180 c180_25 (xc_V (pc' := 28) (r := r0) (as := [.ref 73, vI 1, vI 24]) (st := []) (lm_9_216) rfl rfl (Nat.le_of_ble_eq_true rfl) w776 g0 sh_42 (by decide) rfl (by decide) (u_182_o (fo := 3) (po := q) (kk := 8902227) w776 g0 rfl ⟨by omega, by omega⟩ ⟨by omega, by omega⟩ q793 grb (by decide +kernel) p789) (fun R794 T795 H796 p797 => ?_))
    obtain ⟨e798, e800, z801, e799, b802, p803⟩ := p797
    subst e798
    subst e799
    subst e800
    obtain ⟨a804, a805⟩ := p803
    show wp _ _ 180 28 [(0, .ref r0)] [vI z801] _ H772 _
    have u806 := RO_k a805
    refine wp_of e180 c180_28 (rw_istore_n (pc' := 29) (z := z801) (L' := [(1, vI z801), (0, .ref r0)]) rfl rfl rfl ?_)
    refine wp_of e180 c180_29 (rw_aload_n (pc' := 30) (v := .ref r0) rfl rfl rfl ?_)
    have k807 : H772 r0 4 = H r0 4 := (f777 r0 4 _ g0 rfl)
    have q808 : H772 r0 4 = (rp : Int) := k807.trans qrp
    refine wp_of e180 c180_30 (xg_K (pc' := 33) lf_9_166 w776 g0 sh_42 (by decide) (by decide) rfl q808 rfl ?_)
    refine wp_of e180 c180_33 (rw_aload_n (pc' := 34) (v := .ref r0) rfl rfl rfl ?_)
    refine wp_of e180 c180_34 (rw_ldcS (pc' := 36) (k := 74) rfl rfl rfl rfl ?_)
    refine wp_of e180 c180_36 (rw_iconst (pc' := 37) rfl ?_)
    refine wp_of e180 c180_37 (rw_bipush (pc' := 39) (z := 9) rfl (by decide) ?_)
    refine wp_of e180 c180_39 (xc_V (pc' := 42) (r := r0) (as := [.ref 74, vI 0, vI 9]) (st := [.ref rp]) (lm_9_216) rfl rfl (Nat.le_of_ble_eq_true rfl) w776 g0 sh_42 (by decide) rfl (by decide) (u_182_o (fo := 3) (po := q) (kk := 72983685) w776 g0 rfl ⟨by omega, by omega⟩ ⟨by omega, by omega⟩ q793 grb (by decide +kernel) a805) (fun R809 T810 H811 p812 => ?_))
    obtain ⟨e813, e815, z816, e814, b817, p818⟩ := p812
    subst e813
    subst e814
    subst e815
    obtain ⟨a819, a820⟩ := p818
    show wp _ _ 180 42 [(1, vI z801), (0, .ref r0)] [vI z816, .ref rp] _ H772 _
    have u821 := RO_k a820
    refine wp_of e180 c180_42 (xp_I (pc' := 45) lf_9_222 w776 grp sh_54 (by decide) (by decide) ty_54_1 rfl rfl (by omega) (by omega) ⟨by omega, by omega⟩ rfl (fun H822 e823 w824 => ?_))
    have f825 := f780.put' e823 grp rfl
    have k826 : H822 rp 1 = z816 := wq_u_s e823
    refine wp_of e180 c180_45 (rw_aload_n (pc' := 46) (v := .ref r0) rfl rfl rfl ?_)
    have k827 : H822 r0 4 = H772 r0 4 := (wq_u_t e823 grp g0 rfl 4)
    have q828 : H822 r0 4 = (rp : Int) := k827.trans q808
    refine wp_of e180 c180_46 (xg_K (pc' := 49) lf_9_166 w824 g0 sh_42 (by decide) (by decide) rfl q828 rfl ?_)
    refine wp_of e180 c180_49 (rw_aload_n (pc' := 50) (v := .ref r0) rfl rfl rfl ?_)
    refine wp_of e180 c180_50 (rw_ldcS (pc' := 52) (k := 75) rfl rfl rfl rfl ?_)
    refine wp_of e180 c180_52 (rw_iconst (pc' := 53) rfl ?_)
    refine wp_of e180 c180_53 (rw_iconst (pc' := 54) rfl ?_)
    have k829 : H822 r0 5 = H772 r0 5 := (wq_u_t e823 grp g0 rfl 5)
    have q830 : H822 r0 5 = (rb : Int) := k829.trans q793
    have h831 : RO T H822 r0 3 q := (RO_fr w776 g0 ((wfr.rf (l := [(54, 1)])).put' e823 grp rfl) rfl a820)
    refine wp_of e180 c180_54 (xc_V (pc' := 57) (r := r0) (as := [.ref 75, vI 0, vI 3]) (st := [.ref rp]) (lm_9_216) rfl rfl (Nat.le_of_ble_eq_true rfl) w824 g0 sh_42 (by decide) rfl (by decide) (u_182_o (fo := 3) (po := q) (kk := 15558) w824 g0 rfl ⟨by omega, by omega⟩ ⟨by omega, by omega⟩ q830 grb (by decide +kernel) h831) (fun R832 T833 H834 p835 => ?_))
    obtain ⟨e836, e838, z839, e837, b840, p841⟩ := p835
    subst e836
    subst e837
    subst e838
    obtain ⟨a842, a843⟩ := p841
    show wp _ _ 180 57 [(1, vI z801), (0, .ref r0)] [vI z839, .ref rp] _ H822 _
    have u844 := RO_k a843
    refine wp_of e180 c180_57 (xp_I (pc' := 60) lf_9_226 w824 grp sh_54 (by decide) (by decide) ty_54_2 rfl rfl (by omega) (by omega) ⟨by omega, by omega⟩ rfl (fun H845 e846 w847 => ?_))
    have f848 := f825.put' e846 grp rfl
    have k849 : H845 rp 2 = z839 := wq_u_s e846
    refine wp_of e180 c180_60 (rw_aload_n (pc' := 61) (v := .ref r0) rfl rfl rfl ?_)
    have k850 : H845 r0 9 = H822 r0 9 := (wq_u_t e846 grp g0 rfl 9)
    refine wp_of e180 c180_61 (xg_I (pc' := 64) lf_9_75 w847 g0 sh_42 (by decide) (by decide) ty_42_9 rfl rfl (fun b851 b852 => ?_))
    refine wp_of e180 c180_64 (rw_iconst (pc' := 65) rfl ?_)
    refine wp_of e180 c180_65 (rw_icmp_eq (p1 := 76) (p2 := 68) (by decide) rfl ⟨by omega, by omega⟩ ⟨by omega, by omega⟩ (fun c853 => ?_) (fun c853 => ?_))
    · have o854 : (xl0 B n q d) = (3, q, q) := by
        unfold xl0 xlaw
        repeat first | rw [xs_0 (by omega)] | rw [xs_1 (by omega)] | rw [if_pos (by omega)] | rw [if_neg (by omega)]
        first | done | rfl | assumption | (exfalso; omega) | (refine Prod.ext ?_ (Prod.ext ?_ ?_) <;> (try dsimp only) <;> omega)
      have o854a : ((xl0 B n q d)).1 = 3 := by rw [o854]
      have o854b : ((xl0 B n q d)).2.1 = q := by rw [o854]
      have o854c : ((xl0 B n q d)).2.2 = q := by rw [o854]
      have h855 : RO T H845 r0 3 q := (RO_fr w824 g0 ((wfr.rf (l := [(54, 2)])).put' e846 grp rfl) rfl a843)
      exact wp_return e180 c180_76 rfl ⟨rfl, w847, f848, rfl, (Or.inr ⟨by omega, RO_eq h855 (by omega) (by omega)⟩)⟩
    · exfalso
      omega
/-! StrikeAwakeModel.readLaw()V o -/
abbrev uq_180_o (r0 : Nat) (rp : Nat) (rb : Nat) (fo : Int) (po : Int) (T : wq_T) (H : wq_H) : Option Value → wq_T → wq_H → Prop := fun r T' H' => T = T' ∧ WT T H' ∧ wfr [(54, 1), (54, 2)] T H H' ∧ none = r ∧ ((RO T H' r0 fo po))
set_option maxHeartbeats 4000000 in
theorem u_180_o {kt : Nat → Option mc_E} {T : wq_T} {H : wq_H} {r0 : Nat} {rp : Nat} {rb : Nat} {fo : Int} {po : Int} (hW : WT T H) (g0 : T.2.2.2 r0 = some 42) (qrp : H r0 4 = (rp : Int)) (grp : T.2.2.2 rp = some 54) (qrb : H r0 5 = (rb : Int)) (grb : T.2.2.2 rb = some 43) (hRO_r0 : RO T H r0 fo po) : wpc kt 5 180 [.ref r0] T H (uq_180_o r0 rp rb fo po T H) := by
  refine wp_enter e180 (Nat.le_of_ble_eq_true rfl) rfl ?_
  have f0 : wfr [(54, 1), (54, 2)] T H H := wfr.rf
  show wp _ _ 180 0 [(0, .ref r0)] [] _ H _
  have u139 := RO_k hRO_r0
  refine wp_of e180 c180_0 (rw_aload_n (pc' := 1) (v := .ref r0) rfl rfl rfl ?_)
  refine wp_of e180 c180_1 (xg_K (pc' := 4) lf_9_166 hW g0 sh_42 (by decide) (by decide) rfl qrp rfl ?_)
  refine wp_of e180 c180_4 (xg_I (pc' := 7) lf_9_185 hW grp sh_54 (by decide) (by decide) ty_54_0 rfl rfl (fun b140 b141 => ?_))
  refine wp_of e180 c180_7 (rw_if_le (p1 := 15) (p2 := 10) (by decide) rfl ⟨by omega, by omega⟩ (fun c142 => ?_) (fun c142 => ?_))
  · refine wp_of e180 c180_15 (rw_aload_n (pc' := 16) (v := .ref r0) rfl rfl rfl ?_)
    refine wp_of e180 c180_16 (xc_V (pc' := 19) (r := r0) (as := []) (st := []) (lm_9_118) rfl rfl (Nat.le_of_ble_eq_true rfl) hW g0 sh_42 (by decide) rfl (by decide) (u_172_o (fo := fo) (po := po) hW g0 hRO_r0) (fun R143 T144 H145 p146 => ?_))
    obtain ⟨e147, e149, e148, p150⟩ := p146
    subst e147
    subst e148
    subst e149
    show wp _ _ 180 19 [(0, .ref r0)] [] _ H _
    have u152 := RO_k p150
    refine wp_of e180 c180_19 (rw_aload_n (pc' := 20) (v := .ref r0) rfl rfl rfl ?_)
    refine wp_of e180 c180_20 (rw_ldcS (pc' := 22) (k := 73) rfl rfl rfl rfl ?_)
    refine wp_of e180 c180_22 (rw_iconst (pc' := 23) rfl ?_)
    refine wp_of e180 c180_23 (rw_bipush (pc' := 25) (z := 24) rfl (by decide) ?_)
    refine wp_of e180 c180_25 (xc_V (pc' := 28) (r := r0) (as := [.ref 73, vI 1, vI 24]) (st := []) (lm_9_216) rfl rfl (Nat.le_of_ble_eq_true rfl) hW g0 sh_42 (by decide) rfl (by decide) (u_182_o (fo := fo) (po := po) (kk := 8902227) hW g0 rfl ⟨by omega, by omega⟩ ⟨by omega, by omega⟩ qrb grb (by decide +kernel) p150) (fun R153 T154 H155 p156 => ?_))
    obtain ⟨e157, e159, z160, e158, b161, p162⟩ := p156
    subst e157
    subst e158
    subst e159
    obtain ⟨a163, a164⟩ := p162
    show wp _ _ 180 28 [(0, .ref r0)] [vI z160] _ H _
    have u165 := RO_k a164
    refine wp_of e180 c180_28 (rw_istore_n (pc' := 29) (z := z160) (L' := [(1, vI z160), (0, .ref r0)]) rfl rfl rfl ?_)
    refine wp_of e180 c180_29 (rw_aload_n (pc' := 30) (v := .ref r0) rfl rfl rfl ?_)
    refine wp_of e180 c180_30 (xg_K (pc' := 33) lf_9_166 hW g0 sh_42 (by decide) (by decide) rfl qrp rfl ?_)
    refine wp_of e180 c180_33 (rw_aload_n (pc' := 34) (v := .ref r0) rfl rfl rfl ?_)
    refine wp_of e180 c180_34 (rw_ldcS (pc' := 36) (k := 74) rfl rfl rfl rfl ?_)
    refine wp_of e180 c180_36 (rw_iconst (pc' := 37) rfl ?_)
    refine wp_of e180 c180_37 (rw_bipush (pc' := 39) (z := 9) rfl (by decide) ?_)
    refine wp_of e180 c180_39 (xc_V (pc' := 42) (r := r0) (as := [.ref 74, vI 0, vI 9]) (st := [.ref rp]) (lm_9_216) rfl rfl (Nat.le_of_ble_eq_true rfl) hW g0 sh_42 (by decide) rfl (by decide) (u_182_o (fo := fo) (po := po) (kk := 72983685) hW g0 rfl ⟨by omega, by omega⟩ ⟨by omega, by omega⟩ qrb grb (by decide +kernel) a164) (fun R166 T167 H168 p169 => ?_))
    obtain ⟨e170, e172, z173, e171, b174, p175⟩ := p169
    subst e170
    subst e171
    subst e172
    obtain ⟨a176, a177⟩ := p175
    show wp _ _ 180 42 [(1, vI z160), (0, .ref r0)] [vI z173, .ref rp] _ H _
    have u178 := RO_k a177
    refine wp_of e180 c180_42 (xp_I (pc' := 45) lf_9_222 hW grp sh_54 (by decide) (by decide) ty_54_1 rfl rfl (by omega) (by omega) ⟨by omega, by omega⟩ rfl (fun H179 e180 w181 => ?_))
    have f182 := f0.put' e180 grp rfl
    have k183 : H179 rp 1 = z173 := wq_u_s e180
    refine wp_of e180 c180_45 (rw_aload_n (pc' := 46) (v := .ref r0) rfl rfl rfl ?_)
    have k184 : H179 r0 4 = H r0 4 := (wq_u_t e180 grp g0 rfl 4)
    have q185 : H179 r0 4 = (rp : Int) := k184.trans qrp
    refine wp_of e180 c180_46 (xg_K (pc' := 49) lf_9_166 w181 g0 sh_42 (by decide) (by decide) rfl q185 rfl ?_)
    refine wp_of e180 c180_49 (rw_aload_n (pc' := 50) (v := .ref r0) rfl rfl rfl ?_)
    refine wp_of e180 c180_50 (rw_ldcS (pc' := 52) (k := 75) rfl rfl rfl rfl ?_)
    refine wp_of e180 c180_52 (rw_iconst (pc' := 53) rfl ?_)
    refine wp_of e180 c180_53 (rw_iconst (pc' := 54) rfl ?_)
    have k186 : H179 r0 5 = H r0 5 := (wq_u_t e180 grp g0 rfl 5)
    have q187 : H179 r0 5 = (rb : Int) := k186.trans qrb
    have h188 : RO T H179 r0 fo po := (RO_fr hW g0 ((wfr.rf (l := [(54, 1)])).put' e180 grp rfl) rfl a177)
    refine wp_of e180 c180_54 (xc_V (pc' := 57) (r := r0) (as := [.ref 75, vI 0, vI 3]) (st := [.ref rp]) (lm_9_216) rfl rfl (Nat.le_of_ble_eq_true rfl) w181 g0 sh_42 (by decide) rfl (by decide) (u_182_o (fo := fo) (po := po) (kk := 15558) w181 g0 rfl ⟨by omega, by omega⟩ ⟨by omega, by omega⟩ q187 grb (by decide +kernel) h188) (fun R189 T190 H191 p192 => ?_))
    obtain ⟨e193, e195, z196, e194, b197, p198⟩ := p192
    subst e193
    subst e194
    subst e195
    obtain ⟨a199, a200⟩ := p198
    show wp _ _ 180 57 [(1, vI z160), (0, .ref r0)] [vI z196, .ref rp] _ H179 _
    have u201 := RO_k a200
    refine wp_of e180 c180_57 (xp_I (pc' := 60) lf_9_226 w181 grp sh_54 (by decide) (by decide) ty_54_2 rfl rfl (by omega) (by omega) ⟨by omega, by omega⟩ rfl (fun H202 e203 w204 => ?_))
    have f205 := f182.put' e203 grp rfl
    have k206 : H202 rp 2 = z196 := wq_u_s e203
    refine wp_of e180 c180_60 (rw_aload_n (pc' := 61) (v := .ref r0) rfl rfl rfl ?_)
    have k207 : H202 r0 9 = H179 r0 9 := (wq_u_t e203 grp g0 rfl 9)
    refine wp_of e180 c180_61 (xg_I (pc' := 64) lf_9_75 w204 g0 sh_42 (by decide) (by decide) ty_42_9 rfl rfl (fun b208 b209 => ?_))
    refine wp_of e180 c180_64 (rw_iconst (pc' := 65) rfl ?_)
    refine wp_of e180 c180_65 (rw_icmp_eq (p1 := 76) (p2 := 68) (by decide) rfl ⟨by omega, by omega⟩ ⟨by omega, by omega⟩ (fun c210 => ?_) (fun c210 => ?_))
    · have h211 : RO T H202 r0 fo po := (RO_fr w181 g0 ((wfr.rf (l := [(54, 2)])).put' e203 grp rfl) rfl a200)
      exact wp_return e180 c180_76 rfl ⟨rfl, w204, f205, rfl, (h211)⟩
    · exfalso
      omega
  · refine wp_of e180 c180_10 (rw_aload_n (pc' := 11) (v := .ref r0) rfl rfl rfl ?_)
    refine wp_of e180 c180_11 (rw_iconst (pc' := 12) rfl ?_)
    refine wp_of e180 c180_12 (xc_V (pc' := 15) (r := r0) (as := [vI 3]) (st := []) (lm_9_121) rfl rfl (Nat.le_of_ble_eq_true rfl) hW g0 sh_42 (by decide) rfl (by decide) (u_181_o (fo := fo) (po := po) hW g0 ⟨by omega, by omega⟩ hRO_r0) (fun R212 T213 H214 p215 => ?_))
    obtain ⟨e216, e218, e217, p219⟩ := p215
    subst e216
    subst e217
    subst e218
    show wp _ _ 180 15 [(0, .ref r0)] [] _ H _
    have u221 := RO_k p219
    refine wp_of e180 c180_15 (rw_aload_n (pc' := 16) (v := .ref r0) rfl rfl rfl ?_)
    refine wp_of e180 c180_16 (xc_V (pc' := 19) (r := r0) (as := []) (st := []) (lm_9_118) rfl rfl (Nat.le_of_ble_eq_true rfl) hW g0 sh_42 (by decide) rfl (by decide) (u_172_o (fo := fo) (po := po) hW g0 p219) (fun R222 T223 H224 p225 => ?_))
    obtain ⟨e226, e228, e227, p229⟩ := p225
    subst e226
    subst e227
    subst e228
    show wp _ _ 180 19 [(0, .ref r0)] [] _ H _
    have u231 := RO_k p229
    refine wp_of e180 c180_19 (rw_aload_n (pc' := 20) (v := .ref r0) rfl rfl rfl ?_)
    refine wp_of e180 c180_20 (rw_ldcS (pc' := 22) (k := 73) rfl rfl rfl rfl ?_)
    refine wp_of e180 c180_22 (rw_iconst (pc' := 23) rfl ?_)
    refine wp_of e180 c180_23 (rw_bipush (pc' := 25) (z := 24) rfl (by decide) ?_)
    refine wp_of e180 c180_25 (xc_V (pc' := 28) (r := r0) (as := [.ref 73, vI 1, vI 24]) (st := []) (lm_9_216) rfl rfl (Nat.le_of_ble_eq_true rfl) hW g0 sh_42 (by decide) rfl (by decide) (u_182_o (fo := fo) (po := po) (kk := 8902227) hW g0 rfl ⟨by omega, by omega⟩ ⟨by omega, by omega⟩ qrb grb (by decide +kernel) p229) (fun R232 T233 H234 p235 => ?_))
    obtain ⟨e236, e238, z239, e237, b240, p241⟩ := p235
    subst e236
    subst e237
    subst e238
    obtain ⟨a242, a243⟩ := p241
    show wp _ _ 180 28 [(0, .ref r0)] [vI z239] _ H _
    have u244 := RO_k a243
    refine wp_of e180 c180_28 (rw_istore_n (pc' := 29) (z := z239) (L' := [(1, vI z239), (0, .ref r0)]) rfl rfl rfl ?_)
    refine wp_of e180 c180_29 (rw_aload_n (pc' := 30) (v := .ref r0) rfl rfl rfl ?_)
    refine wp_of e180 c180_30 (xg_K (pc' := 33) lf_9_166 hW g0 sh_42 (by decide) (by decide) rfl qrp rfl ?_)
    refine wp_of e180 c180_33 (rw_aload_n (pc' := 34) (v := .ref r0) rfl rfl rfl ?_)
    refine wp_of e180 c180_34 (rw_ldcS (pc' := 36) (k := 74) rfl rfl rfl rfl ?_)
    refine wp_of e180 c180_36 (rw_iconst (pc' := 37) rfl ?_)
    refine wp_of e180 c180_37 (rw_bipush (pc' := 39) (z := 9) rfl (by decide) ?_)
    refine wp_of e180 c180_39 (xc_V (pc' := 42) (r := r0) (as := [.ref 74, vI 0, vI 9]) (st := [.ref rp]) (lm_9_216) rfl rfl (Nat.le_of_ble_eq_true rfl) hW g0 sh_42 (by decide) rfl (by decide) (u_182_o (fo := fo) (po := po) (kk := 72983685) hW g0 rfl ⟨by omega, by omega⟩ ⟨by omega, by omega⟩ qrb grb (by decide +kernel) a243) (fun R245 T246 H247 p248 => ?_))
    obtain ⟨e249, e251, z252, e250, b253, p254⟩ := p248
    subst e249
    subst e250
    subst e251
    obtain ⟨a255, a256⟩ := p254
    show wp _ _ 180 42 [(1, vI z239), (0, .ref r0)] [vI z252, .ref rp] _ H _
    have u257 := RO_k a256
    refine wp_of e180 c180_42 (xp_I (pc' := 45) lf_9_222 hW grp sh_54 (by decide) (by decide) ty_54_1 rfl rfl (by omega) (by omega) ⟨by omega, by omega⟩ rfl (fun H258 e259 w260 => ?_))
    have f261 := f0.put' e259 grp rfl
    have k262 : H258 rp 1 = z252 := wq_u_s e259
    refine wp_of e180 c180_45 (rw_aload_n (pc' := 46) (v := .ref r0) rfl rfl rfl ?_)
    have k263 : H258 r0 4 = H r0 4 := (wq_u_t e259 grp g0 rfl 4)
    have q264 : H258 r0 4 = (rp : Int) := k263.trans qrp
    refine wp_of e180 c180_46 (xg_K (pc' := 49) lf_9_166 w260 g0 sh_42 (by decide) (by decide) rfl q264 rfl ?_)
    refine wp_of e180 c180_49 (rw_aload_n (pc' := 50) (v := .ref r0) rfl rfl rfl ?_)
    refine wp_of e180 c180_50 (rw_ldcS (pc' := 52) (k := 75) rfl rfl rfl rfl ?_)
    refine wp_of e180 c180_52 (rw_iconst (pc' := 53) rfl ?_)
    refine wp_of e180 c180_53 (rw_iconst (pc' := 54) rfl ?_)
    have k265 : H258 r0 5 = H r0 5 := (wq_u_t e259 grp g0 rfl 5)
    have q266 : H258 r0 5 = (rb : Int) := k265.trans qrb
    have h267 : RO T H258 r0 fo po := (RO_fr hW g0 ((wfr.rf (l := [(54, 1)])).put' e259 grp rfl) rfl a256)
    refine wp_of e180 c180_54 (xc_V (pc' := 57) (r := r0) (as := [.ref 75, vI 0, vI 3]) (st := [.ref rp]) (lm_9_216) rfl rfl (Nat.le_of_ble_eq_true rfl) w260 g0 sh_42 (by decide) rfl (by decide) (u_182_o (fo := fo) (po := po) (kk := 15558) w260 g0 rfl ⟨by omega, by omega⟩ ⟨by omega, by omega⟩ q266 grb (by decide +kernel) h267) (fun R268 T269 H270 p271 => ?_))
    obtain ⟨e272, e274, z275, e273, b276, p277⟩ := p271
    subst e272
    subst e273
    subst e274
    obtain ⟨a278, a279⟩ := p277
    show wp _ _ 180 57 [(1, vI z239), (0, .ref r0)] [vI z275, .ref rp] _ H258 _
    have u280 := RO_k a279
    refine wp_of e180 c180_57 (xp_I (pc' := 60) lf_9_226 w260 grp sh_54 (by decide) (by decide) ty_54_2 rfl rfl (by omega) (by omega) ⟨by omega, by omega⟩ rfl (fun H281 e282 w283 => ?_))
    have f284 := f261.put' e282 grp rfl
    have k285 : H281 rp 2 = z275 := wq_u_s e282
    refine wp_of e180 c180_60 (rw_aload_n (pc' := 61) (v := .ref r0) rfl rfl rfl ?_)
    have k286 : H281 r0 9 = H258 r0 9 := (wq_u_t e282 grp g0 rfl 9)
    refine wp_of e180 c180_61 (xg_I (pc' := 64) lf_9_75 w283 g0 sh_42 (by decide) (by decide) ty_42_9 rfl rfl (fun b287 b288 => ?_))
    refine wp_of e180 c180_64 (rw_iconst (pc' := 65) rfl ?_)
    refine wp_of e180 c180_65 (rw_icmp_eq (p1 := 76) (p2 := 68) (by decide) rfl ⟨by omega, by omega⟩ ⟨by omega, by omega⟩ (fun c289 => ?_) (fun c289 => ?_))
    · have h290 : RO T H281 r0 fo po := (RO_fr w260 g0 ((wfr.rf (l := [(54, 2)])).put' e282 grp rfl) rfl a279)
      exact wp_return e180 c180_76 rfl ⟨rfl, w283, f284, rfl, (h290)⟩
    · exfalso
      omega
