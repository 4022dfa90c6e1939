/-! StrikeAwake$Walk.strokesDue(I)I  -/
abbrev uq_72 (r0 : Nat) (a1 : Int) (d : xD) (g : Nat → Int) (T : wq_T) (H : wq_H) : Option Value → wq_T → wq_H → Prop := fun r T' H' => T = T' ∧ H = H' ∧ ∃ z : Int, some (vI z) = r ∧ (0 ≤ z ∧ z ≤ 15) ∧ (((z = ((xdue d g (a1).toNat : Nat) : Int))))
set_option maxHeartbeats 4000000 in
theorem u_72 {kt : Nat → Option mc_E} {T : wq_T} {H : wq_H} {r0 : Nat} {a1 : Int} {d : xD} {g : Nat → Int} (hW : WT T H) (g0 : T.2.2.2 r0 = some 6) (i1 : 0 ≤ a1 ∧ a1 ≤ 23) (p0 : XW d) (hWR_r0 : WR T H r0 d g) : wpc kt 1 72 [.ref r0, vI a1] T H (uq_72 r0 a1 d g T H) := by
  sorry
/-! StrikeAwake$Parish.picture()J  -/
abbrev uq_160 (r0 : Nat) (nY : Int) (gY : Nat → Int) (cY : Int) (T : wq_T) (H : wq_H) : Option Value → wq_T → wq_H → Prop := fun r T' H' => T = T' ∧ H = H' ∧ ∃ z : Int, some (vL z) = r ∧ ((-9223372036854775808) ≤ z ∧ z ≤ 9223372036854775807) ∧ (((z = xim cY gY (nY).toNat)))
set_option maxHeartbeats 4000000 in
theorem u_160 {kt : Nat → Option mc_E} {T : wq_T} {H : wq_H} {r0 : Nat} {nY : Int} {gY : Nat → Int} {cY : Int} (hW : WT T H) (g0 : T.2.2.2 r0 = some 27) (p0 : H r0 10 = nY) (p1 : ∀ k : Nat, (k : Int) < nY → 0 ≤ gY k ∧ gY k ≤ 39) (hCY_r0 : CY T H r0 nY gY cY) : wpc kt 1 160 [.ref r0] T H (uq_160 r0 nY gY cY T H) := by
  sorry
/-! StrikeAwake.image()J  -/
abbrev uq_159 (r0 : Nat) (cu : Nat) (e : xD) (d : xD) (n : Int) (nY : Int) (gY : Nat → Int) (cY : Int) (T : wq_T) (H : wq_H) : Option Value → wq_T → wq_H → Prop := fun r T' H' => T = T' ∧ WT T H' ∧ wfr [(1, 10)] T H H' ∧ ∃ z : Int, some (vL z) = r ∧ ((-9223372036854775808) ≤ z ∧ z ≤ 9223372036854775807) ∧ (((z = -1) ∧ (H r0 8 = 0)) ∨ ((H r0 8 = 1) ∧ (z = xim cY gY (nY).toNat)))
set_option maxHeartbeats 4000000 in
theorem u_159 {kt : Nat → Option mc_E} {T : wq_T} {H : wq_H} {r0 : Nat} {cu : Nat} {e : xD} {d : xD} {n : Int} {nY : Int} {gY : Nat → Int} {cY : Int} (hW : WT T H) (g0 : T.2.2.2 r0 = some 1) (qcu : H r0 6 = (cu : Int)) (gcu : T.2.2.2 cu = some 27) (p0 : ∀ i, i ≠ 13 → e i = d i) (p1 : XW d) (p2 : e 0 3 = d 0 3) (p3 : nY = d 0 3) (p4 : SG d gY) (hCU_cu : CU T H cu e d n) (hCY_cu : CY T H cu nY gY cY) : wpc kt 2 159 [.ref r0] T H (uq_159 r0 cu e d n nY gY cY T H) := by
  refine wp_enter e159 (Nat.le_of_ble_eq_true rfl) rfl ?_
  have f0 : wfr [(1, 10)] T H H := wfr.rf
  show wp _ _ 159 0 [(0, .ref r0)] [] _ H _
  have u1037 := CU_k hCU_cu
  have b1038 : 0 ≤ H r0 8 ∧ H r0 8 ≤ 1 := hW.box g0 (n := 13) rfl (by decide) rfl
  refine wp_of e159 c159_0 (rw_aload_n (pc' := 1) (v := .ref r0) rfl rfl rfl ?_)
  refine wp_of e159 c159_1 (xg_I (pc' := 4) lf_0_58 hW g0 sh_1 (by decide) (by decide) ty_1_8 rfl rfl (fun b1039 b1040 => ?_))
  refine wp_of e159 c159_4 (rw_if_ne (p1 := 14) (p2 := 7) (by decide) rfl ⟨Int.le_trans (by decide) b1039, Int.le_trans b1040 (by decide)⟩ (fun c1041 => ?_) (fun c1041 => ?_))
  · have _xp := p1.1
    have _gb : ∀ k : Nat, (k : Int) < nY → 0 ≤ gY k ∧ gY k ≤ 39 := SG_39 (by assumption) (by assumption) (by omega)
    refine wp_of e159 c159_14 (rw_aload_n (pc' := 15) (v := .ref r0) rfl rfl rfl ?_)
    refine wp_of e159 c159_15 (rw_iconst (pc' := 16) rfl ?_)
    refine wp_of e159 c159_16 (xp_I (pc' := 19) lf_0_102 hW g0 sh_1 (by decide) (by decide) ty_1_10 rfl rfl (by decide) (by decide) ⟨by decide, by decide⟩ rfl (fun H1042 e1043 w1044 => ?_))
    have f1045 := f0.put' e1043 g0 rfl
    have k1046 : H1042 r0 10 = 0 := wq_u_s e1043
    refine wp_of e159 c159_19 (rw_aload_n (pc' := 20) (v := .ref r0) rfl rfl rfl ?_)
    have k1047 : H1042 r0 6 = H r0 6 := (wq_u_j e1043 rfl)
    have q1048 : H1042 r0 6 = (cu : Int) := k1047.trans qcu
    refine wp_of e159 c159_20 (xg_K (pc' := 23) lf_0_51 w1044 g0 sh_1 (by decide) (by decide) rfl q1048 rfl ?_)
    have k1049 : H1042 cu 10 = H cu 10 := (wq_u_t e1043 g0 gcu rfl 10)
    have h1050 : CY T H1042 cu nY gY cY := (CY_fr hW gcu ((wfr.rf (l := [(1, 10)])).put' e1043 g0 rfl) rfl hCY_cu)
    refine wp_of e159 c159_23 (xc_V (pc' := 26) (r := cu) (as := []) (st := []) (lm_0_305) rfl rfl (Nat.le_of_ble_eq_true rfl) w1044 gcu sh_27 (by decide) rfl (by decide) (u_160 (nY := nY) (gY := gY) (cY := cY) w1044 gcu (by omega) (_gb) h1050) (fun R1051 T1052 H1053 p1054 => ?_))
    obtain ⟨e1055, e1057, z1058, e1056, b1059, p1060⟩ := p1054
    subst e1055
    subst e1056
    subst e1057
    show wp _ _ 159 26 [(0, .ref r0)] [vL z1058] _ H1042 _
    exact wp_lreturn e159 c159_26 rfl ⟨rfl, w1044, f1045, z1058, rfl, ⟨b1059.1, b1059.2⟩, (Or.inr ⟨by omega, by omega⟩)⟩
  · refine wp_of e159 c159_7 (rw_aload_n (pc' := 8) (v := .ref r0) rfl rfl rfl ?_)
    refine wp_of e159 c159_8 (rw_iconst (pc' := 9) rfl ?_)
    refine wp_of e159 c159_9 (xc_V (pc' := 12) (r := r0) (as := [vI 1]) (st := []) (lm_0_70) rfl rfl (Nat.le_of_ble_eq_true rfl) hW g0 sh_1 (by decide) rfl (by decide) (u_12  hW g0 ⟨by decide, by decide⟩) (fun R1062 T1063 H1064 p1065 => ?_))
    obtain ⟨e1066, w1068, f1069, z1070, e1067, b1071, p1072⟩ := p1065
    subst e1066
    subst e1067
    obtain ⟨a1073, a1074⟩ := p1072
    have f1075 := f0.tr f1069 rfl
    show wp _ _ 159 12 [(0, .ref r0)] [vI z1070] _ H1064 _
    refine wp_of e159 c159_12 (rw_i2l (pc' := 13) rfl ⟨b1071.1, b1071.2⟩ ?_)
    exact wp_lreturn e159 c159_13 rfl ⟨rfl, w1068, f1075, z1070, rfl, ⟨Int.le_trans (by decide) b1071.1, Int.le_trans b1071.2 (by decide)⟩, (Or.inl ⟨by omega, by omega⟩)⟩
/-! StrikeAwake$Parish.verdict(II)I  -/
abbrev uq_76 (r0 : Nat) (a1 : Int) (a2 : Int) (e : xD) (d : xD) (n : Int) (T : wq_T) (H : wq_H) : Option Value → wq_T → wq_H → Prop := fun r T' H' => T = T' ∧ H = H' ∧ ∃ z : Int, some (vI z) = r ∧ (0 ≤ z ∧ z ≤ 2) ∧ (((z = xvc (e 13 (a1).toNat) a2 (d 0 1))))
set_option maxHeartbeats 4000000 in
theorem u_76 {kt : Nat → Option mc_E} {T : wq_T} {H : wq_H} {r0 : Nat} {a1 : Int} {a2 : Int} {e : xD} {d : xD} {n : Int} (hW : WT T H) (g0 : T.2.2.2 r0 = some 27) (i1 : 0 ≤ a1 ∧ a1 ≤ 23) (i2 : 0 ≤ a2 ∧ a2 ≤ 15) (p0 : ∀ i, i ≠ 13 → e i = d i) (p1 : XW d) (hCU_r0 : CU T H r0 e d n) : wpc kt 1 76 [.ref r0, vI a1, vI a2] T H (uq_76 r0 a1 a2 e d n T H) := by
  sorry
/-! StrikeAwake$Walk.failsIn(LStrikeAwake$Parish;)I  -/
abbrev uq_81 (r0 : Nat) (r1 : Nat) (e : xD) (d : xD) (n : Int) (g : Nat → Int) (T : wq_T) (H : wq_H) : Option Value → wq_T → wq_H → Prop := fun r T' H' => T = T' ∧ H = H' ∧ ∃ z : Int, some (vI z) = r ∧ (0 ≤ z ∧ z ≤ 24) ∧ (((XFB (xvy e d g) (d 0 2) 24 z)))
set_option maxHeartbeats 4000000 in
theorem u_81 {kt : Nat → Option mc_E} {T : wq_T} {H : wq_H} {r0 : Nat} {r1 : Nat} {e : xD} {d : xD} {n : Int} {g : Nat → Int} (hW : WT T H) (g0 : T.2.2.2 r0 = some 6) (g1 : T.2.2.2 r1 = some 27) (p0 : ∀ i, i ≠ 13 → e i = d i) (p1 : XW d) (p2 : e 0 3 = d 0 3) (p3 : e 0 0 = d 0 0) (hCU_r1 : CU T H r1 e d n) (hWR_r0 : WR T H r0 d g) : wpc kt 2 81 [.ref r0, .ref r1] T H (uq_81 r0 r1 e d n g T H) := by
  sorry
/-! StrikeAwake$Walk.isQuarrel()Z  -/
abbrev uq_80 (r0 : Nat) (d : xD) (g : Nat → Int) (T : wq_T) (H : wq_H) : Option Value → wq_T → wq_H → Prop := fun r T' H' => T = T' ∧ H = H' ∧ ∃ z : Int, some (vI z) = r ∧ (0 ≤ z ∧ z ≤ 1) ∧ (((z = 1) ∧ (xqu d g (d 0 3).toNat ≠ 0)) ∨ ((z = 0) ∧ (xqu d g (d 0 3).toNat = 0)))
set_option maxHeartbeats 4000000 in
theorem u_80 {kt : Nat → Option mc_E} {T : wq_T} {H : wq_H} {r0 : Nat} {d : xD} {g : Nat → Int} (hW : WT T H) (g0 : T.2.2.2 r0 = some 6) (p0 : XW d) (hWR_r0 : WR T H r0 d g) : wpc kt 1 80 [.ref r0] T H (uq_80 r0 d g T H) := by
  sorry
