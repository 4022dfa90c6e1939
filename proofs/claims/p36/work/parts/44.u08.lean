/-! what methods do (own work, written by wip/gen3/sx3.py) -/
/-! StrikeAwake$Walk.step(LStrikeAwake$Parish;)V  -/
abbrev uq_91 (r0 : Nat) (r1 : Nat) (e : xD) (d : xD) (n : Int) (a : Int) (T : wq_T) (H : wq_H) : Option Value → wq_T → wq_H → Prop := fun r T' H' => T = T' ∧ WT T H' ∧ wfr [(8, 999), (10, 999), (9, 999), (7, 999), (11, 999)] T H H' ∧ none = r ∧ ((WR T H' r0 d (xlot d (a + 1))))
set_option maxHeartbeats 4000000 in
theorem u_91 {kt : Nat → Option mc_E} {T : wq_T} {H : wq_H} {r0 : Nat} {r1 : Nat} {e : xD} {d : xD} {n : Int} {a : Int} (hW : WT T H) (g0 : T.2.2.2 r0 = some 6) (g1 : T.2.2.2 r1 = some 27) (p0 : ∀ i, i ≠ 13 → e i = d i) (p1 : XW d) (p2 : e 0 3 = d 0 3) (p3 : 0 ≤ a) (p4 : 0 < xlots d) (hCU_r1 : CU T H r1 e d n) (hWR_r0 : WR T H r0 d (xlot d a)) : wpc kt 3 91 [.ref r0, .ref r1] T H (uq_91 r0 r1 e d n a T H) := by
  sorry
/-! StrikeAwake$Walk.toFirst(LStrikeAwake$Parish;)V  -/
abbrev uq_87 (r0 : Nat) (r1 : Nat) (e : xD) (d : xD) (n : Int) (T : wq_T) (H : wq_H) : Option Value → wq_T → wq_H → Prop := fun r T' H' => T = T' ∧ WT T H' ∧ wfr [(6, 5), (8, 999), (10, 999), (9, 999), (7, 999), (11, 999)] T H H' ∧ none = r ∧ ((WRc T H' r0 d (xlot d 0)))
set_option maxHeartbeats 4000000 in
theorem u_87 {kt : Nat → Option mc_E} {T : wq_T} {H : wq_H} {r0 : Nat} {r1 : Nat} {e : xD} {d : xD} {n : Int} (hW : WT T H) (g0 : T.2.2.2 r0 = some 6) (g1 : T.2.2.2 r1 = some 27) (p0 : ∀ i, i ≠ 13 → e i = d i) (p1 : XW d) (p2 : e 0 3 = d 0 3) (hCU_r1 : CU T H r1 e d n) : wpc kt 3 87 [.ref r0, .ref r1] T H (uq_87 r0 r1 e d n T H) := by
  sorry
/-! StrikeAwake$Walk.pickOf(I)I  -/
abbrev uq_89 (r0 : Nat) (a1 : Int) (d : xD) (g : Nat → Int) (T : wq_T) (H : wq_H) : Option Value → wq_T → wq_H → Prop := fun r T' H' => T = T' ∧ H = H' ∧ ∃ z : Int, some (vI z) = r ∧ (0 ≤ z ∧ z ≤ 39) ∧ (((z = g (a1).toNat)))
set_option maxHeartbeats 4000000 in
theorem u_89 {kt : Nat → Option mc_E} {T : wq_T} {H : wq_H} {r0 : Nat} {a1 : Int} {d : xD} {g : Nat → Int} (hW : WT T H) (g0 : T.2.2.2 r0 = some 6) (i1 : 0 ≤ a1 ∧ a1 ≤ 5) (p0 : a1 < d 0 3) (hWP0_r0 : WP0 T H r0 (d 0 3) g) : wpc kt 1 89 [.ref r0, vI a1] T H (uq_89 r0 a1 d g T H) := by
  sorry
/-! StrikeAwake$Walk.silentHours(LStrikeAwake$Parish;)I  -/
abbrev uq_148 (r0 : Nat) (r1 : Nat) (e : xD) (d : xD) (n : Int) (g : Nat → Int) (T : wq_T) (H : wq_H) : Option Value → wq_T → wq_H → Prop := fun r T' H' => T = T' ∧ H = H' ∧ ∃ z : Int, some (vI z) = r ∧ (0 ≤ z ∧ z ≤ 16777215) ∧ (((z = xsi d g)))
set_option maxHeartbeats 4000000 in
theorem u_148 {kt : Nat → Option mc_E} {T : wq_T} {H : wq_H} {r0 : Nat} {r1 : Nat} {e : xD} {d : xD} {n : Int} {g : Nat → Int} (hW : WT T H) (g0 : T.2.2.2 r0 = some 6) (g1 : T.2.2.2 r1 = some 27) (p0 : ∀ i, i ≠ 13 → e i = d i) (p1 : XW d) (p2 : e 0 3 = d 0 3) (p3 : e 0 0 = d 0 0) (hCU_r1 : CU T H r1 e d n) (hWR_r0 : WR T H r0 d g) : wpc kt 3 148 [.ref r0, .ref r1] T H (uq_148 r0 r1 e d n g T H) := by
  refine wp_enter e148 (Nat.le_of_ble_eq_true rfl) rfl ?_
  show wp _ _ 148 0 [(0, .ref r0), (1, .ref r1)] [] _ H _
  have u1024 := CU_k hCU_r1
  have b1025 : 0 ≤ H r0 5 ∧ H r0 5 ≤ 6 := hW.box g0 (n := 6) rfl (by decide) rfl
  have h1026 : WP3 T H r0 (d 0 3 + 1) (xfl d g) := hWR_r0.2.2.2.2.1
  have _k := CU_k hCU_r1
  have _xc := p1.2.1
  unfold XC at _xc
  have _d0 := p0 0 (by decide)
  have _e3 : e 0 3 = d 0 3 := by rw [_d0]
  have _e4 : e 0 4 = d 0 4 := by rw [_d0]
  have _e5 : e 0 5 = d 0 5 := by rw [_d0]
  have _w5 := hWR_r0.1
  refine wp_of e148 c148_0 (rw_aload_n (pc' := 1) (v := .ref r1) rfl rfl rfl ?_)
  refine wp_of e148 c148_1 (xc_V (pc' := 4) (r := r1) (as := []) (st := []) (lm_3_88) rfl rfl (Nat.le_of_ble_eq_true rfl) hW g1 sh_27 (by decide) rfl (by decide) (u_45  hW g1) (fun R1027 T1028 H1029 p1030 => ?_))
  obtain ⟨e1031, e1033, z1034, e1032, b1035, p1036⟩ := p1030
  subst e1031
  subst e1032
  subst e1033
  show wp _ _ 148 4 [(0, .ref r0), (1, .ref r1)] [vI z1034] _ H _
  refine wp_of e148 c148_4 (rw_aload_n (pc' := 5) (v := .ref r0) rfl rfl rfl ?_)
  refine wp_of e148 c148_5 (xg_R (pc' := 8) lf_3_22 hW g0 sh_6 (by decide) (by decide) ty_6_3 rfl rfl (fun r1038 q1039 g1040 => ?_))
  refine wp_of e148 c148_8 (rw_aload_n (pc' := 9) (v := .ref r0) rfl rfl rfl ?_)
  refine wp_of e148 c148_9 (xg_I (pc' := 12) lf_3_51 hW g0 sh_6 (by decide) (by decide) ty_6_5 rfl rfl (fun b1041 b1042 => ?_))
  refine wp_of e148 c148_12 (xa_I (so := 0) (pc' := 13) hW g1040 sh_10 (by decide) (ty_10 _) (b1041) (Int.lt_of_le_of_lt b1042 (by decide)) rfl (fun b1043 b1044 => ?_))
  have := DA_at h1026 q1039 (k := ((H r0 5).toNat)) (by omega)
  have _i5 : ((H r0 5).toNat) = (d 0 3).toNat := by omega
  have _i6 : xfl d g ((H r0 5).toNat) = xfl d g (d 0 3).toNat := congrArg (xfl d g) _i5
  refine wp_of e148 c148_13 (rw_iconst (pc' := 14) rfl ?_)
  refine wp_of e148 c148_14 (rw_ixor (pc' := 15) rfl ?_)
  obtain ⟨v1045, e1046⟩ : ∃ x : Int, x = wq_xor (H r1038 ((H r0 5).toNat)) (-1) := ⟨_, rfl⟩
  rw [← e1046]
  have b1047 : -2147483648 ≤ v1045 ∧ v1045 ≤ 2147483647 := by
    rw [e1046]
    exact wI_xor _ _
  refine wp_of e148 c148_15 (rw_iand (pc' := 16) rfl ?_)
  obtain ⟨v1048, e1049⟩ : ∃ x : Int, x = wq_and z1034 v1045 := ⟨_, rfl⟩
  rw [← e1049]
  have b1050 : 0 ≤ v1048 ∧ v1048 ≤ z1034 := by
    rw [e1049]
    rw [wq_and_c]; exact wq_and_b _ (by omega) (by omega)
  have _al : z1034 = xal d := by
    show z1034 = xhs 0 (d 0 0)
    rw [show d 0 0 = H r1 7 by omega]
    assumption
  have _z : v1048 = xsi d g := by
    unfold xsi
    rw [e1049, e1046, _al, show (H r1038 ((H r0 5).toNat)) = xfl d g (d 0 3).toNat by omega]
  exact wp_ireturn e148 c148_16 rfl ⟨rfl, rfl, v1048, rfl, ⟨by omega, by omega⟩, (_z)⟩
/-! StrikeAwake$Census.renew(LStrikeAwake$Parish;LStrikeAwake$Walk;)V  -/
abbrev uq_85 (r0 : Nat) (r1 : Nat) (r2 : Nat) (e : xD) (d : xD) (n : Int) (T : wq_T) (H : wq_H) : Option Value → wq_T → wq_H → Prop := fun r T' H' => T = T' ∧ WT T H' ∧ wfr [(12, 5), (12, 6), (12, 7), (12, 8), (12, 9), (6, 5), (8, 999), (10, 999), (15, 999), (9, 999), (18, 999), (19, 999), (7, 999), (11, 999), (17, 999), (13, 999)] T H H' ∧ none = r ∧ (((H' r0 9 ≠ 0) ∧ CEB T H' r0 e d (xlots d).toNat ∧ CEX T H' r0 e d (xlots d).toNat ∧ CEN T H' r0 e d))
set_option maxHeartbeats 4000000 in
theorem u_85 {kt : Nat → Option mc_E} {T : wq_T} {H : wq_H} {r0 : Nat} {r1 : Nat} {r2 : Nat} {e : xD} {d : xD} {n : Int} (hW : WT T H) (g0 : T.2.2.2 r0 = some 12) (g1 : T.2.2.2 r1 = some 27) (g2 : T.2.2.2 r2 = some 6) (p0 : ∀ i, i ≠ 13 → e i = d i) (p1 : XW d) (p2 : e 0 3 = d 0 3) (p3 : e 0 0 = d 0 0) (p4 : n = xlots d) (p5 : n ≤ 20000) (hCU_r1 : CU T H r1 e d n) (hCEN_r0 : CEN T H r0 e d) (hHDR_r0 : HDR T H r0 ) : wpc kt 4 85 [.ref r0, .ref r1, .ref r2] T H (uq_85 r0 r1 r2 e d n T H) := by
  sorry
/-! StrikeAwake.isTold(I)Z  -/
abbrev uq_133 (r0 : Nat) (a1 : Int) (cu : Nat) (T : wq_T) (H : wq_H) : Option Value → wq_T → wq_H → Prop := fun r T' H' => T = T' ∧ H = H' ∧ ∃ z : Int, some (vI z) = r ∧ (0 ≤ z ∧ z ≤ 1) ∧ (((z = 1) ∧ (0 ≤ a1 ∧ a1 < H cu 13)) ∨ ((z = 0) ∧ (a1 < 0 ∨ H cu 13 ≤ a1)))
set_option maxHeartbeats 4000000 in
theorem u_133 {kt : Nat → Option mc_E} {T : wq_T} {H : wq_H} {r0 : Nat} {a1 : Int} {cu : Nat} (hW : WT T H) (g0 : T.2.2.2 r0 = some 1) (i1 : (-2147483648) ≤ a1 ∧ a1 ≤ 2147483647) (qcu : H r0 6 = (cu : Int)) (gcu : T.2.2.2 cu = some 27) : wpc kt 1 133 [.ref r0, vI a1] T H (uq_133 r0 a1 cu T H) := by
  sorry
/-! StrikeAwake$Census.isWorld(I)Z  -/
abbrev uq_95 (r0 : Nat) (a1 : Int) (f : Nat → Int) (N : Nat) (T : wq_T) (H : wq_H) : Option Value → wq_T → wq_H → Prop := fun r T' H' => T = T' ∧ H = H' ∧ ∃ z : Int, some (vI z) = r ∧ (0 ≤ z ∧ z ≤ 1) ∧ (((z = 1) ∧ ((a1).toNat < N) ∧ (f (a1).toNat > 0)) ∨ ((z = 0) ∧ (¬ ((a1).toNat < N ∧ f (a1).toNat > 0))))
set_option maxHeartbeats 4000000 in
theorem u_95 {kt : Nat → Option mc_E} {T : wq_T} {H : wq_H} {r0 : Nat} {a1 : Int} {f : Nat → Int} {N : Nat} (hW : WT T H) (g0 : T.2.2.2 r0 = some 12) (i1 : 0 ≤ a1 ∧ a1 ≤ 19999) (hCEM_r0 : CEM T H r0 f N) : wpc kt 1 95 [.ref r0, vI a1] T H (uq_95 r0 a1 f N T H) := by
  sorry
