/-! StrikeAwakeModel.refusesWorlds(Z)I  -/
abbrev uq_241 (r0 : Nat) (a1 : Int) (e : xD) (d : xD) (T : wq_T) (H : wq_H) : Option Value → wq_T → wq_H → Prop := fun r T' H' => T = T' ∧ WT T H' ∧ wfr [(42, 28), (42, 29), (51, 999), (52, 999)] T H H' ∧ ∃ z : Int, some (vI z) = r ∧ (0 ≤ z ∧ z ≤ 6) ∧ (((z = 0) ∧ (z ≠ 0 ∨ a1 = 1) ∧ (z ≠ 0 ∨ wLM H' r0 ≤ 20000) ∧ (wKI H' r0 = 1) ∧ (z ≠ 0 ∨ H' r0 29 = 0 ∨ 0 < wLM H' r0) ∧ (a1 = 1) ∧ (xlots d ≤ 20000) ∧ KNN T H' r0 e d ∧ KNB T H' r0 e d (xlots d).toNat) ∨ ((1 ≤ z ∧ z ≤ 6) ∧ (z ≠ 0 ∨ a1 = 1) ∧ (z ≠ 0 ∨ wLM H' r0 ≤ 20000) ∧ (wKI H' r0 = 1) ∧ (z ≠ 0 ∨ H' r0 29 = 0 ∨ 0 < wLM H' r0) ∧ (a1 = 0 ∨ 20000 < xlots d) ∧ KNN T H' r0 e d))
set_option maxHeartbeats 4000000 in
theorem u_241 {kt : Nat → Option mc_E} {T : wq_T} {H : wq_H} {r0 : Nat} {a1 : Int} {e : xD} {d : xD} (hW : WT T H) (g0 : T.2.2.2 r0 = some 42) (i1 : 0 ≤ a1 ∧ a1 ≤ 1) (p0 : a1 = 0 ∨ H r0 3 ≠ -1) (p1 : wKI H r0 = 1) (p2 : XW d) (p3 : ∀ h : Nat, d 0 0 ≤ (h : Int) → h < 24 → e 13 h = 0) (p4 : XN d) (p5 : ∀ h : Nat, h < 24 → 0 ≤ e 13 h ∧ e 13 h ≤ 100) (hRB_r0 : RB T H r0 e d) (hKNN_r0 : KNN T H r0 e d) : wpc kt 7 241 [.ref r0, vI a1] T H (uq_241 r0 a1 e d T H) := by
  sorry
/-! StrikeAwakeModel.isTold(I)Z  -/
abbrev uq_273 (r0 : Nat) (a1 : Int) (e : xD) (d : xD) (T : wq_T) (H : wq_H) : Option Value → wq_T → wq_H → Prop := fun r T' H' => T = T' ∧ H = H' ∧ ∃ z : Int, some (vI z) = r ∧ (0 ≤ z ∧ z ≤ 1) ∧ (((z = 1) ∧ ((0 ≤ a1 ∧ a1 < d 0 6) ∧ H r0 3 ≠ -1)) ∨ ((z = 0) ∧ (a1 < 0 ∨ d 0 6 ≤ a1)))
set_option maxHeartbeats 4000000 in
theorem u_273 {kt : Nat → Option mc_E} {T : wq_T} {H : wq_H} {r0 : Nat} {a1 : Int} {e : xD} {d : xD} (hW : WT T H) (g0 : T.2.2.2 r0 = some 42) (i1 : (-2147483648) ≤ a1 ∧ a1 ≤ 2147483647) (hRB_r0 : RB T H r0 e d) : wpc kt 1 273 [.ref r0, vI a1] T H (uq_273 r0 a1 e d T H) := by
  refine wp_enter e273 (Nat.le_of_ble_eq_true rfl) rfl ?_
  show wp _ _ 273 0 [(0, .ref r0), (1, vI a1)] [] _ H _
  have _b := RB_b hW hRB_r0
  have _nu := RB_n3 hRB_r0
  have _n6 : H r0 3 = -1 → d 0 6 = 0 := fun q => by
    rw [(RB_nu hRB_r0 q).2]
    rfl
  refine wp_of e273 c273_0 (rw_aload_n (pc' := 1) (v := .ref r0) rfl rfl rfl ?_)
  refine wp_of e273 c273_1 (xg_O (pc' := 4) lf_9_337 hW g0 sh_42 (by decide) (by decide) ty_42_3 rfl rfl (fun q1009 => ?_) (fun r1008 q1009 g1010 => ?_))
  · refine wp_of e273 c273_4 (rw_ifnull_n (p1 := 26) (p2 := 7) (by decide) rfl ?_)
    refine wp_of e273 c273_26 (rw_iconst (pc' := 27) rfl ?_)
    exact wp_zreturn e273 c273_27 rfl (by omega) ⟨rfl, rfl, 0, rfl, ⟨by decide, by decide⟩, (Or.inr ⟨by omega, by omega⟩)⟩
  · refine wp_of e273 c273_4 (rw_ifnull_r (p1 := 26) (p2 := 7) (by decide) rfl ?_)
    refine wp_of e273 c273_7 (rw_iload_n (pc' := 8) (z := a1) rfl rfl ?_)
    refine wp_of e273 c273_8 (rw_if_lt (p1 := 26) (p2 := 11) (by decide) rfl ⟨i1.1, i1.2⟩ (fun c1011 => ?_) (fun c1011 => ?_))
    · refine wp_of e273 c273_26 (rw_iconst (pc' := 27) rfl ?_)
      exact wp_zreturn e273 c273_27 rfl (by omega) ⟨rfl, rfl, 0, rfl, ⟨by decide, by decide⟩, (Or.inr ⟨by omega, by omega⟩)⟩
    · refine wp_of e273 c273_11 (rw_iload_n (pc' := 12) (z := a1) rfl rfl ?_)
      refine wp_of e273 c273_12 (rw_aload_n (pc' := 13) (v := .ref r0) rfl rfl rfl ?_)
      refine wp_of e273 c273_13 (xg_K (pc' := 16) lf_9_337 hW g0 sh_42 (by decide) (by decide) rfl q1009 rfl ?_)
      have _k := RP_k (RB_at hRB_r0 q1009)
      refine wp_of e273 c273_16 (xg_I (pc' := 19) lf_9_306 hW g1010 sh_54 (by decide) (by decide) ty_54_6 rfl rfl (fun b1012 b1013 => ?_))
      refine wp_of e273 c273_19 (rw_icmp_ge (p1 := 26) (p2 := 22) (by decide) rfl ⟨i1.1, i1.2⟩ ⟨Int.le_trans (by decide) b1012, Int.le_trans b1013 (by decide)⟩ (fun c1014 => ?_) (fun c1014 => ?_))
      · refine wp_of e273 c273_26 (rw_iconst (pc' := 27) rfl ?_)
        exact wp_zreturn e273 c273_27 rfl (by omega) ⟨rfl, rfl, 0, rfl, ⟨by decide, by decide⟩, (Or.inr ⟨by omega, by omega⟩)⟩
      · refine wp_of e273 c273_22 (rw_iconst (pc' := 23) rfl ?_)
        refine wp_of e273 c273_23 (rw_goto (p1 := 27) (by decide) ?_)
        exact wp_zreturn e273 c273_27 rfl (by omega) ⟨rfl, rfl, 1, rfl, ⟨by decide, by decide⟩, (Or.inl ⟨by omega, by omega⟩)⟩
