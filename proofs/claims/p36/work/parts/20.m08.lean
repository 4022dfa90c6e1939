/-! methods (own work, written by wip/gen2/sx.py) -/
/-! StrikeAwake$Asking.fewestForHour(LStrikeAwake$Parish;LStrikeAwake$Census;I)I -/
theorem e131 : wq_en 131 = some (5, 5, false, some FieldType.int) := rfl
theorem cg131_0 : mc_cd 131 0 = some (.aload_n 0, 1) ∧ mc_cd 131 1 = some (.aload_n 1, 1) ∧ mc_cd 131 2 = some (.aload_n 2, 1) ∧ mc_cd 131 3 = some (.invokevirtual 24, 3) ∧ mc_cd 131 6 = some (.iconst 0, 1) ∧ mc_cd 131 7 = some (.istore 4, 2) ∧ mc_cd 131 9 = some (.iload 4, 2) ∧ mc_cd 131 11 = some (.aload_n 0, 1) := by decide +kernel
theorem c131_0 : mc_cd 131 0 = some (.aload_n 0, 1) := cg131_0.1
theorem c131_1 : mc_cd 131 1 = some (.aload_n 1, 1) := cg131_0.2.1
theorem c131_2 : mc_cd 131 2 = some (.aload_n 2, 1) := cg131_0.2.2.1
theorem c131_3 : mc_cd 131 3 = some (.invokevirtual 24, 3) := cg131_0.2.2.2.1
theorem c131_6 : mc_cd 131 6 = some (.iconst 0, 1) := cg131_0.2.2.2.2.1
theorem c131_7 : mc_cd 131 7 = some (.istore 4, 2) := cg131_0.2.2.2.2.2.1
theorem c131_9 : mc_cd 131 9 = some (.iload 4, 2) := cg131_0.2.2.2.2.2.2.1
theorem c131_11 : mc_cd 131 11 = some (.aload_n 0, 1) := cg131_0.2.2.2.2.2.2.2
theorem cg131_12 : mc_cd 131 12 = some (.getfield 28, 3) ∧ mc_cd 131 15 = some (.if_icmp .ge 28, 3) ∧ mc_cd 131 18 = some (.aload_n 0, 1) ∧ mc_cd 131 19 = some (.getfield 15, 3) ∧ mc_cd 131 22 = some (.iload 4, 2) ∧ mc_cd 131 24 = some (.aload_n 1, 1) ∧ mc_cd 131 25 = some (.aload_n 0, 1) ∧ mc_cd 131 26 = some (.getfield 9, 3) := by decide +kernel
theorem c131_12 : mc_cd 131 12 = some (.getfield 28, 3) := cg131_12.1
theorem c131_15 : mc_cd 131 15 = some (.if_icmp .ge 28, 3) := cg131_12.2.1
theorem c131_18 : mc_cd 131 18 = some (.aload_n 0, 1) := cg131_12.2.2.1
theorem c131_19 : mc_cd 131 19 = some (.getfield 15, 3) := cg131_12.2.2.2.1
theorem c131_22 : mc_cd 131 22 = some (.iload 4, 2) := cg131_12.2.2.2.2.1
theorem c131_24 : mc_cd 131 24 = some (.aload_n 1, 1) := cg131_12.2.2.2.2.2.1
theorem c131_25 : mc_cd 131 25 = some (.aload_n 0, 1) := cg131_12.2.2.2.2.2.2.1
theorem c131_26 : mc_cd 131 26 = some (.getfield 9, 3) := cg131_12.2.2.2.2.2.2.2
theorem cg131_29 : mc_cd 131 29 = some (.iload 4, 2) ∧ mc_cd 131 31 = some (.iaload, 1) ∧ mc_cd 131 32 = some (.iload_n 3, 1) ∧ mc_cd 131 33 = some (.invokestatic 36, 3) ∧ mc_cd 131 36 = some (.iastore, 1) ∧ mc_cd 131 37 = some (.iinc 4 1, 3) ∧ mc_cd 131 40 = some (.goto (-31), 3) ∧ mc_cd 131 43 = some (.aload_n 0, 1) := by decide +kernel
theorem c131_29 : mc_cd 131 29 = some (.iload 4, 2) := cg131_29.1
theorem c131_31 : mc_cd 131 31 = some (.iaload, 1) := cg131_29.2.1
theorem c131_32 : mc_cd 131 32 = some (.iload_n 3, 1) := cg131_29.2.2.1
theorem c131_33 : mc_cd 131 33 = some (.invokestatic 36, 3) := cg131_29.2.2.2.1
theorem c131_36 : mc_cd 131 36 = some (.iastore, 1) := cg131_29.2.2.2.2.1
theorem c131_37 : mc_cd 131 37 = some (.iinc 4 1, 3) := cg131_29.2.2.2.2.2.1
theorem c131_40 : mc_cd 131 40 = some (.goto (-31), 3) := cg131_29.2.2.2.2.2.2.1
theorem c131_43 : mc_cd 131 43 = some (.aload_n 0, 1) := cg131_29.2.2.2.2.2.2.2
theorem cg131_44 : mc_cd 131 44 = some (.aload_n 1, 1) ∧ mc_cd 131 45 = some (.invokevirtual 32, 3) ∧ mc_cd 131 48 = some (.ireturn, 1) := by decide +kernel
theorem c131_44 : mc_cd 131 44 = some (.aload_n 1, 1) := cg131_44.1
theorem c131_45 : mc_cd 131 45 = some (.invokevirtual 32, 3) := cg131_44.2.1
theorem c131_48 : mc_cd 131 48 = some (.ireturn, 1) := cg131_44.2.2
abbrev q_131 (r0 : Nat) (r1 : Nat) (r2 : Nat) (a3 : Int) (T : wq_T) (H : wq_H) : Option Value → wq_T → wq_H → Prop := fun r T' H' => T = T' ∧ WT T H' ∧ wfr [(20, 4), (22, 999), (23, 999), (21, 999), (24, 999)] T H H' ∧ ∃ z : Int, some (vI z) = r ∧ ((-2147483648) ≤ z ∧ z ≤ 2147483647)
set_option maxHeartbeats 4000000 in
theorem s_131 {kt : Nat → Option mc_E} {T : wq_T} {H : wq_H} {r0 : Nat} {r1 : Nat} {r2 : Nat} {a3 : Int} (hW : WT T H) (g0 : T.2.2.2 r0 = some 20) (g1 : T.2.2.2 r1 = some 27) (g2 : T.2.2.2 r2 = some 12) (i3 : (-2147483648) ≤ a3 ∧ a3 ≤ 2147483647) : wpc kt 5 131 [.ref r0, .ref r1, .ref r2, vI a3] T H (q_131 r0 r1 r2 a3 T H) := by
  refine wp_enter e131 (Nat.le_of_ble_eq_true rfl) rfl ?_
  have f0 : wfr [(20, 4), (22, 999), (23, 999), (21, 999), (24, 999)] T H H := wfr.rf
  show wp _ _ 131 0 [(0, .ref r0), (1, .ref r1), (2, .ref r2), (3, vI a3)] [] _ H _
  refine wp_of e131 c131_0 (rw_aload_n (pc' := 1) (v := .ref r0) rfl rfl rfl ?_)
  refine wp_of e131 c131_1 (rw_aload_n (pc' := 2) (v := .ref r1) rfl rfl rfl ?_)
  refine wp_of e131 c131_2 (rw_aload_n (pc' := 3) (v := .ref r2) rfl rfl rfl ?_)
  refine wp_of e131 c131_3 (xc_V (pc' := 6) (r := r0) (as := [.ref r1, .ref r2]) (st := []) (lm_5_24) rfl rfl (Nat.le_of_ble_eq_true rfl) hW g0 sh_20 (by decide) rfl (by decide) (s_123 hW g0 g1 g2) (fun R42447 T42448 H42449 p42450 => ?_))
  obtain ⟨e42451, w42453, f42454, e42452⟩ := p42450
  subst e42451
  subst e42452
  have f42455 := f0.tr f42454 rfl
  show wp _ _ 131 6 [(0, .ref r0), (1, .ref r1), (2, .ref r2), (3, vI a3)] [] _ H42449 _
  refine wp_of e131 c131_6 (rw_iconst (pc' := 7) rfl ?_)
  refine wp_of e131 c131_7 (rw_istore (pc' := 9) (z := 0) (L' := [(4, vI 0), (0, .ref r0), (1, .ref r1), (2, .ref r2), (3, vI a3)]) rfl rfl rfl ?_)
  have lp42648 : ∀ (n42649 : Nat) (v42651 : Int) (H42652 : wq_H), WT T H42652 → wfr [(22, 999)] T H42449 H42652 → (0 ≤ v42651 ∧ v42651 ≤ 400) → (400 - v42651).toNat = n42649 → wp kt 4 131 9 [(4, vI v42651), (0, .ref r0), (1, .ref r1), (3, vI a3)] [] T H42652 (q_131 r0 r1 r2 a3 T H) := by
    intro n42649
    induction n42649 using Nat.strongRecOn with
    | _ n42649 ih42650 =>
      intro v42651 H42652 w42653 f42654 b42655 m42656
      have f42657 := f42455.tr f42654 rfl
      refine wp_of e131 c131_9 (rw_iload (pc' := 11) (z := v42651) rfl rfl ?_)
      refine wp_of e131 c131_11 (rw_aload_n (pc' := 12) (v := .ref r0) rfl rfl rfl ?_)
      refine wp_of e131 c131_12 (xg_I (pc' := 15) lf_5_28 w42653 g0 sh_20 (by decide) (by decide) ty_20_4 rfl rfl (fun b42658 b42659 => ?_))
      refine wp_of e131 c131_15 (rw_icmp_ge (p1 := 43) (p2 := 18) (by decide) rfl ⟨by omega, by omega⟩ ⟨by omega, by omega⟩ (fun c42660 => ?_) (fun c42660 => ?_))
      · refine wp_of e131 c131_43 (rw_aload_n (pc' := 44) (v := .ref r0) rfl rfl rfl ?_)
        refine wp_of e131 c131_44 (rw_aload_n (pc' := 45) (v := .ref r1) rfl rfl rfl ?_)
        refine wp_of e131 c131_45 (xc_V (pc' := 48) (r := r0) (as := [.ref r1]) (st := []) (lm_5_32) rfl rfl (Nat.le_of_ble_eq_true rfl) w42653 g0 sh_20 (by decide) rfl (by decide) (s_125 w42653 g0 g1) (fun R42661 T42662 H42663 p42664 => ?_))
        obtain ⟨e42665, w42667, f42668, z42669, e42666, b42670⟩ := p42664
        subst e42665
        subst e42666
        have f42671 := f42657.tr f42668 rfl
        show wp _ _ 131 48 [(4, vI v42651), (0, .ref r0), (1, .ref r1), (3, vI a3)] [vI z42669] _ H42663 _
        exact wp_ireturn e131 c131_48 rfl ⟨rfl, w42667, f42671, z42669, rfl, ⟨by omega, by omega⟩⟩
      · refine wp_of e131 c131_18 (rw_aload_n (pc' := 19) (v := .ref r0) rfl rfl rfl ?_)
        refine wp_of e131 c131_19 (xg_R (pc' := 22) lf_5_15 w42653 g0 sh_20 (by decide) (by decide) ty_20_1 rfl rfl (fun r42672 q42673 g42674 => ?_))
        refine wp_of e131 c131_22 (rw_iload (pc' := 24) (z := v42651) rfl rfl ?_)
        refine wp_of e131 c131_24 (rw_aload_n (pc' := 25) (v := .ref r1) rfl rfl rfl ?_)
        refine wp_of e131 c131_25 (rw_aload_n (pc' := 26) (v := .ref r0) rfl rfl rfl ?_)
        refine wp_of e131 c131_26 (xg_R (pc' := 29) lf_5_9 w42653 g0 sh_20 (by decide) (by decide) ty_20_0 rfl rfl (fun r42675 q42676 g42677 => ?_))
        refine wp_of e131 c131_29 (rw_iload (pc' := 31) (z := v42651) rfl rfl ?_)
        refine wp_of e131 c131_31 (xa_I (so := 0) (pc' := 32) w42653 g42677 sh_21 (by decide) (ty_21 _) (by omega) (by omega) rfl (fun b42678 b42679 => ?_))
        refine wp_of e131 c131_32 (rw_iload_n (pc' := 33) (z := a3) rfl rfl ?_)
        refine wp_of e131 c131_33 (xc_S (pc' := 36) (as := [.ref r1, vI (H42652 r42675 (v42651.toNat)), vI a3]) (st := [vI v42651, .ref r42672]) (lm_5_36) rfl rfl (Nat.le_of_ble_eq_true rfl) rfl (by decide) (s_116 w42653 g1 ⟨by omega, by omega⟩ ⟨by omega, by omega⟩) (fun R42680 T42681 H42682 p42683 => ?_))
        obtain ⟨e42684, e42686, z42687, e42685, b42688⟩ := p42683
        subst e42684
        subst e42685
        subst e42686
        show wp _ _ 131 36 [(4, vI v42651), (0, .ref r0), (1, .ref r1), (3, vI a3)] [vI z42687, vI v42651, .ref r42672] _ H42652 _
        refine wp_of e131 c131_36 (xs_I (pc' := 37) w42653 g42674 (by decide) sh_22 (by decide) (ty_22 _) (by omega) (by omega) ⟨by omega, by omega⟩ (by omega) (by omega) rfl (fun H42689 e42690 w42691 => ?_))
        have f42692 := f42657.put' e42690 g42674 rfl
        have f42693 := f42654.put' e42690 g42674 rfl
        refine wp_of e131 c131_37 (rw_iinc (pc' := 40) (z := v42651) (L' := [(4, vI (v42651 + 1)), (0, .ref r0), (1, .ref r1), (3, vI a3)]) rfl rfl rfl rfl ?_)
        refine wp_of e131 c131_40 (rw_goto (p1 := 9) (by decide) ?_)
        exact wp_lc (ks := [4, 0, 1, 3]) (wl_c rfl (wl_c rfl (wl_c rfl (wl_c rfl wl_n)))) rfl (by decide) (ih42650 _ (by omega) (v42651 + 1) H42689 w42691 f42693 ⟨by omega, by omega⟩ rfl)
  exact wp_lc (ks := [4, 0, 1, 2, 3]) (wl_c rfl (wl_c rfl (wl_c rfl (wl_c rfl wl_n)))) rfl (by decide) (lp42648 _ 0 H42449 w42453 wfr.rf ⟨by omega, by omega⟩ rfl)
/-! StrikeAwake.askFor(I)I -/
theorem e130 : wq_en 130 = some (0, 3, false, some FieldType.int) := rfl
theorem cg130_0 : mc_cd 130 0 = some (.aload_n 0, 1) ∧ mc_cd 130 1 = some (.aload_n 0, 1) ∧ mc_cd 130 2 = some (.iload_n 1, 1) ∧ mc_cd 130 3 = some (.invokevirtual 132, 3) ∧ mc_cd 130 6 = some (.invokevirtual 227, 3) ∧ mc_cd 130 9 = some (.istore_n 2, 1) ∧ mc_cd 130 10 = some (.iload_n 2, 1) ∧ mc_cd 130 11 = some (.ifCond .eq 9, 3) := by decide +kernel
theorem c130_0 : mc_cd 130 0 = some (.aload_n 0, 1) := cg130_0.1
theorem c130_1 : mc_cd 130 1 = some (.aload_n 0, 1) := cg130_0.2.1
theorem c130_2 : mc_cd 130 2 = some (.iload_n 1, 1) := cg130_0.2.2.1
theorem c130_3 : mc_cd 130 3 = some (.invokevirtual 132, 3) := cg130_0.2.2.2.1
theorem c130_6 : mc_cd 130 6 = some (.invokevirtual 227, 3) := cg130_0.2.2.2.2.1
theorem c130_9 : mc_cd 130 9 = some (.istore_n 2, 1) := cg130_0.2.2.2.2.2.1
theorem c130_10 : mc_cd 130 10 = some (.iload_n 2, 1) := cg130_0.2.2.2.2.2.2.1
theorem c130_11 : mc_cd 130 11 = some (.ifCond .eq 9, 3) := cg130_0.2.2.2.2.2.2.2
theorem cg130_14 : mc_cd 130 14 = some (.aload_n 0, 1) ∧ mc_cd 130 15 = some (.iload_n 2, 1) ∧ mc_cd 130 16 = some (.invokevirtual 70, 3) ∧ mc_cd 130 19 = some (.ireturn, 1) ∧ mc_cd 130 20 = some (.aload_n 0, 1) ∧ mc_cd 130 21 = some (.aload_n 0, 1) ∧ mc_cd 130 22 = some (.getfield 37, 3) ∧ mc_cd 130 25 = some (.aload_n 0, 1) := by decide +kernel
theorem c130_14 : mc_cd 130 14 = some (.aload_n 0, 1) := cg130_14.1
theorem c130_15 : mc_cd 130 15 = some (.iload_n 2, 1) := cg130_14.2.1
theorem c130_16 : mc_cd 130 16 = some (.invokevirtual 70, 3) := cg130_14.2.2.1
theorem c130_19 : mc_cd 130 19 = some (.ireturn, 1) := cg130_14.2.2.2.1
theorem c130_20 : mc_cd 130 20 = some (.aload_n 0, 1) := cg130_14.2.2.2.2.1
theorem c130_21 : mc_cd 130 21 = some (.aload_n 0, 1) := cg130_14.2.2.2.2.2.1
theorem c130_22 : mc_cd 130 22 = some (.getfield 37, 3) := cg130_14.2.2.2.2.2.2.1
theorem c130_25 : mc_cd 130 25 = some (.aload_n 0, 1) := cg130_14.2.2.2.2.2.2.2
theorem cg130_26 : mc_cd 130 26 = some (.getfield 51, 3) ∧ mc_cd 130 29 = some (.aload_n 0, 1) ∧ mc_cd 130 30 = some (.getfield 30, 3) ∧ mc_cd 130 33 = some (.iload_n 1, 1) ∧ mc_cd 130 34 = some (.invokevirtual 234, 3) ∧ mc_cd 130 37 = some (.invokevirtual 99, 3) ∧ mc_cd 130 40 = some (.ireturn, 1) := by decide +kernel
theorem c130_26 : mc_cd 130 26 = some (.getfield 51, 3) := cg130_26.1
theorem c130_29 : mc_cd 130 29 = some (.aload_n 0, 1) := cg130_26.2.1
theorem c130_30 : mc_cd 130 30 = some (.getfield 30, 3) := cg130_26.2.2.1
theorem c130_33 : mc_cd 130 33 = some (.iload_n 1, 1) := cg130_26.2.2.2.1
theorem c130_34 : mc_cd 130 34 = some (.invokevirtual 234, 3) := cg130_26.2.2.2.2.1
theorem c130_37 : mc_cd 130 37 = some (.invokevirtual 99, 3) := cg130_26.2.2.2.2.2.1
theorem c130_40 : mc_cd 130 40 = some (.ireturn, 1) := cg130_26.2.2.2.2.2.2
/-! StrikeAwake.isTold(I)Z -/
theorem e133 : wq_en 133 = some (0, 2, false, some FieldType.boolean) := rfl
theorem cg133_0 : mc_cd 133 0 = some (.iload_n 1, 1) ∧ mc_cd 133 1 = some (.ifCond .lt 18, 3) ∧ mc_cd 133 4 = some (.iload_n 1, 1) ∧ mc_cd 133 5 = some (.aload_n 0, 1) ∧ mc_cd 133 6 = some (.getfield 51, 3) ∧ mc_cd 133 9 = some (.getfield 333, 3) ∧ mc_cd 133 12 = some (.if_icmp .ge 7, 3) ∧ mc_cd 133 15 = some (.iconst 1, 1) := by decide +kernel
theorem c133_0 : mc_cd 133 0 = some (.iload_n 1, 1) := cg133_0.1
theorem c133_1 : mc_cd 133 1 = some (.ifCond .lt 18, 3) := cg133_0.2.1
theorem c133_4 : mc_cd 133 4 = some (.iload_n 1, 1) := cg133_0.2.2.1
theorem c133_5 : mc_cd 133 5 = some (.aload_n 0, 1) := cg133_0.2.2.2.1
theorem c133_6 : mc_cd 133 6 = some (.getfield 51, 3) := cg133_0.2.2.2.2.1
theorem c133_9 : mc_cd 133 9 = some (.getfield 333, 3) := cg133_0.2.2.2.2.2.1
theorem c133_12 : mc_cd 133 12 = some (.if_icmp .ge 7, 3) := cg133_0.2.2.2.2.2.2.1
theorem c133_15 : mc_cd 133 15 = some (.iconst 1, 1) := cg133_0.2.2.2.2.2.2.2
theorem cg133_16 : mc_cd 133 16 = some (.goto 4, 3) ∧ mc_cd 133 19 = some (.iconst 0, 1) ∧ mc_cd 133 20 = some (.ireturn, 1) := by decide +kernel
theorem c133_16 : mc_cd 133 16 = some (.goto 4, 3) := cg133_16.1
theorem c133_19 : mc_cd 133 19 = some (.iconst 0, 1) := cg133_16.2.1
theorem c133_20 : mc_cd 133 20 = some (.ireturn, 1) := cg133_16.2.2
abbrev q_133 (r0 : Nat) (a1 : Int) (T : wq_T) (H : wq_H) : Option Value → wq_T → wq_H → Prop := fun r T' H' => T = T' ∧ H = H' ∧ ∃ z : Int, some (vI z) = r ∧ (0 ≤ z ∧ z ≤ 1) ∧ (z = 0 ∨ (0 ≤ a1 ∧ a1 ≤ 3))
set_option maxHeartbeats 4000000 in
theorem s_133 {kt : Nat → Option mc_E} {T : wq_T} {H : wq_H} {r0 : Nat} {a1 : Int} (hW : WT T H) (g0 : T.2.2.2 r0 = some 1) (i1 : (-2147483648) ≤ a1 ∧ a1 ≤ 2147483647) : wpc kt 1 133 [.ref r0, vI a1] T H (q_133 r0 a1 T H) := by
  refine wp_enter e133 (Nat.le_of_ble_eq_true rfl) rfl ?_
  show wp _ _ 133 0 [(0, .ref r0), (1, vI a1)] [] _ H _
  refine wp_of e133 c133_0 (rw_iload_n (pc' := 1) (z := a1) rfl rfl ?_)
  refine wp_of e133 c133_1 (rw_if_lt (p1 := 19) (p2 := 4) (by decide) rfl ⟨by omega, by omega⟩ (fun c42831 => ?_) (fun c42831 => ?_))
  · refine wp_of e133 c133_19 (rw_iconst (pc' := 20) rfl ?_)
    exact wp_zreturn e133 c133_20 rfl (by omega) ⟨rfl, rfl, 0, rfl, ⟨by omega, by omega⟩, by omega⟩
  · refine wp_of e133 c133_4 (rw_iload_n (pc' := 5) (z := a1) rfl rfl ?_)
    refine wp_of e133 c133_5 (rw_aload_n (pc' := 6) (v := .ref r0) rfl rfl rfl ?_)
    refine wp_of e133 c133_6 (xg_R (pc' := 9) lf_0_51 hW g0 sh_1 (by decide) (by decide) ty_1_6 rfl rfl (fun r42832 q42833 g42834 => ?_))
    refine wp_of e133 c133_9 (xg_I (pc' := 12) lf_0_333 hW g42834 sh_27 (by decide) (by decide) ty_27_13 rfl rfl (fun b42835 b42836 => ?_))
    refine wp_of e133 c133_12 (rw_icmp_ge (p1 := 19) (p2 := 15) (by decide) rfl ⟨by omega, by omega⟩ ⟨by omega, by omega⟩ (fun c42837 => ?_) (fun c42837 => ?_))
    · refine wp_of e133 c133_19 (rw_iconst (pc' := 20) rfl ?_)
      exact wp_zreturn e133 c133_20 rfl (by omega) ⟨rfl, rfl, 0, rfl, ⟨by omega, by omega⟩, by omega⟩
    · refine wp_of e133 c133_15 (rw_iconst (pc' := 16) rfl ?_)
      refine wp_of e133 c133_16 (rw_goto (p1 := 20) (by decide) ?_)
      exact wp_zreturn e133 c133_20 rfl (by omega) ⟨rfl, rfl, 1, rfl, ⟨by omega, by omega⟩, by omega⟩
/-! StrikeAwake$Census.hasTold(LStrikeAwake$Parish;I)Z -/
theorem e134 : wq_en 134 = some (4, 7, false, some FieldType.boolean) := rfl
theorem cg134_0 : mc_cd 134 0 = some (.aload_n 1, 1) ∧ mc_cd 134 1 = some (.getfield 144, 3) ∧ mc_cd 134 4 = some (.iload_n 2, 1) ∧ mc_cd 134 5 = some (.iaload, 1) ∧ mc_cd 134 6 = some (.istore_n 3, 1) ∧ mc_cd 134 7 = some (.aload_n 1, 1) ∧ mc_cd 134 8 = some (.getfield 147, 3) ∧ mc_cd 134 11 = some (.iload_n 2, 1) := by decide +kernel
theorem c134_0 : mc_cd 134 0 = some (.aload_n 1, 1) := cg134_0.1
theorem c134_1 : mc_cd 134 1 = some (.getfield 144, 3) := cg134_0.2.1
theorem c134_4 : mc_cd 134 4 = some (.iload_n 2, 1) := cg134_0.2.2.1
theorem c134_5 : mc_cd 134 5 = some (.iaload, 1) := cg134_0.2.2.2.1
theorem c134_6 : mc_cd 134 6 = some (.istore_n 3, 1) := cg134_0.2.2.2.2.1
theorem c134_7 : mc_cd 134 7 = some (.aload_n 1, 1) := cg134_0.2.2.2.2.2.1
theorem c134_8 : mc_cd 134 8 = some (.getfield 147, 3) := cg134_0.2.2.2.2.2.2.1
theorem c134_11 : mc_cd 134 11 = some (.iload_n 2, 1) := cg134_0.2.2.2.2.2.2.2
theorem cg134_12 : mc_cd 134 12 = some (.iaload, 1) ∧ mc_cd 134 13 = some (.istore 4, 2) ∧ mc_cd 134 15 = some (.aload_n 1, 1) ∧ mc_cd 134 16 = some (.getfield 78, 3) ∧ mc_cd 134 19 = some (.iload_n 3, 1) ∧ mc_cd 134 20 = some (.aaload, 1) ∧ mc_cd 134 21 = some (.astore 5, 2) ∧ mc_cd 134 23 = some (.iconst 0, 1) := by decide +kernel
theorem c134_12 : mc_cd 134 12 = some (.iaload, 1) := cg134_12.1
theorem c134_13 : mc_cd 134 13 = some (.istore 4, 2) := cg134_12.2.1
theorem c134_15 : mc_cd 134 15 = some (.aload_n 1, 1) := cg134_12.2.2.1
theorem c134_16 : mc_cd 134 16 = some (.getfield 78, 3) := cg134_12.2.2.2.1
theorem c134_19 : mc_cd 134 19 = some (.iload_n 3, 1) := cg134_12.2.2.2.2.1
theorem c134_20 : mc_cd 134 20 = some (.aaload, 1) := cg134_12.2.2.2.2.2.1
theorem c134_21 : mc_cd 134 21 = some (.astore 5, 2) := cg134_12.2.2.2.2.2.2.1
theorem c134_23 : mc_cd 134 23 = some (.iconst 0, 1) := cg134_12.2.2.2.2.2.2.2
theorem cg134_24 : mc_cd 134 24 = some (.istore 6, 2) ∧ mc_cd 134 26 = some (.iload 6, 2) ∧ mc_cd 134 28 = some (.aload 5, 2) ∧ mc_cd 134 30 = some (.getfield 116, 3) ∧ mc_cd 134 33 = some (.if_icmp .ge 39, 3) ∧ mc_cd 134 36 = some (.aload_n 0, 1) ∧ mc_cd 134 37 = some (.getfield 17, 3) ∧ mc_cd 134 40 = some (.iload_n 3, 1) := by decide +kernel
theorem c134_24 : mc_cd 134 24 = some (.istore 6, 2) := cg134_24.1
theorem c134_26 : mc_cd 134 26 = some (.iload 6, 2) := cg134_24.2.1
theorem c134_28 : mc_cd 134 28 = some (.aload 5, 2) := cg134_24.2.2.1
theorem c134_30 : mc_cd 134 30 = some (.getfield 116, 3) := cg134_24.2.2.2.1
theorem c134_33 : mc_cd 134 33 = some (.if_icmp .ge 39, 3) := cg134_24.2.2.2.2.1
theorem c134_36 : mc_cd 134 36 = some (.aload_n 0, 1) := cg134_24.2.2.2.2.2.1
theorem c134_37 : mc_cd 134 37 = some (.getfield 17, 3) := cg134_24.2.2.2.2.2.2.1
theorem c134_40 : mc_cd 134 40 = some (.iload_n 3, 1) := cg134_24.2.2.2.2.2.2.2
theorem cg134_41 : mc_cd 134 41 = some (.aaload, 1) ∧ mc_cd 134 42 = some (.iload 6, 2) ∧ mc_cd 134 44 = some (.iaload, 1) ∧ mc_cd 134 45 = some (.ifCond .le 21, 3) ∧ mc_cd 134 48 = some (.aload 5, 2) ∧ mc_cd 134 50 = some (.getfield 138, 3) ∧ mc_cd 134 53 = some (.iload 6, 2) ∧ mc_cd 134 55 = some (.iaload, 1) := by decide +kernel
theorem c134_41 : mc_cd 134 41 = some (.aaload, 1) := cg134_41.1
theorem c134_42 : mc_cd 134 42 = some (.iload 6, 2) := cg134_41.2.1
theorem c134_44 : mc_cd 134 44 = some (.iaload, 1) := cg134_41.2.2.1
theorem c134_45 : mc_cd 134 45 = some (.ifCond .le 21, 3) := cg134_41.2.2.2.1
theorem c134_48 : mc_cd 134 48 = some (.aload 5, 2) := cg134_41.2.2.2.2.1
theorem c134_50 : mc_cd 134 50 = some (.getfield 138, 3) := cg134_41.2.2.2.2.2.1
theorem c134_53 : mc_cd 134 53 = some (.iload 6, 2) := cg134_41.2.2.2.2.2.2.1
theorem c134_55 : mc_cd 134 55 = some (.iaload, 1) := cg134_41.2.2.2.2.2.2.2
theorem cg134_56 : mc_cd 134 56 = some (.iload 4, 2) ∧ mc_cd 134 58 = some (.iand, 1) ∧ mc_cd 134 59 = some (.iload 4, 2) ∧ mc_cd 134 61 = some (.if_icmp .ne 5, 3) ∧ mc_cd 134 64 = some (.iconst 1, 1) ∧ mc_cd 134 65 = some (.ireturn, 1) ∧ mc_cd 134 66 = some (.iinc 6 1, 3) ∧ mc_cd 134 69 = some (.goto (-43), 3) := by decide +kernel
theorem c134_56 : mc_cd 134 56 = some (.iload 4, 2) := cg134_56.1
theorem c134_58 : mc_cd 134 58 = some (.iand, 1) := cg134_56.2.1
theorem c134_59 : mc_cd 134 59 = some (.iload 4, 2) := cg134_56.2.2.1
theorem c134_61 : mc_cd 134 61 = some (.if_icmp .ne 5, 3) := cg134_56.2.2.2.1
theorem c134_64 : mc_cd 134 64 = some (.iconst 1, 1) := cg134_56.2.2.2.2.1
theorem c134_65 : mc_cd 134 65 = some (.ireturn, 1) := cg134_56.2.2.2.2.2.1
theorem c134_66 : mc_cd 134 66 = some (.iinc 6 1, 3) := cg134_56.2.2.2.2.2.2.1
theorem c134_69 : mc_cd 134 69 = some (.goto (-43), 3) := cg134_56.2.2.2.2.2.2.2
theorem cg134_72 : mc_cd 134 72 = some (.iconst 0, 1) ∧ mc_cd 134 73 = some (.ireturn, 1) := by decide +kernel
theorem c134_72 : mc_cd 134 72 = some (.iconst 0, 1) := cg134_72.1
theorem c134_73 : mc_cd 134 73 = some (.ireturn, 1) := cg134_72.2
abbrev q_134 (r0 : Nat) (r1 : Nat) (a2 : Int) (T : wq_T) (H : wq_H) : Option Value → wq_T → wq_H → Prop := fun r T' H' => T = T' ∧ H = H' ∧ ∃ z : Int, some (vI z) = r ∧ (0 ≤ z ∧ z ≤ 1)
set_option maxHeartbeats 4000000 in
theorem s_134 {kt : Nat → Option mc_E} {T : wq_T} {H : wq_H} {r0 : Nat} {r1 : Nat} {a2 : Int} (hW : WT T H) (g0 : T.2.2.2 r0 = some 12) (g1 : T.2.2.2 r1 = some 27) (i2 : 0 ≤ a2 ∧ a2 ≤ 3) : wpc kt 1 134 [.ref r0, .ref r1, vI a2] T H (q_134 r0 r1 a2 T H) := by
  refine wp_enter e134 (Nat.le_of_ble_eq_true rfl) rfl ?_
  show wp _ _ 134 0 [(0, .ref r0), (1, .ref r1), (2, vI a2)] [] _ H _
  refine wp_of e134 c134_0 (rw_aload_n (pc' := 1) (v := .ref r1) rfl rfl rfl ?_)
  refine wp_of e134 c134_1 (xg_R (pc' := 4) lf_4_144 hW g1 sh_27 (by decide) (by decide) ty_27_4 rfl rfl (fun r43035 q43036 g43037 => ?_))
  refine wp_of e134 c134_4 (rw_iload_n (pc' := 5) (z := a2) rfl rfl ?_)
  refine wp_of e134 c134_5 (xa_I (so := 0) (pc' := 6) hW g43037 sh_32 (by decide) (ty_32 _) (by omega) (by omega) rfl (fun b43038 b43039 => ?_))
  refine wp_of e134 c134_6 (rw_istore_n (pc' := 7) (z := H r43035 (a2.toNat)) (L' := [(3, vI (H r43035 (a2.toNat))), (0, .ref r0), (1, .ref r1), (2, vI a2)]) rfl rfl rfl ?_)
  refine wp_of e134 c134_7 (rw_aload_n (pc' := 8) (v := .ref r1) rfl rfl rfl ?_)
  refine wp_of e134 c134_8 (xg_R (pc' := 11) lf_4_147 hW g1 sh_27 (by decide) (by decide) ty_27_5 rfl rfl (fun r43040 q43041 g43042 => ?_))
  refine wp_of e134 c134_11 (rw_iload_n (pc' := 12) (z := a2) rfl rfl ?_)
  refine wp_of e134 c134_12 (xa_I (so := 0) (pc' := 13) hW g43042 sh_33 (by decide) (ty_33 _) (by omega) (by omega) rfl (fun b43043 b43044 => ?_))
  refine wp_of e134 c134_13 (rw_istore (pc' := 15) (z := H r43040 (a2.toNat)) (L' := [(4, vI (H r43040 (a2.toNat))), (3, vI (H r43035 (a2.toNat))), (0, .ref r0), (1, .ref r1), (2, vI a2)]) rfl rfl rfl ?_)
  refine wp_of e134 c134_15 (rw_aload_n (pc' := 16) (v := .ref r1) rfl rfl rfl ?_)
  refine wp_of e134 c134_16 (xg_R (pc' := 19) lf_4_78 hW g1 sh_27 (by decide) (by decide) ty_27_0 rfl rfl (fun r43045 q43046 g43047 => ?_))
  refine wp_of e134 c134_19 (rw_iload_n (pc' := 20) (z := H r43035 (a2.toNat)) rfl rfl ?_)
  refine wp_of e134 c134_20 (xa_R (pc' := 21) (by decide) hW g43047 sh_28 (by decide) (ty_28 _) (by omega) (by omega) rfl (fun r43048 q43049 g43050 => ?_))
  refine wp_of e134 c134_21 (rw_astore (pc' := 23) (v := .ref r43048) (L' := [(5, .ref r43048), (4, vI (H r43040 (a2.toNat))), (3, vI (H r43035 (a2.toNat))), (0, .ref r0), (1, .ref r1), (2, vI a2)]) rfl rfl rfl rfl ?_)
  refine wp_of e134 c134_23 (rw_iconst (pc' := 24) rfl ?_)
  refine wp_of e134 c134_24 (rw_istore (pc' := 26) (z := 0) (L' := [(6, vI 0), (5, .ref r43048), (4, vI (H r43040 (a2.toNat))), (3, vI (H r43035 (a2.toNat))), (0, .ref r0), (1, .ref r1), (2, vI a2)]) rfl rfl rfl ?_)
  have lp43211 : ∀ (n43212 : Nat) (v43214 : Int), (0 ≤ v43214 ∧ v43214 ≤ 40) → (40 - v43214).toNat = n43212 → wp kt 0 134 26 [(6, vI v43214), (5, .ref r43048), (4, vI (H r43040 (a2.toNat))), (3, vI (H r43035 (a2.toNat))), (0, .ref r0)] [] T H (q_134 r0 r1 a2 T H) := by
    intro n43212
    induction n43212 using Nat.strongRecOn with
    | _ n43212 ih43213 =>
      intro v43214 b43217 m43218
      refine wp_of e134 c134_26 (rw_iload (pc' := 28) (z := v43214) rfl rfl ?_)
      refine wp_of e134 c134_28 (rw_aload (pc' := 30) (v := .ref r43048) rfl rfl rfl ?_)
      refine wp_of e134 c134_30 (xg_I (pc' := 33) lf_4_116 hW g43050 sh_35 (by decide) (by decide) ty_35_15 rfl rfl (fun b43219 b43220 => ?_))
      refine wp_of e134 c134_33 (rw_icmp_ge (p1 := 72) (p2 := 36) (by decide) rfl ⟨by omega, by omega⟩ ⟨by omega, by omega⟩ (fun c43221 => ?_) (fun c43221 => ?_))
      · refine wp_of e134 c134_72 (rw_iconst (pc' := 73) rfl ?_)
        exact wp_zreturn e134 c134_73 rfl (by omega) ⟨rfl, rfl, 0, rfl, ⟨by omega, by omega⟩⟩
      · refine wp_of e134 c134_36 (rw_aload_n (pc' := 37) (v := .ref r0) rfl rfl rfl ?_)
        refine wp_of e134 c134_37 (xg_R (pc' := 40) lf_4_17 hW g0 sh_12 (by decide) (by decide) ty_12_1 rfl rfl (fun r43222 q43223 g43224 => ?_))
        refine wp_of e134 c134_40 (rw_iload_n (pc' := 41) (z := H r43035 (a2.toNat)) rfl rfl ?_)
        refine wp_of e134 c134_41 (xa_R (pc' := 42) (by decide) hW g43224 sh_14 (by decide) (ty_14 _) (by omega) (by omega) rfl (fun r43225 q43226 g43227 => ?_))
        refine wp_of e134 c134_42 (rw_iload (pc' := 44) (z := v43214) rfl rfl ?_)
        refine wp_of e134 c134_44 (xa_I (so := 0) (pc' := 45) hW g43227 sh_15 (by decide) (ty_15 _) (by omega) (by omega) rfl (fun b43228 b43229 => ?_))
        refine wp_of e134 c134_45 (rw_if_le (p1 := 66) (p2 := 48) (by decide) rfl ⟨by omega, by omega⟩ (fun c43230 => ?_) (fun c43230 => ?_))
        · refine wp_of e134 c134_66 (rw_iinc (pc' := 69) (z := v43214) (L' := [(6, vI (v43214 + 1)), (5, .ref r43048), (4, vI (H r43040 (a2.toNat))), (3, vI (H r43035 (a2.toNat))), (0, .ref r0)]) rfl rfl rfl rfl ?_)
          refine wp_of e134 c134_69 (rw_goto (p1 := 26) (by decide) ?_)
          exact wp_lc (ks := [6, 5, 4, 3, 0]) (wl_c rfl (wl_c rfl (wl_c rfl (wl_c rfl (wl_c rfl wl_n))))) rfl (by decide) (ih43213 _ (by omega) (v43214 + 1) ⟨by omega, by omega⟩ rfl)
        · refine wp_of e134 c134_48 (rw_aload (pc' := 50) (v := .ref r43048) rfl rfl rfl ?_)
          refine wp_of e134 c134_50 (xg_R (pc' := 53) lf_4_138 hW g43050 sh_35 (by decide) (by decide) ty_35_2 rfl rfl (fun r43231 q43232 g43233 => ?_))
          refine wp_of e134 c134_53 (rw_iload (pc' := 55) (z := v43214) rfl rfl ?_)
          refine wp_of e134 c134_55 (xa_I (so := 0) (pc' := 56) hW g43233 sh_38 (by decide) (ty_38 _) (by omega) (by omega) rfl (fun b43234 b43235 => ?_))
          refine wp_of e134 c134_56 (rw_iload (pc' := 58) (z := H r43040 (a2.toNat)) rfl rfl ?_)
          refine wp_of e134 c134_58 (rw_iand (pc' := 59) rfl ?_)
          obtain ⟨v43236, e43237⟩ : ∃ x : Int, x = wq_and (H r43231 (v43214.toNat)) (H r43040 (a2.toNat)) := ⟨_, rfl⟩
          rw [← e43237]
          have b43238 : -2147483648 ≤ v43236 ∧ v43236 ≤ 2147483647 := by
            rw [e43237]
            exact wI_and _ _
          refine wp_of e134 c134_59 (rw_iload (pc' := 61) (z := H r43040 (a2.toNat)) rfl rfl ?_)
          refine wp_of e134 c134_61 (rw_icmp_ne (p1 := 66) (p2 := 64) (by decide) rfl ⟨by omega, by omega⟩ ⟨by omega, by omega⟩ (fun c43239 => ?_) (fun c43239 => ?_))
          · refine wp_of e134 c134_66 (rw_iinc (pc' := 69) (z := v43214) (L' := [(6, vI (v43214 + 1)), (5, .ref r43048), (4, vI (H r43040 (a2.toNat))), (3, vI (H r43035 (a2.toNat))), (0, .ref r0)]) rfl rfl rfl rfl ?_)
            refine wp_of e134 c134_69 (rw_goto (p1 := 26) (by decide) ?_)
            exact wp_lc (ks := [6, 5, 4, 3, 0]) (wl_c rfl (wl_c rfl (wl_c rfl (wl_c rfl (wl_c rfl wl_n))))) rfl (by decide) (ih43213 _ (by omega) (v43214 + 1) ⟨by omega, by omega⟩ rfl)
          · refine wp_of e134 c134_64 (rw_iconst (pc' := 65) rfl ?_)
            exact wp_zreturn e134 c134_65 rfl (by omega) ⟨rfl, rfl, 1, rfl, ⟨by omega, by omega⟩⟩
  exact wp_lc (ks := [6, 5, 4, 3, 0, 1, 2]) (wl_c rfl (wl_c rfl (wl_c rfl (wl_c rfl (wl_c rfl wl_n))))) rfl (by decide) (lp43211 _ 0 ⟨by omega, by omega⟩ rfl)
/-! StrikeAwake.lie(I)I -/
theorem e132 : wq_en 132 = some (0, 3, false, some FieldType.int) := rfl
theorem cg132_0 : mc_cd 132 0 = some (.aload_n 0, 1) ∧ mc_cd 132 1 = some (.aload_n 0, 1) ∧ mc_cd 132 2 = some (.iload_n 1, 1) ∧ mc_cd 132 3 = some (.invokevirtual 238, 3) ∧ mc_cd 132 6 = some (.invokevirtual 174, 3) ∧ mc_cd 132 9 = some (.istore_n 2, 1) ∧ mc_cd 132 10 = some (.iload_n 2, 1) ∧ mc_cd 132 11 = some (.ifCond .eq 9, 3) := by decide +kernel
theorem c132_0 : mc_cd 132 0 = some (.aload_n 0, 1) := cg132_0.1
theorem c132_1 : mc_cd 132 1 = some (.aload_n 0, 1) := cg132_0.2.1
theorem c132_2 : mc_cd 132 2 = some (.iload_n 1, 1) := cg132_0.2.2.1
theorem c132_3 : mc_cd 132 3 = some (.invokevirtual 238, 3) := cg132_0.2.2.2.1
theorem c132_6 : mc_cd 132 6 = some (.invokevirtual 174, 3) := cg132_0.2.2.2.2.1
theorem c132_9 : mc_cd 132 9 = some (.istore_n 2, 1) := cg132_0.2.2.2.2.2.1
theorem c132_10 : mc_cd 132 10 = some (.iload_n 2, 1) := cg132_0.2.2.2.2.2.2.1
theorem c132_11 : mc_cd 132 11 = some (.ifCond .eq 9, 3) := cg132_0.2.2.2.2.2.2.2
theorem cg132_14 : mc_cd 132 14 = some (.aload_n 0, 1) ∧ mc_cd 132 15 = some (.iload_n 2, 1) ∧ mc_cd 132 16 = some (.invokevirtual 70, 3) ∧ mc_cd 132 19 = some (.ireturn, 1) ∧ mc_cd 132 20 = some (.aload_n 0, 1) ∧ mc_cd 132 21 = some (.aload_n 0, 1) ∧ mc_cd 132 22 = some (.getfield 30, 3) ∧ mc_cd 132 25 = some (.aload_n 0, 1) := by decide +kernel
theorem c132_14 : mc_cd 132 14 = some (.aload_n 0, 1) := cg132_14.1
theorem c132_15 : mc_cd 132 15 = some (.iload_n 2, 1) := cg132_14.2.1
theorem c132_16 : mc_cd 132 16 = some (.invokevirtual 70, 3) := cg132_14.2.2.1
theorem c132_19 : mc_cd 132 19 = some (.ireturn, 1) := cg132_14.2.2.2.1
theorem c132_20 : mc_cd 132 20 = some (.aload_n 0, 1) := cg132_14.2.2.2.2.1
theorem c132_21 : mc_cd 132 21 = some (.aload_n 0, 1) := cg132_14.2.2.2.2.2.1
theorem c132_22 : mc_cd 132 22 = some (.getfield 30, 3) := cg132_14.2.2.2.2.2.2.1
theorem c132_25 : mc_cd 132 25 = some (.aload_n 0, 1) := cg132_14.2.2.2.2.2.2.2
theorem cg132_26 : mc_cd 132 26 = some (.getfield 51, 3) ∧ mc_cd 132 29 = some (.iload_n 1, 1) ∧ mc_cd 132 30 = some (.invokevirtual 241, 3) ∧ mc_cd 132 33 = some (.ifCond .eq 7, 3) ∧ mc_cd 132 36 = some (.iconst 0, 1) ∧ mc_cd 132 37 = some (.goto 4, 3) ∧ mc_cd 132 40 = some (.iconst 1, 1) ∧ mc_cd 132 41 = some (.invokevirtual 99, 3) := by decide +kernel
theorem c132_26 : mc_cd 132 26 = some (.getfield 51, 3) := cg132_26.1
theorem c132_29 : mc_cd 132 29 = some (.iload_n 1, 1) := cg132_26.2.1
theorem c132_30 : mc_cd 132 30 = some (.invokevirtual 241, 3) := cg132_26.2.2.1
theorem c132_33 : mc_cd 132 33 = some (.ifCond .eq 7, 3) := cg132_26.2.2.2.1
theorem c132_36 : mc_cd 132 36 = some (.iconst 0, 1) := cg132_26.2.2.2.2.1
theorem c132_37 : mc_cd 132 37 = some (.goto 4, 3) := cg132_26.2.2.2.2.2.1
theorem c132_40 : mc_cd 132 40 = some (.iconst 1, 1) := cg132_26.2.2.2.2.2.2.1
theorem c132_41 : mc_cd 132 41 = some (.invokevirtual 99, 3) := cg132_26.2.2.2.2.2.2.2
theorem c132_44 : mc_cd 132 44 = some (.ireturn, 1) := by decide +kernel
/-! StrikeAwake$Grounds.barringHour(LStrikeAwake$Parish;LStrikeAwake$Walk;I)I -/
theorem e136 : wq_en 136 = some (6, 10, false, some FieldType.int) := rfl
theorem cg136_0 : mc_cd 136 0 = some (.aload_n 1, 1) ∧ mc_cd 136 1 = some (.getfield 15, 3) ∧ mc_cd 136 4 = some (.aload_n 1, 1) ∧ mc_cd 136 5 = some (.getfield 21, 3) ∧ mc_cd 136 8 = some (.iload_n 3, 1) ∧ mc_cd 136 9 = some (.iaload, 1) ∧ mc_cd 136 10 = some (.aaload, 1) ∧ mc_cd 136 11 = some (.astore 4, 2) := by decide +kernel
theorem c136_0 : mc_cd 136 0 = some (.aload_n 1, 1) := cg136_0.1
theorem c136_1 : mc_cd 136 1 = some (.getfield 15, 3) := cg136_0.2.1
theorem c136_4 : mc_cd 136 4 = some (.aload_n 1, 1) := cg136_0.2.2.1
theorem c136_5 : mc_cd 136 5 = some (.getfield 21, 3) := cg136_0.2.2.2.1
theorem c136_8 : mc_cd 136 8 = some (.iload_n 3, 1) := cg136_0.2.2.2.2.1
theorem c136_9 : mc_cd 136 9 = some (.iaload, 1) := cg136_0.2.2.2.2.2.1
theorem c136_10 : mc_cd 136 10 = some (.aaload, 1) := cg136_0.2.2.2.2.2.2.1
theorem c136_11 : mc_cd 136 11 = some (.astore 4, 2) := cg136_0.2.2.2.2.2.2.2
theorem cg136_13 : mc_cd 136 13 = some (.aload_n 1, 1) ∧ mc_cd 136 14 = some (.getfield 25, 3) ∧ mc_cd 136 17 = some (.iload_n 3, 1) ∧ mc_cd 136 18 = some (.iaload, 1) ∧ mc_cd 136 19 = some (.istore 5, 2) ∧ mc_cd 136 21 = some (.sipush (-1000), 3) ∧ mc_cd 136 24 = some (.istore 6, 2) ∧ mc_cd 136 26 = some (.aload_n 2, 1) := by decide +kernel
theorem c136_13 : mc_cd 136 13 = some (.aload_n 1, 1) := cg136_13.1
theorem c136_14 : mc_cd 136 14 = some (.getfield 25, 3) := cg136_13.2.1
theorem c136_17 : mc_cd 136 17 = some (.iload_n 3, 1) := cg136_13.2.2.1
theorem c136_18 : mc_cd 136 18 = some (.iaload, 1) := cg136_13.2.2.2.1
theorem c136_19 : mc_cd 136 19 = some (.istore 5, 2) := cg136_13.2.2.2.2.1
theorem c136_21 : mc_cd 136 21 = some (.sipush (-1000), 3) := cg136_13.2.2.2.2.2.1
theorem c136_24 : mc_cd 136 24 = some (.istore 6, 2) := cg136_13.2.2.2.2.2.2.1
theorem c136_26 : mc_cd 136 26 = some (.aload_n 2, 1) := cg136_13.2.2.2.2.2.2.2
theorem cg136_27 : mc_cd 136 27 = some (.aload_n 1, 1) ∧ mc_cd 136 28 = some (.invokevirtual 28, 3) ∧ mc_cd 136 31 = some (.iconst 0, 1) ∧ mc_cd 136 32 = some (.istore 7, 2) ∧ mc_cd 136 34 = some (.iload 7, 2) ∧ mc_cd 136 36 = some (.i2l, 1) ∧ mc_cd 136 37 = some (.aload_n 1, 1) ∧ mc_cd 136 38 = some (.getfield 34, 3) := by decide +kernel
theorem c136_27 : mc_cd 136 27 = some (.aload_n 1, 1) := cg136_27.1
theorem c136_28 : mc_cd 136 28 = some (.invokevirtual 28, 3) := cg136_27.2.1
theorem c136_31 : mc_cd 136 31 = some (.iconst 0, 1) := cg136_27.2.2.1
theorem c136_32 : mc_cd 136 32 = some (.istore 7, 2) := cg136_27.2.2.2.1
theorem c136_34 : mc_cd 136 34 = some (.iload 7, 2) := cg136_27.2.2.2.2.1
theorem c136_36 : mc_cd 136 36 = some (.i2l, 1) := cg136_27.2.2.2.2.2.1
theorem c136_37 : mc_cd 136 37 = some (.aload_n 1, 1) := cg136_27.2.2.2.2.2.2.1
theorem c136_38 : mc_cd 136 38 = some (.getfield 34, 3) := cg136_27.2.2.2.2.2.2.2
theorem cg136_41 : mc_cd 136 41 = some (.lcmp, 1) ∧ mc_cd 136 42 = some (.ifCond .ge 83, 3) ∧ mc_cd 136 45 = some (.iload 7, 2) ∧ mc_cd 136 47 = some (.sipush 20000, 3) ∧ mc_cd 136 50 = some (.if_icmp .ge 75, 3) ∧ mc_cd 136 53 = some (.aload 4, 2) ∧ mc_cd 136 55 = some (.getfield 38, 3) ∧ mc_cd 136 58 = some (.aload_n 2, 1) := by decide +kernel
theorem c136_41 : mc_cd 136 41 = some (.lcmp, 1) := cg136_41.1
theorem c136_42 : mc_cd 136 42 = some (.ifCond .ge 83, 3) := cg136_41.2.1
theorem c136_45 : mc_cd 136 45 = some (.iload 7, 2) := cg136_41.2.2.1
theorem c136_47 : mc_cd 136 47 = some (.sipush 20000, 3) := cg136_41.2.2.2.1
theorem c136_50 : mc_cd 136 50 = some (.if_icmp .ge 75, 3) := cg136_41.2.2.2.2.1
theorem c136_53 : mc_cd 136 53 = some (.aload 4, 2) := cg136_41.2.2.2.2.2.1
theorem c136_55 : mc_cd 136 55 = some (.getfield 38, 3) := cg136_41.2.2.2.2.2.2.1
theorem c136_58 : mc_cd 136 58 = some (.aload_n 2, 1) := cg136_41.2.2.2.2.2.2.2
theorem cg136_59 : mc_cd 136 59 = some (.aload_n 1, 1) ∧ mc_cd 136 60 = some (.getfield 21, 3) ∧ mc_cd 136 63 = some (.iload_n 3, 1) ∧ mc_cd 136 64 = some (.iaload, 1) ∧ mc_cd 136 65 = some (.invokevirtual 43, 3) ∧ mc_cd 136 68 = some (.iaload, 1) ∧ mc_cd 136 69 = some (.istore 8, 2) ∧ mc_cd 136 71 = some (.aload_n 2, 1) := by decide +kernel
theorem c136_59 : mc_cd 136 59 = some (.aload_n 1, 1) := cg136_59.1
theorem c136_60 : mc_cd 136 60 = some (.getfield 21, 3) := cg136_59.2.1
theorem c136_63 : mc_cd 136 63 = some (.iload_n 3, 1) := cg136_59.2.2.1
theorem c136_64 : mc_cd 136 64 = some (.iaload, 1) := cg136_59.2.2.2.1
theorem c136_65 : mc_cd 136 65 = some (.invokevirtual 43, 3) := cg136_59.2.2.2.2.1
theorem c136_68 : mc_cd 136 68 = some (.iaload, 1) := cg136_59.2.2.2.2.2.1
theorem c136_69 : mc_cd 136 69 = some (.istore 8, 2) := cg136_59.2.2.2.2.2.2.1
theorem c136_71 : mc_cd 136 71 = some (.aload_n 2, 1) := cg136_59.2.2.2.2.2.2.2
theorem cg136_72 : mc_cd 136 72 = some (.invokevirtual 47, 3) ∧ mc_cd 136 75 = some (.ifCond .ne 39, 3) ∧ mc_cd 136 78 = some (.iload 8, 2) ∧ mc_cd 136 80 = some (.iload 5, 2) ∧ mc_cd 136 82 = some (.iand, 1) ∧ mc_cd 136 83 = some (.iload 5, 2) ∧ mc_cd 136 85 = some (.if_icmp .ne 29, 3) ∧ mc_cd 136 88 = some (.aload_n 2, 1) := by decide +kernel
theorem c136_72 : mc_cd 136 72 = some (.invokevirtual 47, 3) := cg136_72.1
theorem c136_75 : mc_cd 136 75 = some (.ifCond .ne 39, 3) := cg136_72.2.1
theorem c136_78 : mc_cd 136 78 = some (.iload 8, 2) := cg136_72.2.2.1
theorem c136_80 : mc_cd 136 80 = some (.iload 5, 2) := cg136_72.2.2.2.1
theorem c136_82 : mc_cd 136 82 = some (.iand, 1) := cg136_72.2.2.2.2.1
theorem c136_83 : mc_cd 136 83 = some (.iload 5, 2) := cg136_72.2.2.2.2.2.1
theorem c136_85 : mc_cd 136 85 = some (.if_icmp .ne 29, 3) := cg136_72.2.2.2.2.2.2.1
theorem c136_88 : mc_cd 136 88 = some (.aload_n 2, 1) := cg136_72.2.2.2.2.2.2.2
theorem cg136_89 : mc_cd 136 89 = some (.aload_n 1, 1) ∧ mc_cd 136 90 = some (.invokevirtual 51, 3) ∧ mc_cd 136 93 = some (.istore 9, 2) ∧ mc_cd 136 95 = some (.iload 9, 2) ∧ mc_cd 136 97 = some (.bipush 24, 2) ∧ mc_cd 136 99 = some (.if_icmp .ne 6, 3) ∧ mc_cd 136 102 = some (.bipush (-2), 2) ∧ mc_cd 136 104 = some (.ireturn, 1) := by decide +kernel
theorem c136_89 : mc_cd 136 89 = some (.aload_n 1, 1) := cg136_89.1
theorem c136_90 : mc_cd 136 90 = some (.invokevirtual 51, 3) := cg136_89.2.1
theorem c136_93 : mc_cd 136 93 = some (.istore 9, 2) := cg136_89.2.2.1
theorem c136_95 : mc_cd 136 95 = some (.iload 9, 2) := cg136_89.2.2.2.1
theorem c136_97 : mc_cd 136 97 = some (.bipush 24, 2) := cg136_89.2.2.2.2.1
theorem c136_99 : mc_cd 136 99 = some (.if_icmp .ne 6, 3) := cg136_89.2.2.2.2.2.1
theorem c136_102 : mc_cd 136 102 = some (.bipush (-2), 2) := cg136_89.2.2.2.2.2.2.1
theorem c136_104 : mc_cd 136 104 = some (.ireturn, 1) := cg136_89.2.2.2.2.2.2.2
theorem cg136_105 : mc_cd 136 105 = some (.iload 6, 2) ∧ mc_cd 136 107 = some (.iload 9, 2) ∧ mc_cd 136 109 = some (.invokestatic 55, 3) ∧ mc_cd 136 112 = some (.istore 6, 2) ∧ mc_cd 136 114 = some (.aload_n 2, 1) ∧ mc_cd 136 115 = some (.aload_n 1, 1) ∧ mc_cd 136 116 = some (.invokevirtual 61, 3) ∧ mc_cd 136 119 = some (.iinc 7 1, 3) := by decide +kernel
theorem c136_105 : mc_cd 136 105 = some (.iload 6, 2) := cg136_105.1
theorem c136_107 : mc_cd 136 107 = some (.iload 9, 2) := cg136_105.2.1
theorem c136_109 : mc_cd 136 109 = some (.invokestatic 55, 3) := cg136_105.2.2.1
theorem c136_112 : mc_cd 136 112 = some (.istore 6, 2) := cg136_105.2.2.2.1
theorem c136_114 : mc_cd 136 114 = some (.aload_n 2, 1) := cg136_105.2.2.2.2.1
theorem c136_115 : mc_cd 136 115 = some (.aload_n 1, 1) := cg136_105.2.2.2.2.2.1
theorem c136_116 : mc_cd 136 116 = some (.invokevirtual 61, 3) := cg136_105.2.2.2.2.2.2.1
theorem c136_119 : mc_cd 136 119 = some (.iinc 7 1, 3) := cg136_105.2.2.2.2.2.2.2
theorem cg136_122 : mc_cd 136 122 = some (.goto (-88), 3) ∧ mc_cd 136 125 = some (.iload 6, 2) ∧ mc_cd 136 127 = some (.ireturn, 1) := by decide +kernel
theorem c136_122 : mc_cd 136 122 = some (.goto (-88), 3) := cg136_122.1
theorem c136_125 : mc_cd 136 125 = some (.iload 6, 2) := cg136_122.2.1
theorem c136_127 : mc_cd 136 127 = some (.ireturn, 1) := cg136_122.2.2
abbrev q_136 (r0 : Nat) (r1 : Nat) (r2 : Nat) (a3 : Int) (T : wq_T) (H : wq_H) : Option Value → wq_T → wq_H → Prop := fun r T' H' => T = T' ∧ WT T H' ∧ wfr [(6, 5), (8, 999), (10, 999), (9, 999), (7, 999), (11, 999)] T H H' ∧ ∃ z : Int, some (vI z) = r ∧ ((-2147483648) ≤ z ∧ z ≤ 2147483647)
set_option maxHeartbeats 4000000 in
theorem s_136 {kt : Nat → Option mc_E} {T : wq_T} {H : wq_H} {r0 : Nat} {r1 : Nat} {r2 : Nat} {a3 : Int} (hW : WT T H) (g0 : T.2.2.2 r0 = some 25) (g1 : T.2.2.2 r1 = some 27) (g2 : T.2.2.2 r2 = some 6) (i3 : 0 ≤ a3 ∧ a3 ≤ 3) : wpc kt 4 136 [.ref r0, .ref r1, .ref r2, vI a3] T H (q_136 r0 r1 r2 a3 T H) := by
  refine wp_enter e136 (Nat.le_of_ble_eq_true rfl) rfl ?_
  have f0 : wfr [(6, 5), (8, 999), (10, 999), (9, 999), (7, 999), (11, 999)] T H H := wfr.rf
  show wp _ _ 136 0 [(0, .ref r0), (1, .ref r1), (2, .ref r2), (3, vI a3)] [] _ H _
  refine wp_of e136 c136_0 (rw_aload_n (pc' := 1) (v := .ref r1) rfl rfl rfl ?_)
  refine wp_of e136 c136_1 (xg_R (pc' := 4) lf_6_15 hW g1 sh_27 (by decide) (by decide) ty_27_0 rfl rfl (fun r44094 q44095 g44096 => ?_))
  refine wp_of e136 c136_4 (rw_aload_n (pc' := 5) (v := .ref r1) rfl rfl rfl ?_)
  refine wp_of e136 c136_5 (xg_R (pc' := 8) lf_6_21 hW g1 sh_27 (by decide) (by decide) ty_27_4 rfl rfl (fun r44097 q44098 g44099 => ?_))
  refine wp_of e136 c136_8 (rw_iload_n (pc' := 9) (z := a3) rfl rfl ?_)
  refine wp_of e136 c136_9 (xa_I (so := 0) (pc' := 10) hW g44099 sh_32 (by decide) (ty_32 _) (by omega) (by omega) rfl (fun b44100 b44101 => ?_))
  refine wp_of e136 c136_10 (xa_R (pc' := 11) (by decide) hW g44096 sh_28 (by decide) (ty_28 _) (by omega) (by omega) rfl (fun r44102 q44103 g44104 => ?_))
  refine wp_of e136 c136_11 (rw_astore (pc' := 13) (v := .ref r44102) (L' := [(4, .ref r44102), (0, .ref r0), (1, .ref r1), (2, .ref r2), (3, vI a3)]) rfl rfl rfl rfl ?_)
  refine wp_of e136 c136_13 (rw_aload_n (pc' := 14) (v := .ref r1) rfl rfl rfl ?_)
  refine wp_of e136 c136_14 (xg_R (pc' := 17) lf_6_25 hW g1 sh_27 (by decide) (by decide) ty_27_5 rfl rfl (fun r44105 q44106 g44107 => ?_))
  refine wp_of e136 c136_17 (rw_iload_n (pc' := 18) (z := a3) rfl rfl ?_)
  refine wp_of e136 c136_18 (xa_I (so := 0) (pc' := 19) hW g44107 sh_33 (by decide) (ty_33 _) (by omega) (by omega) rfl (fun b44108 b44109 => ?_))
  refine wp_of e136 c136_19 (rw_istore (pc' := 21) (z := H r44105 (a3.toNat)) (L' := [(5, vI (H r44105 (a3.toNat))), (4, .ref r44102), (0, .ref r0), (1, .ref r1), (2, .ref r2), (3, vI a3)]) rfl rfl rfl ?_)
  refine wp_of e136 c136_21 (rw_sipush (pc' := 24) (z := -1000) rfl (by decide) ?_)
  refine wp_of e136 c136_24 (rw_istore (pc' := 26) (z := -1000) (L' := [(6, vI (-1000)), (5, vI (H r44105 (a3.toNat))), (4, .ref r44102), (0, .ref r0), (1, .ref r1), (2, .ref r2), (3, vI a3)]) rfl rfl rfl ?_)
  refine wp_of e136 c136_26 (rw_aload_n (pc' := 27) (v := .ref r2) rfl rfl rfl ?_)
  refine wp_of e136 c136_27 (rw_aload_n (pc' := 28) (v := .ref r1) rfl rfl rfl ?_)
  refine wp_of e136 c136_28 (xc_V (pc' := 31) (r := r2) (as := [.ref r1]) (st := []) (lm_6_28) rfl rfl (Nat.le_of_ble_eq_true rfl) hW g2 sh_6 (by decide) rfl (by decide) (s_87 hW g2 g1) (fun R44110 T44111 H44112 p44113 => ?_))
  obtain ⟨e44114, w44116, f44117, e44115⟩ := p44113
  subst e44114
  subst e44115
  have f44118 := f0.tr f44117 rfl
  show wp _ _ 136 31 [(6, vI (-1000)), (5, vI (H r44105 (a3.toNat))), (4, .ref r44102), (0, .ref r0), (1, .ref r1), (2, .ref r2), (3, vI a3)] [] _ H44112 _
  refine wp_of e136 c136_31 (rw_iconst (pc' := 32) rfl ?_)
  refine wp_of e136 c136_32 (rw_istore (pc' := 34) (z := 0) (L' := [(7, vI 0), (6, vI (-1000)), (5, vI (H r44105 (a3.toNat))), (4, .ref r44102), (0, .ref r0), (1, .ref r1), (2, .ref r2), (3, vI a3)]) rfl rfl rfl ?_)
  have lp44727 : ∀ (n44728 : Nat) (v44730 : Int) (v44731 : Int) (H44732 : wq_H), WT T H44732 → wfr [(8, 999), (10, 999), (9, 999), (7, 999), (11, 999)] T H44112 H44732 → (0 ≤ v44730 ∧ v44730 ≤ 20000) → ((-1000) ≤ v44731 ∧ v44731 ≤ 23) → (20000 - v44730).toNat = n44728 → wp kt 3 136 34 [(7, vI v44730), (6, vI v44731), (5, vI (H r44105 (a3.toNat))), (4, .ref r44102), (1, .ref r1), (2, .ref r2), (3, vI a3)] [] T H44732 (q_136 r0 r1 r2 a3 T H) := by
    intro n44728
    induction n44728 using Nat.strongRecOn with
    | _ n44728 ih44729 =>
      intro v44730 v44731 H44732 w44733 f44734 b44735 b44736 m44737
      have f44738 := f44118.tr f44734 rfl
      refine wp_of e136 c136_34 (rw_iload (pc' := 36) (z := v44730) rfl rfl ?_)
      refine wp_of e136 c136_36 (rw_i2l (pc' := 37) rfl ⟨by omega, by omega⟩ ?_)
      refine wp_of e136 c136_37 (rw_aload_n (pc' := 38) (v := .ref r1) rfl rfl rfl ?_)
      refine wp_of e136 c136_38 (xg_L (pc' := 41) lf_6_34 w44733 g1 sh_27 (by decide) (by decide) ty_27_18 rfl rfl (fun b44739 b44740 => ?_))
      refine wp_of e136 c136_41 (rw_lcmp (pc' := 42) rfl ⟨by omega, by omega⟩ ⟨by omega, by omega⟩ ?_)
      have b44741 := wq_cmp_b v44730 (H44732 r1 18)
      refine wp_of e136 c136_42 (rw_if_ge (p1 := 125) (p2 := 45) (by decide) rfl ⟨by omega, by omega⟩ (fun c44742 => ?_) (fun c44742 => ?_))
      · refine wp_of e136 c136_125 (rw_iload (pc' := 127) (z := v44731) rfl rfl ?_)
        exact wp_ireturn e136 c136_127 rfl ⟨rfl, w44733, f44738, v44731, rfl, ⟨by omega, by omega⟩⟩
      · refine wp_of e136 c136_45 (rw_iload (pc' := 47) (z := v44730) rfl rfl ?_)
        refine wp_of e136 c136_47 (rw_sipush (pc' := 50) (z := 20000) rfl (by decide) ?_)
        refine wp_of e136 c136_50 (rw_icmp_ge (p1 := 125) (p2 := 53) (by decide) rfl ⟨by omega, by omega⟩ ⟨by omega, by omega⟩ (fun c44743 => ?_) (fun c44743 => ?_))
        · refine wp_of e136 c136_125 (rw_iload (pc' := 127) (z := v44731) rfl rfl ?_)
          exact wp_ireturn e136 c136_127 rfl ⟨rfl, w44733, f44738, v44731, rfl, ⟨by omega, by omega⟩⟩
        · refine wp_of e136 c136_53 (rw_aload (pc' := 55) (v := .ref r44102) rfl rfl rfl ?_)
          refine wp_of e136 c136_55 (xg_R (pc' := 58) lf_6_38 w44733 g44104 sh_35 (by decide) (by decide) ty_35_2 rfl rfl (fun r44744 q44745 g44746 => ?_))
          refine wp_of e136 c136_58 (rw_aload_n (pc' := 59) (v := .ref r2) rfl rfl rfl ?_)
          refine wp_of e136 c136_59 (rw_aload_n (pc' := 60) (v := .ref r1) rfl rfl rfl ?_)
          have k44747 : H44732 r1 4 = H r1 4 := ((f44734 r1 4 _ g1 rfl).trans (f44117 r1 4 _ g1 rfl))
          have q44748 : H44732 r1 4 = (r44097 : Int) := k44747.trans q44098
          refine wp_of e136 c136_60 (xg_K (pc' := 63) lf_6_21 w44733 g1 sh_27 (by decide) (by decide) rfl q44748 rfl ?_)
          refine wp_of e136 c136_63 (rw_iload_n (pc' := 64) (z := a3) rfl rfl ?_)
          have k44749 : H44732 r44097 (a3.toNat) = H r44097 (a3.toNat) := ((f44734 r44097 (a3.toNat) _ g44099 rfl).trans (f44117 r44097 (a3.toNat) _ g44099 rfl))
          refine wp_of e136 c136_64 (xa_I (so := 0) (pc' := 65) w44733 g44099 sh_32 (by decide) (ty_32 _) (by omega) (by omega) rfl (fun b44750 b44751 => ?_))
          refine wp_of e136 c136_65 (xc_V (pc' := 68) (r := r2) (as := [vI (H44732 r44097 (a3.toNat))]) (st := [.ref r44744]) (lm_6_43) rfl rfl (Nat.le_of_ble_eq_true rfl) w44733 g2 sh_6 (by decide) rfl (by decide) (s_89 w44733 g2 ⟨by omega, by omega⟩) (fun R44752 T44753 H44754 p44755 => ?_))
          obtain ⟨e44756, e44758, z44759, e44757, b44760⟩ := p44755
          subst e44756
          subst e44757
          subst e44758
          show wp _ _ 136 68 [(7, vI v44730), (6, vI v44731), (5, vI (H r44105 (a3.toNat))), (4, .ref r44102), (1, .ref r1), (2, .ref r2), (3, vI a3)] [vI z44759, .ref r44744] _ H44732 _
          refine wp_of e136 c136_68 (xa_I (so := 0) (pc' := 69) w44733 g44746 sh_38 (by decide) (ty_38 _) (by omega) (by omega) rfl (fun b44761 b44762 => ?_))
          refine wp_of e136 c136_69 (rw_istore (pc' := 71) (z := H44732 r44744 (z44759.toNat)) (L' := [(8, vI (H44732 r44744 (z44759.toNat))), (7, vI v44730), (6, vI v44731), (5, vI (H r44105 (a3.toNat))), (4, .ref r44102), (1, .ref r1), (2, .ref r2), (3, vI a3)]) rfl rfl rfl ?_)
          refine wp_of e136 c136_71 (rw_aload_n (pc' := 72) (v := .ref r2) rfl rfl rfl ?_)
          refine wp_of e136 c136_72 (xc_V (pc' := 75) (r := r2) (as := []) (st := []) (lm_6_47) rfl rfl (Nat.le_of_ble_eq_true rfl) w44733 g2 sh_6 (by decide) rfl (by decide) (s_80 w44733 g2) (fun R44763 T44764 H44765 p44766 => ?_))
          obtain ⟨e44767, e44769, z44770, e44768, b44771⟩ := p44766
          subst e44767
          subst e44768
          subst e44769
          show wp _ _ 136 75 [(8, vI (H44732 r44744 (z44759.toNat))), (7, vI v44730), (6, vI v44731), (5, vI (H r44105 (a3.toNat))), (4, .ref r44102), (1, .ref r1), (2, .ref r2), (3, vI a3)] [vI z44770] _ H44732 _
          refine wp_of e136 c136_75 (rw_if_ne (p1 := 114) (p2 := 78) (by decide) rfl ⟨by omega, by omega⟩ (fun c44772 => ?_) (fun c44772 => ?_))
          · refine wp_of e136 c136_114 (rw_aload_n (pc' := 115) (v := .ref r2) rfl rfl rfl ?_)
            refine wp_of e136 c136_115 (rw_aload_n (pc' := 116) (v := .ref r1) rfl rfl rfl ?_)
            refine wp_of e136 c136_116 (xc_V (pc' := 119) (r := r2) (as := [.ref r1]) (st := []) (lm_6_61) rfl rfl (Nat.le_of_ble_eq_true rfl) w44733 g2 sh_6 (by decide) rfl (by decide) (s_91 w44733 g2 g1) (fun R44773 T44774 H44775 p44776 => ?_))
            obtain ⟨e44777, w44779, f44780, e44778⟩ := p44776
            subst e44777
            subst e44778
            have f44781 := f44738.tr f44780 rfl
            have f44782 := f44734.tr f44780 rfl
            show wp _ _ 136 119 [(8, vI (H44732 r44744 (z44759.toNat))), (7, vI v44730), (6, vI v44731), (5, vI (H r44105 (a3.toNat))), (4, .ref r44102), (1, .ref r1), (2, .ref r2), (3, vI a3)] [] _ H44775 _
            refine wp_of e136 c136_119 (rw_iinc (pc' := 122) (z := v44730) (L' := [(7, vI (v44730 + 1)), (8, vI (H44732 r44744 (z44759.toNat))), (6, vI v44731), (5, vI (H r44105 (a3.toNat))), (4, .ref r44102), (1, .ref r1), (2, .ref r2), (3, vI a3)]) rfl rfl rfl rfl ?_)
            refine wp_of e136 c136_122 (rw_goto (p1 := 34) (by decide) ?_)
            exact wp_lc (ks := [7, 8, 6, 5, 4, 1, 2, 3]) (wl_c rfl (wl_c rfl (wl_c rfl (wl_c rfl (wl_c rfl (wl_c rfl (wl_c rfl wl_n))))))) rfl (by decide) (ih44729 _ (by omega) (v44730 + 1) v44731 H44775 w44779 f44782 ⟨by omega, by omega⟩ ⟨by omega, by omega⟩ rfl)
          · refine wp_of e136 c136_78 (rw_iload (pc' := 80) (z := H44732 r44744 (z44759.toNat)) rfl rfl ?_)
            refine wp_of e136 c136_80 (rw_iload (pc' := 82) (z := H r44105 (a3.toNat)) rfl rfl ?_)
            refine wp_of e136 c136_82 (rw_iand (pc' := 83) rfl ?_)
            obtain ⟨v44783, e44784⟩ : ∃ x : Int, x = wq_and (H44732 r44744 (z44759.toNat)) (H r44105 (a3.toNat)) := ⟨_, rfl⟩
            rw [← e44784]
            have b44785 : -2147483648 ≤ v44783 ∧ v44783 ≤ 2147483647 := by
              rw [e44784]
              exact wI_and _ _
            refine wp_of e136 c136_83 (rw_iload (pc' := 85) (z := H r44105 (a3.toNat)) rfl rfl ?_)
            refine wp_of e136 c136_85 (rw_icmp_ne (p1 := 114) (p2 := 88) (by decide) rfl ⟨by omega, by omega⟩ ⟨by omega, by omega⟩ (fun c44786 => ?_) (fun c44786 => ?_))
            · refine wp_of e136 c136_114 (rw_aload_n (pc' := 115) (v := .ref r2) rfl rfl rfl ?_)
              refine wp_of e136 c136_115 (rw_aload_n (pc' := 116) (v := .ref r1) rfl rfl rfl ?_)
              refine wp_of e136 c136_116 (xc_V (pc' := 119) (r := r2) (as := [.ref r1]) (st := []) (lm_6_61) rfl rfl (Nat.le_of_ble_eq_true rfl) w44733 g2 sh_6 (by decide) rfl (by decide) (s_91 w44733 g2 g1) (fun R44787 T44788 H44789 p44790 => ?_))
              obtain ⟨e44791, w44793, f44794, e44792⟩ := p44790
              subst e44791
              subst e44792
              have f44795 := f44738.tr f44794 rfl
              have f44796 := f44734.tr f44794 rfl
              show wp _ _ 136 119 [(8, vI (H44732 r44744 (z44759.toNat))), (7, vI v44730), (6, vI v44731), (5, vI (H r44105 (a3.toNat))), (4, .ref r44102), (1, .ref r1), (2, .ref r2), (3, vI a3)] [] _ H44789 _
              refine wp_of e136 c136_119 (rw_iinc (pc' := 122) (z := v44730) (L' := [(7, vI (v44730 + 1)), (8, vI (H44732 r44744 (z44759.toNat))), (6, vI v44731), (5, vI (H r44105 (a3.toNat))), (4, .ref r44102), (1, .ref r1), (2, .ref r2), (3, vI a3)]) rfl rfl rfl rfl ?_)
              refine wp_of e136 c136_122 (rw_goto (p1 := 34) (by decide) ?_)
              exact wp_lc (ks := [7, 8, 6, 5, 4, 1, 2, 3]) (wl_c rfl (wl_c rfl (wl_c rfl (wl_c rfl (wl_c rfl (wl_c rfl (wl_c rfl wl_n))))))) rfl (by decide) (ih44729 _ (by omega) (v44730 + 1) v44731 H44789 w44793 f44796 ⟨by omega, by omega⟩ ⟨by omega, by omega⟩ rfl)
            · refine wp_of e136 c136_88 (rw_aload_n (pc' := 89) (v := .ref r2) rfl rfl rfl ?_)
              refine wp_of e136 c136_89 (rw_aload_n (pc' := 90) (v := .ref r1) rfl rfl rfl ?_)
              refine wp_of e136 c136_90 (xc_V (pc' := 93) (r := r2) (as := [.ref r1]) (st := []) (lm_6_51) rfl rfl (Nat.le_of_ble_eq_true rfl) w44733 g2 sh_6 (by decide) rfl (by decide) (s_81 w44733 g2 g1) (fun R44797 T44798 H44799 p44800 => ?_))
              obtain ⟨e44801, e44803, z44804, e44802, b44805⟩ := p44800
              subst e44801
              subst e44802
              subst e44803
              show wp _ _ 136 93 [(8, vI (H44732 r44744 (z44759.toNat))), (7, vI v44730), (6, vI v44731), (5, vI (H r44105 (a3.toNat))), (4, .ref r44102), (1, .ref r1), (2, .ref r2), (3, vI a3)] [vI z44804] _ H44732 _
              refine wp_of e136 c136_93 (rw_istore (pc' := 95) (z := z44804) (L' := [(9, vI z44804), (8, vI (H44732 r44744 (z44759.toNat))), (7, vI v44730), (6, vI v44731), (5, vI (H r44105 (a3.toNat))), (4, .ref r44102), (1, .ref r1), (2, .ref r2), (3, vI a3)]) rfl rfl rfl ?_)
              refine wp_of e136 c136_95 (rw_iload (pc' := 97) (z := z44804) rfl rfl ?_)
              refine wp_of e136 c136_97 (rw_bipush (pc' := 99) (z := 24) rfl (by decide) ?_)
              refine wp_of e136 c136_99 (rw_icmp_ne (p1 := 105) (p2 := 102) (by decide) rfl ⟨by omega, by omega⟩ ⟨by omega, by omega⟩ (fun c44806 => ?_) (fun c44806 => ?_))
              · refine wp_of e136 c136_105 (rw_iload (pc' := 107) (z := v44731) rfl rfl ?_)
                refine wp_of e136 c136_107 (rw_iload (pc' := 109) (z := z44804) rfl rfl ?_)
                refine wp_of e136 c136_109 (rw_math2 (pc' := 112) (z := max v44731 z44804) rfl rfl ⟨by omega, by omega⟩ ⟨by omega, by omega⟩ (Or.inr ⟨rfl, rfl⟩) (Nat.le_of_ble_eq_true rfl) rfl ?_)
                obtain ⟨v44807, e44808⟩ : ∃ x : Int, x = max v44731 z44804 := ⟨_, rfl⟩
                rw [← e44808]
                have b44809 : v44807 = v44731 ∨ v44807 = z44804 := by
                  rw [e44808]
                  omega
                have b44810 : v44731 ≤ v44807 ∧ z44804 ≤ v44807 := by
                  rw [e44808]
                  omega
                refine wp_of e136 c136_112 (rw_istore (pc' := 114) (z := v44807) (L' := [(6, vI v44807), (9, vI z44804), (8, vI (H44732 r44744 (z44759.toNat))), (7, vI v44730), (5, vI (H r44105 (a3.toNat))), (4, .ref r44102), (1, .ref r1), (2, .ref r2), (3, vI a3)]) rfl rfl rfl ?_)
                refine wp_of e136 c136_114 (rw_aload_n (pc' := 115) (v := .ref r2) rfl rfl rfl ?_)
                refine wp_of e136 c136_115 (rw_aload_n (pc' := 116) (v := .ref r1) rfl rfl rfl ?_)
                refine wp_of e136 c136_116 (xc_V (pc' := 119) (r := r2) (as := [.ref r1]) (st := []) (lm_6_61) rfl rfl (Nat.le_of_ble_eq_true rfl) w44733 g2 sh_6 (by decide) rfl (by decide) (s_91 w44733 g2 g1) (fun R44811 T44812 H44813 p44814 => ?_))
                obtain ⟨e44815, w44817, f44818, e44816⟩ := p44814
                subst e44815
                subst e44816
                have f44819 := f44738.tr f44818 rfl
                have f44820 := f44734.tr f44818 rfl
                show wp _ _ 136 119 [(6, vI v44807), (9, vI z44804), (8, vI (H44732 r44744 (z44759.toNat))), (7, vI v44730), (5, vI (H r44105 (a3.toNat))), (4, .ref r44102), (1, .ref r1), (2, .ref r2), (3, vI a3)] [] _ H44813 _
                refine wp_of e136 c136_119 (rw_iinc (pc' := 122) (z := v44730) (L' := [(7, vI (v44730 + 1)), (6, vI v44807), (9, vI z44804), (8, vI (H44732 r44744 (z44759.toNat))), (5, vI (H r44105 (a3.toNat))), (4, .ref r44102), (1, .ref r1), (2, .ref r2), (3, vI a3)]) rfl rfl rfl rfl ?_)
                refine wp_of e136 c136_122 (rw_goto (p1 := 34) (by decide) ?_)
                exact wp_lc (ks := [7, 6, 9, 8, 5, 4, 1, 2, 3]) (wl_c rfl (wl_c rfl (wl_c rfl (wl_c rfl (wl_c rfl (wl_c rfl (wl_c rfl wl_n))))))) rfl (by decide) (ih44729 _ (by omega) (v44730 + 1) v44807 H44813 w44817 f44820 ⟨by omega, by omega⟩ ⟨by omega, by omega⟩ rfl)
              · refine wp_of e136 c136_102 (rw_bipush (pc' := 104) (z := -2) rfl (by decide) ?_)
                exact wp_ireturn e136 c136_104 rfl ⟨rfl, w44733, f44738, -2, rfl, ⟨by omega, by omega⟩⟩
  exact wp_lc (ks := [7, 6, 5, 4, 0, 1, 2, 3]) (wl_c rfl (wl_c rfl (wl_c rfl (wl_c rfl (wl_c rfl (wl_c rfl (wl_c rfl wl_n))))))) rfl (by decide) (lp44727 _ 0 (-1000) H44112 w44116 wfr.rf ⟨by omega, by omega⟩ ⟨by omega, by omega⟩ rfl)
/-! StrikeAwake.bars(I)I -/
theorem e135 : wq_en 135 = some (0, 3, false, some FieldType.int) := rfl
theorem cg135_0 : mc_cd 135 0 = some (.aload_n 0, 1) ∧ mc_cd 135 1 = some (.aload_n 0, 1) ∧ mc_cd 135 2 = some (.iload_n 1, 1) ∧ mc_cd 135 3 = some (.invokevirtual 238, 3) ∧ mc_cd 135 6 = some (.invokevirtual 245, 3) ∧ mc_cd 135 9 = some (.istore_n 2, 1) ∧ mc_cd 135 10 = some (.iload_n 2, 1) ∧ mc_cd 135 11 = some (.ifCond .eq 9, 3) := by decide +kernel
theorem c135_0 : mc_cd 135 0 = some (.aload_n 0, 1) := cg135_0.1
theorem c135_1 : mc_cd 135 1 = some (.aload_n 0, 1) := cg135_0.2.1
theorem c135_2 : mc_cd 135 2 = some (.iload_n 1, 1) := cg135_0.2.2.1
theorem c135_3 : mc_cd 135 3 = some (.invokevirtual 238, 3) := cg135_0.2.2.2.1
theorem c135_6 : mc_cd 135 6 = some (.invokevirtual 245, 3) := cg135_0.2.2.2.2.1
theorem c135_9 : mc_cd 135 9 = some (.istore_n 2, 1) := cg135_0.2.2.2.2.2.1
theorem c135_10 : mc_cd 135 10 = some (.iload_n 2, 1) := cg135_0.2.2.2.2.2.2.1
theorem c135_11 : mc_cd 135 11 = some (.ifCond .eq 9, 3) := cg135_0.2.2.2.2.2.2.2
theorem cg135_14 : mc_cd 135 14 = some (.aload_n 0, 1) ∧ mc_cd 135 15 = some (.iload_n 2, 1) ∧ mc_cd 135 16 = some (.invokevirtual 70, 3) ∧ mc_cd 135 19 = some (.ireturn, 1) ∧ mc_cd 135 20 = some (.aload_n 0, 1) ∧ mc_cd 135 21 = some (.aload_n 0, 1) ∧ mc_cd 135 22 = some (.getfield 44, 3) ∧ mc_cd 135 25 = some (.aload_n 0, 1) := by decide +kernel
theorem c135_14 : mc_cd 135 14 = some (.aload_n 0, 1) := cg135_14.1
theorem c135_15 : mc_cd 135 15 = some (.iload_n 2, 1) := cg135_14.2.1
theorem c135_16 : mc_cd 135 16 = some (.invokevirtual 70, 3) := cg135_14.2.2.1
theorem c135_19 : mc_cd 135 19 = some (.ireturn, 1) := cg135_14.2.2.2.1
theorem c135_20 : mc_cd 135 20 = some (.aload_n 0, 1) := cg135_14.2.2.2.2.1
theorem c135_21 : mc_cd 135 21 = some (.aload_n 0, 1) := cg135_14.2.2.2.2.2.1
theorem c135_22 : mc_cd 135 22 = some (.getfield 44, 3) := cg135_14.2.2.2.2.2.2.1
theorem c135_25 : mc_cd 135 25 = some (.aload_n 0, 1) := cg135_14.2.2.2.2.2.2.2
theorem cg135_26 : mc_cd 135 26 = some (.getfield 51, 3) ∧ mc_cd 135 29 = some (.aload_n 0, 1) ∧ mc_cd 135 30 = some (.getfield 23, 3) ∧ mc_cd 135 33 = some (.iload_n 1, 1) ∧ mc_cd 135 34 = some (.invokevirtual 248, 3) ∧ mc_cd 135 37 = some (.invokevirtual 99, 3) ∧ mc_cd 135 40 = some (.ireturn, 1) := by decide +kernel
theorem c135_26 : mc_cd 135 26 = some (.getfield 51, 3) := cg135_26.1
theorem c135_29 : mc_cd 135 29 = some (.aload_n 0, 1) := cg135_26.2.1
theorem c135_30 : mc_cd 135 30 = some (.getfield 23, 3) := cg135_26.2.2.1
theorem c135_33 : mc_cd 135 33 = some (.iload_n 1, 1) := cg135_26.2.2.2.1
theorem c135_34 : mc_cd 135 34 = some (.invokevirtual 248, 3) := cg135_26.2.2.2.2.1
theorem c135_37 : mc_cd 135 37 = some (.invokevirtual 99, 3) := cg135_26.2.2.2.2.2.1
theorem c135_40 : mc_cd 135 40 = some (.ireturn, 1) := cg135_26.2.2.2.2.2.2
/-! StrikeAwake$Grounds.flawsOf(LStrikeAwake$Parish;LStrikeAwake$Walk;)J -/
theorem e140 : wq_en 140 = some (6, 7, false, some FieldType.long) := rfl
theorem cg140_0 : mc_cd 140 0 = some (.lconst 0, 1) ∧ mc_cd 140 1 = some (.lstore_n 2, 1) ∧ mc_cd 140 2 = some (.iconst 0, 1) ∧ mc_cd 140 3 = some (.istore 4, 2) ∧ mc_cd 140 5 = some (.iload 4, 2) ∧ mc_cd 140 7 = some (.aload_n 0, 1) ∧ mc_cd 140 8 = some (.getfield 88, 3) ∧ mc_cd 140 11 = some (.if_icmp .ge 64, 3) := by decide +kernel
theorem c140_0 : mc_cd 140 0 = some (.lconst 0, 1) := cg140_0.1
theorem c140_1 : mc_cd 140 1 = some (.lstore_n 2, 1) := cg140_0.2.1
theorem c140_2 : mc_cd 140 2 = some (.iconst 0, 1) := cg140_0.2.2.1
theorem c140_3 : mc_cd 140 3 = some (.istore 4, 2) := cg140_0.2.2.2.1
theorem c140_5 : mc_cd 140 5 = some (.iload 4, 2) := cg140_0.2.2.2.2.1
theorem c140_7 : mc_cd 140 7 = some (.aload_n 0, 1) := cg140_0.2.2.2.2.2.1
theorem c140_8 : mc_cd 140 8 = some (.getfield 88, 3) := cg140_0.2.2.2.2.2.2.1
theorem c140_11 : mc_cd 140 11 = some (.if_icmp .ge 64, 3) := cg140_0.2.2.2.2.2.2.2
theorem cg140_14 : mc_cd 140 14 = some (.aload_n 0, 1) ∧ mc_cd 140 15 = some (.getfield 91, 3) ∧ mc_cd 140 18 = some (.iload 4, 2) ∧ mc_cd 140 20 = some (.iaload, 1) ∧ mc_cd 140 21 = some (.istore 5, 2) ∧ mc_cd 140 23 = some (.aload_n 0, 1) ∧ mc_cd 140 24 = some (.iload 5, 2) ∧ mc_cd 140 26 = some (.aload_n 1, 1) := by decide +kernel
theorem c140_14 : mc_cd 140 14 = some (.aload_n 0, 1) := cg140_14.1
theorem c140_15 : mc_cd 140 15 = some (.getfield 91, 3) := cg140_14.2.1
theorem c140_18 : mc_cd 140 18 = some (.iload 4, 2) := cg140_14.2.2.1
theorem c140_20 : mc_cd 140 20 = some (.iaload, 1) := cg140_14.2.2.2.1
theorem c140_21 : mc_cd 140 21 = some (.istore 5, 2) := cg140_14.2.2.2.2.1
theorem c140_23 : mc_cd 140 23 = some (.aload_n 0, 1) := cg140_14.2.2.2.2.2.1
theorem c140_24 : mc_cd 140 24 = some (.iload 5, 2) := cg140_14.2.2.2.2.2.2.1
theorem c140_26 : mc_cd 140 26 = some (.aload_n 1, 1) := cg140_14.2.2.2.2.2.2.2
theorem cg140_27 : mc_cd 140 27 = some (.iload 5, 2) ∧ mc_cd 140 29 = some (.invokevirtual 94, 3) ∧ mc_cd 140 32 = some (.invokevirtual 97, 3) ∧ mc_cd 140 35 = some (.istore 6, 2) ∧ mc_cd 140 37 = some (.iload 6, 2) ∧ mc_cd 140 39 = some (.iconst 2, 1) ∧ mc_cd 140 40 = some (.if_icmp .ne 13, 3) ∧ mc_cd 140 43 = some (.lload_n 2, 1) := by decide +kernel
theorem c140_27 : mc_cd 140 27 = some (.iload 5, 2) := cg140_27.1
theorem c140_29 : mc_cd 140 29 = some (.invokevirtual 94, 3) := cg140_27.2.1
theorem c140_32 : mc_cd 140 32 = some (.invokevirtual 97, 3) := cg140_27.2.2.1
theorem c140_35 : mc_cd 140 35 = some (.istore 6, 2) := cg140_27.2.2.2.1
theorem c140_37 : mc_cd 140 37 = some (.iload 6, 2) := cg140_27.2.2.2.2.1
theorem c140_39 : mc_cd 140 39 = some (.iconst 2, 1) := cg140_27.2.2.2.2.2.1
theorem c140_40 : mc_cd 140 40 = some (.if_icmp .ne 13, 3) := cg140_27.2.2.2.2.2.2.1
theorem c140_43 : mc_cd 140 43 = some (.lload_n 2, 1) := cg140_27.2.2.2.2.2.2.2
theorem cg140_44 : mc_cd 140 44 = some (.lconst 1, 1) ∧ mc_cd 140 45 = some (.iload 5, 2) ∧ mc_cd 140 47 = some (.lshl, 1) ∧ mc_cd 140 48 = some (.lor, 1) ∧ mc_cd 140 49 = some (.lstore_n 2, 1) ∧ mc_cd 140 50 = some (.goto 19, 3) ∧ mc_cd 140 53 = some (.iload 6, 2) ∧ mc_cd 140 55 = some (.iconst 1, 1) := by decide +kernel
theorem c140_44 : mc_cd 140 44 = some (.lconst 1, 1) := cg140_44.1
theorem c140_45 : mc_cd 140 45 = some (.iload 5, 2) := cg140_44.2.1
theorem c140_47 : mc_cd 140 47 = some (.lshl, 1) := cg140_44.2.2.1
theorem c140_48 : mc_cd 140 48 = some (.lor, 1) := cg140_44.2.2.2.1
theorem c140_49 : mc_cd 140 49 = some (.lstore_n 2, 1) := cg140_44.2.2.2.2.1
theorem c140_50 : mc_cd 140 50 = some (.goto 19, 3) := cg140_44.2.2.2.2.2.1
theorem c140_53 : mc_cd 140 53 = some (.iload 6, 2) := cg140_44.2.2.2.2.2.2.1
theorem c140_55 : mc_cd 140 55 = some (.iconst 1, 1) := cg140_44.2.2.2.2.2.2.2
theorem cg140_56 : mc_cd 140 56 = some (.if_icmp .ne 13, 3) ∧ mc_cd 140 59 = some (.lload_n 2, 1) ∧ mc_cd 140 60 = some (.lconst 1, 1) ∧ mc_cd 140 61 = some (.iload 5, 2) ∧ mc_cd 140 63 = some (.bipush 32, 2) ∧ mc_cd 140 65 = some (.iadd, 1) ∧ mc_cd 140 66 = some (.lshl, 1) ∧ mc_cd 140 67 = some (.lor, 1) := by decide +kernel
theorem c140_56 : mc_cd 140 56 = some (.if_icmp .ne 13, 3) := cg140_56.1
theorem c140_59 : mc_cd 140 59 = some (.lload_n 2, 1) := cg140_56.2.1
theorem c140_60 : mc_cd 140 60 = some (.lconst 1, 1) := cg140_56.2.2.1
theorem c140_61 : mc_cd 140 61 = some (.iload 5, 2) := cg140_56.2.2.2.1
theorem c140_63 : mc_cd 140 63 = some (.bipush 32, 2) := cg140_56.2.2.2.2.1
theorem c140_65 : mc_cd 140 65 = some (.iadd, 1) := cg140_56.2.2.2.2.2.1
theorem c140_66 : mc_cd 140 66 = some (.lshl, 1) := cg140_56.2.2.2.2.2.2.1
theorem c140_67 : mc_cd 140 67 = some (.lor, 1) := cg140_56.2.2.2.2.2.2.2
theorem cg140_68 : mc_cd 140 68 = some (.lstore_n 2, 1) ∧ mc_cd 140 69 = some (.iinc 4 1, 3) ∧ mc_cd 140 72 = some (.goto (-67), 3) ∧ mc_cd 140 75 = some (.lload_n 2, 1) ∧ mc_cd 140 76 = some (.lreturn, 1) := by decide +kernel
theorem c140_68 : mc_cd 140 68 = some (.lstore_n 2, 1) := cg140_68.1
theorem c140_69 : mc_cd 140 69 = some (.iinc 4 1, 3) := cg140_68.2.1
theorem c140_72 : mc_cd 140 72 = some (.goto (-67), 3) := cg140_68.2.2.1
theorem c140_75 : mc_cd 140 75 = some (.lload_n 2, 1) := cg140_68.2.2.2.1
theorem c140_76 : mc_cd 140 76 = some (.lreturn, 1) := cg140_68.2.2.2.2
/-! StrikeAwake$Grounds.gather(LStrikeAwake$Parish;LStrikeAwake$Walk;)V -/
theorem e139 : wq_en 139 = some (6, 4, false, none) := rfl
theorem cg139_0 : mc_cd 139 0 = some (.aload_n 0, 1) ∧ mc_cd 139 1 = some (.iconst 0, 1) ∧ mc_cd 139 2 = some (.putfield 68, 3) ∧ mc_cd 139 5 = some (.aload_n 0, 1) ∧ mc_cd 139 6 = some (.iconst 0, 1) ∧ mc_cd 139 7 = some (.putfield 81, 3) ∧ mc_cd 139 10 = some (.aload_n 2, 1) ∧ mc_cd 139 11 = some (.aload_n 1, 1) := by decide +kernel
theorem c139_0 : mc_cd 139 0 = some (.aload_n 0, 1) := cg139_0.1
theorem c139_1 : mc_cd 139 1 = some (.iconst 0, 1) := cg139_0.2.1
theorem c139_2 : mc_cd 139 2 = some (.putfield 68, 3) := cg139_0.2.2.1
theorem c139_5 : mc_cd 139 5 = some (.aload_n 0, 1) := cg139_0.2.2.2.1
theorem c139_6 : mc_cd 139 6 = some (.iconst 0, 1) := cg139_0.2.2.2.2.1
theorem c139_7 : mc_cd 139 7 = some (.putfield 81, 3) := cg139_0.2.2.2.2.2.1
theorem c139_10 : mc_cd 139 10 = some (.aload_n 2, 1) := cg139_0.2.2.2.2.2.2.1
theorem c139_11 : mc_cd 139 11 = some (.aload_n 1, 1) := cg139_0.2.2.2.2.2.2.2
theorem cg139_12 : mc_cd 139 12 = some (.invokevirtual 28, 3) ∧ mc_cd 139 15 = some (.iconst 0, 1) ∧ mc_cd 139 16 = some (.istore_n 3, 1) ∧ mc_cd 139 17 = some (.iload_n 3, 1) ∧ mc_cd 139 18 = some (.i2l, 1) ∧ mc_cd 139 19 = some (.aload_n 1, 1) ∧ mc_cd 139 20 = some (.getfield 34, 3) ∧ mc_cd 139 23 = some (.lcmp, 1) := by decide +kernel
theorem c139_12 : mc_cd 139 12 = some (.invokevirtual 28, 3) := cg139_12.1
theorem c139_15 : mc_cd 139 15 = some (.iconst 0, 1) := cg139_12.2.1
theorem c139_16 : mc_cd 139 16 = some (.istore_n 3, 1) := cg139_12.2.2.1
theorem c139_17 : mc_cd 139 17 = some (.iload_n 3, 1) := cg139_12.2.2.2.1
theorem c139_18 : mc_cd 139 18 = some (.i2l, 1) := cg139_12.2.2.2.2.1
theorem c139_19 : mc_cd 139 19 = some (.aload_n 1, 1) := cg139_12.2.2.2.2.2.1
theorem c139_20 : mc_cd 139 20 = some (.getfield 34, 3) := cg139_12.2.2.2.2.2.2.1
theorem c139_23 : mc_cd 139 23 = some (.lcmp, 1) := cg139_12.2.2.2.2.2.2.2
theorem cg139_24 : mc_cd 139 24 = some (.ifCond .ge 52, 3) ∧ mc_cd 139 27 = some (.iload_n 3, 1) ∧ mc_cd 139 28 = some (.sipush 5000, 3) ∧ mc_cd 139 31 = some (.if_icmp .ge 45, 3) ∧ mc_cd 139 34 = some (.aload_n 2, 1) ∧ mc_cd 139 35 = some (.invokevirtual 47, 3) ∧ mc_cd 139 38 = some (.ifCond .ne 27, 3) ∧ mc_cd 139 41 = some (.aload_n 0, 1) := by decide +kernel
theorem c139_24 : mc_cd 139 24 = some (.ifCond .ge 52, 3) := cg139_24.1
theorem c139_27 : mc_cd 139 27 = some (.iload_n 3, 1) := cg139_24.2.1
theorem c139_28 : mc_cd 139 28 = some (.sipush 5000, 3) := cg139_24.2.2.1
theorem c139_31 : mc_cd 139 31 = some (.if_icmp .ge 45, 3) := cg139_24.2.2.2.1
theorem c139_34 : mc_cd 139 34 = some (.aload_n 2, 1) := cg139_24.2.2.2.2.1
theorem c139_35 : mc_cd 139 35 = some (.invokevirtual 47, 3) := cg139_24.2.2.2.2.2.1
theorem c139_38 : mc_cd 139 38 = some (.ifCond .ne 27, 3) := cg139_24.2.2.2.2.2.2.1
theorem c139_41 : mc_cd 139 41 = some (.aload_n 0, 1) := cg139_24.2.2.2.2.2.2.2
theorem cg139_42 : mc_cd 139 42 = some (.getfield 9, 3) ∧ mc_cd 139 45 = some (.aload_n 0, 1) ∧ mc_cd 139 46 = some (.getfield 68, 3) ∧ mc_cd 139 49 = some (.aload_n 1, 1) ∧ mc_cd 139 50 = some (.aload_n 2, 1) ∧ mc_cd 139 51 = some (.invokestatic 84, 3) ∧ mc_cd 139 54 = some (.lastore, 1) ∧ mc_cd 139 55 = some (.aload_n 0, 1) := by decide +kernel
theorem c139_42 : mc_cd 139 42 = some (.getfield 9, 3) := cg139_42.1
theorem c139_45 : mc_cd 139 45 = some (.aload_n 0, 1) := cg139_42.2.1
theorem c139_46 : mc_cd 139 46 = some (.getfield 68, 3) := cg139_42.2.2.1
theorem c139_49 : mc_cd 139 49 = some (.aload_n 1, 1) := cg139_42.2.2.2.1
theorem c139_50 : mc_cd 139 50 = some (.aload_n 2, 1) := cg139_42.2.2.2.2.1
theorem c139_51 : mc_cd 139 51 = some (.invokestatic 84, 3) := cg139_42.2.2.2.2.2.1
theorem c139_54 : mc_cd 139 54 = some (.lastore, 1) := cg139_42.2.2.2.2.2.2.1
theorem c139_55 : mc_cd 139 55 = some (.aload_n 0, 1) := cg139_42.2.2.2.2.2.2.2
theorem cg139_56 : mc_cd 139 56 = some (.dup, 1) ∧ mc_cd 139 57 = some (.getfield 68, 3) ∧ mc_cd 139 60 = some (.iconst 1, 1) ∧ mc_cd 139 61 = some (.iadd, 1) ∧ mc_cd 139 62 = some (.putfield 68, 3) ∧ mc_cd 139 65 = some (.aload_n 2, 1) ∧ mc_cd 139 66 = some (.aload_n 1, 1) ∧ mc_cd 139 67 = some (.invokevirtual 61, 3) := by decide +kernel
theorem c139_56 : mc_cd 139 56 = some (.dup, 1) := cg139_56.1
theorem c139_57 : mc_cd 139 57 = some (.getfield 68, 3) := cg139_56.2.1
theorem c139_60 : mc_cd 139 60 = some (.iconst 1, 1) := cg139_56.2.2.1
theorem c139_61 : mc_cd 139 61 = some (.iadd, 1) := cg139_56.2.2.2.1
theorem c139_62 : mc_cd 139 62 = some (.putfield 68, 3) := cg139_56.2.2.2.2.1
theorem c139_65 : mc_cd 139 65 = some (.aload_n 2, 1) := cg139_56.2.2.2.2.2.1
theorem c139_66 : mc_cd 139 66 = some (.aload_n 1, 1) := cg139_56.2.2.2.2.2.2.1
theorem c139_67 : mc_cd 139 67 = some (.invokevirtual 61, 3) := cg139_56.2.2.2.2.2.2.2
theorem cg139_70 : mc_cd 139 70 = some (.iinc 3 1, 3) ∧ mc_cd 139 73 = some (.goto (-56), 3) ∧ mc_cd 139 76 = some (.return_, 1) := by decide +kernel
theorem c139_70 : mc_cd 139 70 = some (.iinc 3 1, 3) := cg139_70.1
theorem c139_73 : mc_cd 139 73 = some (.goto (-56), 3) := cg139_70.2.1
theorem c139_76 : mc_cd 139 76 = some (.return_, 1) := cg139_70.2.2
/-! StrikeAwake$Grounds.isLeft(LStrikeAwake$Parish;JI)Z -/
theorem e143 : wq_en 143 = some (6, 6, false, some FieldType.boolean) := rfl
theorem cg143_0 : mc_cd 143 0 = some (.lload_n 1, 1) ∧ mc_cd 143 1 = some (.l2i, 1) ∧ mc_cd 143 2 = some (.iload_n 3, 1) ∧ mc_cd 143 3 = some (.iand, 1) ∧ mc_cd 143 4 = some (.istore 4, 2) ∧ mc_cd 143 6 = some (.lload_n 1, 1) ∧ mc_cd 143 7 = some (.bipush 32, 2) ∧ mc_cd 143 9 = some (.lshr, 1) := by decide +kernel
theorem c143_0 : mc_cd 143 0 = some (.lload_n 1, 1) := cg143_0.1
theorem c143_1 : mc_cd 143 1 = some (.l2i, 1) := cg143_0.2.1
theorem c143_2 : mc_cd 143 2 = some (.iload_n 3, 1) := cg143_0.2.2.1
theorem c143_3 : mc_cd 143 3 = some (.iand, 1) := cg143_0.2.2.2.1
theorem c143_4 : mc_cd 143 4 = some (.istore 4, 2) := cg143_0.2.2.2.2.1
theorem c143_6 : mc_cd 143 6 = some (.lload_n 1, 1) := cg143_0.2.2.2.2.2.1
theorem c143_7 : mc_cd 143 7 = some (.bipush 32, 2) := cg143_0.2.2.2.2.2.2.1
theorem c143_9 : mc_cd 143 9 = some (.lshr, 1) := cg143_0.2.2.2.2.2.2.2
theorem cg143_10 : mc_cd 143 10 = some (.l2i, 1) ∧ mc_cd 143 11 = some (.iload_n 3, 1) ∧ mc_cd 143 12 = some (.iand, 1) ∧ mc_cd 143 13 = some (.istore 5, 2) ∧ mc_cd 143 15 = some (.iload 4, 2) ∧ mc_cd 143 17 = some (.ifCond .ne 19, 3) ∧ mc_cd 143 20 = some (.iload 5, 2) ∧ mc_cd 143 22 = some (.invokestatic 108, 3) := by decide +kernel
theorem c143_10 : mc_cd 143 10 = some (.l2i, 1) := cg143_10.1
theorem c143_11 : mc_cd 143 11 = some (.iload_n 3, 1) := cg143_10.2.1
theorem c143_12 : mc_cd 143 12 = some (.iand, 1) := cg143_10.2.2.1
theorem c143_13 : mc_cd 143 13 = some (.istore 5, 2) := cg143_10.2.2.2.1
theorem c143_15 : mc_cd 143 15 = some (.iload 4, 2) := cg143_10.2.2.2.2.1
theorem c143_17 : mc_cd 143 17 = some (.ifCond .ne 19, 3) := cg143_10.2.2.2.2.2.1
theorem c143_20 : mc_cd 143 20 = some (.iload 5, 2) := cg143_10.2.2.2.2.2.2.1
theorem c143_22 : mc_cd 143 22 = some (.invokestatic 108, 3) := cg143_10.2.2.2.2.2.2.2
theorem cg143_25 : mc_cd 143 25 = some (.aload_n 0, 1) ∧ mc_cd 143 26 = some (.getfield 113, 3) ∧ mc_cd 143 29 = some (.if_icmp .gt 7, 3) ∧ mc_cd 143 32 = some (.iconst 1, 1) ∧ mc_cd 143 33 = some (.goto 4, 3) ∧ mc_cd 143 36 = some (.iconst 0, 1) ∧ mc_cd 143 37 = some (.ireturn, 1) := by decide +kernel
theorem c143_25 : mc_cd 143 25 = some (.aload_n 0, 1) := cg143_25.1
theorem c143_26 : mc_cd 143 26 = some (.getfield 113, 3) := cg143_25.2.1
theorem c143_29 : mc_cd 143 29 = some (.if_icmp .gt 7, 3) := cg143_25.2.2.1
theorem c143_32 : mc_cd 143 32 = some (.iconst 1, 1) := cg143_25.2.2.2.1
theorem c143_33 : mc_cd 143 33 = some (.goto 4, 3) := cg143_25.2.2.2.2.1
theorem c143_36 : mc_cd 143 36 = some (.iconst 0, 1) := cg143_25.2.2.2.2.2.1
theorem c143_37 : mc_cd 143 37 = some (.ireturn, 1) := cg143_25.2.2.2.2.2.2
/-! StrikeAwake$Grounds.leavesNone(LStrikeAwake$Parish;I)Z -/
theorem e142 : wq_en 142 = some (6, 4, false, some FieldType.boolean) := rfl
theorem cg142_0 : mc_cd 142 0 = some (.aload_n 0, 1) ∧ mc_cd 142 1 = some (.getfield 81, 3) ∧ mc_cd 142 4 = some (.aload_n 0, 1) ∧ mc_cd 142 5 = some (.getfield 68, 3) ∧ mc_cd 142 8 = some (.if_icmp .ge 22, 3) ∧ mc_cd 142 11 = some (.aload_n 1, 1) ∧ mc_cd 142 12 = some (.aload_n 0, 1) ∧ mc_cd 142 13 = some (.getfield 9, 3) := by decide +kernel
theorem c142_0 : mc_cd 142 0 = some (.aload_n 0, 1) := cg142_0.1
theorem c142_1 : mc_cd 142 1 = some (.getfield 81, 3) := cg142_0.2.1
theorem c142_4 : mc_cd 142 4 = some (.aload_n 0, 1) := cg142_0.2.2.1
theorem c142_5 : mc_cd 142 5 = some (.getfield 68, 3) := cg142_0.2.2.2.1
theorem c142_8 : mc_cd 142 8 = some (.if_icmp .ge 22, 3) := cg142_0.2.2.2.2.1
theorem c142_11 : mc_cd 142 11 = some (.aload_n 1, 1) := cg142_0.2.2.2.2.2.1
theorem c142_12 : mc_cd 142 12 = some (.aload_n 0, 1) := cg142_0.2.2.2.2.2.2.1
theorem c142_13 : mc_cd 142 13 = some (.getfield 9, 3) := cg142_0.2.2.2.2.2.2.2
theorem cg142_16 : mc_cd 142 16 = some (.aload_n 0, 1) ∧ mc_cd 142 17 = some (.getfield 81, 3) ∧ mc_cd 142 20 = some (.laload, 1) ∧ mc_cd 142 21 = some (.iload_n 2, 1) ∧ mc_cd 142 22 = some (.invokestatic 104, 3) ∧ mc_cd 142 25 = some (.ifCond .eq 5, 3) ∧ mc_cd 142 28 = some (.iconst 0, 1) ∧ mc_cd 142 29 = some (.ireturn, 1) := by decide +kernel
theorem c142_16 : mc_cd 142 16 = some (.aload_n 0, 1) := cg142_16.1
theorem c142_17 : mc_cd 142 17 = some (.getfield 81, 3) := cg142_16.2.1
theorem c142_20 : mc_cd 142 20 = some (.laload, 1) := cg142_16.2.2.1
theorem c142_21 : mc_cd 142 21 = some (.iload_n 2, 1) := cg142_16.2.2.2.1
theorem c142_22 : mc_cd 142 22 = some (.invokestatic 104, 3) := cg142_16.2.2.2.2.1
theorem c142_25 : mc_cd 142 25 = some (.ifCond .eq 5, 3) := cg142_16.2.2.2.2.2.1
theorem c142_28 : mc_cd 142 28 = some (.iconst 0, 1) := cg142_16.2.2.2.2.2.2.1
theorem c142_29 : mc_cd 142 29 = some (.ireturn, 1) := cg142_16.2.2.2.2.2.2.2
theorem cg142_30 : mc_cd 142 30 = some (.iconst 0, 1) ∧ mc_cd 142 31 = some (.istore_n 3, 1) ∧ mc_cd 142 32 = some (.iload_n 3, 1) ∧ mc_cd 142 33 = some (.aload_n 0, 1) ∧ mc_cd 142 34 = some (.getfield 68, 3) ∧ mc_cd 142 37 = some (.if_icmp .ge 30, 3) ∧ mc_cd 142 40 = some (.aload_n 1, 1) ∧ mc_cd 142 41 = some (.aload_n 0, 1) := by decide +kernel
theorem c142_30 : mc_cd 142 30 = some (.iconst 0, 1) := cg142_30.1
theorem c142_31 : mc_cd 142 31 = some (.istore_n 3, 1) := cg142_30.2.1
theorem c142_32 : mc_cd 142 32 = some (.iload_n 3, 1) := cg142_30.2.2.1
theorem c142_33 : mc_cd 142 33 = some (.aload_n 0, 1) := cg142_30.2.2.2.1
theorem c142_34 : mc_cd 142 34 = some (.getfield 68, 3) := cg142_30.2.2.2.2.1
theorem c142_37 : mc_cd 142 37 = some (.if_icmp .ge 30, 3) := cg142_30.2.2.2.2.2.1
theorem c142_40 : mc_cd 142 40 = some (.aload_n 1, 1) := cg142_30.2.2.2.2.2.2.1
theorem c142_41 : mc_cd 142 41 = some (.aload_n 0, 1) := cg142_30.2.2.2.2.2.2.2
theorem cg142_42 : mc_cd 142 42 = some (.getfield 9, 3) ∧ mc_cd 142 45 = some (.iload_n 3, 1) ∧ mc_cd 142 46 = some (.laload, 1) ∧ mc_cd 142 47 = some (.iload_n 2, 1) ∧ mc_cd 142 48 = some (.invokestatic 104, 3) ∧ mc_cd 142 51 = some (.ifCond .eq 10, 3) ∧ mc_cd 142 54 = some (.aload_n 0, 1) ∧ mc_cd 142 55 = some (.iload_n 3, 1) := by decide +kernel
theorem c142_42 : mc_cd 142 42 = some (.getfield 9, 3) := cg142_42.1
theorem c142_45 : mc_cd 142 45 = some (.iload_n 3, 1) := cg142_42.2.1
theorem c142_46 : mc_cd 142 46 = some (.laload, 1) := cg142_42.2.2.1
theorem c142_47 : mc_cd 142 47 = some (.iload_n 2, 1) := cg142_42.2.2.2.1
theorem c142_48 : mc_cd 142 48 = some (.invokestatic 104, 3) := cg142_42.2.2.2.2.1
theorem c142_51 : mc_cd 142 51 = some (.ifCond .eq 10, 3) := cg142_42.2.2.2.2.2.1
theorem c142_54 : mc_cd 142 54 = some (.aload_n 0, 1) := cg142_42.2.2.2.2.2.2.1
theorem c142_55 : mc_cd 142 55 = some (.iload_n 3, 1) := cg142_42.2.2.2.2.2.2.2
theorem cg142_56 : mc_cd 142 56 = some (.putfield 81, 3) ∧ mc_cd 142 59 = some (.iconst 0, 1) ∧ mc_cd 142 60 = some (.ireturn, 1) ∧ mc_cd 142 61 = some (.iinc 3 1, 3) ∧ mc_cd 142 64 = some (.goto (-32), 3) ∧ mc_cd 142 67 = some (.iconst 1, 1) ∧ mc_cd 142 68 = some (.ireturn, 1) := by decide +kernel
theorem c142_56 : mc_cd 142 56 = some (.putfield 81, 3) := cg142_56.1
theorem c142_59 : mc_cd 142 59 = some (.iconst 0, 1) := cg142_56.2.1
theorem c142_60 : mc_cd 142 60 = some (.ireturn, 1) := cg142_56.2.2.1
theorem c142_61 : mc_cd 142 61 = some (.iinc 3 1, 3) := cg142_56.2.2.2.1
theorem c142_64 : mc_cd 142 64 = some (.goto (-32), 3) := cg142_56.2.2.2.2.1
theorem c142_67 : mc_cd 142 67 = some (.iconst 1, 1) := cg142_56.2.2.2.2.2.1
theorem c142_68 : mc_cd 142 68 = some (.ireturn, 1) := cg142_56.2.2.2.2.2.2
/-! StrikeAwake$Grounds.oneHour(LStrikeAwake$Parish;)I -/
theorem e141 : wq_en 141 = some (6, 4, false, some FieldType.int) := rfl
theorem cg141_0 : mc_cd 141 0 = some (.iconst 0, 1) ∧ mc_cd 141 1 = some (.istore_n 2, 1) ∧ mc_cd 141 2 = some (.iload_n 2, 1) ∧ mc_cd 141 3 = some (.aload_n 1, 1) ∧ mc_cd 141 4 = some (.getfield 88, 3) ∧ mc_cd 141 7 = some (.if_icmp .ge 29, 3) ∧ mc_cd 141 10 = some (.iconst 1, 1) ∧ mc_cd 141 11 = some (.aload_n 1, 1) := by decide +kernel
theorem c141_0 : mc_cd 141 0 = some (.iconst 0, 1) := cg141_0.1
theorem c141_1 : mc_cd 141 1 = some (.istore_n 2, 1) := cg141_0.2.1
theorem c141_2 : mc_cd 141 2 = some (.iload_n 2, 1) := cg141_0.2.2.1
theorem c141_3 : mc_cd 141 3 = some (.aload_n 1, 1) := cg141_0.2.2.2.1
theorem c141_4 : mc_cd 141 4 = some (.getfield 88, 3) := cg141_0.2.2.2.2.1
theorem c141_7 : mc_cd 141 7 = some (.if_icmp .ge 29, 3) := cg141_0.2.2.2.2.2.1
theorem c141_10 : mc_cd 141 10 = some (.iconst 1, 1) := cg141_0.2.2.2.2.2.2.1
theorem c141_11 : mc_cd 141 11 = some (.aload_n 1, 1) := cg141_0.2.2.2.2.2.2.2
theorem cg141_12 : mc_cd 141 12 = some (.getfield 91, 3) ∧ mc_cd 141 15 = some (.iload_n 2, 1) ∧ mc_cd 141 16 = some (.iaload, 1) ∧ mc_cd 141 17 = some (.ishl, 1) ∧ mc_cd 141 18 = some (.istore_n 3, 1) ∧ mc_cd 141 19 = some (.aload_n 0, 1) ∧ mc_cd 141 20 = some (.aload_n 1, 1) ∧ mc_cd 141 21 = some (.iload_n 3, 1) := by decide +kernel
theorem c141_12 : mc_cd 141 12 = some (.getfield 91, 3) := cg141_12.1
theorem c141_15 : mc_cd 141 15 = some (.iload_n 2, 1) := cg141_12.2.1
theorem c141_16 : mc_cd 141 16 = some (.iaload, 1) := cg141_12.2.2.1
theorem c141_17 : mc_cd 141 17 = some (.ishl, 1) := cg141_12.2.2.2.1
theorem c141_18 : mc_cd 141 18 = some (.istore_n 3, 1) := cg141_12.2.2.2.2.1
theorem c141_19 : mc_cd 141 19 = some (.aload_n 0, 1) := cg141_12.2.2.2.2.2.1
theorem c141_20 : mc_cd 141 20 = some (.aload_n 1, 1) := cg141_12.2.2.2.2.2.2.1
theorem c141_21 : mc_cd 141 21 = some (.iload_n 3, 1) := cg141_12.2.2.2.2.2.2.2
theorem cg141_22 : mc_cd 141 22 = some (.invokevirtual 100, 3) ∧ mc_cd 141 25 = some (.ifCond .eq 5, 3) ∧ mc_cd 141 28 = some (.iload_n 3, 1) ∧ mc_cd 141 29 = some (.ireturn, 1) ∧ mc_cd 141 30 = some (.iinc 2 1, 3) ∧ mc_cd 141 33 = some (.goto (-31), 3) ∧ mc_cd 141 36 = some (.bipush (-2), 2) ∧ mc_cd 141 38 = some (.ireturn, 1) := by decide +kernel
theorem c141_22 : mc_cd 141 22 = some (.invokevirtual 100, 3) := cg141_22.1
theorem c141_25 : mc_cd 141 25 = some (.ifCond .eq 5, 3) := cg141_22.2.1
theorem c141_28 : mc_cd 141 28 = some (.iload_n 3, 1) := cg141_22.2.2.1
theorem c141_29 : mc_cd 141 29 = some (.ireturn, 1) := cg141_22.2.2.2.1
theorem c141_30 : mc_cd 141 30 = some (.iinc 2 1, 3) := cg141_22.2.2.2.2.1
theorem c141_33 : mc_cd 141 33 = some (.goto (-31), 3) := cg141_22.2.2.2.2.2.1
theorem c141_36 : mc_cd 141 36 = some (.bipush (-2), 2) := cg141_22.2.2.2.2.2.2.1
theorem c141_38 : mc_cd 141 38 = some (.ireturn, 1) := cg141_22.2.2.2.2.2.2.2
/-! StrikeAwake$Grounds.twoHours(LStrikeAwake$Parish;)I -/
theorem e144 : wq_en 144 = some (6, 5, false, some FieldType.int) := rfl
theorem cg144_0 : mc_cd 144 0 = some (.iconst 1, 1) ∧ mc_cd 144 1 = some (.istore_n 2, 1) ∧ mc_cd 144 2 = some (.iload_n 2, 1) ∧ mc_cd 144 3 = some (.aload_n 1, 1) ∧ mc_cd 144 4 = some (.getfield 88, 3) ∧ mc_cd 144 7 = some (.if_icmp .ge 54, 3) ∧ mc_cd 144 10 = some (.iconst 0, 1) ∧ mc_cd 144 11 = some (.istore_n 3, 1) := by decide +kernel
theorem c144_0 : mc_cd 144 0 = some (.iconst 1, 1) := cg144_0.1
theorem c144_1 : mc_cd 144 1 = some (.istore_n 2, 1) := cg144_0.2.1
theorem c144_2 : mc_cd 144 2 = some (.iload_n 2, 1) := cg144_0.2.2.1
theorem c144_3 : mc_cd 144 3 = some (.aload_n 1, 1) := cg144_0.2.2.2.1
theorem c144_4 : mc_cd 144 4 = some (.getfield 88, 3) := cg144_0.2.2.2.2.1
theorem c144_7 : mc_cd 144 7 = some (.if_icmp .ge 54, 3) := cg144_0.2.2.2.2.2.1
theorem c144_10 : mc_cd 144 10 = some (.iconst 0, 1) := cg144_0.2.2.2.2.2.2.1
theorem c144_11 : mc_cd 144 11 = some (.istore_n 3, 1) := cg144_0.2.2.2.2.2.2.2
theorem cg144_12 : mc_cd 144 12 = some (.iload_n 3, 1) ∧ mc_cd 144 13 = some (.iload_n 2, 1) ∧ mc_cd 144 14 = some (.if_icmp .ge 41, 3) ∧ mc_cd 144 17 = some (.iconst 1, 1) ∧ mc_cd 144 18 = some (.aload_n 1, 1) ∧ mc_cd 144 19 = some (.getfield 91, 3) ∧ mc_cd 144 22 = some (.iload_n 2, 1) ∧ mc_cd 144 23 = some (.iaload, 1) := by decide +kernel
theorem c144_12 : mc_cd 144 12 = some (.iload_n 3, 1) := cg144_12.1
theorem c144_13 : mc_cd 144 13 = some (.iload_n 2, 1) := cg144_12.2.1
theorem c144_14 : mc_cd 144 14 = some (.if_icmp .ge 41, 3) := cg144_12.2.2.1
theorem c144_17 : mc_cd 144 17 = some (.iconst 1, 1) := cg144_12.2.2.2.1
theorem c144_18 : mc_cd 144 18 = some (.aload_n 1, 1) := cg144_12.2.2.2.2.1
theorem c144_19 : mc_cd 144 19 = some (.getfield 91, 3) := cg144_12.2.2.2.2.2.1
theorem c144_22 : mc_cd 144 22 = some (.iload_n 2, 1) := cg144_12.2.2.2.2.2.2.1
theorem c144_23 : mc_cd 144 23 = some (.iaload, 1) := cg144_12.2.2.2.2.2.2.2
theorem cg144_24 : mc_cd 144 24 = some (.ishl, 1) ∧ mc_cd 144 25 = some (.iconst 1, 1) ∧ mc_cd 144 26 = some (.aload_n 1, 1) ∧ mc_cd 144 27 = some (.getfield 91, 3) ∧ mc_cd 144 30 = some (.iload_n 3, 1) ∧ mc_cd 144 31 = some (.iaload, 1) ∧ mc_cd 144 32 = some (.ishl, 1) ∧ mc_cd 144 33 = some (.ior, 1) := by decide +kernel
theorem c144_24 : mc_cd 144 24 = some (.ishl, 1) := cg144_24.1
theorem c144_25 : mc_cd 144 25 = some (.iconst 1, 1) := cg144_24.2.1
theorem c144_26 : mc_cd 144 26 = some (.aload_n 1, 1) := cg144_24.2.2.1
theorem c144_27 : mc_cd 144 27 = some (.getfield 91, 3) := cg144_24.2.2.2.1
theorem c144_30 : mc_cd 144 30 = some (.iload_n 3, 1) := cg144_24.2.2.2.2.1
theorem c144_31 : mc_cd 144 31 = some (.iaload, 1) := cg144_24.2.2.2.2.2.1
theorem c144_32 : mc_cd 144 32 = some (.ishl, 1) := cg144_24.2.2.2.2.2.2.1
theorem c144_33 : mc_cd 144 33 = some (.ior, 1) := cg144_24.2.2.2.2.2.2.2
theorem cg144_34 : mc_cd 144 34 = some (.istore 4, 2) ∧ mc_cd 144 36 = some (.aload_n 0, 1) ∧ mc_cd 144 37 = some (.aload_n 1, 1) ∧ mc_cd 144 38 = some (.iload 4, 2) ∧ mc_cd 144 40 = some (.invokevirtual 100, 3) ∧ mc_cd 144 43 = some (.ifCond .eq 6, 3) ∧ mc_cd 144 46 = some (.iload 4, 2) ∧ mc_cd 144 48 = some (.ireturn, 1) := by decide +kernel
theorem c144_34 : mc_cd 144 34 = some (.istore 4, 2) := cg144_34.1
theorem c144_36 : mc_cd 144 36 = some (.aload_n 0, 1) := cg144_34.2.1
theorem c144_37 : mc_cd 144 37 = some (.aload_n 1, 1) := cg144_34.2.2.1
theorem c144_38 : mc_cd 144 38 = some (.iload 4, 2) := cg144_34.2.2.2.1
theorem c144_40 : mc_cd 144 40 = some (.invokevirtual 100, 3) := cg144_34.2.2.2.2.1
theorem c144_43 : mc_cd 144 43 = some (.ifCond .eq 6, 3) := cg144_34.2.2.2.2.2.1
theorem c144_46 : mc_cd 144 46 = some (.iload 4, 2) := cg144_34.2.2.2.2.2.2.1
theorem c144_48 : mc_cd 144 48 = some (.ireturn, 1) := cg144_34.2.2.2.2.2.2.2
theorem cg144_49 : mc_cd 144 49 = some (.iinc 3 1, 3) ∧ mc_cd 144 52 = some (.goto (-40), 3) ∧ mc_cd 144 55 = some (.iinc 2 1, 3) ∧ mc_cd 144 58 = some (.goto (-56), 3) ∧ mc_cd 144 61 = some (.bipush (-2), 2) ∧ mc_cd 144 63 = some (.ireturn, 1) := by decide +kernel
theorem c144_49 : mc_cd 144 49 = some (.iinc 3 1, 3) := cg144_49.1
theorem c144_52 : mc_cd 144 52 = some (.goto (-40), 3) := cg144_49.2.1
theorem c144_55 : mc_cd 144 55 = some (.iinc 2 1, 3) := cg144_49.2.2.1
theorem c144_58 : mc_cd 144 58 = some (.goto (-56), 3) := cg144_49.2.2.2.1
theorem c144_61 : mc_cd 144 61 = some (.bipush (-2), 2) := cg144_49.2.2.2.2.1
theorem c144_63 : mc_cd 144 63 = some (.ireturn, 1) := cg144_49.2.2.2.2.2
/-! StrikeAwake$Grounds.threeHours(LStrikeAwake$Parish;)I -/
theorem e145 : wq_en 145 = some (6, 7, false, some FieldType.int) := rfl
theorem cg145_0 : mc_cd 145 0 = some (.iconst 2, 1) ∧ mc_cd 145 1 = some (.istore_n 2, 1) ∧ mc_cd 145 2 = some (.iload_n 2, 1) ∧ mc_cd 145 3 = some (.aload_n 1, 1) ∧ mc_cd 145 4 = some (.getfield 88, 3) ∧ mc_cd 145 7 = some (.if_icmp .ge 83, 3) ∧ mc_cd 145 10 = some (.iconst 1, 1) ∧ mc_cd 145 11 = some (.istore_n 3, 1) := by decide +kernel
theorem c145_0 : mc_cd 145 0 = some (.iconst 2, 1) := cg145_0.1
theorem c145_1 : mc_cd 145 1 = some (.istore_n 2, 1) := cg145_0.2.1
theorem c145_2 : mc_cd 145 2 = some (.iload_n 2, 1) := cg145_0.2.2.1
theorem c145_3 : mc_cd 145 3 = some (.aload_n 1, 1) := cg145_0.2.2.2.1
theorem c145_4 : mc_cd 145 4 = some (.getfield 88, 3) := cg145_0.2.2.2.2.1
theorem c145_7 : mc_cd 145 7 = some (.if_icmp .ge 83, 3) := cg145_0.2.2.2.2.2.1
theorem c145_10 : mc_cd 145 10 = some (.iconst 1, 1) := cg145_0.2.2.2.2.2.2.1
theorem c145_11 : mc_cd 145 11 = some (.istore_n 3, 1) := cg145_0.2.2.2.2.2.2.2
theorem cg145_12 : mc_cd 145 12 = some (.iload_n 3, 1) ∧ mc_cd 145 13 = some (.iload_n 2, 1) ∧ mc_cd 145 14 = some (.if_icmp .ge 70, 3) ∧ mc_cd 145 17 = some (.iconst 0, 1) ∧ mc_cd 145 18 = some (.istore 4, 2) ∧ mc_cd 145 20 = some (.iload 4, 2) ∧ mc_cd 145 22 = some (.iload_n 3, 1) ∧ mc_cd 145 23 = some (.if_icmp .ge 55, 3) := by decide +kernel
theorem c145_12 : mc_cd 145 12 = some (.iload_n 3, 1) := cg145_12.1
theorem c145_13 : mc_cd 145 13 = some (.iload_n 2, 1) := cg145_12.2.1
theorem c145_14 : mc_cd 145 14 = some (.if_icmp .ge 70, 3) := cg145_12.2.2.1
theorem c145_17 : mc_cd 145 17 = some (.iconst 0, 1) := cg145_12.2.2.2.1
theorem c145_18 : mc_cd 145 18 = some (.istore 4, 2) := cg145_12.2.2.2.2.1
theorem c145_20 : mc_cd 145 20 = some (.iload 4, 2) := cg145_12.2.2.2.2.2.1
theorem c145_22 : mc_cd 145 22 = some (.iload_n 3, 1) := cg145_12.2.2.2.2.2.2.1
theorem c145_23 : mc_cd 145 23 = some (.if_icmp .ge 55, 3) := cg145_12.2.2.2.2.2.2.2
theorem cg145_26 : mc_cd 145 26 = some (.iconst 1, 1) ∧ mc_cd 145 27 = some (.aload_n 1, 1) ∧ mc_cd 145 28 = some (.getfield 91, 3) ∧ mc_cd 145 31 = some (.iload_n 2, 1) ∧ mc_cd 145 32 = some (.iaload, 1) ∧ mc_cd 145 33 = some (.ishl, 1) ∧ mc_cd 145 34 = some (.iconst 1, 1) ∧ mc_cd 145 35 = some (.aload_n 1, 1) := by decide +kernel
theorem c145_26 : mc_cd 145 26 = some (.iconst 1, 1) := cg145_26.1
theorem c145_27 : mc_cd 145 27 = some (.aload_n 1, 1) := cg145_26.2.1
theorem c145_28 : mc_cd 145 28 = some (.getfield 91, 3) := cg145_26.2.2.1
theorem c145_31 : mc_cd 145 31 = some (.iload_n 2, 1) := cg145_26.2.2.2.1
theorem c145_32 : mc_cd 145 32 = some (.iaload, 1) := cg145_26.2.2.2.2.1
theorem c145_33 : mc_cd 145 33 = some (.ishl, 1) := cg145_26.2.2.2.2.2.1
theorem c145_34 : mc_cd 145 34 = some (.iconst 1, 1) := cg145_26.2.2.2.2.2.2.1
theorem c145_35 : mc_cd 145 35 = some (.aload_n 1, 1) := cg145_26.2.2.2.2.2.2.2
theorem cg145_36 : mc_cd 145 36 = some (.getfield 91, 3) ∧ mc_cd 145 39 = some (.iload_n 3, 1) ∧ mc_cd 145 40 = some (.iaload, 1) ∧ mc_cd 145 41 = some (.ishl, 1) ∧ mc_cd 145 42 = some (.ior, 1) ∧ mc_cd 145 43 = some (.istore 5, 2) ∧ mc_cd 145 45 = some (.iload 5, 2) ∧ mc_cd 145 47 = some (.iconst 1, 1) := by decide +kernel
theorem c145_36 : mc_cd 145 36 = some (.getfield 91, 3) := cg145_36.1
theorem c145_39 : mc_cd 145 39 = some (.iload_n 3, 1) := cg145_36.2.1
theorem c145_40 : mc_cd 145 40 = some (.iaload, 1) := cg145_36.2.2.1
theorem c145_41 : mc_cd 145 41 = some (.ishl, 1) := cg145_36.2.2.2.1
theorem c145_42 : mc_cd 145 42 = some (.ior, 1) := cg145_36.2.2.2.2.1
theorem c145_43 : mc_cd 145 43 = some (.istore 5, 2) := cg145_36.2.2.2.2.2.1
theorem c145_45 : mc_cd 145 45 = some (.iload 5, 2) := cg145_36.2.2.2.2.2.2.1
theorem c145_47 : mc_cd 145 47 = some (.iconst 1, 1) := cg145_36.2.2.2.2.2.2.2
theorem cg145_48 : mc_cd 145 48 = some (.aload_n 1, 1) ∧ mc_cd 145 49 = some (.getfield 91, 3) ∧ mc_cd 145 52 = some (.iload 4, 2) ∧ mc_cd 145 54 = some (.iaload, 1) ∧ mc_cd 145 55 = some (.ishl, 1) ∧ mc_cd 145 56 = some (.ior, 1) ∧ mc_cd 145 57 = some (.istore 6, 2) ∧ mc_cd 145 59 = some (.aload_n 0, 1) := by decide +kernel
theorem c145_48 : mc_cd 145 48 = some (.aload_n 1, 1) := cg145_48.1
theorem c145_49 : mc_cd 145 49 = some (.getfield 91, 3) := cg145_48.2.1
theorem c145_52 : mc_cd 145 52 = some (.iload 4, 2) := cg145_48.2.2.1
theorem c145_54 : mc_cd 145 54 = some (.iaload, 1) := cg145_48.2.2.2.1
theorem c145_55 : mc_cd 145 55 = some (.ishl, 1) := cg145_48.2.2.2.2.1
theorem c145_56 : mc_cd 145 56 = some (.ior, 1) := cg145_48.2.2.2.2.2.1
theorem c145_57 : mc_cd 145 57 = some (.istore 6, 2) := cg145_48.2.2.2.2.2.2.1
theorem c145_59 : mc_cd 145 59 = some (.aload_n 0, 1) := cg145_48.2.2.2.2.2.2.2
theorem cg145_60 : mc_cd 145 60 = some (.aload_n 1, 1) ∧ mc_cd 145 61 = some (.iload 6, 2) ∧ mc_cd 145 63 = some (.invokevirtual 100, 3) ∧ mc_cd 145 66 = some (.ifCond .eq 6, 3) ∧ mc_cd 145 69 = some (.iload 6, 2) ∧ mc_cd 145 71 = some (.ireturn, 1) ∧ mc_cd 145 72 = some (.iinc 4 1, 3) ∧ mc_cd 145 75 = some (.goto (-55), 3) := by decide +kernel
theorem c145_60 : mc_cd 145 60 = some (.aload_n 1, 1) := cg145_60.1
theorem c145_61 : mc_cd 145 61 = some (.iload 6, 2) := cg145_60.2.1
theorem c145_63 : mc_cd 145 63 = some (.invokevirtual 100, 3) := cg145_60.2.2.1
theorem c145_66 : mc_cd 145 66 = some (.ifCond .eq 6, 3) := cg145_60.2.2.2.1
theorem c145_69 : mc_cd 145 69 = some (.iload 6, 2) := cg145_60.2.2.2.2.1
theorem c145_71 : mc_cd 145 71 = some (.ireturn, 1) := cg145_60.2.2.2.2.2.1
theorem c145_72 : mc_cd 145 72 = some (.iinc 4 1, 3) := cg145_60.2.2.2.2.2.2.1
theorem c145_75 : mc_cd 145 75 = some (.goto (-55), 3) := cg145_60.2.2.2.2.2.2.2
theorem cg145_78 : mc_cd 145 78 = some (.iinc 3 1, 3) ∧ mc_cd 145 81 = some (.goto (-69), 3) ∧ mc_cd 145 84 = some (.iinc 2 1, 3) ∧ mc_cd 145 87 = some (.goto (-85), 3) ∧ mc_cd 145 90 = some (.bipush (-2), 2) ∧ mc_cd 145 92 = some (.ireturn, 1) := by decide +kernel
theorem c145_78 : mc_cd 145 78 = some (.iinc 3 1, 3) := cg145_78.1
theorem c145_81 : mc_cd 145 81 = some (.goto (-69), 3) := cg145_78.2.1
theorem c145_84 : mc_cd 145 84 = some (.iinc 2 1, 3) := cg145_78.2.2.1
theorem c145_87 : mc_cd 145 87 = some (.goto (-85), 3) := cg145_78.2.2.2.1
theorem c145_90 : mc_cd 145 90 = some (.bipush (-2), 2) := cg145_78.2.2.2.2.1
theorem c145_92 : mc_cd 145 92 = some (.ireturn, 1) := cg145_78.2.2.2.2.2
/-! StrikeAwake$Grounds.fewestHours(LStrikeAwake$Parish;LStrikeAwake$Walk;)I -/
theorem e138 : wq_en 138 = some (6, 4, false, some FieldType.int) := rfl
theorem cg138_0 : mc_cd 138 0 = some (.aload_n 0, 1) ∧ mc_cd 138 1 = some (.aload_n 1, 1) ∧ mc_cd 138 2 = some (.aload_n 2, 1) ∧ mc_cd 138 3 = some (.invokevirtual 64, 3) ∧ mc_cd 138 6 = some (.aload_n 0, 1) ∧ mc_cd 138 7 = some (.getfield 68, 3) ∧ mc_cd 138 10 = some (.ifCond .ne 5, 3) ∧ mc_cd 138 13 = some (.iconst 0, 1) := by decide +kernel
theorem c138_0 : mc_cd 138 0 = some (.aload_n 0, 1) := cg138_0.1
theorem c138_1 : mc_cd 138 1 = some (.aload_n 1, 1) := cg138_0.2.1
theorem c138_2 : mc_cd 138 2 = some (.aload_n 2, 1) := cg138_0.2.2.1
theorem c138_3 : mc_cd 138 3 = some (.invokevirtual 64, 3) := cg138_0.2.2.2.1
theorem c138_6 : mc_cd 138 6 = some (.aload_n 0, 1) := cg138_0.2.2.2.2.1
theorem c138_7 : mc_cd 138 7 = some (.getfield 68, 3) := cg138_0.2.2.2.2.2.1
theorem c138_10 : mc_cd 138 10 = some (.ifCond .ne 5, 3) := cg138_0.2.2.2.2.2.2.1
theorem c138_13 : mc_cd 138 13 = some (.iconst 0, 1) := cg138_0.2.2.2.2.2.2.2
theorem cg138_14 : mc_cd 138 14 = some (.ireturn, 1) ∧ mc_cd 138 15 = some (.aload_n 0, 1) ∧ mc_cd 138 16 = some (.aload_n 1, 1) ∧ mc_cd 138 17 = some (.invokevirtual 72, 3) ∧ mc_cd 138 20 = some (.istore_n 3, 1) ∧ mc_cd 138 21 = some (.iload_n 3, 1) ∧ mc_cd 138 22 = some (.bipush (-2), 2) ∧ mc_cd 138 24 = some (.if_icmp .ne 9, 3) := by decide +kernel
theorem c138_14 : mc_cd 138 14 = some (.ireturn, 1) := cg138_14.1
theorem c138_15 : mc_cd 138 15 = some (.aload_n 0, 1) := cg138_14.2.1
theorem c138_16 : mc_cd 138 16 = some (.aload_n 1, 1) := cg138_14.2.2.1
theorem c138_17 : mc_cd 138 17 = some (.invokevirtual 72, 3) := cg138_14.2.2.2.1
theorem c138_20 : mc_cd 138 20 = some (.istore_n 3, 1) := cg138_14.2.2.2.2.1
theorem c138_21 : mc_cd 138 21 = some (.iload_n 3, 1) := cg138_14.2.2.2.2.2.1
theorem c138_22 : mc_cd 138 22 = some (.bipush (-2), 2) := cg138_14.2.2.2.2.2.2.1
theorem c138_24 : mc_cd 138 24 = some (.if_icmp .ne 9, 3) := cg138_14.2.2.2.2.2.2.2
theorem cg138_27 : mc_cd 138 27 = some (.aload_n 0, 1) ∧ mc_cd 138 28 = some (.aload_n 1, 1) ∧ mc_cd 138 29 = some (.invokevirtual 75, 3) ∧ mc_cd 138 32 = some (.istore_n 3, 1) ∧ mc_cd 138 33 = some (.iload_n 3, 1) ∧ mc_cd 138 34 = some (.bipush (-2), 2) ∧ mc_cd 138 36 = some (.if_icmp .ne 11, 3) ∧ mc_cd 138 39 = some (.aload_n 0, 1) := by decide +kernel
theorem c138_27 : mc_cd 138 27 = some (.aload_n 0, 1) := cg138_27.1
theorem c138_28 : mc_cd 138 28 = some (.aload_n 1, 1) := cg138_27.2.1
theorem c138_29 : mc_cd 138 29 = some (.invokevirtual 75, 3) := cg138_27.2.2.1
theorem c138_32 : mc_cd 138 32 = some (.istore_n 3, 1) := cg138_27.2.2.2.1
theorem c138_33 : mc_cd 138 33 = some (.iload_n 3, 1) := cg138_27.2.2.2.2.1
theorem c138_34 : mc_cd 138 34 = some (.bipush (-2), 2) := cg138_27.2.2.2.2.2.1
theorem c138_36 : mc_cd 138 36 = some (.if_icmp .ne 11, 3) := cg138_27.2.2.2.2.2.2.1
theorem c138_39 : mc_cd 138 39 = some (.aload_n 0, 1) := cg138_27.2.2.2.2.2.2.2
theorem cg138_40 : mc_cd 138 40 = some (.aload_n 1, 1) ∧ mc_cd 138 41 = some (.invokevirtual 78, 3) ∧ mc_cd 138 44 = some (.goto 4, 3) ∧ mc_cd 138 47 = some (.iload_n 3, 1) ∧ mc_cd 138 48 = some (.ireturn, 1) := by decide +kernel
theorem c138_40 : mc_cd 138 40 = some (.aload_n 1, 1) := cg138_40.1
theorem c138_41 : mc_cd 138 41 = some (.invokevirtual 78, 3) := cg138_40.2.1
theorem c138_44 : mc_cd 138 44 = some (.goto 4, 3) := cg138_40.2.2.1
theorem c138_47 : mc_cd 138 47 = some (.iload_n 3, 1) := cg138_40.2.2.2.1
theorem c138_48 : mc_cd 138 48 = some (.ireturn, 1) := cg138_40.2.2.2.2
