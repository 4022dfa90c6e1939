/-! methods of the reference (own work, written by wip/gen2/sx.py) -/
/-! StrikeAwakeModel.strikesIn([II)I -/
theorem e228 : wq_en 228 = some (9, 5, false, some FieldType.int) := rfl
theorem c228_0 : mc_cd 228 0 = some (.aload_n 0, 1) := by decide +kernel
theorem c228_1 : mc_cd 228 1 = some (.iload_n 2, 1) := by decide +kernel
theorem c228_2 : mc_cd 228 2 = some (.invokevirtual 384, 3) := by decide +kernel
theorem c228_5 : mc_cd 228 5 = some (.istore_n 3, 1) := by decide +kernel
theorem c228_6 : mc_cd 228 6 = some (.iconst 0, 1) := by decide +kernel
theorem c228_7 : mc_cd 228 7 = some (.istore 4, 2) := by decide +kernel
theorem c228_9 : mc_cd 228 9 = some (.iload 4, 2) := by decide +kernel
theorem c228_11 : mc_cd 228 11 = some (.aload_n 0, 1) := by decide +kernel
theorem c228_12 : mc_cd 228 12 = some (.getfield 337, 3) := by decide +kernel
theorem c228_15 : mc_cd 228 15 = some (.getfield 188, 3) := by decide +kernel
theorem c228_18 : mc_cd 228 18 = some (.if_icmp .ge 39, 3) := by decide +kernel
theorem c228_21 : mc_cd 228 21 = some (.iload_n 3, 1) := by decide +kernel
theorem c228_22 : mc_cd 228 22 = some (.aload_n 0, 1) := by decide +kernel
theorem c228_23 : mc_cd 228 23 = some (.getfield 33, 3) := by decide +kernel
theorem c228_26 : mc_cd 228 26 = some (.bipush 40, 2) := by decide +kernel
theorem c228_28 : mc_cd 228 28 = some (.iload 4, 2) := by decide +kernel
theorem c228_30 : mc_cd 228 30 = some (.imul, 1) := by decide +kernel
theorem c228_31 : mc_cd 228 31 = some (.aload_n 1, 1) := by decide +kernel
theorem c228_32 : mc_cd 228 32 = some (.iload 4, 2) := by decide +kernel
theorem c228_34 : mc_cd 228 34 = some (.iaload, 1) := by decide +kernel
theorem c228_35 : mc_cd 228 35 = some (.iadd, 1) := by decide +kernel
theorem c228_36 : mc_cd 228 36 = some (.iaload, 1) := by decide +kernel
theorem c228_37 : mc_cd 228 37 = some (.iload_n 2, 1) := by decide +kernel
theorem c228_38 : mc_cd 228 38 = some (.invokestatic 346, 3) := by decide +kernel
theorem c228_41 : mc_cd 228 41 = some (.ifCond .eq 7, 3) := by decide +kernel
theorem c228_44 : mc_cd 228 44 = some (.iconst 1, 1) := by decide +kernel
theorem c228_45 : mc_cd 228 45 = some (.goto 4, 3) := by decide +kernel
theorem c228_48 : mc_cd 228 48 = some (.iconst 0, 1) := by decide +kernel
theorem c228_49 : mc_cd 228 49 = some (.iadd, 1) := by decide +kernel
theorem c228_50 : mc_cd 228 50 = some (.istore_n 3, 1) := by decide +kernel
theorem c228_51 : mc_cd 228 51 = some (.iinc 4 1, 3) := by decide +kernel
theorem c228_54 : mc_cd 228 54 = some (.goto (-45), 3) := by decide +kernel
theorem c228_57 : mc_cd 228 57 = some (.iload_n 3, 1) := by decide +kernel
theorem c228_58 : mc_cd 228 58 = some (.ireturn, 1) := by decide +kernel
abbrev q_228_m_lot (r0 : Nat) (r1 : Nat) (a2 : Int) (pp : Nat) (T : wq_T) (H : wq_H) : Option Value → wq_T → wq_H → Prop := fun r T' H' => T = T' ∧ H = H' ∧ ∃ z : Int, some (vI z) = r ∧ ((-2147483648) ≤ z ∧ z ≤ 2147483647)
set_option maxHeartbeats 4000000 in
theorem s_228_m_lot {kt : Nat → Option mc_E} {T : wq_T} {H : wq_H} {r0 : Nat} {r1 : Nat} {a2 : Int} {pp : Nat} (hW : WT T H) (g0 : T.2.2.2 r0 = some 42) (g1 : T.2.2.2 r1 = some 51) (i2 : (-2147483648) ≤ a2 ∧ a2 ≤ 2147483647) (qpp : H r0 3 = (pp : Int)) (gpp : T.2.2.2 pp = some 54) : wpc kt 2 228 [.ref r0, .ref r1, vI a2] T H (q_228_m_lot r0 r1 a2 pp T H) := by
  refine wp_enter e228 (Nat.le_of_ble_eq_true rfl) rfl ?_
  show wp _ _ 228 0 [(0, .ref r0), (1, .ref r1), (2, vI a2)] [] _ H _
  refine wp_of e228 c228_0 (rw_aload_n (pc' := 1) (v := .ref r0) rfl rfl rfl ?_)
  refine wp_of e228 c228_1 (rw_iload_n (pc' := 2) (z := a2) rfl rfl ?_)
  refine wp_of e228 c228_2 (xc_V (pc' := 5) (r := r0) (as := [vI a2]) (st := []) (lm_9_384) rfl rfl (Nat.le_of_ble_eq_true rfl) hW g0 sh_42 (by decide) rfl (by decide) (s_229 hW g0 ⟨by omega, by omega⟩ qpp gpp) (fun R131068 T131069 H131070 p131071 => ?_))
  obtain ⟨e131072, e131074, z131075, e131073, b131076⟩ := p131071
  subst e131072
  subst e131073
  subst e131074
  show wp _ _ 228 5 [(0, .ref r0), (1, .ref r1), (2, vI a2)] [vI z131075] _ H _
  refine wp_of e228 c228_5 (rw_istore_n (pc' := 6) (z := z131075) (L' := [(3, vI z131075), (0, .ref r0), (1, .ref r1), (2, vI a2)]) rfl rfl rfl ?_)
  refine wp_of e228 c228_6 (rw_iconst (pc' := 7) rfl ?_)
  refine wp_of e228 c228_7 (rw_istore (pc' := 9) (z := 0) (L' := [(4, vI 0), (3, vI z131075), (0, .ref r0), (1, .ref r1), (2, vI a2)]) rfl rfl rfl ?_)
  have lp131245 : ∀ (n131246 : Nat) (v131248 : Int) (v131249 : Int), (0 ≤ v131248 ∧ v131248 ≤ 6) → ((-2147483648) ≤ v131249 ∧ v131249 ≤ 2147483647) → (6 - v131248).toNat = n131246 → wp kt 1 228 9 [(4, vI v131248), (3, vI v131249), (0, .ref r0), (1, .ref r1), (2, vI a2)] [] T H (q_228_m_lot r0 r1 a2 pp T H) := by
    intro n131246
    induction n131246 using Nat.strongRecOn with
    | _ n131246 ih131247 =>
      intro v131248 v131249 b131252 b131253 m131254
      refine wp_of e228 c228_9 (rw_iload (pc' := 11) (z := v131248) rfl rfl ?_)
      refine wp_of e228 c228_11 (rw_aload_n (pc' := 12) (v := .ref r0) rfl rfl rfl ?_)
      refine wp_of e228 c228_12 (xg_K (pc' := 15) lf_9_337 hW g0 sh_42 (by decide) (by decide) rfl qpp rfl ?_)
      refine wp_of e228 c228_15 (xg_I (pc' := 18) lf_9_188 hW gpp sh_54 (by decide) (by decide) ty_54_3 rfl rfl (fun b131255 b131256 => ?_))
      refine wp_of e228 c228_18 (rw_icmp_ge (p1 := 57) (p2 := 21) (by decide) rfl ⟨by omega, by omega⟩ ⟨by omega, by omega⟩ (fun c131257 => ?_) (fun c131257 => ?_))
      · refine wp_of e228 c228_57 (rw_iload_n (pc' := 58) (z := v131249) rfl rfl ?_)
        exact wp_ireturn e228 c228_58 rfl ⟨rfl, rfl, v131249, rfl, ⟨by omega, by omega⟩⟩
      · refine wp_of e228 c228_21 (rw_iload_n (pc' := 22) (z := v131249) rfl rfl ?_)
        refine wp_of e228 c228_22 (rw_aload_n (pc' := 23) (v := .ref r0) rfl rfl rfl ?_)
        refine wp_of e228 c228_23 (xg_R (pc' := 26) lf_9_33 hW g0 sh_42 (by decide) (by decide) ty_42_25 rfl rfl (fun r131258 q131259 g131260 => ?_))
        refine wp_of e228 c228_26 (rw_bipush (pc' := 28) (z := 40) rfl (by decide) ?_)
        refine wp_of e228 c228_28 (rw_iload (pc' := 30) (z := v131248) rfl rfl ?_)
        refine wp_of e228 c228_30 (rw_imul (pc' := 31) rfl ?_)
        refine wp_of e228 c228_31 (rw_aload_n (pc' := 32) (v := .ref r1) rfl rfl rfl ?_)
        refine wp_of e228 c228_32 (rw_iload (pc' := 34) (z := v131248) rfl rfl ?_)
        refine wp_of e228 c228_34 (xa_I (so := 0) (pc' := 35) hW g1 sh_51 (by decide) (ty_51 _) (by omega) (by omega) rfl (fun b131261 b131262 => ?_))
        refine wp_of e228 c228_35 (rw_iadd (pc' := 36) rfl ?_)
        refine wp_of e228 c228_36 (xa_I (so := 0) (pc' := 37) hW g131260 sh_49 (by decide) (ty_49 _) (by omega) (by omega) rfl (fun b131263 b131264 => ?_))
        refine wp_of e228 c228_37 (rw_iload_n (pc' := 38) (z := a2) rfl rfl ?_)
        refine wp_of e228 c228_38 (xc_S (pc' := 41) (as := [vI (H r131258 (((40 * v131248) + (H r1 (v131248.toNat))).toNat)), vI a2]) (st := [vI v131249]) (lm_9_346) rfl rfl (Nat.le_of_ble_eq_true rfl) rfl (by decide) (s_205 hW ⟨by omega, by omega⟩ ⟨by omega, by omega⟩) (fun R131265 T131266 H131267 p131268 => ?_))
        obtain ⟨e131269, e131271, z131272, e131270, b131273⟩ := p131268
        subst e131269
        subst e131270
        subst e131271
        show wp _ _ 228 41 [(4, vI v131248), (3, vI v131249), (0, .ref r0), (1, .ref r1), (2, vI a2)] [vI z131272, vI v131249] _ H _
        refine wp_of e228 c228_41 (rw_if_eq (p1 := 48) (p2 := 44) (by decide) rfl ⟨by omega, by omega⟩ (fun c131274 => ?_) (fun c131274 => ?_))
        · refine wp_of e228 c228_48 (rw_iconst (pc' := 49) rfl ?_)
          refine wp_of e228 c228_49 (rw_iadd (pc' := 50) rfl ?_)
          refine wp_of e228 c228_50 (rw_istore_n (pc' := 51) (z := v131249 + 0) (L' := [(3, vI (v131249 + 0)), (4, vI v131248), (0, .ref r0), (1, .ref r1), (2, vI a2)]) rfl rfl rfl ?_)
          refine wp_of e228 c228_51 (rw_iinc (pc' := 54) (z := v131248) (L' := [(4, vI (v131248 + 1)), (3, vI (v131249 + 0)), (0, .ref r0), (1, .ref r1), (2, vI a2)]) rfl rfl rfl rfl ?_)
          refine wp_of e228 c228_54 (rw_goto (p1 := 9) (by decide) ?_)
          exact wp_lc (ks := [4, 3, 0, 1, 2]) (wl_c rfl (wl_c rfl (wl_c rfl (wl_c rfl (wl_c rfl wl_n))))) rfl (by decide) (ih131247 _ (by omega) (v131248 + 1) (v131249 + 0) ⟨by omega, by omega⟩ ⟨by omega, by omega⟩ rfl)
        · refine wp_of e228 c228_44 (rw_iconst (pc' := 45) rfl ?_)
          refine wp_of e228 c228_45 (rw_goto (p1 := 49) (by decide) ?_)
          refine wp_of e228 c228_49 (rw_iaddw (pc' := 50) rfl ?_)
          obtain ⟨v131275, e131276⟩ : ∃ x : Int, x = wq_w (v131249 + 1) := ⟨_, rfl⟩
          rw [← e131276]
          have b131277 : -2147483648 ≤ v131275 ∧ v131275 ≤ 2147483647 := by
            rw [e131276]
            exact wI_w _
          refine wp_of e228 c228_50 (rw_istore_n (pc' := 51) (z := v131275) (L' := [(3, vI v131275), (4, vI v131248), (0, .ref r0), (1, .ref r1), (2, vI a2)]) rfl rfl rfl ?_)
          refine wp_of e228 c228_51 (rw_iinc (pc' := 54) (z := v131248) (L' := [(4, vI (v131248 + 1)), (3, vI v131275), (0, .ref r0), (1, .ref r1), (2, vI a2)]) rfl rfl rfl rfl ?_)
          refine wp_of e228 c228_54 (rw_goto (p1 := 9) (by decide) ?_)
          exact wp_lc (ks := [4, 3, 0, 1, 2]) (wl_c rfl (wl_c rfl (wl_c rfl (wl_c rfl (wl_c rfl wl_n))))) rfl (by decide) (ih131247 _ (by omega) (v131248 + 1) v131275 ⟨by omega, by omega⟩ ⟨by omega, by omega⟩ rfl)
  exact wp_lc (ks := [4, 3, 0, 1, 2]) (wl_c rfl (wl_c rfl (wl_c rfl (wl_c rfl (wl_c rfl wl_n))))) rfl (by decide) (lp131245 _ 0 z131075 ⟨by omega, by omega⟩ ⟨by omega, by omega⟩ rfl)

/-! StrikeAwakeModel.strikesIn([II)I -/
abbrev q_228_m_said (r0 : Nat) (r1 : Nat) (a2 : Int) (pp : Nat) (T : wq_T) (H : wq_H) : Option Value → wq_T → wq_H → Prop := fun r T' H' => T = T' ∧ H = H' ∧ ∃ z : Int, some (vI z) = r ∧ ((-2147483648) ≤ z ∧ z ≤ 2147483647)
set_option maxHeartbeats 4000000 in
theorem s_228_m_said {kt : Nat → Option mc_E} {T : wq_T} {H : wq_H} {r0 : Nat} {r1 : Nat} {a2 : Int} {pp : Nat} (hW : WT T H) (g0 : T.2.2.2 r0 = some 42) (g1 : T.2.2.2 r1 = some 50) (i2 : (-2147483648) ≤ a2 ∧ a2 ≤ 2147483647) (qpp : H r0 3 = (pp : Int)) (gpp : T.2.2.2 pp = some 54) : wpc kt 2 228 [.ref r0, .ref r1, vI a2] T H (q_228_m_said r0 r1 a2 pp T H) := by
  refine wp_enter e228 (Nat.le_of_ble_eq_true rfl) rfl ?_
  show wp _ _ 228 0 [(0, .ref r0), (1, .ref r1), (2, vI a2)] [] _ H _
  refine wp_of e228 c228_0 (rw_aload_n (pc' := 1) (v := .ref r0) rfl rfl rfl ?_)
  refine wp_of e228 c228_1 (rw_iload_n (pc' := 2) (z := a2) rfl rfl ?_)
  refine wp_of e228 c228_2 (xc_V (pc' := 5) (r := r0) (as := [vI a2]) (st := []) (lm_9_384) rfl rfl (Nat.le_of_ble_eq_true rfl) hW g0 sh_42 (by decide) rfl (by decide) (s_229 hW g0 ⟨by omega, by omega⟩ qpp gpp) (fun R131478 T131479 H131480 p131481 => ?_))
  obtain ⟨e131482, e131484, z131485, e131483, b131486⟩ := p131481
  subst e131482
  subst e131483
  subst e131484
  show wp _ _ 228 5 [(0, .ref r0), (1, .ref r1), (2, vI a2)] [vI z131485] _ H _
  refine wp_of e228 c228_5 (rw_istore_n (pc' := 6) (z := z131485) (L' := [(3, vI z131485), (0, .ref r0), (1, .ref r1), (2, vI a2)]) rfl rfl rfl ?_)
  refine wp_of e228 c228_6 (rw_iconst (pc' := 7) rfl ?_)
  refine wp_of e228 c228_7 (rw_istore (pc' := 9) (z := 0) (L' := [(4, vI 0), (3, vI z131485), (0, .ref r0), (1, .ref r1), (2, vI a2)]) rfl rfl rfl ?_)
  have lp131655 : ∀ (n131656 : Nat) (v131658 : Int) (v131659 : Int), (0 ≤ v131658 ∧ v131658 ≤ 6) → ((-2147483648) ≤ v131659 ∧ v131659 ≤ 2147483647) → (6 - v131658).toNat = n131656 → wp kt 1 228 9 [(4, vI v131658), (3, vI v131659), (0, .ref r0), (1, .ref r1), (2, vI a2)] [] T H (q_228_m_said r0 r1 a2 pp T H) := by
    intro n131656
    induction n131656 using Nat.strongRecOn with
    | _ n131656 ih131657 =>
      intro v131658 v131659 b131662 b131663 m131664
      refine wp_of e228 c228_9 (rw_iload (pc' := 11) (z := v131658) rfl rfl ?_)
      refine wp_of e228 c228_11 (rw_aload_n (pc' := 12) (v := .ref r0) rfl rfl rfl ?_)
      refine wp_of e228 c228_12 (xg_K (pc' := 15) lf_9_337 hW g0 sh_42 (by decide) (by decide) rfl qpp rfl ?_)
      refine wp_of e228 c228_15 (xg_I (pc' := 18) lf_9_188 hW gpp sh_54 (by decide) (by decide) ty_54_3 rfl rfl (fun b131665 b131666 => ?_))
      refine wp_of e228 c228_18 (rw_icmp_ge (p1 := 57) (p2 := 21) (by decide) rfl ⟨by omega, by omega⟩ ⟨by omega, by omega⟩ (fun c131667 => ?_) (fun c131667 => ?_))
      · refine wp_of e228 c228_57 (rw_iload_n (pc' := 58) (z := v131659) rfl rfl ?_)
        exact wp_ireturn e228 c228_58 rfl ⟨rfl, rfl, v131659, rfl, ⟨by omega, by omega⟩⟩
      · refine wp_of e228 c228_21 (rw_iload_n (pc' := 22) (z := v131659) rfl rfl ?_)
        refine wp_of e228 c228_22 (rw_aload_n (pc' := 23) (v := .ref r0) rfl rfl rfl ?_)
        refine wp_of e228 c228_23 (xg_R (pc' := 26) lf_9_33 hW g0 sh_42 (by decide) (by decide) ty_42_25 rfl rfl (fun r131668 q131669 g131670 => ?_))
        refine wp_of e228 c228_26 (rw_bipush (pc' := 28) (z := 40) rfl (by decide) ?_)
        refine wp_of e228 c228_28 (rw_iload (pc' := 30) (z := v131658) rfl rfl ?_)
        refine wp_of e228 c228_30 (rw_imul (pc' := 31) rfl ?_)
        refine wp_of e228 c228_31 (rw_aload_n (pc' := 32) (v := .ref r1) rfl rfl rfl ?_)
        refine wp_of e228 c228_32 (rw_iload (pc' := 34) (z := v131658) rfl rfl ?_)
        refine wp_of e228 c228_34 (xa_I (so := 0) (pc' := 35) hW g1 sh_50 (by decide) (ty_50 _) (by omega) (by omega) rfl (fun b131671 b131672 => ?_))
        refine wp_of e228 c228_35 (rw_iadd (pc' := 36) rfl ?_)
        refine wp_of e228 c228_36 (xa_I (so := 0) (pc' := 37) hW g131670 sh_49 (by decide) (ty_49 _) (by omega) (by omega) rfl (fun b131673 b131674 => ?_))
        refine wp_of e228 c228_37 (rw_iload_n (pc' := 38) (z := a2) rfl rfl ?_)
        refine wp_of e228 c228_38 (xc_S (pc' := 41) (as := [vI (H r131668 (((40 * v131658) + (H r1 (v131658.toNat))).toNat)), vI a2]) (st := [vI v131659]) (lm_9_346) rfl rfl (Nat.le_of_ble_eq_true rfl) rfl (by decide) (s_205 hW ⟨by omega, by omega⟩ ⟨by omega, by omega⟩) (fun R131675 T131676 H131677 p131678 => ?_))
        obtain ⟨e131679, e131681, z131682, e131680, b131683⟩ := p131678
        subst e131679
        subst e131680
        subst e131681
        show wp _ _ 228 41 [(4, vI v131658), (3, vI v131659), (0, .ref r0), (1, .ref r1), (2, vI a2)] [vI z131682, vI v131659] _ H _
        refine wp_of e228 c228_41 (rw_if_eq (p1 := 48) (p2 := 44) (by decide) rfl ⟨by omega, by omega⟩ (fun c131684 => ?_) (fun c131684 => ?_))
        · refine wp_of e228 c228_48 (rw_iconst (pc' := 49) rfl ?_)
          refine wp_of e228 c228_49 (rw_iadd (pc' := 50) rfl ?_)
          refine wp_of e228 c228_50 (rw_istore_n (pc' := 51) (z := v131659 + 0) (L' := [(3, vI (v131659 + 0)), (4, vI v131658), (0, .ref r0), (1, .ref r1), (2, vI a2)]) rfl rfl rfl ?_)
          refine wp_of e228 c228_51 (rw_iinc (pc' := 54) (z := v131658) (L' := [(4, vI (v131658 + 1)), (3, vI (v131659 + 0)), (0, .ref r0), (1, .ref r1), (2, vI a2)]) rfl rfl rfl rfl ?_)
          refine wp_of e228 c228_54 (rw_goto (p1 := 9) (by decide) ?_)
          exact wp_lc (ks := [4, 3, 0, 1, 2]) (wl_c rfl (wl_c rfl (wl_c rfl (wl_c rfl (wl_c rfl wl_n))))) rfl (by decide) (ih131657 _ (by omega) (v131658 + 1) (v131659 + 0) ⟨by omega, by omega⟩ ⟨by omega, by omega⟩ rfl)
        · refine wp_of e228 c228_44 (rw_iconst (pc' := 45) rfl ?_)
          refine wp_of e228 c228_45 (rw_goto (p1 := 49) (by decide) ?_)
          refine wp_of e228 c228_49 (rw_iaddw (pc' := 50) rfl ?_)
          obtain ⟨v131685, e131686⟩ : ∃ x : Int, x = wq_w (v131659 + 1) := ⟨_, rfl⟩
          rw [← e131686]
          have b131687 : -2147483648 ≤ v131685 ∧ v131685 ≤ 2147483647 := by
            rw [e131686]
            exact wI_w _
          refine wp_of e228 c228_50 (rw_istore_n (pc' := 51) (z := v131685) (L' := [(3, vI v131685), (4, vI v131658), (0, .ref r0), (1, .ref r1), (2, vI a2)]) rfl rfl rfl ?_)
          refine wp_of e228 c228_51 (rw_iinc (pc' := 54) (z := v131658) (L' := [(4, vI (v131658 + 1)), (3, vI v131685), (0, .ref r0), (1, .ref r1), (2, vI a2)]) rfl rfl rfl rfl ?_)
          refine wp_of e228 c228_54 (rw_goto (p1 := 9) (by decide) ?_)
          exact wp_lc (ks := [4, 3, 0, 1, 2]) (wl_c rfl (wl_c rfl (wl_c rfl (wl_c rfl (wl_c rfl wl_n))))) rfl (by decide) (ih131657 _ (by omega) (v131658 + 1) v131685 ⟨by omega, by omega⟩ ⟨by omega, by omega⟩ rfl)
  exact wp_lc (ks := [4, 3, 0, 1, 2]) (wl_c rfl (wl_c rfl (wl_c rfl (wl_c rfl (wl_c rfl wl_n))))) rfl (by decide) (lp131655 _ 0 z131485 ⟨by omega, by omega⟩ ⟨by omega, by omega⟩ rfl)
/-! StrikeAwakeModel.strikes(I)I -/
theorem e226 : wq_en 226 = some (9, 2, false, some FieldType.int) := rfl
theorem c226_0 : mc_cd 226 0 = some (.aload_n 0, 1) := by decide +kernel
theorem c226_1 : mc_cd 226 1 = some (.iconst 0, 1) := by decide +kernel
theorem c226_2 : mc_cd 226 2 = some (.putfield 48, 3) := by decide +kernel
theorem c226_5 : mc_cd 226 5 = some (.aload_n 0, 1) := by decide +kernel
theorem c226_6 : mc_cd 226 6 = some (.iload_n 1, 1) := by decide +kernel
theorem c226_7 : mc_cd 226 7 = some (.invokevirtual 373, 3) := by decide +kernel
theorem c226_10 : mc_cd 226 10 = some (.ifCond .ne 9, 3) := by decide +kernel
theorem c226_13 : mc_cd 226 13 = some (.aload_n 0, 1) := by decide +kernel
theorem c226_14 : mc_cd 226 14 = some (.iconst 1, 1) := by decide +kernel
theorem c226_15 : mc_cd 226 15 = some (.invokevirtual 54, 3) := by decide +kernel
theorem c226_18 : mc_cd 226 18 = some (.ireturn, 1) := by decide +kernel
theorem c226_19 : mc_cd 226 19 = some (.aload_n 0, 1) := by decide +kernel
theorem c226_20 : mc_cd 226 20 = some (.invokevirtual 406, 3) := by decide +kernel
theorem c226_23 : mc_cd 226 23 = some (.ifCond .eq 11, 3) := by decide +kernel
theorem c226_26 : mc_cd 226 26 = some (.aload_n 0, 1) := by decide +kernel
theorem c226_27 : mc_cd 226 27 = some (.iconst 5, 1) := by decide +kernel
theorem c226_28 : mc_cd 226 28 = some (.invokevirtual 54, 3) := by decide +kernel
theorem c226_31 : mc_cd 226 31 = some (.goto 16, 3) := by decide +kernel
theorem c226_34 : mc_cd 226 34 = some (.aload_n 0, 1) := by decide +kernel
theorem c226_35 : mc_cd 226 35 = some (.aload_n 0, 1) := by decide +kernel
theorem c226_36 : mc_cd 226 36 = some (.aload_n 0, 1) := by decide +kernel
theorem c226_37 : mc_cd 226 37 = some (.getfield 36, 3) := by decide +kernel
theorem c226_40 : mc_cd 226 40 = some (.iload_n 1, 1) := by decide +kernel
theorem c226_41 : mc_cd 226 41 = some (.invokevirtual 386, 3) := by decide +kernel
theorem c226_44 : mc_cd 226 44 = some (.invokevirtual 58, 3) := by decide +kernel
theorem c226_47 : mc_cd 226 47 = some (.ireturn, 1) := by decide +kernel
abbrev q_226 (r0 : Nat) (a1 : Int) (T : wq_T) (H : wq_H) : Option Value → wq_T → wq_H → Prop := fun r T' H' => T = T' ∧ WT T H' ∧ wfr [(42, 0), (42, 1), (42, 2)] T H H' ∧ ∃ z : Int, some (vI z) = r ∧ ((-2147483648) ≤ z ∧ z ≤ 2147483647) ∧ (wKI H' r0 = 1) ∧ (H' r0 2 = -1)
set_option maxHeartbeats 4000000 in
theorem s_226 {kt : Nat → Option mc_E} {T : wq_T} {H : wq_H} {r0 : Nat} {a1 : Int} (hW : WT T H) (g0 : T.2.2.2 r0 = some 42) (i1 : (-2147483648) ≤ a1 ∧ a1 ≤ 2147483647) (p0 : wKI H r0 = 1) : wpc kt 3 226 [.ref r0, vI a1] T H (q_226 r0 a1 T H) := by
  refine wp_enter e226 (Nat.le_of_ble_eq_true rfl) rfl ?_
  have f0 : wfr [(42, 0), (42, 1), (42, 2)] T H H := wfr.rf
  show wp _ _ 226 0 [(0, .ref r0), (1, vI a1)] [] _ H _
  refine wp_of e226 c226_0 (rw_aload_n (pc' := 1) (v := .ref r0) rfl rfl rfl ?_)
  refine wp_of e226 c226_1 (rw_iconst (pc' := 2) rfl ?_)
  refine wp_of e226 c226_2 (xp_I (pc' := 5) lf_9_48 hW g0 sh_42 (by decide) (by decide) ty_42_0 rfl rfl (by omega) (by omega) ⟨by omega, by omega⟩ rfl (fun H131768 e131769 w131770 => ?_))
  have f131771 := f0.put' e131769 g0 rfl
  have k131772 : H131768 r0 0 = 0 := wq_u_s e131769
  refine wp_of e226 c226_5 (rw_aload_n (pc' := 6) (v := .ref r0) rfl rfl rfl ?_)
  refine wp_of e226 c226_6 (rw_iload_n (pc' := 7) (z := a1) rfl rfl ?_)
  refine wp_of e226 c226_7 (xc_V (pc' := 10) (r := r0) (as := [vI a1]) (st := []) (lm_9_373) rfl rfl (Nat.le_of_ble_eq_true rfl) w131770 g0 sh_42 (by decide) rfl (by decide) (s_218 w131770 g0 ⟨by omega, by omega⟩) (fun R131773 T131774 H131775 p131776 => ?_))
  obtain ⟨e131777, e131779, z131781, e131778, b131782, p131780⟩ := p131776
  subst e131777
  subst e131778
  subst e131779
  show wp _ _ 226 10 [(0, .ref r0), (1, vI a1)] [vI z131781] _ H131768 _
  refine wp_of e226 c226_10 (rw_if_ne (p1 := 19) (p2 := 13) (by decide) rfl ⟨by omega, by omega⟩ (fun c131783 => ?_) (fun c131783 => ?_))
  · refine wp_of e226 c226_19 (rw_aload_n (pc' := 20) (v := .ref r0) rfl rfl rfl ?_)
    obtain ⟨r131784, q131785, g131786⟩ := (w131770.opt g0 (t' := 54) (n := 33) (j := 3) (p := 0) (q := 0) rfl (by decide) rfl).resolve_left (by omega)
    refine wp_of e226 c226_20 (xc_V (pc' := 23) (r := r0) (as := []) (st := []) (lm_9_406) rfl rfl (Nat.le_of_ble_eq_true rfl) w131770 g0 sh_42 (by decide) rfl (by decide) (s_227 w131770 g0 q131785 g131786) (fun R131787 T131788 H131789 p131790 => ?_))
    obtain ⟨e131791, e131793, z131794, e131792, b131795⟩ := p131790
    subst e131791
    subst e131792
    subst e131793
    show wp _ _ 226 23 [(0, .ref r0), (1, vI a1)] [vI z131794] _ H131768 _
    refine wp_of e226 c226_23 (rw_if_eq (p1 := 34) (p2 := 26) (by decide) rfl ⟨by omega, by omega⟩ (fun c131796 => ?_) (fun c131796 => ?_))
    · refine wp_of e226 c226_34 (rw_aload_n (pc' := 35) (v := .ref r0) rfl rfl rfl ?_)
      refine wp_of e226 c226_35 (rw_aload_n (pc' := 36) (v := .ref r0) rfl rfl rfl ?_)
      refine wp_of e226 c226_36 (rw_aload_n (pc' := 37) (v := .ref r0) rfl rfl rfl ?_)
      refine wp_of e226 c226_37 (xg_R (pc' := 40) lf_9_36 w131770 g0 sh_42 (by decide) (by decide) ty_42_26 rfl rfl (fun r131797 q131798 g131799 => ?_))
      refine wp_of e226 c226_40 (rw_iload_n (pc' := 41) (z := a1) rfl rfl ?_)
      refine wp_of e226 c226_41 (xc_V (pc' := 44) (r := r0) (as := [.ref r131797, vI a1]) (st := [.ref r0]) (lm_9_386) rfl rfl (Nat.le_of_ble_eq_true rfl) w131770 g0 sh_42 (by decide) rfl (by decide) (s_228_m_said w131770 g0 g131799 ⟨by omega, by omega⟩ q131785 g131786) (fun R131800 T131801 H131802 p131803 => ?_))
      obtain ⟨e131804, e131806, z131807, e131805, b131808⟩ := p131803
      subst e131804
      subst e131805
      subst e131806
      show wp _ _ 226 44 [(0, .ref r0), (1, vI a1)] [vI z131807, .ref r0] _ H131768 _
      refine wp_of e226 c226_44 (xc_V (pc' := 47) (r := r0) (as := [vI z131807]) (st := []) (lm_9_58) rfl rfl (Nat.le_of_ble_eq_true rfl) w131770 g0 sh_42 (by decide) rfl (by decide) (s_209 w131770 g0 ⟨by omega, by omega⟩) (fun R131809 T131810 H131811 p131812 => ?_))
      obtain ⟨e131813, w131815, f131816, z131818, e131814, b131819, p131817⟩ := p131812
      subst e131813
      subst e131814
      have f131820 := f131771.tr f131816 rfl
      show wp _ _ 226 47 [(0, .ref r0), (1, vI a1)] [vI z131818] _ H131811 _
      have k131821 : wKI H131811 r0 = wKI H r0 := ((wKI_fr w131770 g0 f131816 rfl).trans (wKI_fr hW g0 ((wfr.rf (l := [(42, 0)])).put' e131769 g0 rfl) rfl))
      exact wp_ireturn e226 c226_47 rfl ⟨rfl, w131815, f131820, z131818, rfl, ⟨by omega, by omega⟩, by omega, by omega⟩
    · refine wp_of e226 c226_26 (rw_aload_n (pc' := 27) (v := .ref r0) rfl rfl rfl ?_)
      refine wp_of e226 c226_27 (rw_iconst (pc' := 28) rfl ?_)
      refine wp_of e226 c226_28 (xc_V (pc' := 31) (r := r0) (as := [vI 5]) (st := []) (lm_9_54) rfl rfl (Nat.le_of_ble_eq_true rfl) w131770 g0 sh_42 (by decide) rfl (by decide) (s_170 w131770 g0 ⟨by omega, by omega⟩) (fun R131822 T131823 H131824 p131825 => ?_))
      obtain ⟨e131826, w131828, f131829, z131831, e131827, b131832, p131830⟩ := p131825
      subst e131826
      subst e131827
      have f131833 := f131771.tr f131829 rfl
      show wp _ _ 226 31 [(0, .ref r0), (1, vI a1)] [vI z131831] _ H131824 _
      refine wp_of e226 c226_31 (rw_goto (p1 := 47) (by decide) ?_)
      have k131834 : wKI H131824 r0 = wKI H r0 := ((wKI_fr w131770 g0 f131829 rfl).trans (wKI_fr hW g0 ((wfr.rf (l := [(42, 0)])).put' e131769 g0 rfl) rfl))
      exact wp_ireturn e226 c226_47 rfl ⟨rfl, w131828, f131833, z131831, rfl, ⟨by omega, by omega⟩, by omega, by omega⟩
  · refine wp_of e226 c226_13 (rw_aload_n (pc' := 14) (v := .ref r0) rfl rfl rfl ?_)
    refine wp_of e226 c226_14 (rw_iconst (pc' := 15) rfl ?_)
    refine wp_of e226 c226_15 (xc_V (pc' := 18) (r := r0) (as := [vI 1]) (st := []) (lm_9_54) rfl rfl (Nat.le_of_ble_eq_true rfl) w131770 g0 sh_42 (by decide) rfl (by decide) (s_170 w131770 g0 ⟨by omega, by omega⟩) (fun R131835 T131836 H131837 p131838 => ?_))
    obtain ⟨e131839, w131841, f131842, z131844, e131840, b131845, p131843⟩ := p131838
    subst e131839
    subst e131840
    have f131846 := f131771.tr f131842 rfl
    show wp _ _ 226 18 [(0, .ref r0), (1, vI a1)] [vI z131844] _ H131837 _
    have k131847 : wKI H131837 r0 = wKI H r0 := ((wKI_fr w131770 g0 f131842 rfl).trans (wKI_fr hW g0 ((wfr.rf (l := [(42, 0)])).put' e131769 g0 rfl) rfl))
    exact wp_ireturn e226 c226_18 rfl ⟨rfl, w131841, f131846, z131844, rfl, ⟨by omega, by omega⟩, by omega, by omega⟩
/-! StrikeAwakeModel.refusesSaid()I -/
theorem e231 : wq_en 231 = some (9, 1, false, some FieldType.int) := rfl
theorem c231_0 : mc_cd 231 0 = some (.aload_n 0, 1) := by decide +kernel
theorem c231_1 : mc_cd 231 1 = some (.getfield 337, 3) := by decide +kernel
theorem c231_4 : mc_cd 231 4 = some (.ifnonnull 7, 3) := by decide +kernel
theorem c231_7 : mc_cd 231 7 = some (.iconst 1, 1) := by decide +kernel
theorem c231_8 : mc_cd 231 8 = some (.goto 15, 3) := by decide +kernel
theorem c231_11 : mc_cd 231 11 = some (.aload_n 0, 1) := by decide +kernel
theorem c231_12 : mc_cd 231 12 = some (.invokevirtual 406, 3) := by decide +kernel
theorem c231_15 : mc_cd 231 15 = some (.ifCond .eq 7, 3) := by decide +kernel
theorem c231_18 : mc_cd 231 18 = some (.iconst 5, 1) := by decide +kernel
theorem c231_19 : mc_cd 231 19 = some (.goto 4, 3) := by decide +kernel
theorem c231_22 : mc_cd 231 22 = some (.iconst 0, 1) := by decide +kernel
theorem c231_23 : mc_cd 231 23 = some (.ireturn, 1) := by decide +kernel
abbrev q_231 (r0 : Nat) (T : wq_T) (H : wq_H) : Option Value → wq_T → wq_H → Prop := fun r T' H' => T = T' ∧ H = H' ∧ ∃ z : Int, some (vI z) = r ∧ (0 ≤ z ∧ z ≤ 5) ∧ (z ≠ 0 ∨ H r0 3 ≠ -1)
set_option maxHeartbeats 4000000 in
theorem s_231 {kt : Nat → Option mc_E} {T : wq_T} {H : wq_H} {r0 : Nat} (hW : WT T H) (g0 : T.2.2.2 r0 = some 42) : wpc kt 3 231 [.ref r0] T H (q_231 r0 T H) := by
  refine wp_enter e231 (Nat.le_of_ble_eq_true rfl) rfl ?_
  show wp _ _ 231 0 [(0, .ref r0)] [] _ H _
  refine wp_of e231 c231_0 (rw_aload_n (pc' := 1) (v := .ref r0) rfl rfl rfl ?_)
  refine wp_of e231 c231_1 (xg_O (pc' := 4) lf_9_337 hW g0 sh_42 (by decide) (by decide) ty_42_3 rfl rfl (fun q131862 => ?_) (fun r131861 q131862 g131863 => ?_))
  · refine wp_of e231 c231_4 (rw_ifnonnull_n (p1 := 11) (p2 := 7) (by decide) rfl ?_)
    refine wp_of e231 c231_7 (rw_iconst (pc' := 8) rfl ?_)
    refine wp_of e231 c231_8 (rw_goto (p1 := 23) (by decide) ?_)
    exact wp_ireturn e231 c231_23 rfl ⟨rfl, rfl, 1, rfl, ⟨by omega, by omega⟩, by omega⟩
  · refine wp_of e231 c231_4 (rw_ifnonnull_r (p1 := 11) (p2 := 7) (by decide) rfl ?_)
    refine wp_of e231 c231_11 (rw_aload_n (pc' := 12) (v := .ref r0) rfl rfl rfl ?_)
    refine wp_of e231 c231_12 (xc_V (pc' := 15) (r := r0) (as := []) (st := []) (lm_9_406) rfl rfl (Nat.le_of_ble_eq_true rfl) hW g0 sh_42 (by decide) rfl (by decide) (s_227 hW g0 q131862 g131863) (fun R131864 T131865 H131866 p131867 => ?_))
    obtain ⟨e131868, e131870, z131871, e131869, b131872⟩ := p131867
    subst e131868
    subst e131869
    subst e131870
    show wp _ _ 231 15 [(0, .ref r0)] [vI z131871] _ H _
    refine wp_of e231 c231_15 (rw_if_eq (p1 := 22) (p2 := 18) (by decide) rfl ⟨by omega, by omega⟩ (fun c131873 => ?_) (fun c131873 => ?_))
    · refine wp_of e231 c231_22 (rw_iconst (pc' := 23) rfl ?_)
      exact wp_ireturn e231 c231_23 rfl ⟨rfl, rfl, 0, rfl, ⟨by omega, by omega⟩, by omega⟩
    · refine wp_of e231 c231_18 (rw_iconst (pc' := 19) rfl ?_)
      refine wp_of e231 c231_19 (rw_goto (p1 := 23) (by decide) ?_)
      exact wp_ireturn e231 c231_23 rfl ⟨rfl, rfl, 5, rfl, ⟨by omega, by omega⟩, by omega⟩
/-! StrikeAwakeModel.offIn([II)I -/
theorem e234 : wq_en 234 = some (9, 4, false, some FieldType.int) := rfl
theorem c234_0 : mc_cd 234 0 = some (.aload_n 0, 1) := by decide +kernel
theorem c234_1 : mc_cd 234 1 = some (.getfield 17, 3) := by decide +kernel
theorem c234_4 : mc_cd 234 4 = some (.iload_n 2, 1) := by decide +kernel
theorem c234_5 : mc_cd 234 5 = some (.iaload, 1) := by decide +kernel
theorem c234_6 : mc_cd 234 6 = some (.iconst 1, 1) := by decide +kernel
theorem c234_7 : mc_cd 234 7 = some (.isub, 1) := by decide +kernel
theorem c234_8 : mc_cd 234 8 = some (.aload_n 0, 1) := by decide +kernel
theorem c234_9 : mc_cd 234 9 = some (.aload_n 1, 1) := by decide +kernel
theorem c234_10 : mc_cd 234 10 = some (.iload_n 2, 1) := by decide +kernel
theorem c234_11 : mc_cd 234 11 = some (.invokevirtual 386, 3) := by decide +kernel
theorem c234_14 : mc_cd 234 14 = some (.isub, 1) := by decide +kernel
theorem c234_15 : mc_cd 234 15 = some (.istore_n 3, 1) := by decide +kernel
theorem c234_16 : mc_cd 234 16 = some (.iload_n 3, 1) := by decide +kernel
theorem c234_17 : mc_cd 234 17 = some (.iconst 0, 1) := by decide +kernel
theorem c234_18 : mc_cd 234 18 = some (.aload_n 0, 1) := by decide +kernel
theorem c234_19 : mc_cd 234 19 = some (.getfield 337, 3) := by decide +kernel
theorem c234_22 : mc_cd 234 22 = some (.getfield 222, 3) := by decide +kernel
theorem c234_25 : mc_cd 234 25 = some (.invokestatic 125, 3) := by decide +kernel
theorem c234_28 : mc_cd 234 28 = some (.ifCond .eq 5, 3) := by decide +kernel
theorem c234_31 : mc_cd 234 31 = some (.iconst 0, 1) := by decide +kernel
theorem c234_32 : mc_cd 234 32 = some (.ireturn, 1) := by decide +kernel
theorem c234_33 : mc_cd 234 33 = some (.iload_n 3, 1) := by decide +kernel
theorem c234_34 : mc_cd 234 34 = some (.iconst (-1), 1) := by decide +kernel
theorem c234_35 : mc_cd 234 35 = some (.if_icmp .eq 16, 3) := by decide +kernel
theorem c234_38 : mc_cd 234 38 = some (.iload_n 3, 1) := by decide +kernel
theorem c234_39 : mc_cd 234 39 = some (.aload_n 0, 1) := by decide +kernel
theorem c234_40 : mc_cd 234 40 = some (.getfield 337, 3) := by decide +kernel
theorem c234_43 : mc_cd 234 43 = some (.getfield 222, 3) := by decide +kernel
theorem c234_46 : mc_cd 234 46 = some (.iconst 1, 1) := by decide +kernel
theorem c234_47 : mc_cd 234 47 = some (.iadd, 1) := by decide +kernel
theorem c234_48 : mc_cd 234 48 = some (.if_icmp .ne 7, 3) := by decide +kernel
theorem c234_51 : mc_cd 234 51 = some (.iconst 1, 1) := by decide +kernel
theorem c234_52 : mc_cd 234 52 = some (.goto 4, 3) := by decide +kernel
theorem c234_55 : mc_cd 234 55 = some (.iconst 2, 1) := by decide +kernel
theorem c234_56 : mc_cd 234 56 = some (.ireturn, 1) := by decide +kernel
abbrev q_234_m_lot (r0 : Nat) (r1 : Nat) (a2 : Int) (pp : Nat) (T : wq_T) (H : wq_H) : Option Value → wq_T → wq_H → Prop := fun r T' H' => T = T' ∧ H = H' ∧ ∃ z : Int, some (vI z) = r ∧ (0 ≤ z ∧ z ≤ 2)
set_option maxHeartbeats 4000000 in
theorem s_234_m_lot {kt : Nat → Option mc_E} {T : wq_T} {H : wq_H} {r0 : Nat} {r1 : Nat} {a2 : Int} {pp : Nat} (hW : WT T H) (g0 : T.2.2.2 r0 = some 42) (g1 : T.2.2.2 r1 = some 51) (i2 : 0 ≤ a2 ∧ a2 ≤ 23) (qpp : H r0 3 = (pp : Int)) (gpp : T.2.2.2 pp = some 54) : wpc kt 3 234 [.ref r0, .ref r1, vI a2] T H (q_234_m_lot r0 r1 a2 pp T H) := by
  refine wp_enter e234 (Nat.le_of_ble_eq_true rfl) rfl ?_
  show wp _ _ 234 0 [(0, .ref r0), (1, .ref r1), (2, vI a2)] [] _ H _
  refine wp_of e234 c234_0 (rw_aload_n (pc' := 1) (v := .ref r0) rfl rfl rfl ?_)
  refine wp_of e234 c234_1 (xg_R (pc' := 4) lf_9_17 hW g0 sh_42 (by decide) (by decide) ty_42_20 rfl rfl (fun r131911 q131912 g131913 => ?_))
  refine wp_of e234 c234_4 (rw_iload_n (pc' := 5) (z := a2) rfl rfl ?_)
  refine wp_of e234 c234_5 (xa_I (so := 0) (pc' := 6) hW g131913 sh_44 (by decide) (ty_44 _) (by omega) (by omega) rfl (fun b131914 b131915 => ?_))
  refine wp_of e234 c234_6 (rw_iconst (pc' := 7) rfl ?_)
  refine wp_of e234 c234_7 (rw_isubw (pc' := 8) rfl ?_)
  obtain ⟨v131916, e131917⟩ : ∃ x : Int, x = wq_w ((H r131911 (a2.toNat)) - 1) := ⟨_, rfl⟩
  rw [← e131917]
  have b131918 : -2147483648 ≤ v131916 ∧ v131916 ≤ 2147483647 := by
    rw [e131917]
    exact wI_w _
  refine wp_of e234 c234_8 (rw_aload_n (pc' := 9) (v := .ref r0) rfl rfl rfl ?_)
  refine wp_of e234 c234_9 (rw_aload_n (pc' := 10) (v := .ref r1) rfl rfl rfl ?_)
  refine wp_of e234 c234_10 (rw_iload_n (pc' := 11) (z := a2) rfl rfl ?_)
  refine wp_of e234 c234_11 (xc_V (pc' := 14) (r := r0) (as := [.ref r1, vI a2]) (st := [vI v131916]) (lm_9_386) rfl rfl (Nat.le_of_ble_eq_true rfl) hW g0 sh_42 (by decide) rfl (by decide) (s_228_m_lot hW g0 g1 ⟨by omega, by omega⟩ qpp gpp) (fun R131919 T131920 H131921 p131922 => ?_))
  obtain ⟨e131923, e131925, z131926, e131924, b131927⟩ := p131922
  subst e131923
  subst e131924
  subst e131925
  show wp _ _ 234 14 [(0, .ref r0), (1, .ref r1), (2, vI a2)] [vI z131926, vI v131916] _ H _
  refine wp_of e234 c234_14 (rw_isubw (pc' := 15) rfl ?_)
  obtain ⟨v131928, e131929⟩ : ∃ x : Int, x = wq_w (v131916 - z131926) := ⟨_, rfl⟩
  rw [← e131929]
  have b131930 : -2147483648 ≤ v131928 ∧ v131928 ≤ 2147483647 := by
    rw [e131929]
    exact wI_w _
  refine wp_of e234 c234_15 (rw_istore_n (pc' := 16) (z := v131928) (L' := [(3, vI v131928), (0, .ref r0), (1, .ref r1), (2, vI a2)]) rfl rfl rfl ?_)
  refine wp_of e234 c234_16 (rw_iload_n (pc' := 17) (z := v131928) rfl rfl ?_)
  refine wp_of e234 c234_17 (rw_iconst (pc' := 18) rfl ?_)
  refine wp_of e234 c234_18 (rw_aload_n (pc' := 19) (v := .ref r0) rfl rfl rfl ?_)
  refine wp_of e234 c234_19 (xg_K (pc' := 22) lf_9_337 hW g0 sh_42 (by decide) (by decide) rfl qpp rfl ?_)
  refine wp_of e234 c234_22 (xg_I (pc' := 25) lf_9_222 hW gpp sh_54 (by decide) (by decide) ty_54_1 rfl rfl (fun b131931 b131932 => ?_))
  refine wp_of e234 c234_25 (xc_S (pc' := 28) (as := [vI v131928, vI 0, vI (H pp 1)]) (st := []) (lm_9_125) rfl rfl (Nat.le_of_ble_eq_true rfl) rfl (by decide) (s_186 hW ⟨by omega, by omega⟩ ⟨by omega, by omega⟩ ⟨by omega, by omega⟩) (fun R131933 T131934 H131935 p131936 => ?_))
  obtain ⟨e131937, e131939, z131941, e131938, b131942, p131940⟩ := p131936
  subst e131937
  subst e131938
  subst e131939
  show wp _ _ 234 28 [(3, vI v131928), (0, .ref r0), (1, .ref r1), (2, vI a2)] [vI z131941] _ H _
  refine wp_of e234 c234_28 (rw_if_eq (p1 := 33) (p2 := 31) (by decide) rfl ⟨by omega, by omega⟩ (fun c131943 => ?_) (fun c131943 => ?_))
  · refine wp_of e234 c234_33 (rw_iload_n (pc' := 34) (z := v131928) rfl rfl ?_)
    refine wp_of e234 c234_34 (rw_iconst (pc' := 35) rfl ?_)
    refine wp_of e234 c234_35 (rw_icmp_eq (p1 := 51) (p2 := 38) (by decide) rfl ⟨by omega, by omega⟩ ⟨by omega, by omega⟩ (fun c131944 => ?_) (fun c131944 => ?_))
    · refine wp_of e234 c234_51 (rw_iconst (pc' := 52) rfl ?_)
      refine wp_of e234 c234_52 (rw_goto (p1 := 56) (by decide) ?_)
      exact wp_ireturn e234 c234_56 rfl ⟨rfl, rfl, 1, rfl, ⟨by omega, by omega⟩⟩
    · refine wp_of e234 c234_38 (rw_iload_n (pc' := 39) (z := v131928) rfl rfl ?_)
      refine wp_of e234 c234_39 (rw_aload_n (pc' := 40) (v := .ref r0) rfl rfl rfl ?_)
      refine wp_of e234 c234_40 (xg_K (pc' := 43) lf_9_337 hW g0 sh_42 (by decide) (by decide) rfl qpp rfl ?_)
      refine wp_of e234 c234_43 (xg_I (pc' := 46) lf_9_222 hW gpp sh_54 (by decide) (by decide) ty_54_1 rfl rfl (fun b131945 b131946 => ?_))
      refine wp_of e234 c234_46 (rw_iconst (pc' := 47) rfl ?_)
      refine wp_of e234 c234_47 (rw_iaddw (pc' := 48) rfl ?_)
      obtain ⟨v131947, e131948⟩ : ∃ x : Int, x = wq_w ((H pp 1) + 1) := ⟨_, rfl⟩
      rw [← e131948]
      have b131949 : -2147483648 ≤ v131947 ∧ v131947 ≤ 2147483647 := by
        rw [e131948]
        exact wI_w _
      refine wp_of e234 c234_48 (rw_icmp_ne (p1 := 55) (p2 := 51) (by decide) rfl ⟨by omega, by omega⟩ ⟨by omega, by omega⟩ (fun c131950 => ?_) (fun c131950 => ?_))
      · refine wp_of e234 c234_55 (rw_iconst (pc' := 56) rfl ?_)
        exact wp_ireturn e234 c234_56 rfl ⟨rfl, rfl, 2, rfl, ⟨by omega, by omega⟩⟩
      · refine wp_of e234 c234_51 (rw_iconst (pc' := 52) rfl ?_)
        refine wp_of e234 c234_52 (rw_goto (p1 := 56) (by decide) ?_)
        exact wp_ireturn e234 c234_56 rfl ⟨rfl, rfl, 1, rfl, ⟨by omega, by omega⟩⟩
  · refine wp_of e234 c234_31 (rw_iconst (pc' := 32) rfl ?_)
    exact wp_ireturn e234 c234_32 rfl ⟨rfl, rfl, 0, rfl, ⟨by omega, by omega⟩⟩

/-! StrikeAwakeModel.offIn([II)I -/
abbrev q_234_m_said (r0 : Nat) (r1 : Nat) (a2 : Int) (pp : Nat) (T : wq_T) (H : wq_H) : Option Value → wq_T → wq_H → Prop := fun r T' H' => T = T' ∧ H = H' ∧ ∃ z : Int, some (vI z) = r ∧ (0 ≤ z ∧ z ≤ 2)
set_option maxHeartbeats 4000000 in
theorem s_234_m_said {kt : Nat → Option mc_E} {T : wq_T} {H : wq_H} {r0 : Nat} {r1 : Nat} {a2 : Int} {pp : Nat} (hW : WT T H) (g0 : T.2.2.2 r0 = some 42) (g1 : T.2.2.2 r1 = some 50) (i2 : 0 ≤ a2 ∧ a2 ≤ 23) (qpp : H r0 3 = (pp : Int)) (gpp : T.2.2.2 pp = some 54) : wpc kt 3 234 [.ref r0, .ref r1, vI a2] T H (q_234_m_said r0 r1 a2 pp T H) := by
  refine wp_enter e234 (Nat.le_of_ble_eq_true rfl) rfl ?_
  show wp _ _ 234 0 [(0, .ref r0), (1, .ref r1), (2, vI a2)] [] _ H _
  refine wp_of e234 c234_0 (rw_aload_n (pc' := 1) (v := .ref r0) rfl rfl rfl ?_)
  refine wp_of e234 c234_1 (xg_R (pc' := 4) lf_9_17 hW g0 sh_42 (by decide) (by decide) ty_42_20 rfl rfl (fun r131988 q131989 g131990 => ?_))
  refine wp_of e234 c234_4 (rw_iload_n (pc' := 5) (z := a2) rfl rfl ?_)
  refine wp_of e234 c234_5 (xa_I (so := 0) (pc' := 6) hW g131990 sh_44 (by decide) (ty_44 _) (by omega) (by omega) rfl (fun b131991 b131992 => ?_))
  refine wp_of e234 c234_6 (rw_iconst (pc' := 7) rfl ?_)
  refine wp_of e234 c234_7 (rw_isubw (pc' := 8) rfl ?_)
  obtain ⟨v131993, e131994⟩ : ∃ x : Int, x = wq_w ((H r131988 (a2.toNat)) - 1) := ⟨_, rfl⟩
  rw [← e131994]
  have b131995 : -2147483648 ≤ v131993 ∧ v131993 ≤ 2147483647 := by
    rw [e131994]
    exact wI_w _
  refine wp_of e234 c234_8 (rw_aload_n (pc' := 9) (v := .ref r0) rfl rfl rfl ?_)
  refine wp_of e234 c234_9 (rw_aload_n (pc' := 10) (v := .ref r1) rfl rfl rfl ?_)
  refine wp_of e234 c234_10 (rw_iload_n (pc' := 11) (z := a2) rfl rfl ?_)
  refine wp_of e234 c234_11 (xc_V (pc' := 14) (r := r0) (as := [.ref r1, vI a2]) (st := [vI v131993]) (lm_9_386) rfl rfl (Nat.le_of_ble_eq_true rfl) hW g0 sh_42 (by decide) rfl (by decide) (s_228_m_said hW g0 g1 ⟨by omega, by omega⟩ qpp gpp) (fun R131996 T131997 H131998 p131999 => ?_))
  obtain ⟨e132000, e132002, z132003, e132001, b132004⟩ := p131999
  subst e132000
  subst e132001
  subst e132002
  show wp _ _ 234 14 [(0, .ref r0), (1, .ref r1), (2, vI a2)] [vI z132003, vI v131993] _ H _
  refine wp_of e234 c234_14 (rw_isubw (pc' := 15) rfl ?_)
  obtain ⟨v132005, e132006⟩ : ∃ x : Int, x = wq_w (v131993 - z132003) := ⟨_, rfl⟩
  rw [← e132006]
  have b132007 : -2147483648 ≤ v132005 ∧ v132005 ≤ 2147483647 := by
    rw [e132006]
    exact wI_w _
  refine wp_of e234 c234_15 (rw_istore_n (pc' := 16) (z := v132005) (L' := [(3, vI v132005), (0, .ref r0), (1, .ref r1), (2, vI a2)]) rfl rfl rfl ?_)
  refine wp_of e234 c234_16 (rw_iload_n (pc' := 17) (z := v132005) rfl rfl ?_)
  refine wp_of e234 c234_17 (rw_iconst (pc' := 18) rfl ?_)
  refine wp_of e234 c234_18 (rw_aload_n (pc' := 19) (v := .ref r0) rfl rfl rfl ?_)
  refine wp_of e234 c234_19 (xg_K (pc' := 22) lf_9_337 hW g0 sh_42 (by decide) (by decide) rfl qpp rfl ?_)
  refine wp_of e234 c234_22 (xg_I (pc' := 25) lf_9_222 hW gpp sh_54 (by decide) (by decide) ty_54_1 rfl rfl (fun b132008 b132009 => ?_))
  refine wp_of e234 c234_25 (xc_S (pc' := 28) (as := [vI v132005, vI 0, vI (H pp 1)]) (st := []) (lm_9_125) rfl rfl (Nat.le_of_ble_eq_true rfl) rfl (by decide) (s_186 hW ⟨by omega, by omega⟩ ⟨by omega, by omega⟩ ⟨by omega, by omega⟩) (fun R132010 T132011 H132012 p132013 => ?_))
  obtain ⟨e132014, e132016, z132018, e132015, b132019, p132017⟩ := p132013
  subst e132014
  subst e132015
  subst e132016
  show wp _ _ 234 28 [(3, vI v132005), (0, .ref r0), (1, .ref r1), (2, vI a2)] [vI z132018] _ H _
  refine wp_of e234 c234_28 (rw_if_eq (p1 := 33) (p2 := 31) (by decide) rfl ⟨by omega, by omega⟩ (fun c132020 => ?_) (fun c132020 => ?_))
  · refine wp_of e234 c234_33 (rw_iload_n (pc' := 34) (z := v132005) rfl rfl ?_)
    refine wp_of e234 c234_34 (rw_iconst (pc' := 35) rfl ?_)
    refine wp_of e234 c234_35 (rw_icmp_eq (p1 := 51) (p2 := 38) (by decide) rfl ⟨by omega, by omega⟩ ⟨by omega, by omega⟩ (fun c132021 => ?_) (fun c132021 => ?_))
    · refine wp_of e234 c234_51 (rw_iconst (pc' := 52) rfl ?_)
      refine wp_of e234 c234_52 (rw_goto (p1 := 56) (by decide) ?_)
      exact wp_ireturn e234 c234_56 rfl ⟨rfl, rfl, 1, rfl, ⟨by omega, by omega⟩⟩
    · refine wp_of e234 c234_38 (rw_iload_n (pc' := 39) (z := v132005) rfl rfl ?_)
      refine wp_of e234 c234_39 (rw_aload_n (pc' := 40) (v := .ref r0) rfl rfl rfl ?_)
      refine wp_of e234 c234_40 (xg_K (pc' := 43) lf_9_337 hW g0 sh_42 (by decide) (by decide) rfl qpp rfl ?_)
      refine wp_of e234 c234_43 (xg_I (pc' := 46) lf_9_222 hW gpp sh_54 (by decide) (by decide) ty_54_1 rfl rfl (fun b132022 b132023 => ?_))
      refine wp_of e234 c234_46 (rw_iconst (pc' := 47) rfl ?_)
      refine wp_of e234 c234_47 (rw_iaddw (pc' := 48) rfl ?_)
      obtain ⟨v132024, e132025⟩ : ∃ x : Int, x = wq_w ((H pp 1) + 1) := ⟨_, rfl⟩
      rw [← e132025]
      have b132026 : -2147483648 ≤ v132024 ∧ v132024 ≤ 2147483647 := by
        rw [e132025]
        exact wI_w _
      refine wp_of e234 c234_48 (rw_icmp_ne (p1 := 55) (p2 := 51) (by decide) rfl ⟨by omega, by omega⟩ ⟨by omega, by omega⟩ (fun c132027 => ?_) (fun c132027 => ?_))
      · refine wp_of e234 c234_55 (rw_iconst (pc' := 56) rfl ?_)
        exact wp_ireturn e234 c234_56 rfl ⟨rfl, rfl, 2, rfl, ⟨by omega, by omega⟩⟩
      · refine wp_of e234 c234_51 (rw_iconst (pc' := 52) rfl ?_)
        refine wp_of e234 c234_52 (rw_goto (p1 := 56) (by decide) ?_)
        exact wp_ireturn e234 c234_56 rfl ⟨rfl, rfl, 1, rfl, ⟨by omega, by omega⟩⟩
  · refine wp_of e234 c234_31 (rw_iconst (pc' := 32) rfl ?_)
    exact wp_ireturn e234 c234_32 rfl ⟨rfl, rfl, 0, rfl, ⟨by omega, by omega⟩⟩
/-! StrikeAwakeModel.bothAsleep([I)I -/
theorem e235 : wq_en 235 = some (9, 4, false, some FieldType.int) := rfl
theorem c235_0 : mc_cd 235 0 = some (.iconst 0, 1) := by decide +kernel
theorem c235_1 : mc_cd 235 1 = some (.istore_n 2, 1) := by decide +kernel
theorem c235_2 : mc_cd 235 2 = some (.iconst 0, 1) := by decide +kernel
theorem c235_3 : mc_cd 235 3 = some (.istore_n 3, 1) := by decide +kernel
theorem c235_4 : mc_cd 235 4 = some (.iload_n 3, 1) := by decide +kernel
theorem c235_5 : mc_cd 235 5 = some (.aload_n 0, 1) := by decide +kernel
theorem c235_6 : mc_cd 235 6 = some (.getfield 337, 3) := by decide +kernel
theorem c235_9 : mc_cd 235 9 = some (.getfield 276, 3) := by decide +kernel
theorem c235_12 : mc_cd 235 12 = some (.if_icmp .ge 71, 3) := by decide +kernel
theorem c235_15 : mc_cd 235 15 = some (.iload_n 2, 1) := by decide +kernel
theorem c235_16 : mc_cd 235 16 = some (.aload_n 0, 1) := by decide +kernel
theorem c235_17 : mc_cd 235 17 = some (.getfield 30, 3) := by decide +kernel
theorem c235_20 : mc_cd 235 20 = some (.bipush 40, 2) := by decide +kernel
theorem c235_22 : mc_cd 235 22 = some (.aload_n 0, 1) := by decide +kernel
theorem c235_23 : mc_cd 235 23 = some (.getfield 337, 3) := by decide +kernel
theorem c235_26 : mc_cd 235 26 = some (.getfield 282, 3) := by decide +kernel
theorem c235_29 : mc_cd 235 29 = some (.iload_n 3, 1) := by decide +kernel
theorem c235_30 : mc_cd 235 30 = some (.iaload, 1) := by decide +kernel
theorem c235_31 : mc_cd 235 31 = some (.imul, 1) := by decide +kernel
theorem c235_32 : mc_cd 235 32 = some (.aload_n 1, 1) := by decide +kernel
theorem c235_33 : mc_cd 235 33 = some (.aload_n 0, 1) := by decide +kernel
theorem c235_34 : mc_cd 235 34 = some (.getfield 337, 3) := by decide +kernel
theorem c235_37 : mc_cd 235 37 = some (.getfield 282, 3) := by decide +kernel
theorem c235_40 : mc_cd 235 40 = some (.iload_n 3, 1) := by decide +kernel
theorem c235_41 : mc_cd 235 41 = some (.iaload, 1) := by decide +kernel
theorem c235_42 : mc_cd 235 42 = some (.iaload, 1) := by decide +kernel
theorem c235_43 : mc_cd 235 43 = some (.iadd, 1) := by decide +kernel
theorem c235_44 : mc_cd 235 44 = some (.iaload, 1) := by decide +kernel
theorem c235_45 : mc_cd 235 45 = some (.aload_n 0, 1) := by decide +kernel
theorem c235_46 : mc_cd 235 46 = some (.getfield 30, 3) := by decide +kernel
theorem c235_49 : mc_cd 235 49 = some (.bipush 40, 2) := by decide +kernel
theorem c235_51 : mc_cd 235 51 = some (.aload_n 0, 1) := by decide +kernel
theorem c235_52 : mc_cd 235 52 = some (.getfield 337, 3) := by decide +kernel
theorem c235_55 : mc_cd 235 55 = some (.getfield 285, 3) := by decide +kernel
theorem c235_58 : mc_cd 235 58 = some (.iload_n 3, 1) := by decide +kernel
theorem c235_59 : mc_cd 235 59 = some (.iaload, 1) := by decide +kernel
theorem c235_60 : mc_cd 235 60 = some (.imul, 1) := by decide +kernel
theorem c235_61 : mc_cd 235 61 = some (.aload_n 1, 1) := by decide +kernel
theorem c235_62 : mc_cd 235 62 = some (.aload_n 0, 1) := by decide +kernel
theorem c235_63 : mc_cd 235 63 = some (.getfield 337, 3) := by decide +kernel
theorem c235_66 : mc_cd 235 66 = some (.getfield 285, 3) := by decide +kernel
theorem c235_69 : mc_cd 235 69 = some (.iload_n 3, 1) := by decide +kernel
theorem c235_70 : mc_cd 235 70 = some (.iaload, 1) := by decide +kernel
theorem c235_71 : mc_cd 235 71 = some (.iaload, 1) := by decide +kernel
theorem c235_72 : mc_cd 235 72 = some (.iadd, 1) := by decide +kernel
theorem c235_73 : mc_cd 235 73 = some (.iaload, 1) := by decide +kernel
theorem c235_74 : mc_cd 235 74 = some (.iand, 1) := by decide +kernel
theorem c235_75 : mc_cd 235 75 = some (.ior, 1) := by decide +kernel
theorem c235_76 : mc_cd 235 76 = some (.istore_n 2, 1) := by decide +kernel
theorem c235_77 : mc_cd 235 77 = some (.iinc 3 1, 3) := by decide +kernel
theorem c235_80 : mc_cd 235 80 = some (.goto (-76), 3) := by decide +kernel
theorem c235_83 : mc_cd 235 83 = some (.iload_n 2, 1) := by decide +kernel
theorem c235_84 : mc_cd 235 84 = some (.ireturn, 1) := by decide +kernel
abbrev q_235_m_lot (r0 : Nat) (r1 : Nat) (pp : Nat) (T : wq_T) (H : wq_H) : Option Value → wq_T → wq_H → Prop := fun r T' H' => T = T' ∧ H = H' ∧ ∃ z : Int, some (vI z) = r ∧ ((-2147483648) ≤ z ∧ z ≤ 2147483647)
set_option maxHeartbeats 4000000 in
theorem s_235_m_lot {kt : Nat → Option mc_E} {T : wq_T} {H : wq_H} {r0 : Nat} {r1 : Nat} {pp : Nat} (hW : WT T H) (g0 : T.2.2.2 r0 = some 42) (g1 : T.2.2.2 r1 = some 51) (qpp : H r0 3 = (pp : Int)) (gpp : T.2.2.2 pp = some 54) : wpc kt 1 235 [.ref r0, .ref r1] T H (q_235_m_lot r0 r1 pp T H) := by
  refine wp_enter e235 (Nat.le_of_ble_eq_true rfl) rfl ?_
  show wp _ _ 235 0 [(0, .ref r0), (1, .ref r1)] [] _ H _
  refine wp_of e235 c235_0 (rw_iconst (pc' := 1) rfl ?_)
  refine wp_of e235 c235_1 (rw_istore_n (pc' := 2) (z := 0) (L' := [(2, vI 0), (0, .ref r0), (1, .ref r1)]) rfl rfl rfl ?_)
  refine wp_of e235 c235_2 (rw_iconst (pc' := 3) rfl ?_)
  refine wp_of e235 c235_3 (rw_istore_n (pc' := 4) (z := 0) (L' := [(3, vI 0), (2, vI 0), (0, .ref r0), (1, .ref r1)]) rfl rfl rfl ?_)
  have lp132333 : ∀ (n132334 : Nat) (v132336 : Int) (v132337 : Int), (0 ≤ v132336 ∧ v132336 ≤ 3) → ((-2147483648) ≤ v132337 ∧ v132337 ≤ 2147483647) → (3 - v132336).toNat = n132334 → wp kt 0 235 4 [(3, vI v132336), (2, vI v132337), (0, .ref r0), (1, .ref r1)] [] T H (q_235_m_lot r0 r1 pp T H) := by
    intro n132334
    induction n132334 using Nat.strongRecOn with
    | _ n132334 ih132335 =>
      intro v132336 v132337 b132340 b132341 m132342
      refine wp_of e235 c235_4 (rw_iload_n (pc' := 5) (z := v132336) rfl rfl ?_)
      refine wp_of e235 c235_5 (rw_aload_n (pc' := 6) (v := .ref r0) rfl rfl rfl ?_)
      refine wp_of e235 c235_6 (xg_K (pc' := 9) lf_9_337 hW g0 sh_42 (by decide) (by decide) rfl qpp rfl ?_)
      refine wp_of e235 c235_9 (xg_I (pc' := 12) lf_9_276 hW gpp sh_54 (by decide) (by decide) ty_54_4 rfl rfl (fun b132343 b132344 => ?_))
      refine wp_of e235 c235_12 (rw_icmp_ge (p1 := 83) (p2 := 15) (by decide) rfl ⟨by omega, by omega⟩ ⟨by omega, by omega⟩ (fun c132345 => ?_) (fun c132345 => ?_))
      · refine wp_of e235 c235_83 (rw_iload_n (pc' := 84) (z := v132337) rfl rfl ?_)
        exact wp_ireturn e235 c235_84 rfl ⟨rfl, rfl, v132337, rfl, ⟨by omega, by omega⟩⟩
      · refine wp_of e235 c235_15 (rw_iload_n (pc' := 16) (z := v132337) rfl rfl ?_)
        refine wp_of e235 c235_16 (rw_aload_n (pc' := 17) (v := .ref r0) rfl rfl rfl ?_)
        refine wp_of e235 c235_17 (xg_R (pc' := 20) lf_9_30 hW g0 sh_42 (by decide) (by decide) ty_42_24 rfl rfl (fun r132346 q132347 g132348 => ?_))
        refine wp_of e235 c235_20 (rw_bipush (pc' := 22) (z := 40) rfl (by decide) ?_)
        refine wp_of e235 c235_22 (rw_aload_n (pc' := 23) (v := .ref r0) rfl rfl rfl ?_)
        refine wp_of e235 c235_23 (xg_K (pc' := 26) lf_9_337 hW g0 sh_42 (by decide) (by decide) rfl qpp rfl ?_)
        refine wp_of e235 c235_26 (xg_R (pc' := 29) lf_9_282 hW gpp sh_54 (by decide) (by decide) ty_54_18 rfl rfl (fun r132349 q132350 g132351 => ?_))
        refine wp_of e235 c235_29 (rw_iload_n (pc' := 30) (z := v132336) rfl rfl ?_)
        refine wp_of e235 c235_30 (xa_I (so := 0) (pc' := 31) hW g132351 sh_64 (by decide) (ty_64 _) (by omega) (by omega) rfl (fun b132352 b132353 => ?_))
        refine wp_of e235 c235_31 (rw_imul (pc' := 32) rfl ?_)
        refine wp_of e235 c235_32 (rw_aload_n (pc' := 33) (v := .ref r1) rfl rfl rfl ?_)
        refine wp_of e235 c235_33 (rw_aload_n (pc' := 34) (v := .ref r0) rfl rfl rfl ?_)
        refine wp_of e235 c235_34 (xg_K (pc' := 37) lf_9_337 hW g0 sh_42 (by decide) (by decide) rfl qpp rfl ?_)
        refine wp_of e235 c235_37 (xg_K (pc' := 40) lf_9_282 hW gpp sh_54 (by decide) (by decide) rfl q132350 rfl ?_)
        refine wp_of e235 c235_40 (rw_iload_n (pc' := 41) (z := v132336) rfl rfl ?_)
        refine wp_of e235 c235_41 (xa_I (so := 0) (pc' := 42) hW g132351 sh_64 (by decide) (ty_64 _) (by omega) (by omega) rfl (fun b132354 b132355 => ?_))
        refine wp_of e235 c235_42 (xa_I (so := 0) (pc' := 43) hW g1 sh_51 (by decide) (ty_51 _) (by omega) (by omega) rfl (fun b132356 b132357 => ?_))
        refine wp_of e235 c235_43 (rw_iadd (pc' := 44) rfl ?_)
        refine wp_of e235 c235_44 (xa_I (so := 0) (pc' := 45) hW g132348 sh_48 (by decide) (ty_48 _) (by omega) (by omega) rfl (fun b132358 b132359 => ?_))
        refine wp_of e235 c235_45 (rw_aload_n (pc' := 46) (v := .ref r0) rfl rfl rfl ?_)
        refine wp_of e235 c235_46 (xg_K (pc' := 49) lf_9_30 hW g0 sh_42 (by decide) (by decide) rfl q132347 rfl ?_)
        refine wp_of e235 c235_49 (rw_bipush (pc' := 51) (z := 40) rfl (by decide) ?_)
        refine wp_of e235 c235_51 (rw_aload_n (pc' := 52) (v := .ref r0) rfl rfl rfl ?_)
        refine wp_of e235 c235_52 (xg_K (pc' := 55) lf_9_337 hW g0 sh_42 (by decide) (by decide) rfl qpp rfl ?_)
        refine wp_of e235 c235_55 (xg_R (pc' := 58) lf_9_285 hW gpp sh_54 (by decide) (by decide) ty_54_19 rfl rfl (fun r132360 q132361 g132362 => ?_))
        refine wp_of e235 c235_58 (rw_iload_n (pc' := 59) (z := v132336) rfl rfl ?_)
        refine wp_of e235 c235_59 (xa_I (so := 0) (pc' := 60) hW g132362 sh_65 (by decide) (ty_65 _) (by omega) (by omega) rfl (fun b132363 b132364 => ?_))
        refine wp_of e235 c235_60 (rw_imul (pc' := 61) rfl ?_)
        refine wp_of e235 c235_61 (rw_aload_n (pc' := 62) (v := .ref r1) rfl rfl rfl ?_)
        refine wp_of e235 c235_62 (rw_aload_n (pc' := 63) (v := .ref r0) rfl rfl rfl ?_)
        refine wp_of e235 c235_63 (xg_K (pc' := 66) lf_9_337 hW g0 sh_42 (by decide) (by decide) rfl qpp rfl ?_)
        refine wp_of e235 c235_66 (xg_K (pc' := 69) lf_9_285 hW gpp sh_54 (by decide) (by decide) rfl q132361 rfl ?_)
        refine wp_of e235 c235_69 (rw_iload_n (pc' := 70) (z := v132336) rfl rfl ?_)
        refine wp_of e235 c235_70 (xa_I (so := 0) (pc' := 71) hW g132362 sh_65 (by decide) (ty_65 _) (by omega) (by omega) rfl (fun b132365 b132366 => ?_))
        refine wp_of e235 c235_71 (xa_I (so := 0) (pc' := 72) hW g1 sh_51 (by decide) (ty_51 _) (by omega) (by omega) rfl (fun b132367 b132368 => ?_))
        refine wp_of e235 c235_72 (rw_iadd (pc' := 73) rfl ?_)
        refine wp_of e235 c235_73 (xa_I (so := 0) (pc' := 74) hW g132348 sh_48 (by decide) (ty_48 _) (by omega) (by omega) rfl (fun b132369 b132370 => ?_))
        refine wp_of e235 c235_74 (rw_iand (pc' := 75) rfl ?_)
        obtain ⟨v132371, e132372⟩ : ∃ x : Int, x = wq_and (H r132346 (((40 * (H r132349 (v132336.toNat))) + (H r1 ((H r132349 (v132336.toNat)).toNat))).toNat)) (H r132346 (((40 * (H r132360 (v132336.toNat))) + (H r1 ((H r132360 (v132336.toNat)).toNat))).toNat)) := ⟨_, rfl⟩
        rw [← e132372]
        have b132373 : -2147483648 ≤ v132371 ∧ v132371 ≤ 2147483647 := by
          rw [e132372]
          exact wI_and _ _
        refine wp_of e235 c235_75 (rw_ior (pc' := 76) rfl ?_)
        obtain ⟨v132374, e132375⟩ : ∃ x : Int, x = wq_or v132337 v132371 := ⟨_, rfl⟩
        rw [← e132375]
        have b132376 : -2147483648 ≤ v132374 ∧ v132374 ≤ 2147483647 := by
          rw [e132375]
          exact wI_or _ _
        refine wp_of e235 c235_76 (rw_istore_n (pc' := 77) (z := v132374) (L' := [(2, vI v132374), (3, vI v132336), (0, .ref r0), (1, .ref r1)]) rfl rfl rfl ?_)
        refine wp_of e235 c235_77 (rw_iinc (pc' := 80) (z := v132336) (L' := [(3, vI (v132336 + 1)), (2, vI v132374), (0, .ref r0), (1, .ref r1)]) rfl rfl rfl rfl ?_)
        refine wp_of e235 c235_80 (rw_goto (p1 := 4) (by decide) ?_)
        exact wp_lc (ks := [3, 2, 0, 1]) (wl_c rfl (wl_c rfl (wl_c rfl (wl_c rfl wl_n)))) rfl (by decide) (ih132335 _ (by omega) (v132336 + 1) v132374 ⟨by omega, by omega⟩ ⟨by omega, by omega⟩ rfl)
  exact wp_lc (ks := [3, 2, 0, 1]) (wl_c rfl (wl_c rfl (wl_c rfl (wl_c rfl wl_n)))) rfl (by decide) (lp132333 _ 0 0 ⟨by omega, by omega⟩ ⟨by omega, by omega⟩ rfl)

/-! StrikeAwakeModel.bothAsleep([I)I -/
abbrev q_235_m_said (r0 : Nat) (r1 : Nat) (pp : Nat) (T : wq_T) (H : wq_H) : Option Value → wq_T → wq_H → Prop := fun r T' H' => T = T' ∧ H = H' ∧ ∃ z : Int, some (vI z) = r ∧ ((-2147483648) ≤ z ∧ z ≤ 2147483647)
set_option maxHeartbeats 4000000 in
theorem s_235_m_said {kt : Nat → Option mc_E} {T : wq_T} {H : wq_H} {r0 : Nat} {r1 : Nat} {pp : Nat} (hW : WT T H) (g0 : T.2.2.2 r0 = some 42) (g1 : T.2.2.2 r1 = some 50) (qpp : H r0 3 = (pp : Int)) (gpp : T.2.2.2 pp = some 54) : wpc kt 1 235 [.ref r0, .ref r1] T H (q_235_m_said r0 r1 pp T H) := by
  refine wp_enter e235 (Nat.le_of_ble_eq_true rfl) rfl ?_
  show wp _ _ 235 0 [(0, .ref r0), (1, .ref r1)] [] _ H _
  refine wp_of e235 c235_0 (rw_iconst (pc' := 1) rfl ?_)
  refine wp_of e235 c235_1 (rw_istore_n (pc' := 2) (z := 0) (L' := [(2, vI 0), (0, .ref r0), (1, .ref r1)]) rfl rfl rfl ?_)
  refine wp_of e235 c235_2 (rw_iconst (pc' := 3) rfl ?_)
  refine wp_of e235 c235_3 (rw_istore_n (pc' := 4) (z := 0) (L' := [(3, vI 0), (2, vI 0), (0, .ref r0), (1, .ref r1)]) rfl rfl rfl ?_)
  have lp132682 : ∀ (n132683 : Nat) (v132685 : Int) (v132686 : Int), (0 ≤ v132685 ∧ v132685 ≤ 3) → ((-2147483648) ≤ v132686 ∧ v132686 ≤ 2147483647) → (3 - v132685).toNat = n132683 → wp kt 0 235 4 [(3, vI v132685), (2, vI v132686), (0, .ref r0), (1, .ref r1)] [] T H (q_235_m_said r0 r1 pp T H) := by
    intro n132683
    induction n132683 using Nat.strongRecOn with
    | _ n132683 ih132684 =>
      intro v132685 v132686 b132689 b132690 m132691
      refine wp_of e235 c235_4 (rw_iload_n (pc' := 5) (z := v132685) rfl rfl ?_)
      refine wp_of e235 c235_5 (rw_aload_n (pc' := 6) (v := .ref r0) rfl rfl rfl ?_)
      refine wp_of e235 c235_6 (xg_K (pc' := 9) lf_9_337 hW g0 sh_42 (by decide) (by decide) rfl qpp rfl ?_)
      refine wp_of e235 c235_9 (xg_I (pc' := 12) lf_9_276 hW gpp sh_54 (by decide) (by decide) ty_54_4 rfl rfl (fun b132692 b132693 => ?_))
      refine wp_of e235 c235_12 (rw_icmp_ge (p1 := 83) (p2 := 15) (by decide) rfl ⟨by omega, by omega⟩ ⟨by omega, by omega⟩ (fun c132694 => ?_) (fun c132694 => ?_))
      · refine wp_of e235 c235_83 (rw_iload_n (pc' := 84) (z := v132686) rfl rfl ?_)
        exact wp_ireturn e235 c235_84 rfl ⟨rfl, rfl, v132686, rfl, ⟨by omega, by omega⟩⟩
      · refine wp_of e235 c235_15 (rw_iload_n (pc' := 16) (z := v132686) rfl rfl ?_)
        refine wp_of e235 c235_16 (rw_aload_n (pc' := 17) (v := .ref r0) rfl rfl rfl ?_)
        refine wp_of e235 c235_17 (xg_R (pc' := 20) lf_9_30 hW g0 sh_42 (by decide) (by decide) ty_42_24 rfl rfl (fun r132695 q132696 g132697 => ?_))
        refine wp_of e235 c235_20 (rw_bipush (pc' := 22) (z := 40) rfl (by decide) ?_)
        refine wp_of e235 c235_22 (rw_aload_n (pc' := 23) (v := .ref r0) rfl rfl rfl ?_)
        refine wp_of e235 c235_23 (xg_K (pc' := 26) lf_9_337 hW g0 sh_42 (by decide) (by decide) rfl qpp rfl ?_)
        refine wp_of e235 c235_26 (xg_R (pc' := 29) lf_9_282 hW gpp sh_54 (by decide) (by decide) ty_54_18 rfl rfl (fun r132698 q132699 g132700 => ?_))
        refine wp_of e235 c235_29 (rw_iload_n (pc' := 30) (z := v132685) rfl rfl ?_)
        refine wp_of e235 c235_30 (xa_I (so := 0) (pc' := 31) hW g132700 sh_64 (by decide) (ty_64 _) (by omega) (by omega) rfl (fun b132701 b132702 => ?_))
        refine wp_of e235 c235_31 (rw_imul (pc' := 32) rfl ?_)
        refine wp_of e235 c235_32 (rw_aload_n (pc' := 33) (v := .ref r1) rfl rfl rfl ?_)
        refine wp_of e235 c235_33 (rw_aload_n (pc' := 34) (v := .ref r0) rfl rfl rfl ?_)
        refine wp_of e235 c235_34 (xg_K (pc' := 37) lf_9_337 hW g0 sh_42 (by decide) (by decide) rfl qpp rfl ?_)
        refine wp_of e235 c235_37 (xg_K (pc' := 40) lf_9_282 hW gpp sh_54 (by decide) (by decide) rfl q132699 rfl ?_)
        refine wp_of e235 c235_40 (rw_iload_n (pc' := 41) (z := v132685) rfl rfl ?_)
        refine wp_of e235 c235_41 (xa_I (so := 0) (pc' := 42) hW g132700 sh_64 (by decide) (ty_64 _) (by omega) (by omega) rfl (fun b132703 b132704 => ?_))
        refine wp_of e235 c235_42 (xa_I (so := 0) (pc' := 43) hW g1 sh_50 (by decide) (ty_50 _) (by omega) (by omega) rfl (fun b132705 b132706 => ?_))
        refine wp_of e235 c235_43 (rw_iadd (pc' := 44) rfl ?_)
        refine wp_of e235 c235_44 (xa_I (so := 0) (pc' := 45) hW g132697 sh_48 (by decide) (ty_48 _) (by omega) (by omega) rfl (fun b132707 b132708 => ?_))
        refine wp_of e235 c235_45 (rw_aload_n (pc' := 46) (v := .ref r0) rfl rfl rfl ?_)
        refine wp_of e235 c235_46 (xg_K (pc' := 49) lf_9_30 hW g0 sh_42 (by decide) (by decide) rfl q132696 rfl ?_)
        refine wp_of e235 c235_49 (rw_bipush (pc' := 51) (z := 40) rfl (by decide) ?_)
        refine wp_of e235 c235_51 (rw_aload_n (pc' := 52) (v := .ref r0) rfl rfl rfl ?_)
        refine wp_of e235 c235_52 (xg_K (pc' := 55) lf_9_337 hW g0 sh_42 (by decide) (by decide) rfl qpp rfl ?_)
        refine wp_of e235 c235_55 (xg_R (pc' := 58) lf_9_285 hW gpp sh_54 (by decide) (by decide) ty_54_19 rfl rfl (fun r132709 q132710 g132711 => ?_))
        refine wp_of e235 c235_58 (rw_iload_n (pc' := 59) (z := v132685) rfl rfl ?_)
        refine wp_of e235 c235_59 (xa_I (so := 0) (pc' := 60) hW g132711 sh_65 (by decide) (ty_65 _) (by omega) (by omega) rfl (fun b132712 b132713 => ?_))
        refine wp_of e235 c235_60 (rw_imul (pc' := 61) rfl ?_)
        refine wp_of e235 c235_61 (rw_aload_n (pc' := 62) (v := .ref r1) rfl rfl rfl ?_)
        refine wp_of e235 c235_62 (rw_aload_n (pc' := 63) (v := .ref r0) rfl rfl rfl ?_)
        refine wp_of e235 c235_63 (xg_K (pc' := 66) lf_9_337 hW g0 sh_42 (by decide) (by decide) rfl qpp rfl ?_)
        refine wp_of e235 c235_66 (xg_K (pc' := 69) lf_9_285 hW gpp sh_54 (by decide) (by decide) rfl q132710 rfl ?_)
        refine wp_of e235 c235_69 (rw_iload_n (pc' := 70) (z := v132685) rfl rfl ?_)
        refine wp_of e235 c235_70 (xa_I (so := 0) (pc' := 71) hW g132711 sh_65 (by decide) (ty_65 _) (by omega) (by omega) rfl (fun b132714 b132715 => ?_))
        refine wp_of e235 c235_71 (xa_I (so := 0) (pc' := 72) hW g1 sh_50 (by decide) (ty_50 _) (by omega) (by omega) rfl (fun b132716 b132717 => ?_))
        refine wp_of e235 c235_72 (rw_iadd (pc' := 73) rfl ?_)
        refine wp_of e235 c235_73 (xa_I (so := 0) (pc' := 74) hW g132697 sh_48 (by decide) (ty_48 _) (by omega) (by omega) rfl (fun b132718 b132719 => ?_))
        refine wp_of e235 c235_74 (rw_iand (pc' := 75) rfl ?_)
        obtain ⟨v132720, e132721⟩ : ∃ x : Int, x = wq_and (H r132695 (((40 * (H r132698 (v132685.toNat))) + (H r1 ((H r132698 (v132685.toNat)).toNat))).toNat)) (H r132695 (((40 * (H r132709 (v132685.toNat))) + (H r1 ((H r132709 (v132685.toNat)).toNat))).toNat)) := ⟨_, rfl⟩
        rw [← e132721]
        have b132722 : -2147483648 ≤ v132720 ∧ v132720 ≤ 2147483647 := by
          rw [e132721]
          exact wI_and _ _
        refine wp_of e235 c235_75 (rw_ior (pc' := 76) rfl ?_)
        obtain ⟨v132723, e132724⟩ : ∃ x : Int, x = wq_or v132686 v132720 := ⟨_, rfl⟩
        rw [← e132724]
        have b132725 : -2147483648 ≤ v132723 ∧ v132723 ≤ 2147483647 := by
          rw [e132724]
          exact wI_or _ _
        refine wp_of e235 c235_76 (rw_istore_n (pc' := 77) (z := v132723) (L' := [(2, vI v132723), (3, vI v132685), (0, .ref r0), (1, .ref r1)]) rfl rfl rfl ?_)
        refine wp_of e235 c235_77 (rw_iinc (pc' := 80) (z := v132685) (L' := [(3, vI (v132685 + 1)), (2, vI v132723), (0, .ref r0), (1, .ref r1)]) rfl rfl rfl rfl ?_)
        refine wp_of e235 c235_80 (rw_goto (p1 := 4) (by decide) ?_)
        exact wp_lc (ks := [3, 2, 0, 1]) (wl_c rfl (wl_c rfl (wl_c rfl (wl_c rfl wl_n)))) rfl (by decide) (ih132684 _ (by omega) (v132685 + 1) v132723 ⟨by omega, by omega⟩ ⟨by omega, by omega⟩ rfl)
  exact wp_lc (ks := [3, 2, 0, 1]) (wl_c rfl (wl_c rfl (wl_c rfl (wl_c rfl wl_n)))) rfl (by decide) (lp132682 _ 0 0 ⟨by omega, by omega⟩ ⟨by omega, by omega⟩ rfl)
/-! StrikeAwakeModel.wrongIn(I)I -/
theorem e233 : wq_en 233 = some (9, 2, false, some FieldType.int) := rfl
theorem c233_0 : mc_cd 233 0 = some (.aload_n 0, 1) := by decide +kernel
theorem c233_1 : mc_cd 233 1 = some (.getfield 17, 3) := by decide +kernel
theorem c233_4 : mc_cd 233 4 = some (.iload_n 1, 1) := by decide +kernel
theorem c233_5 : mc_cd 233 5 = some (.iaload, 1) := by decide +kernel
theorem c233_6 : mc_cd 233 6 = some (.ifCond .le 19, 3) := by decide +kernel
theorem c233_9 : mc_cd 233 9 = some (.aload_n 0, 1) := by decide +kernel
theorem c233_10 : mc_cd 233 10 = some (.aload_n 0, 1) := by decide +kernel
theorem c233_11 : mc_cd 233 11 = some (.getfield 36, 3) := by decide +kernel
theorem c233_14 : mc_cd 233 14 = some (.iload_n 1, 1) := by decide +kernel
theorem c233_15 : mc_cd 233 15 = some (.invokevirtual 390, 3) := by decide +kernel
theorem c233_18 : mc_cd 233 18 = some (.ifCond .le 7, 3) := by decide +kernel
theorem c233_21 : mc_cd 233 21 = some (.iconst 1, 1) := by decide +kernel
theorem c233_22 : mc_cd 233 22 = some (.goto 23, 3) := by decide +kernel
theorem c233_25 : mc_cd 233 25 = some (.aload_n 0, 1) := by decide +kernel
theorem c233_26 : mc_cd 233 26 = some (.aload_n 0, 1) := by decide +kernel
theorem c233_27 : mc_cd 233 27 = some (.getfield 36, 3) := by decide +kernel
theorem c233_30 : mc_cd 233 30 = some (.invokevirtual 393, 3) := by decide +kernel
theorem c233_33 : mc_cd 233 33 = some (.iload_n 1, 1) := by decide +kernel
theorem c233_34 : mc_cd 233 34 = some (.invokestatic 346, 3) := by decide +kernel
theorem c233_37 : mc_cd 233 37 = some (.ifCond .eq 7, 3) := by decide +kernel
theorem c233_40 : mc_cd 233 40 = some (.iconst 2, 1) := by decide +kernel
theorem c233_41 : mc_cd 233 41 = some (.goto 4, 3) := by decide +kernel
theorem c233_44 : mc_cd 233 44 = some (.iconst 0, 1) := by decide +kernel
theorem c233_45 : mc_cd 233 45 = some (.ireturn, 1) := by decide +kernel
abbrev q_233 (r0 : Nat) (a1 : Int) (pp : Nat) (T : wq_T) (H : wq_H) : Option Value → wq_T → wq_H → Prop := fun r T' H' => T = T' ∧ H = H' ∧ ∃ z : Int, some (vI z) = r ∧ (0 ≤ z ∧ z ≤ 2)
set_option maxHeartbeats 4000000 in
theorem s_233 {kt : Nat → Option mc_E} {T : wq_T} {H : wq_H} {r0 : Nat} {a1 : Int} {pp : Nat} (hW : WT T H) (g0 : T.2.2.2 r0 = some 42) (i1 : 0 ≤ a1 ∧ a1 ≤ 23) (qpp : H r0 3 = (pp : Int)) (gpp : T.2.2.2 pp = some 54) : wpc kt 4 233 [.ref r0, vI a1] T H (q_233 r0 a1 pp T H) := by
  refine wp_enter e233 (Nat.le_of_ble_eq_true rfl) rfl ?_
  show wp _ _ 233 0 [(0, .ref r0), (1, vI a1)] [] _ H _
  refine wp_of e233 c233_0 (rw_aload_n (pc' := 1) (v := .ref r0) rfl rfl rfl ?_)
  refine wp_of e233 c233_1 (xg_R (pc' := 4) lf_9_17 hW g0 sh_42 (by decide) (by decide) ty_42_20 rfl rfl (fun r132786 q132787 g132788 => ?_))
  refine wp_of e233 c233_4 (rw_iload_n (pc' := 5) (z := a1) rfl rfl ?_)
  refine wp_of e233 c233_5 (xa_I (so := 0) (pc' := 6) hW g132788 sh_44 (by decide) (ty_44 _) (by omega) (by omega) rfl (fun b132789 b132790 => ?_))
  refine wp_of e233 c233_6 (rw_if_le (p1 := 25) (p2 := 9) (by decide) rfl ⟨by omega, by omega⟩ (fun c132791 => ?_) (fun c132791 => ?_))
  · refine wp_of e233 c233_25 (rw_aload_n (pc' := 26) (v := .ref r0) rfl rfl rfl ?_)
    refine wp_of e233 c233_26 (rw_aload_n (pc' := 27) (v := .ref r0) rfl rfl rfl ?_)
    refine wp_of e233 c233_27 (xg_R (pc' := 30) lf_9_36 hW g0 sh_42 (by decide) (by decide) ty_42_26 rfl rfl (fun r132792 q132793 g132794 => ?_))
    refine wp_of e233 c233_30 (xc_V (pc' := 33) (r := r0) (as := [.ref r132792]) (st := []) (lm_9_393) rfl rfl (Nat.le_of_ble_eq_true rfl) hW g0 sh_42 (by decide) rfl (by decide) (s_235_m_said hW g0 g132794 qpp gpp) (fun R132795 T132796 H132797 p132798 => ?_))
    obtain ⟨e132799, e132801, z132802, e132800, b132803⟩ := p132798
    subst e132799
    subst e132800
    subst e132801
    show wp _ _ 233 33 [(0, .ref r0), (1, vI a1)] [vI z132802] _ H _
    refine wp_of e233 c233_33 (rw_iload_n (pc' := 34) (z := a1) rfl rfl ?_)
    refine wp_of e233 c233_34 (xc_S (pc' := 37) (as := [vI z132802, vI a1]) (st := []) (lm_9_346) rfl rfl (Nat.le_of_ble_eq_true rfl) rfl (by decide) (s_205 hW ⟨by omega, by omega⟩ ⟨by omega, by omega⟩) (fun R132804 T132805 H132806 p132807 => ?_))
    obtain ⟨e132808, e132810, z132811, e132809, b132812⟩ := p132807
    subst e132808
    subst e132809
    subst e132810
    show wp _ _ 233 37 [(0, .ref r0), (1, vI a1)] [vI z132811] _ H _
    refine wp_of e233 c233_37 (rw_if_eq (p1 := 44) (p2 := 40) (by decide) rfl ⟨by omega, by omega⟩ (fun c132813 => ?_) (fun c132813 => ?_))
    · refine wp_of e233 c233_44 (rw_iconst (pc' := 45) rfl ?_)
      exact wp_ireturn e233 c233_45 rfl ⟨rfl, rfl, 0, rfl, ⟨by omega, by omega⟩⟩
    · refine wp_of e233 c233_40 (rw_iconst (pc' := 41) rfl ?_)
      refine wp_of e233 c233_41 (rw_goto (p1 := 45) (by decide) ?_)
      exact wp_ireturn e233 c233_45 rfl ⟨rfl, rfl, 2, rfl, ⟨by omega, by omega⟩⟩
  · refine wp_of e233 c233_9 (rw_aload_n (pc' := 10) (v := .ref r0) rfl rfl rfl ?_)
    refine wp_of e233 c233_10 (rw_aload_n (pc' := 11) (v := .ref r0) rfl rfl rfl ?_)
    refine wp_of e233 c233_11 (xg_R (pc' := 14) lf_9_36 hW g0 sh_42 (by decide) (by decide) ty_42_26 rfl rfl (fun r132814 q132815 g132816 => ?_))
    refine wp_of e233 c233_14 (rw_iload_n (pc' := 15) (z := a1) rfl rfl ?_)
    refine wp_of e233 c233_15 (xc_V (pc' := 18) (r := r0) (as := [.ref r132814, vI a1]) (st := []) (lm_9_390) rfl rfl (Nat.le_of_ble_eq_true rfl) hW g0 sh_42 (by decide) rfl (by decide) (s_234_m_said hW g0 g132816 ⟨by omega, by omega⟩ qpp gpp) (fun R132817 T132818 H132819 p132820 => ?_))
    obtain ⟨e132821, e132823, z132824, e132822, b132825⟩ := p132820
    subst e132821
    subst e132822
    subst e132823
    show wp _ _ 233 18 [(0, .ref r0), (1, vI a1)] [vI z132824] _ H _
    refine wp_of e233 c233_18 (rw_if_le (p1 := 25) (p2 := 21) (by decide) rfl ⟨by omega, by omega⟩ (fun c132826 => ?_) (fun c132826 => ?_))
    · refine wp_of e233 c233_25 (rw_aload_n (pc' := 26) (v := .ref r0) rfl rfl rfl ?_)
      refine wp_of e233 c233_26 (rw_aload_n (pc' := 27) (v := .ref r0) rfl rfl rfl ?_)
      refine wp_of e233 c233_27 (xg_K (pc' := 30) lf_9_36 hW g0 sh_42 (by decide) (by decide) rfl q132815 rfl ?_)
      refine wp_of e233 c233_30 (xc_V (pc' := 33) (r := r0) (as := [.ref r132814]) (st := []) (lm_9_393) rfl rfl (Nat.le_of_ble_eq_true rfl) hW g0 sh_42 (by decide) rfl (by decide) (s_235_m_said hW g0 g132816 qpp gpp) (fun R132827 T132828 H132829 p132830 => ?_))
      obtain ⟨e132831, e132833, z132834, e132832, b132835⟩ := p132830
      subst e132831
      subst e132832
      subst e132833
      show wp _ _ 233 33 [(0, .ref r0), (1, vI a1)] [vI z132834] _ H _
      refine wp_of e233 c233_33 (rw_iload_n (pc' := 34) (z := a1) rfl rfl ?_)
      refine wp_of e233 c233_34 (xc_S (pc' := 37) (as := [vI z132834, vI a1]) (st := []) (lm_9_346) rfl rfl (Nat.le_of_ble_eq_true rfl) rfl (by decide) (s_205 hW ⟨by omega, by omega⟩ ⟨by omega, by omega⟩) (fun R132836 T132837 H132838 p132839 => ?_))
      obtain ⟨e132840, e132842, z132843, e132841, b132844⟩ := p132839
      subst e132840
      subst e132841
      subst e132842
      show wp _ _ 233 37 [(0, .ref r0), (1, vI a1)] [vI z132843] _ H _
      refine wp_of e233 c233_37 (rw_if_eq (p1 := 44) (p2 := 40) (by decide) rfl ⟨by omega, by omega⟩ (fun c132845 => ?_) (fun c132845 => ?_))
      · refine wp_of e233 c233_44 (rw_iconst (pc' := 45) rfl ?_)
        exact wp_ireturn e233 c233_45 rfl ⟨rfl, rfl, 0, rfl, ⟨by omega, by omega⟩⟩
      · refine wp_of e233 c233_40 (rw_iconst (pc' := 41) rfl ?_)
        refine wp_of e233 c233_41 (rw_goto (p1 := 45) (by decide) ?_)
        exact wp_ireturn e233 c233_45 rfl ⟨rfl, rfl, 2, rfl, ⟨by omega, by omega⟩⟩
    · refine wp_of e233 c233_21 (rw_iconst (pc' := 22) rfl ?_)
      refine wp_of e233 c233_22 (rw_goto (p1 := 45) (by decide) ?_)
      exact wp_ireturn e233 c233_45 rfl ⟨rfl, rfl, 1, rfl, ⟨by omega, by omega⟩⟩
/-! StrikeAwakeModel.firstWrong()I -/
theorem e232 : wq_en 232 = some (9, 2, false, some FieldType.int) := rfl
theorem c232_0 : mc_cd 232 0 = some (.iconst 0, 1) := by decide +kernel
theorem c232_1 : mc_cd 232 1 = some (.istore_n 1, 1) := by decide +kernel
theorem c232_2 : mc_cd 232 2 = some (.iload_n 1, 1) := by decide +kernel
theorem c232_3 : mc_cd 232 3 = some (.aload_n 0, 1) := by decide +kernel
theorem c232_4 : mc_cd 232 4 = some (.getfield 337, 3) := by decide +kernel
theorem c232_7 : mc_cd 232 7 = some (.getfield 185, 3) := by decide +kernel
theorem c232_10 : mc_cd 232 10 = some (.if_icmp .ge 19, 3) := by decide +kernel
theorem c232_13 : mc_cd 232 13 = some (.aload_n 0, 1) := by decide +kernel
theorem c232_14 : mc_cd 232 14 = some (.iload_n 1, 1) := by decide +kernel
theorem c232_15 : mc_cd 232 15 = some (.invokevirtual 409, 3) := by decide +kernel
theorem c232_18 : mc_cd 232 18 = some (.ifCond .le 5, 3) := by decide +kernel
theorem c232_21 : mc_cd 232 21 = some (.iload_n 1, 1) := by decide +kernel
theorem c232_22 : mc_cd 232 22 = some (.ireturn, 1) := by decide +kernel
theorem c232_23 : mc_cd 232 23 = some (.iinc 1 1, 3) := by decide +kernel
theorem c232_26 : mc_cd 232 26 = some (.goto (-24), 3) := by decide +kernel
theorem c232_29 : mc_cd 232 29 = some (.bipush (-2), 2) := by decide +kernel
theorem c232_31 : mc_cd 232 31 = some (.ireturn, 1) := by decide +kernel
abbrev q_232 (r0 : Nat) (pp : Nat) (T : wq_T) (H : wq_H) : Option Value → wq_T → wq_H → Prop := fun r T' H' => T = T' ∧ H = H' ∧ ∃ z : Int, some (vI z) = r ∧ ((-2) ≤ z ∧ z ≤ 23) ∧ (z = -2 ∨ 0 ≤ z)
set_option maxHeartbeats 4000000 in
theorem s_232 {kt : Nat → Option mc_E} {T : wq_T} {H : wq_H} {r0 : Nat} {pp : Nat} (hW : WT T H) (g0 : T.2.2.2 r0 = some 42) (qpp : H r0 3 = (pp : Int)) (gpp : T.2.2.2 pp = some 54) : wpc kt 5 232 [.ref r0] T H (q_232 r0 pp T H) := by
  refine wp_enter e232 (Nat.le_of_ble_eq_true rfl) rfl ?_
  show wp _ _ 232 0 [(0, .ref r0)] [] _ H _
  refine wp_of e232 c232_0 (rw_iconst (pc' := 1) rfl ?_)
  refine wp_of e232 c232_1 (rw_istore_n (pc' := 2) (z := 0) (L' := [(1, vI 0), (0, .ref r0)]) rfl rfl rfl ?_)
  have lp133100 : ∀ (n133101 : Nat) (v133103 : Int), (0 ≤ v133103 ∧ v133103 ≤ 24) → (24 - v133103).toNat = n133101 → wp kt 4 232 2 [(1, vI v133103), (0, .ref r0)] [] T H (q_232 r0 pp T H) := by
    intro n133101
    induction n133101 using Nat.strongRecOn with
    | _ n133101 ih133102 =>
      intro v133103 b133106 m133107
      refine wp_of e232 c232_2 (rw_iload_n (pc' := 3) (z := v133103) rfl rfl ?_)
      refine wp_of e232 c232_3 (rw_aload_n (pc' := 4) (v := .ref r0) rfl rfl rfl ?_)
      refine wp_of e232 c232_4 (xg_K (pc' := 7) lf_9_337 hW g0 sh_42 (by decide) (by decide) rfl qpp rfl ?_)
      refine wp_of e232 c232_7 (xg_I (pc' := 10) lf_9_185 hW gpp sh_54 (by decide) (by decide) ty_54_0 rfl rfl (fun b133108 b133109 => ?_))
      refine wp_of e232 c232_10 (rw_icmp_ge (p1 := 29) (p2 := 13) (by decide) rfl ⟨by omega, by omega⟩ ⟨by omega, by omega⟩ (fun c133110 => ?_) (fun c133110 => ?_))
      · refine wp_of e232 c232_29 (rw_bipush (pc' := 31) (z := -2) rfl (by decide) ?_)
        exact wp_ireturn e232 c232_31 rfl ⟨rfl, rfl, -2, rfl, ⟨by omega, by omega⟩, by omega⟩
      · refine wp_of e232 c232_13 (rw_aload_n (pc' := 14) (v := .ref r0) rfl rfl rfl ?_)
        refine wp_of e232 c232_14 (rw_iload_n (pc' := 15) (z := v133103) rfl rfl ?_)
        refine wp_of e232 c232_15 (xc_V (pc' := 18) (r := r0) (as := [vI v133103]) (st := []) (lm_9_409) rfl rfl (Nat.le_of_ble_eq_true rfl) hW g0 sh_42 (by decide) rfl (by decide) (s_233 hW g0 ⟨by omega, by omega⟩ qpp gpp) (fun R133111 T133112 H133113 p133114 => ?_))
        obtain ⟨e133115, e133117, z133118, e133116, b133119⟩ := p133114
        subst e133115
        subst e133116
        subst e133117
        show wp _ _ 232 18 [(1, vI v133103), (0, .ref r0)] [vI z133118] _ H _
        refine wp_of e232 c232_18 (rw_if_le (p1 := 23) (p2 := 21) (by decide) rfl ⟨by omega, by omega⟩ (fun c133120 => ?_) (fun c133120 => ?_))
        · refine wp_of e232 c232_23 (rw_iinc (pc' := 26) (z := v133103) (L' := [(1, vI (v133103 + 1)), (0, .ref r0)]) rfl rfl rfl rfl ?_)
          refine wp_of e232 c232_26 (rw_goto (p1 := 2) (by decide) ?_)
          exact wp_lc (ks := [1, 0]) (wl_c rfl (wl_c rfl wl_n)) rfl (by decide) (ih133102 _ (by omega) (v133103 + 1) ⟨by omega, by omega⟩ rfl)
        · refine wp_of e232 c232_21 (rw_iload_n (pc' := 22) (z := v133103) rfl rfl ?_)
          exact wp_ireturn e232 c232_22 rfl ⟨rfl, rfl, v133103, rfl, ⟨by omega, by omega⟩, by omega⟩
  exact wp_lc (ks := [1, 0]) (wl_c rfl (wl_c rfl wl_n)) rfl (by decide) (lp133100 _ 0 ⟨by omega, by omega⟩ rfl)
/-! StrikeAwakeModel.judge()I -/
theorem e230 : wq_en 230 = some (9, 2, false, some FieldType.int) := rfl
theorem c230_0 : mc_cd 230 0 = some (.aload_n 0, 1) := by decide +kernel
theorem c230_1 : mc_cd 230 1 = some (.iconst 0, 1) := by decide +kernel
theorem c230_2 : mc_cd 230 2 = some (.putfield 48, 3) := by decide +kernel
theorem c230_5 : mc_cd 230 5 = some (.aload_n 0, 1) := by decide +kernel
theorem c230_6 : mc_cd 230 6 = some (.invokevirtual 412, 3) := by decide +kernel
theorem c230_9 : mc_cd 230 9 = some (.istore_n 1, 1) := by decide +kernel
theorem c230_10 : mc_cd 230 10 = some (.iload_n 1, 1) := by decide +kernel
theorem c230_11 : mc_cd 230 11 = some (.ifCond .le 11, 3) := by decide +kernel
theorem c230_14 : mc_cd 230 14 = some (.aload_n 0, 1) := by decide +kernel
theorem c230_15 : mc_cd 230 15 = some (.iload_n 1, 1) := by decide +kernel
theorem c230_16 : mc_cd 230 16 = some (.invokevirtual 54, 3) := by decide +kernel
theorem c230_19 : mc_cd 230 19 = some (.goto 11, 3) := by decide +kernel
theorem c230_22 : mc_cd 230 22 = some (.aload_n 0, 1) := by decide +kernel
theorem c230_23 : mc_cd 230 23 = some (.aload_n 0, 1) := by decide +kernel
theorem c230_24 : mc_cd 230 24 = some (.invokevirtual 415, 3) := by decide +kernel
theorem c230_27 : mc_cd 230 27 = some (.invokevirtual 58, 3) := by decide +kernel
theorem c230_30 : mc_cd 230 30 = some (.ireturn, 1) := by decide +kernel
abbrev q_230 (r0 : Nat) (T : wq_T) (H : wq_H) : Option Value → wq_T → wq_H → Prop := fun r T' H' => T = T' ∧ WT T H' ∧ wfr [(42, 0), (42, 1), (42, 2)] T H H' ∧ ∃ z : Int, some (vI z) = r ∧ ((-2147483648) ≤ z ∧ z ≤ 2147483647) ∧ (wKI H' r0 = 1) ∧ (H' r0 2 = -1)
set_option maxHeartbeats 4000000 in
theorem s_230 {kt : Nat → Option mc_E} {T : wq_T} {H : wq_H} {r0 : Nat} (hW : WT T H) (g0 : T.2.2.2 r0 = some 42) (p0 : wKI H r0 = 1) : wpc kt 6 230 [.ref r0] T H (q_230 r0 T H) := by
  refine wp_enter e230 (Nat.le_of_ble_eq_true rfl) rfl ?_
  have f0 : wfr [(42, 0), (42, 1), (42, 2)] T H H := wfr.rf
  show wp _ _ 230 0 [(0, .ref r0)] [] _ H _
  refine wp_of e230 c230_0 (rw_aload_n (pc' := 1) (v := .ref r0) rfl rfl rfl ?_)
  refine wp_of e230 c230_1 (rw_iconst (pc' := 2) rfl ?_)
  refine wp_of e230 c230_2 (xp_I (pc' := 5) lf_9_48 hW g0 sh_42 (by decide) (by decide) ty_42_0 rfl rfl (by omega) (by omega) ⟨by omega, by omega⟩ rfl (fun H133176 e133177 w133178 => ?_))
  have f133179 := f0.put' e133177 g0 rfl
  have k133180 : H133176 r0 0 = 0 := wq_u_s e133177
  refine wp_of e230 c230_5 (rw_aload_n (pc' := 6) (v := .ref r0) rfl rfl rfl ?_)
  refine wp_of e230 c230_6 (xc_V (pc' := 9) (r := r0) (as := []) (st := []) (lm_9_412) rfl rfl (Nat.le_of_ble_eq_true rfl) w133178 g0 sh_42 (by decide) rfl (by decide) (s_231 w133178 g0) (fun R133181 T133182 H133183 p133184 => ?_))
  obtain ⟨e133185, e133187, z133189, e133186, b133190, p133188⟩ := p133184
  subst e133185
  subst e133186
  subst e133187
  show wp _ _ 230 9 [(0, .ref r0)] [vI z133189] _ H133176 _
  refine wp_of e230 c230_9 (rw_istore_n (pc' := 10) (z := z133189) (L' := [(1, vI z133189), (0, .ref r0)]) rfl rfl rfl ?_)
  refine wp_of e230 c230_10 (rw_iload_n (pc' := 11) (z := z133189) rfl rfl ?_)
  refine wp_of e230 c230_11 (rw_if_le (p1 := 22) (p2 := 14) (by decide) rfl ⟨by omega, by omega⟩ (fun c133191 => ?_) (fun c133191 => ?_))
  · refine wp_of e230 c230_22 (rw_aload_n (pc' := 23) (v := .ref r0) rfl rfl rfl ?_)
    refine wp_of e230 c230_23 (rw_aload_n (pc' := 24) (v := .ref r0) rfl rfl rfl ?_)
    obtain ⟨r133192, q133193, g133194⟩ := (w133178.opt g0 (t' := 54) (n := 33) (j := 3) (p := 0) (q := 0) rfl (by decide) rfl).resolve_left (by omega)
    refine wp_of e230 c230_24 (xc_V (pc' := 27) (r := r0) (as := []) (st := [.ref r0]) (lm_9_415) rfl rfl (Nat.le_of_ble_eq_true rfl) w133178 g0 sh_42 (by decide) rfl (by decide) (s_232 w133178 g0 q133193 g133194) (fun R133195 T133196 H133197 p133198 => ?_))
    obtain ⟨e133199, e133201, z133203, e133200, b133204, p133202⟩ := p133198
    subst e133199
    subst e133200
    subst e133201
    show wp _ _ 230 27 [(1, vI z133189), (0, .ref r0)] [vI z133203, .ref r0] _ H133176 _
    refine wp_of e230 c230_27 (xc_V (pc' := 30) (r := r0) (as := [vI z133203]) (st := []) (lm_9_58) rfl rfl (Nat.le_of_ble_eq_true rfl) w133178 g0 sh_42 (by decide) rfl (by decide) (s_209 w133178 g0 ⟨by omega, by omega⟩) (fun R133205 T133206 H133207 p133208 => ?_))
    obtain ⟨e133209, w133211, f133212, z133214, e133210, b133215, p133213⟩ := p133208
    subst e133209
    subst e133210
    have f133216 := f133179.tr f133212 rfl
    show wp _ _ 230 30 [(1, vI z133189), (0, .ref r0)] [vI z133214] _ H133207 _
    have k133217 : wKI H133207 r0 = wKI H r0 := ((wKI_fr w133178 g0 f133212 rfl).trans (wKI_fr hW g0 ((wfr.rf (l := [(42, 0)])).put' e133177 g0 rfl) rfl))
    exact wp_ireturn e230 c230_30 rfl ⟨rfl, w133211, f133216, z133214, rfl, ⟨by omega, by omega⟩, by omega, by omega⟩
  · refine wp_of e230 c230_14 (rw_aload_n (pc' := 15) (v := .ref r0) rfl rfl rfl ?_)
    refine wp_of e230 c230_15 (rw_iload_n (pc' := 16) (z := z133189) rfl rfl ?_)
    refine wp_of e230 c230_16 (xc_V (pc' := 19) (r := r0) (as := [vI z133189]) (st := []) (lm_9_54) rfl rfl (Nat.le_of_ble_eq_true rfl) w133178 g0 sh_42 (by decide) rfl (by decide) (s_170 w133178 g0 ⟨by omega, by omega⟩) (fun R133218 T133219 H133220 p133221 => ?_))
    obtain ⟨e133222, w133224, f133225, z133227, e133223, b133228, p133226⟩ := p133221
    subst e133222
    subst e133223
    have f133229 := f133179.tr f133225 rfl
    show wp _ _ 230 19 [(1, vI z133189), (0, .ref r0)] [vI z133227] _ H133220 _
    refine wp_of e230 c230_19 (rw_goto (p1 := 30) (by decide) ?_)
    have k133230 : wKI H133220 r0 = wKI H r0 := ((wKI_fr w133178 g0 f133225 rfl).trans (wKI_fr hW g0 ((wfr.rf (l := [(42, 0)])).put' e133177 g0 rfl) rfl))
    exact wp_ireturn e230 c230_30 rfl ⟨rfl, w133224, f133229, z133227, rfl, ⟨by omega, by omega⟩, by omega, by omega⟩
/-! StrikeAwakeModel.why()I -/
theorem e236 : wq_en 236 = some (9, 3, false, some FieldType.int) := rfl
theorem c236_0 : mc_cd 236 0 = some (.aload_n 0, 1) := by decide +kernel
theorem c236_1 : mc_cd 236 1 = some (.iconst 0, 1) := by decide +kernel
theorem c236_2 : mc_cd 236 2 = some (.putfield 48, 3) := by decide +kernel
theorem c236_5 : mc_cd 236 5 = some (.aload_n 0, 1) := by decide +kernel
theorem c236_6 : mc_cd 236 6 = some (.invokevirtual 412, 3) := by decide +kernel
theorem c236_9 : mc_cd 236 9 = some (.istore_n 1, 1) := by decide +kernel
theorem c236_10 : mc_cd 236 10 = some (.iload_n 1, 1) := by decide +kernel
theorem c236_11 : mc_cd 236 11 = some (.ifCond .le 9, 3) := by decide +kernel
theorem c236_14 : mc_cd 236 14 = some (.aload_n 0, 1) := by decide +kernel
theorem c236_15 : mc_cd 236 15 = some (.iload_n 1, 1) := by decide +kernel
theorem c236_16 : mc_cd 236 16 = some (.invokevirtual 54, 3) := by decide +kernel
theorem c236_19 : mc_cd 236 19 = some (.ireturn, 1) := by decide +kernel
theorem c236_20 : mc_cd 236 20 = some (.aload_n 0, 1) := by decide +kernel
theorem c236_21 : mc_cd 236 21 = some (.invokevirtual 415, 3) := by decide +kernel
theorem c236_24 : mc_cd 236 24 = some (.istore_n 2, 1) := by decide +kernel
theorem c236_25 : mc_cd 236 25 = some (.aload_n 0, 1) := by decide +kernel
theorem c236_26 : mc_cd 236 26 = some (.iload_n 2, 1) := by decide +kernel
theorem c236_27 : mc_cd 236 27 = some (.bipush (-2), 2) := by decide +kernel
theorem c236_29 : mc_cd 236 29 = some (.if_icmp .ne 7, 3) := by decide +kernel
theorem c236_32 : mc_cd 236 32 = some (.iconst 0, 1) := by decide +kernel
theorem c236_33 : mc_cd 236 33 = some (.goto 8, 3) := by decide +kernel
theorem c236_36 : mc_cd 236 36 = some (.aload_n 0, 1) := by decide +kernel
theorem c236_37 : mc_cd 236 37 = some (.iload_n 2, 1) := by decide +kernel
theorem c236_38 : mc_cd 236 38 = some (.invokevirtual 409, 3) := by decide +kernel
theorem c236_41 : mc_cd 236 41 = some (.invokevirtual 58, 3) := by decide +kernel
theorem c236_44 : mc_cd 236 44 = some (.ireturn, 1) := by decide +kernel
abbrev q_236 (r0 : Nat) (T : wq_T) (H : wq_H) : Option Value → wq_T → wq_H → Prop := fun r T' H' => T = T' ∧ WT T H' ∧ wfr [(42, 0), (42, 1), (42, 2)] T H H' ∧ ∃ z : Int, some (vI z) = r ∧ ((-2147483648) ≤ z ∧ z ≤ 2147483647) ∧ (wKI H' r0 = 1) ∧ (H' r0 2 = -1)
set_option maxHeartbeats 4000000 in
theorem s_236 {kt : Nat → Option mc_E} {T : wq_T} {H : wq_H} {r0 : Nat} (hW : WT T H) (g0 : T.2.2.2 r0 = some 42) (p0 : wKI H r0 = 1) : wpc kt 6 236 [.ref r0] T H (q_236 r0 T H) := by
  refine wp_enter e236 (Nat.le_of_ble_eq_true rfl) rfl ?_
  have f0 : wfr [(42, 0), (42, 1), (42, 2)] T H H := wfr.rf
  show wp _ _ 236 0 [(0, .ref r0)] [] _ H _
  refine wp_of e236 c236_0 (rw_aload_n (pc' := 1) (v := .ref r0) rfl rfl rfl ?_)
  refine wp_of e236 c236_1 (rw_iconst (pc' := 2) rfl ?_)
  refine wp_of e236 c236_2 (xp_I (pc' := 5) lf_9_48 hW g0 sh_42 (by decide) (by decide) ty_42_0 rfl rfl (by omega) (by omega) ⟨by omega, by omega⟩ rfl (fun H133309 e133310 w133311 => ?_))
  have f133312 := f0.put' e133310 g0 rfl
  have k133313 : H133309 r0 0 = 0 := wq_u_s e133310
  refine wp_of e236 c236_5 (rw_aload_n (pc' := 6) (v := .ref r0) rfl rfl rfl ?_)
  refine wp_of e236 c236_6 (xc_V (pc' := 9) (r := r0) (as := []) (st := []) (lm_9_412) rfl rfl (Nat.le_of_ble_eq_true rfl) w133311 g0 sh_42 (by decide) rfl (by decide) (s_231 w133311 g0) (fun R133314 T133315 H133316 p133317 => ?_))
  obtain ⟨e133318, e133320, z133322, e133319, b133323, p133321⟩ := p133317
  subst e133318
  subst e133319
  subst e133320
  show wp _ _ 236 9 [(0, .ref r0)] [vI z133322] _ H133309 _
  refine wp_of e236 c236_9 (rw_istore_n (pc' := 10) (z := z133322) (L' := [(1, vI z133322), (0, .ref r0)]) rfl rfl rfl ?_)
  refine wp_of e236 c236_10 (rw_iload_n (pc' := 11) (z := z133322) rfl rfl ?_)
  refine wp_of e236 c236_11 (rw_if_le (p1 := 20) (p2 := 14) (by decide) rfl ⟨by omega, by omega⟩ (fun c133324 => ?_) (fun c133324 => ?_))
  · refine wp_of e236 c236_20 (rw_aload_n (pc' := 21) (v := .ref r0) rfl rfl rfl ?_)
    obtain ⟨r133325, q133326, g133327⟩ := (w133311.opt g0 (t' := 54) (n := 33) (j := 3) (p := 0) (q := 0) rfl (by decide) rfl).resolve_left (by omega)
    refine wp_of e236 c236_21 (xc_V (pc' := 24) (r := r0) (as := []) (st := []) (lm_9_415) rfl rfl (Nat.le_of_ble_eq_true rfl) w133311 g0 sh_42 (by decide) rfl (by decide) (s_232 w133311 g0 q133326 g133327) (fun R133328 T133329 H133330 p133331 => ?_))
    obtain ⟨e133332, e133334, z133336, e133333, b133337, p133335⟩ := p133331
    subst e133332
    subst e133333
    subst e133334
    show wp _ _ 236 24 [(1, vI z133322), (0, .ref r0)] [vI z133336] _ H133309 _
    refine wp_of e236 c236_24 (rw_istore_n (pc' := 25) (z := z133336) (L' := [(2, vI z133336), (1, vI z133322), (0, .ref r0)]) rfl rfl rfl ?_)
    refine wp_of e236 c236_25 (rw_aload_n (pc' := 26) (v := .ref r0) rfl rfl rfl ?_)
    refine wp_of e236 c236_26 (rw_iload_n (pc' := 27) (z := z133336) rfl rfl ?_)
    refine wp_of e236 c236_27 (rw_bipush (pc' := 29) (z := -2) rfl (by decide) ?_)
    refine wp_of e236 c236_29 (rw_icmp_ne (p1 := 36) (p2 := 32) (by decide) rfl ⟨by omega, by omega⟩ ⟨by omega, by omega⟩ (fun c133338 => ?_) (fun c133338 => ?_))
    · refine wp_of e236 c236_36 (rw_aload_n (pc' := 37) (v := .ref r0) rfl rfl rfl ?_)
      refine wp_of e236 c236_37 (rw_iload_n (pc' := 38) (z := z133336) rfl rfl ?_)
      refine wp_of e236 c236_38 (xc_V (pc' := 41) (r := r0) (as := [vI z133336]) (st := [.ref r0]) (lm_9_409) rfl rfl (Nat.le_of_ble_eq_true rfl) w133311 g0 sh_42 (by decide) rfl (by decide) (s_233 w133311 g0 ⟨by omega, by omega⟩ q133326 g133327) (fun R133339 T133340 H133341 p133342 => ?_))
      obtain ⟨e133343, e133345, z133346, e133344, b133347⟩ := p133342
      subst e133343
      subst e133344
      subst e133345
      show wp _ _ 236 41 [(2, vI z133336), (1, vI z133322), (0, .ref r0)] [vI z133346, .ref r0] _ H133309 _
      refine wp_of e236 c236_41 (xc_V (pc' := 44) (r := r0) (as := [vI z133346]) (st := []) (lm_9_58) rfl rfl (Nat.le_of_ble_eq_true rfl) w133311 g0 sh_42 (by decide) rfl (by decide) (s_209 w133311 g0 ⟨by omega, by omega⟩) (fun R133348 T133349 H133350 p133351 => ?_))
      obtain ⟨e133352, w133354, f133355, z133357, e133353, b133358, p133356⟩ := p133351
      subst e133352
      subst e133353
      have f133359 := f133312.tr f133355 rfl
      show wp _ _ 236 44 [(2, vI z133336), (1, vI z133322), (0, .ref r0)] [vI z133357] _ H133350 _
      have k133360 : wKI H133350 r0 = wKI H r0 := ((wKI_fr w133311 g0 f133355 rfl).trans (wKI_fr hW g0 ((wfr.rf (l := [(42, 0)])).put' e133310 g0 rfl) rfl))
      exact wp_ireturn e236 c236_44 rfl ⟨rfl, w133354, f133359, z133357, rfl, ⟨by omega, by omega⟩, by omega, by omega⟩
    · refine wp_of e236 c236_32 (rw_iconst (pc' := 33) rfl ?_)
      refine wp_of e236 c236_33 (rw_goto (p1 := 41) (by decide) ?_)
      refine wp_of e236 c236_41 (xc_V (pc' := 44) (r := r0) (as := [vI 0]) (st := []) (lm_9_58) rfl rfl (Nat.le_of_ble_eq_true rfl) w133311 g0 sh_42 (by decide) rfl (by decide) (s_209 w133311 g0 ⟨by omega, by omega⟩) (fun R133361 T133362 H133363 p133364 => ?_))
      obtain ⟨e133365, w133367, f133368, z133370, e133366, b133371, p133369⟩ := p133364
      subst e133365
      subst e133366
      have f133372 := f133312.tr f133368 rfl
      show wp _ _ 236 44 [(2, vI z133336), (1, vI z133322), (0, .ref r0)] [vI z133370] _ H133363 _
      have k133373 : wKI H133363 r0 = wKI H r0 := ((wKI_fr w133311 g0 f133368 rfl).trans (wKI_fr hW g0 ((wfr.rf (l := [(42, 0)])).put' e133310 g0 rfl) rfl))
      exact wp_ireturn e236 c236_44 rfl ⟨rfl, w133367, f133372, z133370, rfl, ⟨by omega, by omega⟩, by omega, by omega⟩
  · refine wp_of e236 c236_14 (rw_aload_n (pc' := 15) (v := .ref r0) rfl rfl rfl ?_)
    refine wp_of e236 c236_15 (rw_iload_n (pc' := 16) (z := z133322) rfl rfl ?_)
    refine wp_of e236 c236_16 (xc_V (pc' := 19) (r := r0) (as := [vI z133322]) (st := []) (lm_9_54) rfl rfl (Nat.le_of_ble_eq_true rfl) w133311 g0 sh_42 (by decide) rfl (by decide) (s_170 w133311 g0 ⟨by omega, by omega⟩) (fun R133374 T133375 H133376 p133377 => ?_))
    obtain ⟨e133378, w133380, f133381, z133383, e133379, b133384, p133382⟩ := p133377
    subst e133378
    subst e133379
    have f133385 := f133312.tr f133381 rfl
    show wp _ _ 236 19 [(1, vI z133322), (0, .ref r0)] [vI z133383] _ H133376 _
    have k133386 : wKI H133376 r0 = wKI H r0 := ((wKI_fr w133311 g0 f133381 rfl).trans (wKI_fr hW g0 ((wfr.rf (l := [(42, 0)])).put' e133310 g0 rfl) rfl))
    exact wp_ireturn e236 c236_19 rfl ⟨rfl, w133380, f133385, z133383, rfl, ⟨by omega, by omega⟩, by omega, by omega⟩
/-! StrikeAwakeModel.barredAt([II)I -/
theorem e239 : wq_en 239 = some (9, 6, false, some FieldType.int) := rfl
theorem c239_0 : mc_cd 239 0 = some (.iconst 0, 1) := by decide +kernel
theorem c239_1 : mc_cd 239 1 = some (.istore_n 3, 1) := by decide +kernel
theorem c239_2 : mc_cd 239 2 = some (.iconst 0, 1) := by decide +kernel
theorem c239_3 : mc_cd 239 3 = some (.istore 4, 2) := by decide +kernel
theorem c239_5 : mc_cd 239 5 = some (.iload 4, 2) := by decide +kernel
theorem c239_7 : mc_cd 239 7 = some (.aload_n 0, 1) := by decide +kernel
theorem c239_8 : mc_cd 239 8 = some (.getfield 337, 3) := by decide +kernel
theorem c239_11 : mc_cd 239 11 = some (.getfield 185, 3) := by decide +kernel
theorem c239_14 : mc_cd 239 14 = some (.if_icmp .ge 65, 3) := by decide +kernel
theorem c239_17 : mc_cd 239 17 = some (.iload_n 2, 1) := by decide +kernel
theorem c239_18 : mc_cd 239 18 = some (.iload 4, 2) := by decide +kernel
theorem c239_20 : mc_cd 239 20 = some (.invokestatic 346, 3) := by decide +kernel
theorem c239_23 : mc_cd 239 23 = some (.ifCond .eq 50, 3) := by decide +kernel
theorem c239_26 : mc_cd 239 26 = some (.aload_n 0, 1) := by decide +kernel
theorem c239_27 : mc_cd 239 27 = some (.getfield 17, 3) := by decide +kernel
theorem c239_30 : mc_cd 239 30 = some (.iload 4, 2) := by decide +kernel
theorem c239_32 : mc_cd 239 32 = some (.iaload, 1) := by decide +kernel
theorem c239_33 : mc_cd 239 33 = some (.ifCond .ne 6, 3) := by decide +kernel
theorem c239_36 : mc_cd 239 36 = some (.goto 37, 3) := by decide +kernel
theorem c239_39 : mc_cd 239 39 = some (.aload_n 0, 1) := by decide +kernel
theorem c239_40 : mc_cd 239 40 = some (.aload_n 1, 1) := by decide +kernel
theorem c239_41 : mc_cd 239 41 = some (.iload 4, 2) := by decide +kernel
theorem c239_43 : mc_cd 239 43 = some (.invokevirtual 390, 3) := by decide +kernel
theorem c239_46 : mc_cd 239 46 = some (.istore 5, 2) := by decide +kernel
theorem c239_48 : mc_cd 239 48 = some (.iload_n 3, 1) := by decide +kernel
theorem c239_49 : mc_cd 239 49 = some (.iload 5, 2) := by decide +kernel
theorem c239_51 : mc_cd 239 51 = some (.iadd, 1) := by decide +kernel
theorem c239_52 : mc_cd 239 52 = some (.istore_n 3, 1) := by decide +kernel
theorem c239_53 : mc_cd 239 53 = some (.iload 5, 2) := by decide +kernel
theorem c239_55 : mc_cd 239 55 = some (.iconst 2, 1) := by decide +kernel
theorem c239_56 : mc_cd 239 56 = some (.if_icmp .eq 14, 3) := by decide +kernel
theorem c239_59 : mc_cd 239 59 = some (.iload_n 3, 1) := by decide +kernel
theorem c239_60 : mc_cd 239 60 = some (.aload_n 0, 1) := by decide +kernel
theorem c239_61 : mc_cd 239 61 = some (.getfield 337, 3) := by decide +kernel
theorem c239_64 : mc_cd 239 64 = some (.getfield 226, 3) := by decide +kernel
theorem c239_67 : mc_cd 239 67 = some (.if_icmp .le 6, 3) := by decide +kernel
theorem c239_70 : mc_cd 239 70 = some (.iload 4, 2) := by decide +kernel
theorem c239_72 : mc_cd 239 72 = some (.ireturn, 1) := by decide +kernel
theorem c239_73 : mc_cd 239 73 = some (.iinc 4 1, 3) := by decide +kernel
theorem c239_76 : mc_cd 239 76 = some (.goto (-71), 3) := by decide +kernel
theorem c239_79 : mc_cd 239 79 = some (.bipush 24, 2) := by decide +kernel
theorem c239_81 : mc_cd 239 81 = some (.ireturn, 1) := by decide +kernel
abbrev q_239_m_lot (r0 : Nat) (r1 : Nat) (a2 : Int) (pp : Nat) (T : wq_T) (H : wq_H) : Option Value → wq_T → wq_H → Prop := fun r T' H' => T = T' ∧ H = H' ∧ ∃ z : Int, some (vI z) = r ∧ (0 ≤ z ∧ z ≤ 24)
set_option maxHeartbeats 4000000 in
theorem s_239_m_lot {kt : Nat → Option mc_E} {T : wq_T} {H : wq_H} {r0 : Nat} {r1 : Nat} {a2 : Int} {pp : Nat} (hW : WT T H) (g0 : T.2.2.2 r0 = some 42) (g1 : T.2.2.2 r1 = some 51) (i2 : (-2147483648) ≤ a2 ∧ a2 ≤ 2147483647) (qpp : H r0 3 = (pp : Int)) (gpp : T.2.2.2 pp = some 54) : wpc kt 4 239 [.ref r0, .ref r1, vI a2] T H (q_239_m_lot r0 r1 a2 pp T H) := by
  refine wp_enter e239 (Nat.le_of_ble_eq_true rfl) rfl ?_
  show wp _ _ 239 0 [(0, .ref r0), (1, .ref r1), (2, vI a2)] [] _ H _
  refine wp_of e239 c239_0 (rw_iconst (pc' := 1) rfl ?_)
  refine wp_of e239 c239_1 (rw_istore_n (pc' := 2) (z := 0) (L' := [(3, vI 0), (0, .ref r0), (1, .ref r1), (2, vI a2)]) rfl rfl rfl ?_)
  refine wp_of e239 c239_2 (rw_iconst (pc' := 3) rfl ?_)
  refine wp_of e239 c239_3 (rw_istore (pc' := 5) (z := 0) (L' := [(4, vI 0), (3, vI 0), (0, .ref r0), (1, .ref r1), (2, vI a2)]) rfl rfl rfl ?_)
  have lp134042 : ∀ (n134043 : Nat) (v134045 : Int) (v134046 : Int), (0 ≤ v134045 ∧ v134045 ≤ 24) → ((-2147483648) ≤ v134046 ∧ v134046 ≤ 2147483647) → (24 - v134045).toNat = n134043 → wp kt 3 239 5 [(4, vI v134045), (3, vI v134046), (0, .ref r0), (1, .ref r1), (2, vI a2)] [] T H (q_239_m_lot r0 r1 a2 pp T H) := by
    intro n134043
    induction n134043 using Nat.strongRecOn with
    | _ n134043 ih134044 =>
      intro v134045 v134046 b134049 b134050 m134051
      refine wp_of e239 c239_5 (rw_iload (pc' := 7) (z := v134045) rfl rfl ?_)
      refine wp_of e239 c239_7 (rw_aload_n (pc' := 8) (v := .ref r0) rfl rfl rfl ?_)
      refine wp_of e239 c239_8 (xg_K (pc' := 11) lf_9_337 hW g0 sh_42 (by decide) (by decide) rfl qpp rfl ?_)
      refine wp_of e239 c239_11 (xg_I (pc' := 14) lf_9_185 hW gpp sh_54 (by decide) (by decide) ty_54_0 rfl rfl (fun b134052 b134053 => ?_))
      refine wp_of e239 c239_14 (rw_icmp_ge (p1 := 79) (p2 := 17) (by decide) rfl ⟨by omega, by omega⟩ ⟨by omega, by omega⟩ (fun c134054 => ?_) (fun c134054 => ?_))
      · refine wp_of e239 c239_79 (rw_bipush (pc' := 81) (z := 24) rfl (by decide) ?_)
        exact wp_ireturn e239 c239_81 rfl ⟨rfl, rfl, 24, rfl, ⟨by omega, by omega⟩⟩
      · refine wp_of e239 c239_17 (rw_iload_n (pc' := 18) (z := a2) rfl rfl ?_)
        refine wp_of e239 c239_18 (rw_iload (pc' := 20) (z := v134045) rfl rfl ?_)
        refine wp_of e239 c239_20 (xc_S (pc' := 23) (as := [vI a2, vI v134045]) (st := []) (lm_9_346) rfl rfl (Nat.le_of_ble_eq_true rfl) rfl (by decide) (s_205 hW ⟨by omega, by omega⟩ ⟨by omega, by omega⟩) (fun R134055 T134056 H134057 p134058 => ?_))
        obtain ⟨e134059, e134061, z134062, e134060, b134063⟩ := p134058
        subst e134059
        subst e134060
        subst e134061
        show wp _ _ 239 23 [(4, vI v134045), (3, vI v134046), (0, .ref r0), (1, .ref r1), (2, vI a2)] [vI z134062] _ H _
        refine wp_of e239 c239_23 (rw_if_eq (p1 := 73) (p2 := 26) (by decide) rfl ⟨by omega, by omega⟩ (fun c134064 => ?_) (fun c134064 => ?_))
        · refine wp_of e239 c239_73 (rw_iinc (pc' := 76) (z := v134045) (L' := [(4, vI (v134045 + 1)), (3, vI v134046), (0, .ref r0), (1, .ref r1), (2, vI a2)]) rfl rfl rfl rfl ?_)
          refine wp_of e239 c239_76 (rw_goto (p1 := 5) (by decide) ?_)
          exact wp_lc (ks := [4, 3, 0, 1, 2]) (wl_c rfl (wl_c rfl (wl_c rfl (wl_c rfl (wl_c rfl wl_n))))) rfl (by decide) (ih134044 _ (by omega) (v134045 + 1) v134046 ⟨by omega, by omega⟩ ⟨by omega, by omega⟩ rfl)
        · refine wp_of e239 c239_26 (rw_aload_n (pc' := 27) (v := .ref r0) rfl rfl rfl ?_)
          refine wp_of e239 c239_27 (xg_R (pc' := 30) lf_9_17 hW g0 sh_42 (by decide) (by decide) ty_42_20 rfl rfl (fun r134065 q134066 g134067 => ?_))
          refine wp_of e239 c239_30 (rw_iload (pc' := 32) (z := v134045) rfl rfl ?_)
          refine wp_of e239 c239_32 (xa_I (so := 0) (pc' := 33) hW g134067 sh_44 (by decide) (ty_44 _) (by omega) (by omega) rfl (fun b134068 b134069 => ?_))
          refine wp_of e239 c239_33 (rw_if_ne (p1 := 39) (p2 := 36) (by decide) rfl ⟨by omega, by omega⟩ (fun c134070 => ?_) (fun c134070 => ?_))
          · refine wp_of e239 c239_39 (rw_aload_n (pc' := 40) (v := .ref r0) rfl rfl rfl ?_)
            refine wp_of e239 c239_40 (rw_aload_n (pc' := 41) (v := .ref r1) rfl rfl rfl ?_)
            refine wp_of e239 c239_41 (rw_iload (pc' := 43) (z := v134045) rfl rfl ?_)
            refine wp_of e239 c239_43 (xc_V (pc' := 46) (r := r0) (as := [.ref r1, vI v134045]) (st := []) (lm_9_390) rfl rfl (Nat.le_of_ble_eq_true rfl) hW g0 sh_42 (by decide) rfl (by decide) (s_234_m_lot hW g0 g1 ⟨by omega, by omega⟩ qpp gpp) (fun R134071 T134072 H134073 p134074 => ?_))
            obtain ⟨e134075, e134077, z134078, e134076, b134079⟩ := p134074
            subst e134075
            subst e134076
            subst e134077
            show wp _ _ 239 46 [(4, vI v134045), (3, vI v134046), (0, .ref r0), (1, .ref r1), (2, vI a2)] [vI z134078] _ H _
            refine wp_of e239 c239_46 (rw_istore (pc' := 48) (z := z134078) (L' := [(5, vI z134078), (4, vI v134045), (3, vI v134046), (0, .ref r0), (1, .ref r1), (2, vI a2)]) rfl rfl rfl ?_)
            refine wp_of e239 c239_48 (rw_iload_n (pc' := 49) (z := v134046) rfl rfl ?_)
            refine wp_of e239 c239_49 (rw_iload (pc' := 51) (z := z134078) rfl rfl ?_)
            refine wp_of e239 c239_51 (rw_iaddw (pc' := 52) rfl ?_)
            obtain ⟨v134080, e134081⟩ : ∃ x : Int, x = wq_w (v134046 + z134078) := ⟨_, rfl⟩
            rw [← e134081]
            have b134082 : -2147483648 ≤ v134080 ∧ v134080 ≤ 2147483647 := by
              rw [e134081]
              exact wI_w _
            refine wp_of e239 c239_52 (rw_istore_n (pc' := 53) (z := v134080) (L' := [(3, vI v134080), (5, vI z134078), (4, vI v134045), (0, .ref r0), (1, .ref r1), (2, vI a2)]) rfl rfl rfl ?_)
            refine wp_of e239 c239_53 (rw_iload (pc' := 55) (z := z134078) rfl rfl ?_)
            refine wp_of e239 c239_55 (rw_iconst (pc' := 56) rfl ?_)
            refine wp_of e239 c239_56 (rw_icmp_eq (p1 := 70) (p2 := 59) (by decide) rfl ⟨by omega, by omega⟩ ⟨by omega, by omega⟩ (fun c134083 => ?_) (fun c134083 => ?_))
            · refine wp_of e239 c239_70 (rw_iload (pc' := 72) (z := v134045) rfl rfl ?_)
              exact wp_ireturn e239 c239_72 rfl ⟨rfl, rfl, v134045, rfl, ⟨by omega, by omega⟩⟩
            · refine wp_of e239 c239_59 (rw_iload_n (pc' := 60) (z := v134080) rfl rfl ?_)
              refine wp_of e239 c239_60 (rw_aload_n (pc' := 61) (v := .ref r0) rfl rfl rfl ?_)
              refine wp_of e239 c239_61 (xg_K (pc' := 64) lf_9_337 hW g0 sh_42 (by decide) (by decide) rfl qpp rfl ?_)
              refine wp_of e239 c239_64 (xg_I (pc' := 67) lf_9_226 hW gpp sh_54 (by decide) (by decide) ty_54_2 rfl rfl (fun b134084 b134085 => ?_))
              refine wp_of e239 c239_67 (rw_icmp_le (p1 := 73) (p2 := 70) (by decide) rfl ⟨by omega, by omega⟩ ⟨by omega, by omega⟩ (fun c134086 => ?_) (fun c134086 => ?_))
              · refine wp_of e239 c239_73 (rw_iinc (pc' := 76) (z := v134045) (L' := [(4, vI (v134045 + 1)), (3, vI v134080), (5, vI z134078), (0, .ref r0), (1, .ref r1), (2, vI a2)]) rfl rfl rfl rfl ?_)
                refine wp_of e239 c239_76 (rw_goto (p1 := 5) (by decide) ?_)
                exact wp_lc (ks := [4, 3, 5, 0, 1, 2]) (wl_c rfl (wl_c rfl (wl_c rfl (wl_c rfl (wl_c rfl wl_n))))) rfl (by decide) (ih134044 _ (by omega) (v134045 + 1) v134080 ⟨by omega, by omega⟩ ⟨by omega, by omega⟩ rfl)
              · refine wp_of e239 c239_70 (rw_iload (pc' := 72) (z := v134045) rfl rfl ?_)
                exact wp_ireturn e239 c239_72 rfl ⟨rfl, rfl, v134045, rfl, ⟨by omega, by omega⟩⟩
          · refine wp_of e239 c239_36 (rw_goto (p1 := 73) (by decide) ?_)
            refine wp_of e239 c239_73 (rw_iinc (pc' := 76) (z := v134045) (L' := [(4, vI (v134045 + 1)), (3, vI v134046), (0, .ref r0), (1, .ref r1), (2, vI a2)]) rfl rfl rfl rfl ?_)
            refine wp_of e239 c239_76 (rw_goto (p1 := 5) (by decide) ?_)
            exact wp_lc (ks := [4, 3, 0, 1, 2]) (wl_c rfl (wl_c rfl (wl_c rfl (wl_c rfl (wl_c rfl wl_n))))) rfl (by decide) (ih134044 _ (by omega) (v134045 + 1) v134046 ⟨by omega, by omega⟩ ⟨by omega, by omega⟩ rfl)
  exact wp_lc (ks := [4, 3, 0, 1, 2]) (wl_c rfl (wl_c rfl (wl_c rfl (wl_c rfl (wl_c rfl wl_n))))) rfl (by decide) (lp134042 _ 0 0 ⟨by omega, by omega⟩ ⟨by omega, by omega⟩ rfl)

/-! StrikeAwakeModel.barredAt([II)I -/
abbrev q_239_m_said (r0 : Nat) (r1 : Nat) (a2 : Int) (pp : Nat) (T : wq_T) (H : wq_H) : Option Value → wq_T → wq_H → Prop := fun r T' H' => T = T' ∧ H = H' ∧ ∃ z : Int, some (vI z) = r ∧ (0 ≤ z ∧ z ≤ 24)
set_option maxHeartbeats 4000000 in
theorem s_239_m_said {kt : Nat → Option mc_E} {T : wq_T} {H : wq_H} {r0 : Nat} {r1 : Nat} {a2 : Int} {pp : Nat} (hW : WT T H) (g0 : T.2.2.2 r0 = some 42) (g1 : T.2.2.2 r1 = some 50) (i2 : (-2147483648) ≤ a2 ∧ a2 ≤ 2147483647) (qpp : H r0 3 = (pp : Int)) (gpp : T.2.2.2 pp = some 54) : wpc kt 4 239 [.ref r0, .ref r1, vI a2] T H (q_239_m_said r0 r1 a2 pp T H) := by
  refine wp_enter e239 (Nat.le_of_ble_eq_true rfl) rfl ?_
  show wp _ _ 239 0 [(0, .ref r0), (1, .ref r1), (2, vI a2)] [] _ H _
  refine wp_of e239 c239_0 (rw_iconst (pc' := 1) rfl ?_)
  refine wp_of e239 c239_1 (rw_istore_n (pc' := 2) (z := 0) (L' := [(3, vI 0), (0, .ref r0), (1, .ref r1), (2, vI a2)]) rfl rfl rfl ?_)
  refine wp_of e239 c239_2 (rw_iconst (pc' := 3) rfl ?_)
  refine wp_of e239 c239_3 (rw_istore (pc' := 5) (z := 0) (L' := [(4, vI 0), (3, vI 0), (0, .ref r0), (1, .ref r1), (2, vI a2)]) rfl rfl rfl ?_)
  have lp134742 : ∀ (n134743 : Nat) (v134745 : Int) (v134746 : Int), (0 ≤ v134745 ∧ v134745 ≤ 24) → ((-2147483648) ≤ v134746 ∧ v134746 ≤ 2147483647) → (24 - v134745).toNat = n134743 → wp kt 3 239 5 [(4, vI v134745), (3, vI v134746), (0, .ref r0), (1, .ref r1), (2, vI a2)] [] T H (q_239_m_said r0 r1 a2 pp T H) := by
    intro n134743
    induction n134743 using Nat.strongRecOn with
    | _ n134743 ih134744 =>
      intro v134745 v134746 b134749 b134750 m134751
      refine wp_of e239 c239_5 (rw_iload (pc' := 7) (z := v134745) rfl rfl ?_)
      refine wp_of e239 c239_7 (rw_aload_n (pc' := 8) (v := .ref r0) rfl rfl rfl ?_)
      refine wp_of e239 c239_8 (xg_K (pc' := 11) lf_9_337 hW g0 sh_42 (by decide) (by decide) rfl qpp rfl ?_)
      refine wp_of e239 c239_11 (xg_I (pc' := 14) lf_9_185 hW gpp sh_54 (by decide) (by decide) ty_54_0 rfl rfl (fun b134752 b134753 => ?_))
      refine wp_of e239 c239_14 (rw_icmp_ge (p1 := 79) (p2 := 17) (by decide) rfl ⟨by omega, by omega⟩ ⟨by omega, by omega⟩ (fun c134754 => ?_) (fun c134754 => ?_))
      · refine wp_of e239 c239_79 (rw_bipush (pc' := 81) (z := 24) rfl (by decide) ?_)
        exact wp_ireturn e239 c239_81 rfl ⟨rfl, rfl, 24, rfl, ⟨by omega, by omega⟩⟩
      · refine wp_of e239 c239_17 (rw_iload_n (pc' := 18) (z := a2) rfl rfl ?_)
        refine wp_of e239 c239_18 (rw_iload (pc' := 20) (z := v134745) rfl rfl ?_)
        refine wp_of e239 c239_20 (xc_S (pc' := 23) (as := [vI a2, vI v134745]) (st := []) (lm_9_346) rfl rfl (Nat.le_of_ble_eq_true rfl) rfl (by decide) (s_205 hW ⟨by omega, by omega⟩ ⟨by omega, by omega⟩) (fun R134755 T134756 H134757 p134758 => ?_))
        obtain ⟨e134759, e134761, z134762, e134760, b134763⟩ := p134758
        subst e134759
        subst e134760
        subst e134761
        show wp _ _ 239 23 [(4, vI v134745), (3, vI v134746), (0, .ref r0), (1, .ref r1), (2, vI a2)] [vI z134762] _ H _
        refine wp_of e239 c239_23 (rw_if_eq (p1 := 73) (p2 := 26) (by decide) rfl ⟨by omega, by omega⟩ (fun c134764 => ?_) (fun c134764 => ?_))
        · refine wp_of e239 c239_73 (rw_iinc (pc' := 76) (z := v134745) (L' := [(4, vI (v134745 + 1)), (3, vI v134746), (0, .ref r0), (1, .ref r1), (2, vI a2)]) rfl rfl rfl rfl ?_)
          refine wp_of e239 c239_76 (rw_goto (p1 := 5) (by decide) ?_)
          exact wp_lc (ks := [4, 3, 0, 1, 2]) (wl_c rfl (wl_c rfl (wl_c rfl (wl_c rfl (wl_c rfl wl_n))))) rfl (by decide) (ih134744 _ (by omega) (v134745 + 1) v134746 ⟨by omega, by omega⟩ ⟨by omega, by omega⟩ rfl)
        · refine wp_of e239 c239_26 (rw_aload_n (pc' := 27) (v := .ref r0) rfl rfl rfl ?_)
          refine wp_of e239 c239_27 (xg_R (pc' := 30) lf_9_17 hW g0 sh_42 (by decide) (by decide) ty_42_20 rfl rfl (fun r134765 q134766 g134767 => ?_))
          refine wp_of e239 c239_30 (rw_iload (pc' := 32) (z := v134745) rfl rfl ?_)
          refine wp_of e239 c239_32 (xa_I (so := 0) (pc' := 33) hW g134767 sh_44 (by decide) (ty_44 _) (by omega) (by omega) rfl (fun b134768 b134769 => ?_))
          refine wp_of e239 c239_33 (rw_if_ne (p1 := 39) (p2 := 36) (by decide) rfl ⟨by omega, by omega⟩ (fun c134770 => ?_) (fun c134770 => ?_))
          · refine wp_of e239 c239_39 (rw_aload_n (pc' := 40) (v := .ref r0) rfl rfl rfl ?_)
            refine wp_of e239 c239_40 (rw_aload_n (pc' := 41) (v := .ref r1) rfl rfl rfl ?_)
            refine wp_of e239 c239_41 (rw_iload (pc' := 43) (z := v134745) rfl rfl ?_)
            refine wp_of e239 c239_43 (xc_V (pc' := 46) (r := r0) (as := [.ref r1, vI v134745]) (st := []) (lm_9_390) rfl rfl (Nat.le_of_ble_eq_true rfl) hW g0 sh_42 (by decide) rfl (by decide) (s_234_m_said hW g0 g1 ⟨by omega, by omega⟩ qpp gpp) (fun R134771 T134772 H134773 p134774 => ?_))
            obtain ⟨e134775, e134777, z134778, e134776, b134779⟩ := p134774
            subst e134775
            subst e134776
            subst e134777
            show wp _ _ 239 46 [(4, vI v134745), (3, vI v134746), (0, .ref r0), (1, .ref r1), (2, vI a2)] [vI z134778] _ H _
            refine wp_of e239 c239_46 (rw_istore (pc' := 48) (z := z134778) (L' := [(5, vI z134778), (4, vI v134745), (3, vI v134746), (0, .ref r0), (1, .ref r1), (2, vI a2)]) rfl rfl rfl ?_)
            refine wp_of e239 c239_48 (rw_iload_n (pc' := 49) (z := v134746) rfl rfl ?_)
            refine wp_of e239 c239_49 (rw_iload (pc' := 51) (z := z134778) rfl rfl ?_)
            refine wp_of e239 c239_51 (rw_iaddw (pc' := 52) rfl ?_)
            obtain ⟨v134780, e134781⟩ : ∃ x : Int, x = wq_w (v134746 + z134778) := ⟨_, rfl⟩
            rw [← e134781]
            have b134782 : -2147483648 ≤ v134780 ∧ v134780 ≤ 2147483647 := by
              rw [e134781]
              exact wI_w _
            refine wp_of e239 c239_52 (rw_istore_n (pc' := 53) (z := v134780) (L' := [(3, vI v134780), (5, vI z134778), (4, vI v134745), (0, .ref r0), (1, .ref r1), (2, vI a2)]) rfl rfl rfl ?_)
            refine wp_of e239 c239_53 (rw_iload (pc' := 55) (z := z134778) rfl rfl ?_)
            refine wp_of e239 c239_55 (rw_iconst (pc' := 56) rfl ?_)
            refine wp_of e239 c239_56 (rw_icmp_eq (p1 := 70) (p2 := 59) (by decide) rfl ⟨by omega, by omega⟩ ⟨by omega, by omega⟩ (fun c134783 => ?_) (fun c134783 => ?_))
            · refine wp_of e239 c239_70 (rw_iload (pc' := 72) (z := v134745) rfl rfl ?_)
              exact wp_ireturn e239 c239_72 rfl ⟨rfl, rfl, v134745, rfl, ⟨by omega, by omega⟩⟩
            · refine wp_of e239 c239_59 (rw_iload_n (pc' := 60) (z := v134780) rfl rfl ?_)
              refine wp_of e239 c239_60 (rw_aload_n (pc' := 61) (v := .ref r0) rfl rfl rfl ?_)
              refine wp_of e239 c239_61 (xg_K (pc' := 64) lf_9_337 hW g0 sh_42 (by decide) (by decide) rfl qpp rfl ?_)
              refine wp_of e239 c239_64 (xg_I (pc' := 67) lf_9_226 hW gpp sh_54 (by decide) (by decide) ty_54_2 rfl rfl (fun b134784 b134785 => ?_))
              refine wp_of e239 c239_67 (rw_icmp_le (p1 := 73) (p2 := 70) (by decide) rfl ⟨by omega, by omega⟩ ⟨by omega, by omega⟩ (fun c134786 => ?_) (fun c134786 => ?_))
              · refine wp_of e239 c239_73 (rw_iinc (pc' := 76) (z := v134745) (L' := [(4, vI (v134745 + 1)), (3, vI v134780), (5, vI z134778), (0, .ref r0), (1, .ref r1), (2, vI a2)]) rfl rfl rfl rfl ?_)
                refine wp_of e239 c239_76 (rw_goto (p1 := 5) (by decide) ?_)
                exact wp_lc (ks := [4, 3, 5, 0, 1, 2]) (wl_c rfl (wl_c rfl (wl_c rfl (wl_c rfl (wl_c rfl wl_n))))) rfl (by decide) (ih134744 _ (by omega) (v134745 + 1) v134780 ⟨by omega, by omega⟩ ⟨by omega, by omega⟩ rfl)
              · refine wp_of e239 c239_70 (rw_iload (pc' := 72) (z := v134745) rfl rfl ?_)
                exact wp_ireturn e239 c239_72 rfl ⟨rfl, rfl, v134745, rfl, ⟨by omega, by omega⟩⟩
          · refine wp_of e239 c239_36 (rw_goto (p1 := 73) (by decide) ?_)
            refine wp_of e239 c239_73 (rw_iinc (pc' := 76) (z := v134745) (L' := [(4, vI (v134745 + 1)), (3, vI v134746), (0, .ref r0), (1, .ref r1), (2, vI a2)]) rfl rfl rfl rfl ?_)
            refine wp_of e239 c239_76 (rw_goto (p1 := 5) (by decide) ?_)
            exact wp_lc (ks := [4, 3, 0, 1, 2]) (wl_c rfl (wl_c rfl (wl_c rfl (wl_c rfl (wl_c rfl wl_n))))) rfl (by decide) (ih134744 _ (by omega) (v134745 + 1) v134746 ⟨by omega, by omega⟩ ⟨by omega, by omega⟩ rfl)
  exact wp_lc (ks := [4, 3, 0, 1, 2]) (wl_c rfl (wl_c rfl (wl_c rfl (wl_c rfl (wl_c rfl wl_n))))) rfl (by decide) (lp134742 _ 0 0 ⟨by omega, by omega⟩ ⟨by omega, by omega⟩ rfl)
