/-! methods of the reference (own work, written by wip/gen2/sx.py) -/
/-! StrikeAwakeModel.wordOf(Ljava/lang/String;)J -/
theorem e179 : wq_en 179 = some (9, 4, false, some FieldType.long) := rfl
theorem c179_0 : mc_cd 179 0 = some (.lconst 0, 1) := by decide +kernel
theorem c179_1 : mc_cd 179 1 = some (.lstore_n 1, 1) := by decide +kernel
theorem c179_2 : mc_cd 179 2 = some (.iconst 0, 1) := by decide +kernel
theorem c179_3 : mc_cd 179 3 = some (.istore_n 3, 1) := by decide +kernel
theorem c179_4 : mc_cd 179 4 = some (.iload_n 3, 1) := by decide +kernel
theorem c179_5 : mc_cd 179 5 = some (.aload_n 0, 1) := by decide +kernel
theorem c179_6 : mc_cd 179 6 = some (.invokevirtual 64, 3) := by decide +kernel
theorem c179_9 : mc_cd 179 9 = some (.if_icmp .ge 27, 3) := by decide +kernel
theorem c179_12 : mc_cd 179 12 = some (.ldc2_w 69, 3) := by decide +kernel
theorem c179_15 : mc_cd 179 15 = some (.lload_n 1, 1) := by decide +kernel
theorem c179_16 : mc_cd 179 16 = some (.lmul, 1) := by decide +kernel
theorem c179_17 : mc_cd 179 17 = some (.aload_n 0, 1) := by decide +kernel
theorem c179_18 : mc_cd 179 18 = some (.iload_n 3, 1) := by decide +kernel
theorem c179_19 : mc_cd 179 19 = some (.invokevirtual 71, 3) := by decide +kernel
theorem c179_22 : mc_cd 179 22 = some (.bipush 97, 2) := by decide +kernel
theorem c179_24 : mc_cd 179 24 = some (.isub, 1) := by decide +kernel
theorem c179_25 : mc_cd 179 25 = some (.iconst 1, 1) := by decide +kernel
theorem c179_26 : mc_cd 179 26 = some (.iadd, 1) := by decide +kernel
theorem c179_27 : mc_cd 179 27 = some (.i2l, 1) := by decide +kernel
theorem c179_28 : mc_cd 179 28 = some (.ladd, 1) := by decide +kernel
theorem c179_29 : mc_cd 179 29 = some (.lstore_n 1, 1) := by decide +kernel
theorem c179_30 : mc_cd 179 30 = some (.iinc 3 1, 3) := by decide +kernel
theorem c179_33 : mc_cd 179 33 = some (.goto (-29), 3) := by decide +kernel
theorem c179_36 : mc_cd 179 36 = some (.lload_n 1, 1) := by decide +kernel
theorem c179_37 : mc_cd 179 37 = some (.lreturn, 1) := by decide +kernel
abbrev q_179 (s0 : Nat) (T : wq_T) (H : wq_H) : Option Value → wq_T → wq_H → Prop := fun r T' H' => T = T' ∧ H = H' ∧ ∃ z : Int, some (vL z) = r ∧ ((-9223372036854775808) ≤ z ∧ z ≤ 9223372036854775807)
set_option maxHeartbeats 4000000 in
theorem s_179 {kt : Nat → Option mc_E} {T : wq_T} {H : wq_H} {s0 : Nat} {t0 : List Int32} (hW : WT T H) (h0 : mc_find mc_sb s0 = some t0) : wpc kt 1 179 [.ref s0] T H (q_179 s0 T H) := by
  refine wp_enter e179 (Nat.le_of_ble_eq_true rfl) rfl ?_
  show wp _ _ 179 0 [(0, .ref s0)] [] _ H _
  refine wp_of e179 c179_0 (rw_lconst (pc' := 1) (z := 0) rfl rfl ?_)
  refine wp_of e179 c179_1 (rw_lstore_n (pc' := 2) (z := 0) (L' := [(1, vL 0), (0, .ref s0)]) rfl rfl rfl ?_)
  refine wp_of e179 c179_2 (rw_iconst (pc' := 3) rfl ?_)
  refine wp_of e179 c179_3 (rw_istore_n (pc' := 4) (z := 0) (L' := [(3, vI 0), (1, vL 0), (0, .ref s0)]) rfl rfl rfl ?_)
  have lp87664 : ∀ (n87665 : Nat) (v87667 : Int) (v87668 : Int), (0 ≤ v87667 ∧ v87667 ≤ 63) → ((-9223372036854775808) ≤ v87668 ∧ v87668 ≤ 9223372036854775807) → (63 - v87667).toNat = n87665 → wp kt 0 179 4 [(3, vI v87667), (1, vL v87668), (0, .ref s0)] [] T H (q_179 s0 T H) := by
    intro n87665
    induction n87665 using Nat.strongRecOn with
    | _ n87665 ih87666 =>
      intro v87667 v87668 b87671 b87672 m87673
      refine wp_of e179 c179_4 (rw_iload_n (pc' := 5) (z := v87667) rfl rfl ?_)
      refine wp_of e179 c179_5 (rw_aload_n (pc' := 6) (v := .ref s0) rfl rfl rfl ?_)
      refine wp_of e179 c179_6 (rw_slen (pc' := 9) rfl rfl rfl h0 (Nat.le_of_ble_eq_true rfl) rfl ?_)
      have k87674 := (mc_sb_k h0).2.1
      show wp _ _ 179 9 [(3, vI v87667), (1, vL v87668), (0, .ref s0)] [vI ((t0.length : Int)), vI v87667] _ H _
      refine wp_of e179 c179_9 (rw_icmp_ge (p1 := 36) (p2 := 12) (by decide) rfl ⟨by omega, by omega⟩ ⟨by omega, by omega⟩ (fun c87675 => ?_) (fun c87675 => ?_))
      · refine wp_of e179 c179_36 (rw_lload_n (pc' := 37) (z := v87668) rfl rfl ?_)
        exact wp_lreturn e179 c179_37 rfl ⟨rfl, rfl, v87668, rfl, ⟨by omega, by omega⟩⟩
      · refine wp_of e179 c179_12 (rw_ldc2 (pc' := 15) (z := 32) rfl rfl rfl ?_)
        refine wp_of e179 c179_15 (rw_lload_n (pc' := 16) (z := v87668) rfl rfl ?_)
        refine wp_of e179 c179_16 (rw_lmulw (pc' := 17) rfl ?_)
        obtain ⟨v87676, e87677⟩ : ∃ x : Int, x = wl_w (32 * v87668) := ⟨_, rfl⟩
        rw [← e87677]
        have b87678 : -9223372036854775808 ≤ v87676 ∧ v87676 ≤ 9223372036854775807 := by
          rw [e87677]
          exact wL_w _
        refine wp_of e179 c179_17 (rw_aload_n (pc' := 18) (v := .ref s0) rfl rfl rfl ?_)
        refine wp_of e179 c179_18 (rw_iload_n (pc' := 19) (z := v87667) rfl rfl ?_)
        refine wp_of e179 c179_19 (rw_schr (pc' := 22) rfl rfl rfl h0 (by omega) (by omega) (Nat.le_of_ble_eq_true rfl) rfl ?_)
        obtain ⟨v87679, e87680⟩ : ∃ x : Int, x = (t0.getD (v87667).toNat 0).toInt := ⟨_, rfl⟩
        rw [← e87680]
        have b87681 : -2147483648 ≤ v87679 ∧ v87679 ≤ 2147483647 := by
          rw [e87680]
          exact wI_of _
        refine wp_of e179 c179_22 (rw_bipush (pc' := 24) (z := 97) rfl (by decide) ?_)
        refine wp_of e179 c179_24 (rw_isubw (pc' := 25) rfl ?_)
        obtain ⟨v87682, e87683⟩ : ∃ x : Int, x = wq_w (v87679 - 97) := ⟨_, rfl⟩
        rw [← e87683]
        have b87684 : -2147483648 ≤ v87682 ∧ v87682 ≤ 2147483647 := by
          rw [e87683]
          exact wI_w _
        refine wp_of e179 c179_25 (rw_iconst (pc' := 26) rfl ?_)
        refine wp_of e179 c179_26 (rw_iaddw (pc' := 27) rfl ?_)
        obtain ⟨v87685, e87686⟩ : ∃ x : Int, x = wq_w (v87682 + 1) := ⟨_, rfl⟩
        rw [← e87686]
        have b87687 : -2147483648 ≤ v87685 ∧ v87685 ≤ 2147483647 := by
          rw [e87686]
          exact wI_w _
        refine wp_of e179 c179_27 (rw_i2l (pc' := 28) rfl ⟨by omega, by omega⟩ ?_)
        refine wp_of e179 c179_28 (rw_laddw (pc' := 29) rfl ?_)
        obtain ⟨v87688, e87689⟩ : ∃ x : Int, x = wl_w (v87676 + v87685) := ⟨_, rfl⟩
        rw [← e87689]
        have b87690 : -9223372036854775808 ≤ v87688 ∧ v87688 ≤ 9223372036854775807 := by
          rw [e87689]
          exact wL_w _
        refine wp_of e179 c179_29 (rw_lstore_n (pc' := 30) (z := v87688) (L' := [(1, vL v87688), (3, vI v87667), (0, .ref s0)]) rfl rfl rfl ?_)
        refine wp_of e179 c179_30 (rw_iinc (pc' := 33) (z := v87667) (L' := [(3, vI (v87667 + 1)), (1, vL v87688), (0, .ref s0)]) rfl rfl rfl rfl ?_)
        refine wp_of e179 c179_33 (rw_goto (p1 := 4) (by decide) ?_)
        exact wp_lc (ks := [3, 1, 0]) (wl_c rfl (wl_c rfl (wl_c rfl wl_n))) rfl (by decide) (ih87666 _ (by omega) (v87667 + 1) v87688 ⟨by omega, by omega⟩ ⟨by omega, by omega⟩ rfl)
  exact wp_lc (ks := [3, 1, 0]) (wl_c rfl (wl_c rfl (wl_c rfl wl_n))) rfl (by decide) (lp87664 _ 0 0 ⟨by omega, by omega⟩ ⟨by omega, by omega⟩ rfl)
/-! StrikeAwakeModel.isWord(Ljava/lang/String;)Z -/
theorem e178 : wq_en 178 = some (9, 2, false, some FieldType.boolean) := rfl
theorem c178_0 : mc_cd 178 0 = some (.aload_n 0, 1) := by decide +kernel
theorem c178_1 : mc_cd 178 1 = some (.getfield 75, 3) := by decide +kernel
theorem c178_4 : mc_cd 178 4 = some (.iconst 2, 1) := by decide +kernel
theorem c178_5 : mc_cd 178 5 = some (.if_icmp .ne 19, 3) := by decide +kernel
theorem c178_8 : mc_cd 178 8 = some (.aload_n 0, 1) := by decide +kernel
theorem c178_9 : mc_cd 178 9 = some (.getfield 94, 3) := by decide +kernel
theorem c178_12 : mc_cd 178 12 = some (.aload_n 1, 1) := by decide +kernel
theorem c178_13 : mc_cd 178 13 = some (.invokestatic 110, 3) := by decide +kernel
theorem c178_16 : mc_cd 178 16 = some (.lcmp, 1) := by decide +kernel
theorem c178_17 : mc_cd 178 17 = some (.ifCond .ne 7, 3) := by decide +kernel
theorem c178_20 : mc_cd 178 20 = some (.iconst 1, 1) := by decide +kernel
theorem c178_21 : mc_cd 178 21 = some (.goto 4, 3) := by decide +kernel
theorem c178_24 : mc_cd 178 24 = some (.iconst 0, 1) := by decide +kernel
theorem c178_25 : mc_cd 178 25 = some (.ireturn, 1) := by decide +kernel
abbrev q_178 (r0 : Nat) (s1 : Nat) (T : wq_T) (H : wq_H) : Option Value → wq_T → wq_H → Prop := fun r T' H' => T = T' ∧ H = H' ∧ ∃ z : Int, some (vI z) = r ∧ (0 ≤ z ∧ z ≤ 1)
set_option maxHeartbeats 4000000 in
theorem s_178 {kt : Nat → Option mc_E} {T : wq_T} {H : wq_H} {r0 : Nat} {s1 : Nat} {t1 : List Int32} (hW : WT T H) (g0 : T.2.2.2 r0 = some 42) (h1 : mc_find mc_sb s1 = some t1) : wpc kt 2 178 [.ref r0, .ref s1] T H (q_178 r0 s1 T H) := by
  refine wp_enter e178 (Nat.le_of_ble_eq_true rfl) rfl ?_
  show wp _ _ 178 0 [(0, .ref r0), (1, .ref s1)] [] _ H _
  refine wp_of e178 c178_0 (rw_aload_n (pc' := 1) (v := .ref r0) rfl rfl rfl ?_)
  refine wp_of e178 c178_1 (xg_I (pc' := 4) lf_9_75 hW g0 sh_42 (by decide) (by decide) ty_42_9 rfl rfl (fun b87707 b87708 => ?_))
  refine wp_of e178 c178_4 (rw_iconst (pc' := 5) rfl ?_)
  refine wp_of e178 c178_5 (rw_icmp_ne (p1 := 24) (p2 := 8) (by decide) rfl ⟨by omega, by omega⟩ ⟨by omega, by omega⟩ (fun c87709 => ?_) (fun c87709 => ?_))
  · refine wp_of e178 c178_24 (rw_iconst (pc' := 25) rfl ?_)
    exact wp_zreturn e178 c178_25 rfl (by omega) ⟨rfl, rfl, 0, rfl, ⟨by omega, by omega⟩⟩
  · refine wp_of e178 c178_8 (rw_aload_n (pc' := 9) (v := .ref r0) rfl rfl rfl ?_)
    refine wp_of e178 c178_9 (xg_L (pc' := 12) lf_9_94 hW g0 sh_42 (by decide) (by decide) ty_42_15 rfl rfl (fun b87710 b87711 => ?_))
    refine wp_of e178 c178_12 (rw_aload_n (pc' := 13) (v := .ref s1) rfl rfl rfl ?_)
    refine wp_of e178 c178_13 (xc_S (pc' := 16) (as := [.ref s1]) (st := [vL (H r0 15)]) (lm_9_110) rfl rfl (Nat.le_of_ble_eq_true rfl) rfl (by decide) (s_179 hW h1) (fun R87712 T87713 H87714 p87715 => ?_))
    obtain ⟨e87716, e87718, z87719, e87717, b87720⟩ := p87715
    subst e87716
    subst e87717
    subst e87718
    show wp _ _ 178 16 [(0, .ref r0), (1, .ref s1)] [vL z87719, vL (H r0 15)] _ H _
    refine wp_of e178 c178_16 (rw_lcmp (pc' := 17) rfl ⟨by omega, by omega⟩ ⟨by omega, by omega⟩ ?_)
    have b87721 := wq_cmp_b (H r0 15) z87719
    refine wp_of e178 c178_17 (rw_if_ne (p1 := 24) (p2 := 20) (by decide) rfl ⟨by omega, by omega⟩ (fun c87722 => ?_) (fun c87722 => ?_))
    · refine wp_of e178 c178_24 (rw_iconst (pc' := 25) rfl ?_)
      exact wp_zreturn e178 c178_25 rfl (by omega) ⟨rfl, rfl, 0, rfl, ⟨by omega, by omega⟩⟩
    · refine wp_of e178 c178_20 (rw_iconst (pc' := 21) rfl ?_)
      refine wp_of e178 c178_21 (rw_goto (p1 := 25) (by decide) ?_)
      exact wp_zreturn e178 c178_25 rfl (by omega) ⟨rfl, rfl, 1, rfl, ⟨by omega, by omega⟩⟩
/-! StrikeAwakeModel.wrong(I)V -/
theorem e181 : wq_en 181 = some (9, 2, false, none) := rfl
theorem c181_0 : mc_cd 181 0 = some (.aload_n 0, 1) := by decide +kernel
theorem c181_1 : mc_cd 181 1 = some (.getfield 75, 3) := by decide +kernel
theorem c181_4 : mc_cd 181 4 = some (.iconst 5, 1) := by decide +kernel
theorem c181_5 : mc_cd 181 5 = some (.if_icmp .ne 4, 3) := by decide +kernel
theorem c181_8 : mc_cd 181 8 = some (.return_, 1) := by decide +kernel
theorem c181_9 : mc_cd 181 9 = some (.aload_n 0, 1) := by decide +kernel
theorem c181_10 : mc_cd 181 10 = some (.iload_n 1, 1) := by decide +kernel
theorem c181_11 : mc_cd 181 11 = some (.putfield 104, 3) := by decide +kernel
theorem c181_14 : mc_cd 181 14 = some (.aload_n 0, 1) := by decide +kernel
theorem c181_15 : mc_cd 181 15 = some (.aload_n 0, 1) := by decide +kernel
theorem c181_16 : mc_cd 181 16 = some (.getfield 84, 3) := by decide +kernel
theorem c181_19 : mc_cd 181 19 = some (.putfield 107, 3) := by decide +kernel
theorem c181_22 : mc_cd 181 22 = some (.aload_n 0, 1) := by decide +kernel
theorem c181_23 : mc_cd 181 23 = some (.iconst 5, 1) := by decide +kernel
theorem c181_24 : mc_cd 181 24 = some (.putfield 75, 3) := by decide +kernel
theorem c181_27 : mc_cd 181 27 = some (.return_, 1) := by decide +kernel
abbrev q_181 (r0 : Nat) (a1 : Int) (T : wq_T) (H : wq_H) : Option Value → wq_T → wq_H → Prop := fun r T' H' => T = T' ∧ WT T H' ∧ wfr [(42, 9), (42, 13), (42, 14)] T H H' ∧ none = r ∧ (wJ H' r0 = 1) ∧ (H r0 10 ≤ H' r0 10) ∧ (wOV H r0 ≤ wOV H' r0) ∧ (wOV H' r0 ≤ 1) ∧ (H' r0 9 = 5) ∧ (wOV H' r0 = 1)
set_option maxHeartbeats 4000000 in
theorem s_181 {kt : Nat → Option mc_E} {T : wq_T} {H : wq_H} {r0 : Nat} {a1 : Int} (hW : WT T H) (g0 : T.2.2.2 r0 = some 42) (i1 : (-2147483648) ≤ a1 ∧ a1 ≤ 2147483647) (p0 : wJ H r0 = 1) : wpc kt 1 181 [.ref r0, vI a1] T H (q_181 r0 a1 T H) := by
  refine wp_enter e181 (Nat.le_of_ble_eq_true rfl) rfl ?_
  have f0 : wfr [(42, 9), (42, 13), (42, 14)] T H H := wfr.rf
  show wp _ _ 181 0 [(0, .ref r0), (1, vI a1)] [] _ H _
  have b87749 : (-2147483648) ≤ H r0 10 ∧ H r0 10 ≤ 2147483647 := hW.box g0 (n := 33) rfl (by decide) rfl
  have b87750 : 0 ≤ H r0 9 ∧ H r0 9 ≤ 5 := hW.box g0 (n := 33) rfl (by decide) rfl
  have b87751 : 0 ≤ H r0 8 ∧ H r0 8 ≤ 900 := hW.box g0 (n := 33) rfl (by decide) rfl
  have hb0 := wOV_b (H := H) (m := r0)
  have hj := wJ_1.mp p0
  have ho := wOV_e (H := H) (m := r0)
  refine wp_of e181 c181_0 (rw_aload_n (pc' := 1) (v := .ref r0) rfl rfl rfl ?_)
  refine wp_of e181 c181_1 (xg_I (pc' := 4) lf_9_75 hW g0 sh_42 (by decide) (by decide) ty_42_9 rfl rfl (fun b87752 b87753 => ?_))
  have k87754 := wOV_e (H := H) (m := r0)
  refine wp_of e181 c181_4 (rw_iconst (pc' := 5) rfl ?_)
  refine wp_of e181 c181_5 (rw_icmp_ne (p1 := 9) (p2 := 8) (by decide) rfl ⟨by omega, by omega⟩ ⟨by omega, by omega⟩ (fun c87755 => ?_) (fun c87755 => ?_))
  · refine wp_of e181 c181_9 (rw_aload_n (pc' := 10) (v := .ref r0) rfl rfl rfl ?_)
    refine wp_of e181 c181_10 (rw_iload_n (pc' := 11) (z := a1) rfl rfl ?_)
    refine wp_of e181 c181_11 (xp_I (pc' := 14) lf_9_104 hW g0 sh_42 (by decide) (by decide) ty_42_13 rfl rfl (by omega) (by omega) ⟨by omega, by omega⟩ rfl (fun H87756 e87757 w87758 => ?_))
    have f87759 := f0.put' e87757 g0 rfl
    have k87760 : H87756 r0 13 = a1 := wq_u_s e87757
    refine wp_of e181 c181_14 (rw_aload_n (pc' := 15) (v := .ref r0) rfl rfl rfl ?_)
    refine wp_of e181 c181_15 (rw_aload_n (pc' := 16) (v := .ref r0) rfl rfl rfl ?_)
    have k87761 : H87756 r0 10 = H r0 10 := (wq_u_j e87757 rfl)
    refine wp_of e181 c181_16 (xg_I (pc' := 19) lf_9_84 w87758 g0 sh_42 (by decide) (by decide) ty_42_10 rfl rfl (fun b87762 b87763 => ?_))
    refine wp_of e181 c181_19 (xp_I (pc' := 22) lf_9_107 w87758 g0 sh_42 (by decide) (by decide) ty_42_14 rfl rfl (by omega) (by omega) ⟨by omega, by omega⟩ rfl (fun H87764 e87765 w87766 => ?_))
    have f87767 := f87759.put' e87765 g0 rfl
    have k87768 : H87764 r0 14 = H87756 r0 10 := wq_u_s e87765
    refine wp_of e181 c181_22 (rw_aload_n (pc' := 23) (v := .ref r0) rfl rfl rfl ?_)
    refine wp_of e181 c181_23 (rw_iconst (pc' := 24) rfl ?_)
    refine wp_of e181 c181_24 (xp_I (pc' := 27) lf_9_75 w87766 g0 sh_42 (by decide) (by decide) ty_42_9 rfl rfl (by omega) (by omega) ⟨by omega, by omega⟩ rfl (fun H87769 e87770 w87771 => ?_))
    have f87772 := f87767.put' e87770 g0 rfl
    have k87773 : H87769 r0 9 = 5 := wq_u_s e87770
    have k87774 : H87769 r0 8 = H r0 8 := ((wq_u_j e87770 rfl).trans ((wq_u_j e87765 rfl).trans (wq_u_j e87757 rfl)))
    have k87775 : H87769 r0 10 = H87756 r0 10 := ((wq_u_j e87770 rfl).trans (wq_u_j e87765 rfl))
    have k87776 := wOV_e (H := H87769) (m := r0)
    have k87777 : wJ H87769 r0 = 1 := wJ_1.mpr ⟨by omega, by omega⟩
    exact wp_return e181 c181_27 rfl ⟨rfl, w87771, f87772, rfl, by omega, by omega, by omega, by omega, by omega, by omega⟩
  · exact wp_return e181 c181_8 rfl ⟨rfl, hW, f0, rfl, by omega, by omega, by omega, by omega, by omega, by omega⟩
/-! StrikeAwakeModel.needs(Ljava/lang/String;)V -/
theorem e183 : wq_en 183 = some (9, 2, false, none) := rfl
theorem c183_0 : mc_cd 183 0 = some (.aload_n 0, 1) := by decide +kernel
theorem c183_1 : mc_cd 183 1 = some (.aload_n 1, 1) := by decide +kernel
theorem c183_2 : mc_cd 183 2 = some (.invokevirtual 114, 3) := by decide +kernel
theorem c183_5 : mc_cd 183 5 = some (.ifCond .ne 8, 3) := by decide +kernel
theorem c183_8 : mc_cd 183 8 = some (.aload_n 0, 1) := by decide +kernel
theorem c183_9 : mc_cd 183 9 = some (.iconst 1, 1) := by decide +kernel
theorem c183_10 : mc_cd 183 10 = some (.invokevirtual 121, 3) := by decide +kernel
theorem c183_13 : mc_cd 183 13 = some (.aload_n 0, 1) := by decide +kernel
theorem c183_14 : mc_cd 183 14 = some (.invokevirtual 118, 3) := by decide +kernel
theorem c183_17 : mc_cd 183 17 = some (.return_, 1) := by decide +kernel
abbrev q_183 (r0 : Nat) (s1 : Nat) (T : wq_T) (H : wq_H) : Option Value → wq_T → wq_H → Prop := fun r T' H' => T = T' ∧ WT T H' ∧ wfr [(42, 8), (42, 9), (42, 10), (42, 11), (42, 12), (42, 13), (42, 14), (42, 15)] T H H' ∧ none = r ∧ (wJ H' r0 = 1) ∧ (H r0 10 ≤ H' r0 10) ∧ (wOV H r0 ≤ wOV H' r0) ∧ (wOV H' r0 ≤ 1)
set_option maxHeartbeats 4000000 in
theorem s_183 {kt : Nat → Option mc_E} {T : wq_T} {H : wq_H} {r0 : Nat} {s1 : Nat} {t1 : List Int32} (hW : WT T H) (g0 : T.2.2.2 r0 = some 42) (h1 : mc_find mc_sb s1 = some t1) (p0 : wJ H r0 = 1) : wpc kt 3 183 [.ref r0, .ref s1] T H (q_183 r0 s1 T H) := by
  refine wp_enter e183 (Nat.le_of_ble_eq_true rfl) rfl ?_
  have f0 : wfr [(42, 8), (42, 9), (42, 10), (42, 11), (42, 12), (42, 13), (42, 14), (42, 15)] T H H := wfr.rf
  show wp _ _ 183 0 [(0, .ref r0), (1, .ref s1)] [] _ H _
  have b87833 : (-2147483648) ≤ H r0 10 ∧ H r0 10 ≤ 2147483647 := hW.box g0 (n := 33) rfl (by decide) rfl
  have b87834 : 0 ≤ H r0 9 ∧ H r0 9 ≤ 5 := hW.box g0 (n := 33) rfl (by decide) rfl
  have b87835 : 0 ≤ H r0 8 ∧ H r0 8 ≤ 900 := hW.box g0 (n := 33) rfl (by decide) rfl
  have hb0 := wOV_b (H := H) (m := r0)
  refine wp_of e183 c183_0 (rw_aload_n (pc' := 1) (v := .ref r0) rfl rfl rfl ?_)
  refine wp_of e183 c183_1 (rw_aload_n (pc' := 2) (v := .ref s1) rfl rfl rfl ?_)
  refine wp_of e183 c183_2 (xc_V (pc' := 5) (r := r0) (as := [.ref s1]) (st := []) (lm_9_114) rfl rfl (Nat.le_of_ble_eq_true rfl) hW g0 sh_42 (by decide) rfl (by decide) (s_178 hW g0 h1) (fun R87836 T87837 H87838 p87839 => ?_))
  obtain ⟨e87840, e87842, z87843, e87841, b87844⟩ := p87839
  subst e87840
  subst e87841
  subst e87842
  show wp _ _ 183 5 [(0, .ref r0), (1, .ref s1)] [vI z87843] _ H _
  refine wp_of e183 c183_5 (rw_if_ne (p1 := 13) (p2 := 8) (by decide) rfl ⟨by omega, by omega⟩ (fun c87845 => ?_) (fun c87845 => ?_))
  · refine wp_of e183 c183_13 (rw_aload_n (pc' := 14) (v := .ref r0) rfl rfl rfl ?_)
    refine wp_of e183 c183_14 (xc_V (pc' := 17) (r := r0) (as := []) (st := []) (lm_9_118) rfl rfl (Nat.le_of_ble_eq_true rfl) hW g0 sh_42 (by decide) rfl (by decide) (s_172 hW g0 (by omega)) (fun R87846 T87847 H87848 p87849 => ?_))
    obtain ⟨e87850, w87852, f87853, e87851, p87854, p87855, p87856, p87857, p87858, p87859⟩ := p87849
    subst e87850
    subst e87851
    have f87860 := f0.tr f87853 rfl
    show wp _ _ 183 17 [(0, .ref r0), (1, .ref s1)] [] _ H87848 _
    exact wp_return e183 c183_17 rfl ⟨rfl, w87852, f87860, rfl, by omega, by omega, by omega, by omega⟩
  · refine wp_of e183 c183_8 (rw_aload_n (pc' := 9) (v := .ref r0) rfl rfl rfl ?_)
    refine wp_of e183 c183_9 (rw_iconst (pc' := 10) rfl ?_)
    refine wp_of e183 c183_10 (xc_V (pc' := 13) (r := r0) (as := [vI 1]) (st := []) (lm_9_121) rfl rfl (Nat.le_of_ble_eq_true rfl) hW g0 sh_42 (by decide) rfl (by decide) (s_181 hW g0 ⟨by omega, by omega⟩ (by omega)) (fun R87861 T87862 H87863 p87864 => ?_))
    obtain ⟨e87865, w87867, f87868, e87866, p87869, p87870, p87871, p87872, p87873, p87874⟩ := p87864
    subst e87865
    subst e87866
    have f87875 := f0.tr f87868 rfl
    show wp _ _ 183 13 [(0, .ref r0), (1, .ref s1)] [] _ H87863 _
    refine wp_of e183 c183_13 (rw_aload_n (pc' := 14) (v := .ref r0) rfl rfl rfl ?_)
    refine wp_of e183 c183_14 (xc_V (pc' := 17) (r := r0) (as := []) (st := []) (lm_9_118) rfl rfl (Nat.le_of_ble_eq_true rfl) w87867 g0 sh_42 (by decide) rfl (by decide) (s_172 w87867 g0 (by omega)) (fun R87876 T87877 H87878 p87879 => ?_))
    obtain ⟨e87880, w87882, f87883, e87881, p87884, p87885, p87886, p87887, p87888, p87889⟩ := p87879
    subst e87880
    subst e87881
    have f87890 := f87875.tr f87883 rfl
    show wp _ _ 183 17 [(0, .ref r0), (1, .ref s1)] [] _ H87878 _
    exact wp_return e183 c183_17 rfl ⟨rfl, w87882, f87890, rfl, by omega, by omega, by omega, by omega⟩
/-! StrikeAwakeModel.in(III)Z -/
theorem e186 : wq_en 186 = some (9, 3, false, some FieldType.boolean) := rfl
theorem c186_0 : mc_cd 186 0 = some (.iload_n 0, 1) := by decide +kernel
theorem c186_1 : mc_cd 186 1 = some (.iload_n 1, 1) := by decide +kernel
theorem c186_2 : mc_cd 186 2 = some (.if_icmp .lt 12, 3) := by decide +kernel
theorem c186_5 : mc_cd 186 5 = some (.iload_n 0, 1) := by decide +kernel
theorem c186_6 : mc_cd 186 6 = some (.iload_n 2, 1) := by decide +kernel
theorem c186_7 : mc_cd 186 7 = some (.if_icmp .gt 7, 3) := by decide +kernel
theorem c186_10 : mc_cd 186 10 = some (.iconst 1, 1) := by decide +kernel
theorem c186_11 : mc_cd 186 11 = some (.goto 4, 3) := by decide +kernel
theorem c186_14 : mc_cd 186 14 = some (.iconst 0, 1) := by decide +kernel
theorem c186_15 : mc_cd 186 15 = some (.ireturn, 1) := by decide +kernel
abbrev q_186 (a0 : Int) (a1 : Int) (a2 : Int) (T : wq_T) (H : wq_H) : Option Value → wq_T → wq_H → Prop := fun r T' H' => T = T' ∧ H = H' ∧ ∃ z : Int, some (vI z) = r ∧ (0 ≤ z ∧ z ≤ 1) ∧ (z = 0 ∨ (a1 ≤ a0 ∧ a0 ≤ a2))
set_option maxHeartbeats 4000000 in
theorem s_186 {kt : Nat → Option mc_E} {T : wq_T} {H : wq_H} {a0 : Int} {a1 : Int} {a2 : Int} (hW : WT T H) (i0 : (-2147483648) ≤ a0 ∧ a0 ≤ 2147483647) (i1 : (-2147483648) ≤ a1 ∧ a1 ≤ 2147483647) (i2 : (-2147483648) ≤ a2 ∧ a2 ≤ 2147483647) : wpc kt 1 186 [vI a0, vI a1, vI a2] T H (q_186 a0 a1 a2 T H) := by
  refine wp_enter e186 (Nat.le_of_ble_eq_true rfl) rfl ?_
  show wp _ _ 186 0 [(0, vI a0), (1, vI a1), (2, vI a2)] [] _ H _
  refine wp_of e186 c186_0 (rw_iload_n (pc' := 1) (z := a0) rfl rfl ?_)
  refine wp_of e186 c186_1 (rw_iload_n (pc' := 2) (z := a1) rfl rfl ?_)
  refine wp_of e186 c186_2 (rw_icmp_lt (p1 := 14) (p2 := 5) (by decide) rfl ⟨by omega, by omega⟩ ⟨by omega, by omega⟩ (fun c87893 => ?_) (fun c87893 => ?_))
  · refine wp_of e186 c186_14 (rw_iconst (pc' := 15) rfl ?_)
    exact wp_zreturn e186 c186_15 rfl (by omega) ⟨rfl, rfl, 0, rfl, ⟨by omega, by omega⟩, by omega⟩
  · refine wp_of e186 c186_5 (rw_iload_n (pc' := 6) (z := a0) rfl rfl ?_)
    refine wp_of e186 c186_6 (rw_iload_n (pc' := 7) (z := a2) rfl rfl ?_)
    refine wp_of e186 c186_7 (rw_icmp_gt (p1 := 14) (p2 := 10) (by decide) rfl ⟨by omega, by omega⟩ ⟨by omega, by omega⟩ (fun c87894 => ?_) (fun c87894 => ?_))
    · refine wp_of e186 c186_14 (rw_iconst (pc' := 15) rfl ?_)
      exact wp_zreturn e186 c186_15 rfl (by omega) ⟨rfl, rfl, 0, rfl, ⟨by omega, by omega⟩, by omega⟩
    · refine wp_of e186 c186_10 (rw_iconst (pc' := 11) rfl ?_)
      refine wp_of e186 c186_11 (rw_goto (p1 := 15) (by decide) ?_)
      exact wp_zreturn e186 c186_15 rfl (by omega) ⟨rfl, rfl, 1, rfl, ⟨by omega, by omega⟩, by omega⟩
/-! StrikeAwakeModel.whole(II)I -/
theorem e185 : wq_en 185 = some (9, 3, false, some FieldType.int) := rfl
theorem c185_0 : mc_cd 185 0 = some (.aload_n 0, 1) := by decide +kernel
theorem c185_1 : mc_cd 185 1 = some (.getfield 75, 3) := by decide +kernel
theorem c185_4 : mc_cd 185 4 = some (.iconst 3, 1) := by decide +kernel
theorem c185_5 : mc_cd 185 5 = some (.if_icmp .eq 11, 3) := by decide +kernel
theorem c185_8 : mc_cd 185 8 = some (.aload_n 0, 1) := by decide +kernel
theorem c185_9 : mc_cd 185 9 = some (.iconst 1, 1) := by decide +kernel
theorem c185_10 : mc_cd 185 10 = some (.invokevirtual 121, 3) := by decide +kernel
theorem c185_13 : mc_cd 185 13 = some (.goto 20, 3) := by decide +kernel
theorem c185_16 : mc_cd 185 16 = some (.aload_n 0, 1) := by decide +kernel
theorem c185_17 : mc_cd 185 17 = some (.getfield 101, 3) := by decide +kernel
theorem c185_20 : mc_cd 185 20 = some (.iload_n 1, 1) := by decide +kernel
theorem c185_21 : mc_cd 185 21 = some (.iload_n 2, 1) := by decide +kernel
theorem c185_22 : mc_cd 185 22 = some (.invokestatic 125, 3) := by decide +kernel
theorem c185_25 : mc_cd 185 25 = some (.ifCond .ne 8, 3) := by decide +kernel
theorem c185_28 : mc_cd 185 28 = some (.aload_n 0, 1) := by decide +kernel
theorem c185_29 : mc_cd 185 29 = some (.iconst 4, 1) := by decide +kernel
theorem c185_30 : mc_cd 185 30 = some (.invokevirtual 121, 3) := by decide +kernel
theorem c185_33 : mc_cd 185 33 = some (.aload_n 0, 1) := by decide +kernel
theorem c185_34 : mc_cd 185 34 = some (.getfield 75, 3) := by decide +kernel
theorem c185_37 : mc_cd 185 37 = some (.iconst 5, 1) := by decide +kernel
theorem c185_38 : mc_cd 185 38 = some (.if_icmp .ne 7, 3) := by decide +kernel
theorem c185_41 : mc_cd 185 41 = some (.iconst 0, 1) := by decide +kernel
theorem c185_42 : mc_cd 185 42 = some (.goto 7, 3) := by decide +kernel
theorem c185_45 : mc_cd 185 45 = some (.aload_n 0, 1) := by decide +kernel
theorem c185_46 : mc_cd 185 46 = some (.getfield 101, 3) := by decide +kernel
theorem c185_49 : mc_cd 185 49 = some (.ireturn, 1) := by decide +kernel
abbrev q_185 (r0 : Nat) (a1 : Int) (a2 : Int) (T : wq_T) (H : wq_H) : Option Value → wq_T → wq_H → Prop := fun r T' H' => T = T' ∧ WT T H' ∧ wfr [(42, 9), (42, 13), (42, 14)] T H H' ∧ ∃ z : Int, some (vI z) = r ∧ (0 ≤ z ∧ z ≤ 100) ∧ (wJ H' r0 = 1) ∧ (H r0 10 ≤ H' r0 10) ∧ (wOV H r0 ≤ wOV H' r0) ∧ (wOV H' r0 ≤ 1) ∧ (z = 0 ∨ (a1 ≤ z ∧ z ≤ a2))
set_option maxHeartbeats 4000000 in
theorem s_185 {kt : Nat → Option mc_E} {T : wq_T} {H : wq_H} {r0 : Nat} {a1 : Int} {a2 : Int} (hW : WT T H) (g0 : T.2.2.2 r0 = some 42) (i1 : 0 ≤ a1 ∧ a1 ≤ 100) (i2 : 0 ≤ a2 ∧ a2 ≤ 100) (p0 : wJ H r0 = 1) : wpc kt 2 185 [.ref r0, vI a1, vI a2] T H (q_185 r0 a1 a2 T H) := by
  refine wp_enter e185 (Nat.le_of_ble_eq_true rfl) rfl ?_
  have f0 : wfr [(42, 9), (42, 13), (42, 14)] T H H := wfr.rf
  show wp _ _ 185 0 [(0, .ref r0), (1, vI a1), (2, vI a2)] [] _ H _
  have b87965 : (-2147483648) ≤ H r0 10 ∧ H r0 10 ≤ 2147483647 := hW.box g0 (n := 33) rfl (by decide) rfl
  have b87966 : 0 ≤ H r0 9 ∧ H r0 9 ≤ 5 := hW.box g0 (n := 33) rfl (by decide) rfl
  have b87967 : 0 ≤ H r0 8 ∧ H r0 8 ≤ 900 := hW.box g0 (n := 33) rfl (by decide) rfl
  have hb0 := wOV_b (H := H) (m := r0)
  refine wp_of e185 c185_0 (rw_aload_n (pc' := 1) (v := .ref r0) rfl rfl rfl ?_)
  refine wp_of e185 c185_1 (xg_I (pc' := 4) lf_9_75 hW g0 sh_42 (by decide) (by decide) ty_42_9 rfl rfl (fun b87968 b87969 => ?_))
  have k87970 := wOV_e (H := H) (m := r0)
  refine wp_of e185 c185_4 (rw_iconst (pc' := 5) rfl ?_)
  refine wp_of e185 c185_5 (rw_icmp_eq (p1 := 16) (p2 := 8) (by decide) rfl ⟨by omega, by omega⟩ ⟨by omega, by omega⟩ (fun c87971 => ?_) (fun c87971 => ?_))
  · refine wp_of e185 c185_16 (rw_aload_n (pc' := 17) (v := .ref r0) rfl rfl rfl ?_)
    refine wp_of e185 c185_17 (xg_I (pc' := 20) lf_9_101 hW g0 sh_42 (by decide) (by decide) ty_42_12 rfl rfl (fun b87972 b87973 => ?_))
    refine wp_of e185 c185_20 (rw_iload_n (pc' := 21) (z := a1) rfl rfl ?_)
    refine wp_of e185 c185_21 (rw_iload_n (pc' := 22) (z := a2) rfl rfl ?_)
    refine wp_of e185 c185_22 (xc_S (pc' := 25) (as := [vI (H r0 12), vI a1, vI a2]) (st := []) (lm_9_125) rfl rfl (Nat.le_of_ble_eq_true rfl) rfl (by decide) (s_186 hW ⟨by omega, by omega⟩ ⟨by omega, by omega⟩ ⟨by omega, by omega⟩) (fun R87974 T87975 H87976 p87977 => ?_))
    obtain ⟨e87978, e87980, z87982, e87979, b87983, p87981⟩ := p87977
    subst e87978
    subst e87979
    subst e87980
    show wp _ _ 185 25 [(0, .ref r0), (1, vI a1), (2, vI a2)] [vI z87982] _ H _
    refine wp_of e185 c185_25 (rw_if_ne (p1 := 33) (p2 := 28) (by decide) rfl ⟨by omega, by omega⟩ (fun c87984 => ?_) (fun c87984 => ?_))
    · refine wp_of e185 c185_33 (rw_aload_n (pc' := 34) (v := .ref r0) rfl rfl rfl ?_)
      refine wp_of e185 c185_34 (xg_I (pc' := 37) lf_9_75 hW g0 sh_42 (by decide) (by decide) ty_42_9 rfl rfl (fun b87985 b87986 => ?_))
      have k87987 := wOV_e (H := H) (m := r0)
      refine wp_of e185 c185_37 (rw_iconst (pc' := 38) rfl ?_)
      refine wp_of e185 c185_38 (rw_icmp_ne (p1 := 45) (p2 := 41) (by decide) rfl ⟨by omega, by omega⟩ ⟨by omega, by omega⟩ (fun c87988 => ?_) (fun c87988 => ?_))
      · refine wp_of e185 c185_45 (rw_aload_n (pc' := 46) (v := .ref r0) rfl rfl rfl ?_)
        refine wp_of e185 c185_46 (xg_I (pc' := 49) lf_9_101 hW g0 sh_42 (by decide) (by decide) ty_42_12 rfl rfl (fun b87989 b87990 => ?_))
        exact wp_ireturn e185 c185_49 rfl ⟨rfl, hW, f0, H r0 12, rfl, ⟨by omega, by omega⟩, by omega, by omega, by omega, by omega, by omega⟩
      · exfalso
        omega
    · refine wp_of e185 c185_28 (rw_aload_n (pc' := 29) (v := .ref r0) rfl rfl rfl ?_)
      refine wp_of e185 c185_29 (rw_iconst (pc' := 30) rfl ?_)
      refine wp_of e185 c185_30 (xc_V (pc' := 33) (r := r0) (as := [vI 4]) (st := []) (lm_9_121) rfl rfl (Nat.le_of_ble_eq_true rfl) hW g0 sh_42 (by decide) rfl (by decide) (s_181 hW g0 ⟨by omega, by omega⟩ (by omega)) (fun R87991 T87992 H87993 p87994 => ?_))
      obtain ⟨e87995, w87997, f87998, e87996, p87999, p88000, p88001, p88002, p88003, p88004⟩ := p87994
      subst e87995
      subst e87996
      have f88005 := f0.tr f87998 rfl
      show wp _ _ 185 33 [(0, .ref r0), (1, vI a1), (2, vI a2)] [] _ H87993 _
      refine wp_of e185 c185_33 (rw_aload_n (pc' := 34) (v := .ref r0) rfl rfl rfl ?_)
      refine wp_of e185 c185_34 (xg_I (pc' := 37) lf_9_75 w87997 g0 sh_42 (by decide) (by decide) ty_42_9 rfl rfl (fun b88006 b88007 => ?_))
      have k88008 := wOV_e (H := H87993) (m := r0)
      refine wp_of e185 c185_37 (rw_iconst (pc' := 38) rfl ?_)
      refine wp_of e185 c185_38 (rw_icmp_ne (p1 := 45) (p2 := 41) (by decide) rfl ⟨by omega, by omega⟩ ⟨by omega, by omega⟩ (fun c88009 => ?_) (fun c88009 => ?_))
      · refine wp_of e185 c185_45 (rw_aload_n (pc' := 46) (v := .ref r0) rfl rfl rfl ?_)
        have k88010 : H87993 r0 12 = H r0 12 := (f87998 r0 12 _ g0 rfl)
        refine wp_of e185 c185_46 (xg_I (pc' := 49) lf_9_101 w87997 g0 sh_42 (by decide) (by decide) ty_42_12 rfl rfl (fun b88011 b88012 => ?_))
        have k88013 : H87993 r0 8 = H r0 8 := (f87998 r0 8 _ g0 rfl)
        exact wp_ireturn e185 c185_49 rfl ⟨rfl, w87997, f88005, H87993 r0 12, rfl, ⟨by omega, by omega⟩, by omega, by omega, by omega, by omega, by omega⟩
      · refine wp_of e185 c185_41 (rw_iconst (pc' := 42) rfl ?_)
        refine wp_of e185 c185_42 (rw_goto (p1 := 49) (by decide) ?_)
        have k88014 : H87993 r0 8 = H r0 8 := (f87998 r0 8 _ g0 rfl)
        exact wp_ireturn e185 c185_49 rfl ⟨rfl, w87997, f88005, 0, rfl, ⟨by omega, by omega⟩, by omega, by omega, by omega, by omega, by omega⟩
  · refine wp_of e185 c185_8 (rw_aload_n (pc' := 9) (v := .ref r0) rfl rfl rfl ?_)
    refine wp_of e185 c185_9 (rw_iconst (pc' := 10) rfl ?_)
    refine wp_of e185 c185_10 (xc_V (pc' := 13) (r := r0) (as := [vI 1]) (st := []) (lm_9_121) rfl rfl (Nat.le_of_ble_eq_true rfl) hW g0 sh_42 (by decide) rfl (by decide) (s_181 hW g0 ⟨by omega, by omega⟩ (by omega)) (fun R88015 T88016 H88017 p88018 => ?_))
    obtain ⟨e88019, w88021, f88022, e88020, p88023, p88024, p88025, p88026, p88027, p88028⟩ := p88018
    subst e88019
    subst e88020
    have f88029 := f0.tr f88022 rfl
    show wp _ _ 185 13 [(0, .ref r0), (1, vI a1), (2, vI a2)] [] _ H88017 _
    refine wp_of e185 c185_13 (rw_goto (p1 := 33) (by decide) ?_)
    refine wp_of e185 c185_33 (rw_aload_n (pc' := 34) (v := .ref r0) rfl rfl rfl ?_)
    refine wp_of e185 c185_34 (xg_I (pc' := 37) lf_9_75 w88021 g0 sh_42 (by decide) (by decide) ty_42_9 rfl rfl (fun b88030 b88031 => ?_))
    have k88032 := wOV_e (H := H88017) (m := r0)
    refine wp_of e185 c185_37 (rw_iconst (pc' := 38) rfl ?_)
    refine wp_of e185 c185_38 (rw_icmp_ne (p1 := 45) (p2 := 41) (by decide) rfl ⟨by omega, by omega⟩ ⟨by omega, by omega⟩ (fun c88033 => ?_) (fun c88033 => ?_))
    · refine wp_of e185 c185_45 (rw_aload_n (pc' := 46) (v := .ref r0) rfl rfl rfl ?_)
      refine wp_of e185 c185_46 (xg_I (pc' := 49) lf_9_101 w88021 g0 sh_42 (by decide) (by decide) ty_42_12 rfl rfl (fun b88034 b88035 => ?_))
      have k88036 : H88017 r0 8 = H r0 8 := (f88022 r0 8 _ g0 rfl)
      exact wp_ireturn e185 c185_49 rfl ⟨rfl, w88021, f88029, H88017 r0 12, rfl, ⟨by omega, by omega⟩, by omega, by omega, by omega, by omega, by omega⟩
    · refine wp_of e185 c185_41 (rw_iconst (pc' := 42) rfl ?_)
      refine wp_of e185 c185_42 (rw_goto (p1 := 49) (by decide) ?_)
      have k88037 : H88017 r0 8 = H r0 8 := (f88022 r0 8 _ g0 rfl)
      exact wp_ireturn e185 c185_49 rfl ⟨rfl, w88021, f88029, 0, rfl, ⟨by omega, by omega⟩, by omega, by omega, by omega, by omega, by omega⟩
/-! StrikeAwakeModel.readWhole(II)I -/
theorem e184 : wq_en 184 = some (9, 4, false, some FieldType.int) := rfl
theorem c184_0 : mc_cd 184 0 = some (.aload_n 0, 1) := by decide +kernel
theorem c184_1 : mc_cd 184 1 = some (.iload_n 1, 1) := by decide +kernel
theorem c184_2 : mc_cd 184 2 = some (.iload_n 2, 1) := by decide +kernel
theorem c184_3 : mc_cd 184 3 = some (.invokevirtual 129, 3) := by decide +kernel
theorem c184_6 : mc_cd 184 6 = some (.istore_n 3, 1) := by decide +kernel
theorem c184_7 : mc_cd 184 7 = some (.aload_n 0, 1) := by decide +kernel
theorem c184_8 : mc_cd 184 8 = some (.invokevirtual 118, 3) := by decide +kernel
theorem c184_11 : mc_cd 184 11 = some (.iload_n 3, 1) := by decide +kernel
theorem c184_12 : mc_cd 184 12 = some (.ireturn, 1) := by decide +kernel
abbrev q_184 (r0 : Nat) (a1 : Int) (a2 : Int) (T : wq_T) (H : wq_H) : Option Value → wq_T → wq_H → Prop := fun r T' H' => T = T' ∧ WT T H' ∧ wfr [(42, 8), (42, 9), (42, 10), (42, 11), (42, 12), (42, 13), (42, 14), (42, 15)] T H H' ∧ ∃ z : Int, some (vI z) = r ∧ (0 ≤ z ∧ z ≤ 100) ∧ (wJ H' r0 = 1) ∧ (H r0 10 ≤ H' r0 10) ∧ (wOV H r0 ≤ wOV H' r0) ∧ (wOV H' r0 ≤ 1) ∧ (z = 0 ∨ (a1 ≤ z ∧ z ≤ a2))
set_option maxHeartbeats 4000000 in
theorem s_184 {kt : Nat → Option mc_E} {T : wq_T} {H : wq_H} {r0 : Nat} {a1 : Int} {a2 : Int} (hW : WT T H) (g0 : T.2.2.2 r0 = some 42) (i1 : 0 ≤ a1 ∧ a1 ≤ 100) (i2 : 0 ≤ a2 ∧ a2 ≤ 100) (p0 : wJ H r0 = 1) : wpc kt 3 184 [.ref r0, vI a1, vI a2] T H (q_184 r0 a1 a2 T H) := by
  refine wp_enter e184 (Nat.le_of_ble_eq_true rfl) rfl ?_
  have f0 : wfr [(42, 8), (42, 9), (42, 10), (42, 11), (42, 12), (42, 13), (42, 14), (42, 15)] T H H := wfr.rf
  show wp _ _ 184 0 [(0, .ref r0), (1, vI a1), (2, vI a2)] [] _ H _
  have b88069 : (-2147483648) ≤ H r0 10 ∧ H r0 10 ≤ 2147483647 := hW.box g0 (n := 33) rfl (by decide) rfl
  have b88070 : 0 ≤ H r0 9 ∧ H r0 9 ≤ 5 := hW.box g0 (n := 33) rfl (by decide) rfl
  have b88071 : 0 ≤ H r0 8 ∧ H r0 8 ≤ 900 := hW.box g0 (n := 33) rfl (by decide) rfl
  have hb0 := wOV_b (H := H) (m := r0)
  refine wp_of e184 c184_0 (rw_aload_n (pc' := 1) (v := .ref r0) rfl rfl rfl ?_)
  refine wp_of e184 c184_1 (rw_iload_n (pc' := 2) (z := a1) rfl rfl ?_)
  refine wp_of e184 c184_2 (rw_iload_n (pc' := 3) (z := a2) rfl rfl ?_)
  refine wp_of e184 c184_3 (xc_V (pc' := 6) (r := r0) (as := [vI a1, vI a2]) (st := []) (lm_9_129) rfl rfl (Nat.le_of_ble_eq_true rfl) hW g0 sh_42 (by decide) rfl (by decide) (s_185 hW g0 ⟨by omega, by omega⟩ ⟨by omega, by omega⟩ (by omega)) (fun R88072 T88073 H88074 p88075 => ?_))
  obtain ⟨e88076, w88078, f88079, z88085, e88077, b88086, p88080, p88081, p88082, p88083, p88084⟩ := p88075
  subst e88076
  subst e88077
  have f88087 := f0.tr f88079 rfl
  show wp _ _ 184 6 [(0, .ref r0), (1, vI a1), (2, vI a2)] [vI z88085] _ H88074 _
  refine wp_of e184 c184_6 (rw_istore_n (pc' := 7) (z := z88085) (L' := [(3, vI z88085), (0, .ref r0), (1, vI a1), (2, vI a2)]) rfl rfl rfl ?_)
  refine wp_of e184 c184_7 (rw_aload_n (pc' := 8) (v := .ref r0) rfl rfl rfl ?_)
  refine wp_of e184 c184_8 (xc_V (pc' := 11) (r := r0) (as := []) (st := []) (lm_9_118) rfl rfl (Nat.le_of_ble_eq_true rfl) w88078 g0 sh_42 (by decide) rfl (by decide) (s_172 w88078 g0 (by omega)) (fun R88088 T88089 H88090 p88091 => ?_))
  obtain ⟨e88092, w88094, f88095, e88093, p88096, p88097, p88098, p88099, p88100, p88101⟩ := p88091
  subst e88092
  subst e88093
  have f88102 := f88087.tr f88095 rfl
  show wp _ _ 184 11 [(3, vI z88085), (0, .ref r0), (1, vI a1), (2, vI a2)] [] _ H88090 _
  refine wp_of e184 c184_11 (rw_iload_n (pc' := 12) (z := z88085) rfl rfl ?_)
  exact wp_ireturn e184 c184_12 rfl ⟨rfl, w88094, f88102, z88085, rfl, ⟨by omega, by omega⟩, by omega, by omega, by omega, by omega, by omega⟩
/-! StrikeAwakeModel.readPart(Ljava/lang/String;II)I -/
theorem e182 : wq_en 182 = some (9, 4, false, some FieldType.int) := rfl
theorem c182_0 : mc_cd 182 0 = some (.aload_n 0, 1) := by decide +kernel
theorem c182_1 : mc_cd 182 1 = some (.aload_n 1, 1) := by decide +kernel
theorem c182_2 : mc_cd 182 2 = some (.invokevirtual 133, 3) := by decide +kernel
theorem c182_5 : mc_cd 182 5 = some (.aload_n 0, 1) := by decide +kernel
theorem c182_6 : mc_cd 182 6 = some (.iload_n 2, 1) := by decide +kernel
theorem c182_7 : mc_cd 182 7 = some (.iload_n 3, 1) := by decide +kernel
theorem c182_8 : mc_cd 182 8 = some (.invokevirtual 137, 3) := by decide +kernel
theorem c182_11 : mc_cd 182 11 = some (.ireturn, 1) := by decide +kernel
abbrev q_182 (r0 : Nat) (s1 : Nat) (a2 : Int) (a3 : Int) (T : wq_T) (H : wq_H) : Option Value → wq_T → wq_H → Prop := fun r T' H' => T = T' ∧ WT T H' ∧ wfr [(42, 8), (42, 9), (42, 10), (42, 11), (42, 12), (42, 13), (42, 14), (42, 15)] T H H' ∧ ∃ z : Int, some (vI z) = r ∧ (0 ≤ z ∧ z ≤ 100) ∧ (wJ H' r0 = 1) ∧ (H r0 10 ≤ H' r0 10) ∧ (wOV H r0 ≤ wOV H' r0) ∧ (wOV H' r0 ≤ 1) ∧ (z = 0 ∨ (a2 ≤ z ∧ z ≤ a3))
set_option maxHeartbeats 4000000 in
theorem s_182 {kt : Nat → Option mc_E} {T : wq_T} {H : wq_H} {r0 : Nat} {s1 : Nat} {t1 : List Int32} {a2 : Int} {a3 : Int} (hW : WT T H) (g0 : T.2.2.2 r0 = some 42) (h1 : mc_find mc_sb s1 = some t1) (i2 : 0 ≤ a2 ∧ a2 ≤ 100) (i3 : 0 ≤ a3 ∧ a3 ≤ 100) (p0 : wJ H r0 = 1) : wpc kt 4 182 [.ref r0, .ref s1, vI a2, vI a3] T H (q_182 r0 s1 a2 a3 T H) := by
  refine wp_enter e182 (Nat.le_of_ble_eq_true rfl) rfl ?_
  have f0 : wfr [(42, 8), (42, 9), (42, 10), (42, 11), (42, 12), (42, 13), (42, 14), (42, 15)] T H H := wfr.rf
  show wp _ _ 182 0 [(0, .ref r0), (1, .ref s1), (2, vI a2), (3, vI a3)] [] _ H _
  have b88132 : (-2147483648) ≤ H r0 10 ∧ H r0 10 ≤ 2147483647 := hW.box g0 (n := 33) rfl (by decide) rfl
  have b88133 : 0 ≤ H r0 9 ∧ H r0 9 ≤ 5 := hW.box g0 (n := 33) rfl (by decide) rfl
  have b88134 : 0 ≤ H r0 8 ∧ H r0 8 ≤ 900 := hW.box g0 (n := 33) rfl (by decide) rfl
  have hb0 := wOV_b (H := H) (m := r0)
  refine wp_of e182 c182_0 (rw_aload_n (pc' := 1) (v := .ref r0) rfl rfl rfl ?_)
  refine wp_of e182 c182_1 (rw_aload_n (pc' := 2) (v := .ref s1) rfl rfl rfl ?_)
  refine wp_of e182 c182_2 (xc_V (pc' := 5) (r := r0) (as := [.ref s1]) (st := []) (lm_9_133) rfl rfl (Nat.le_of_ble_eq_true rfl) hW g0 sh_42 (by decide) rfl (by decide) (s_183 hW g0 h1 (by omega)) (fun R88135 T88136 H88137 p88138 => ?_))
  obtain ⟨e88139, w88141, f88142, e88140, p88143, p88144, p88145, p88146⟩ := p88138
  subst e88139
  subst e88140
  have f88147 := f0.tr f88142 rfl
  show wp _ _ 182 5 [(0, .ref r0), (1, .ref s1), (2, vI a2), (3, vI a3)] [] _ H88137 _
  refine wp_of e182 c182_5 (rw_aload_n (pc' := 6) (v := .ref r0) rfl rfl rfl ?_)
  refine wp_of e182 c182_6 (rw_iload_n (pc' := 7) (z := a2) rfl rfl ?_)
  refine wp_of e182 c182_7 (rw_iload_n (pc' := 8) (z := a3) rfl rfl ?_)
  refine wp_of e182 c182_8 (xc_V (pc' := 11) (r := r0) (as := [vI a2, vI a3]) (st := []) (lm_9_137) rfl rfl (Nat.le_of_ble_eq_true rfl) w88141 g0 sh_42 (by decide) rfl (by decide) (s_184 w88141 g0 ⟨by omega, by omega⟩ ⟨by omega, by omega⟩ (by omega)) (fun R88148 T88149 H88150 p88151 => ?_))
  obtain ⟨e88152, w88154, f88155, z88161, e88153, b88162, p88156, p88157, p88158, p88159, p88160⟩ := p88151
  subst e88152
  subst e88153
  have f88163 := f88147.tr f88155 rfl
  show wp _ _ 182 11 [(0, .ref r0), (1, .ref s1), (2, vI a2), (3, vI a3)] [vI z88161] _ H88150 _
  exact wp_ireturn e182 c182_11 rfl ⟨rfl, w88154, f88163, z88161, rfl, ⟨by omega, by omega⟩, by omega, by omega, by omega, by omega, by omega⟩
/-! StrikeAwakeModel.readLaw()V -/
theorem e180 : wq_en 180 = some (9, 2, false, none) := rfl
theorem c180_0 : mc_cd 180 0 = some (.aload_n 0, 1) := by decide +kernel
theorem c180_1 : mc_cd 180 1 = some (.getfield 166, 3) := by decide +kernel
theorem c180_4 : mc_cd 180 4 = some (.getfield 185, 3) := by decide +kernel
theorem c180_7 : mc_cd 180 7 = some (.ifCond .le 8, 3) := by decide +kernel
theorem c180_10 : mc_cd 180 10 = some (.aload_n 0, 1) := by decide +kernel
theorem c180_11 : mc_cd 180 11 = some (.iconst 3, 1) := by decide +kernel
theorem c180_12 : mc_cd 180 12 = some (.invokevirtual 121, 3) := by decide +kernel
theorem c180_15 : mc_cd 180 15 = some (.aload_n 0, 1) := by decide +kernel
theorem c180_16 : mc_cd 180 16 = some (.invokevirtual 118, 3) := by decide +kernel
theorem c180_19 : mc_cd 180 19 = some (.aload_n 0, 1) := by decide +kernel
theorem c180_20 : mc_cd 180 20 = some (.ldc 215, 2) := by decide +kernel
theorem c180_22 : mc_cd 180 22 = some (.iconst 1, 1) := by decide +kernel
theorem c180_23 : mc_cd 180 23 = some (.bipush 24, 2) := by decide +kernel
theorem c180_25 : mc_cd 180 25 = some (.invokevirtual 216, 3) := by decide +kernel
theorem c180_28 : mc_cd 180 28 = some (.istore_n 1, 1) := by decide +kernel
theorem c180_29 : mc_cd 180 29 = some (.aload_n 0, 1) := by decide +kernel
theorem c180_30 : mc_cd 180 30 = some (.getfield 166, 3) := by decide +kernel
theorem c180_33 : mc_cd 180 33 = some (.aload_n 0, 1) := by decide +kernel
theorem c180_34 : mc_cd 180 34 = some (.ldc 220, 2) := by decide +kernel
theorem c180_36 : mc_cd 180 36 = some (.iconst 0, 1) := by decide +kernel
theorem c180_37 : mc_cd 180 37 = some (.bipush 9, 2) := by decide +kernel
theorem c180_39 : mc_cd 180 39 = some (.invokevirtual 216, 3) := by decide +kernel
theorem c180_42 : mc_cd 180 42 = some (.putfield 222, 3) := by decide +kernel
theorem c180_45 : mc_cd 180 45 = some (.aload_n 0, 1) := by decide +kernel
theorem c180_46 : mc_cd 180 46 = some (.getfield 166, 3) := by decide +kernel
theorem c180_49 : mc_cd 180 49 = some (.aload_n 0, 1) := by decide +kernel
theorem c180_50 : mc_cd 180 50 = some (.ldc 224, 2) := by decide +kernel
theorem c180_52 : mc_cd 180 52 = some (.iconst 0, 1) := by decide +kernel
theorem c180_53 : mc_cd 180 53 = some (.iconst 3, 1) := by decide +kernel
theorem c180_54 : mc_cd 180 54 = some (.invokevirtual 216, 3) := by decide +kernel
theorem c180_57 : mc_cd 180 57 = some (.putfield 226, 3) := by decide +kernel
theorem c180_60 : mc_cd 180 60 = some (.aload_n 0, 1) := by decide +kernel
theorem c180_61 : mc_cd 180 61 = some (.getfield 75, 3) := by decide +kernel
theorem c180_64 : mc_cd 180 64 = some (.iconst 5, 1) := by decide +kernel
theorem c180_65 : mc_cd 180 65 = some (.if_icmp .eq 11, 3) := by decide +kernel
theorem c180_68 : mc_cd 180 68 = some (.aload_n 0, 1) := by decide +kernel
theorem c180_69 : mc_cd 180 69 = some (.getfield 166, 3) := by decide +kernel
theorem c180_72 : mc_cd 180 72 = some (.iload_n 1, 1) := by decide +kernel
theorem c180_73 : mc_cd 180 73 = some (.putfield 185, 3) := by decide +kernel
theorem c180_76 : mc_cd 180 76 = some (.return_, 1) := by decide +kernel
abbrev q_180 (r0 : Nat) (rp : Nat) (T : wq_T) (H : wq_H) : Option Value → wq_T → wq_H → Prop := fun r T' H' => T = T' ∧ WT T H' ∧ wfr [(54, 0), (54, 1), (54, 2), (42, 8), (42, 9), (42, 10), (42, 11), (42, 12), (42, 13), (42, 14), (42, 15)] T H H' ∧ none = r ∧ (wJ H' r0 = 1) ∧ (H r0 10 ≤ H' r0 10) ∧ (wOV H r0 ≤ wOV H' r0) ∧ (wOV H' r0 ≤ 1)
set_option maxHeartbeats 4000000 in
theorem s_180 {kt : Nat → Option mc_E} {T : wq_T} {H : wq_H} {r0 : Nat} {rp : Nat} (hW : WT T H) (g0 : T.2.2.2 r0 = some 42) (qrp : H r0 4 = (rp : Int)) (grp : T.2.2.2 rp = some 54) (p0 : wJ H r0 = 1) : wpc kt 5 180 [.ref r0] T H (q_180 r0 rp T H) := by
  refine wp_enter e180 (Nat.le_of_ble_eq_true rfl) rfl ?_
  have f0 : wfr [(54, 0), (54, 1), (54, 2), (42, 8), (42, 9), (42, 10), (42, 11), (42, 12), (42, 13), (42, 14), (42, 15)] T H H := wfr.rf
  show wp _ _ 180 0 [(0, .ref r0)] [] _ H _
  have b88378 : (-2147483648) ≤ H r0 10 ∧ H r0 10 ≤ 2147483647 := hW.box g0 (n := 33) rfl (by decide) rfl
  have b88379 : 0 ≤ H r0 9 ∧ H r0 9 ≤ 5 := hW.box g0 (n := 33) rfl (by decide) rfl
  have b88380 : 0 ≤ H r0 8 ∧ H r0 8 ≤ 900 := hW.box g0 (n := 33) rfl (by decide) rfl
  have hb0 := wOV_b (H := H) (m := r0)
  refine wp_of e180 c180_0 (rw_aload_n (pc' := 1) (v := .ref r0) rfl rfl rfl ?_)
  refine wp_of e180 c180_1 (xg_K (pc' := 4) lf_9_166 hW g0 sh_42 (by decide) (by decide) rfl qrp rfl ?_)
  refine wp_of e180 c180_4 (xg_I (pc' := 7) lf_9_185 hW grp sh_54 (by decide) (by decide) ty_54_0 rfl rfl (fun b88381 b88382 => ?_))
  refine wp_of e180 c180_7 (rw_if_le (p1 := 15) (p2 := 10) (by decide) rfl ⟨by omega, by omega⟩ (fun c88383 => ?_) (fun c88383 => ?_))
  · refine wp_of e180 c180_15 (rw_aload_n (pc' := 16) (v := .ref r0) rfl rfl rfl ?_)
    refine wp_of e180 c180_16 (xc_V (pc' := 19) (r := r0) (as := []) (st := []) (lm_9_118) rfl rfl (Nat.le_of_ble_eq_true rfl) hW g0 sh_42 (by decide) rfl (by decide) (s_172 hW g0 (by omega)) (fun R88384 T88385 H88386 p88387 => ?_))
    obtain ⟨e88388, w88390, f88391, e88389, p88392, p88393, p88394, p88395, p88396, p88397⟩ := p88387
    subst e88388
    subst e88389
    have f88398 := f0.tr f88391 rfl
    show wp _ _ 180 19 [(0, .ref r0)] [] _ H88386 _
    refine wp_of e180 c180_19 (rw_aload_n (pc' := 20) (v := .ref r0) rfl rfl rfl ?_)
    refine wp_of e180 c180_20 (rw_ldcS (pc' := 22) (k := 73) rfl rfl rfl rfl ?_)
    refine wp_of e180 c180_22 (rw_iconst (pc' := 23) rfl ?_)
    refine wp_of e180 c180_23 (rw_bipush (pc' := 25) (z := 24) rfl (by decide) ?_)
    refine wp_of e180 c180_25 (xc_V (pc' := 28) (r := r0) (as := [.ref 73, vI 1, vI 24]) (st := []) (lm_9_216) rfl rfl (Nat.le_of_ble_eq_true rfl) w88390 g0 sh_42 (by decide) rfl (by decide) (s_182 w88390 g0 rfl ⟨by omega, by omega⟩ ⟨by omega, by omega⟩ (by omega)) (fun R88399 T88400 H88401 p88402 => ?_))
    obtain ⟨e88403, w88405, f88406, z88412, e88404, b88413, p88407, p88408, p88409, p88410, p88411⟩ := p88402
    subst e88403
    subst e88404
    have f88414 := f88398.tr f88406 rfl
    show wp _ _ 180 28 [(0, .ref r0)] [vI z88412] _ H88401 _
    refine wp_of e180 c180_28 (rw_istore_n (pc' := 29) (z := z88412) (L' := [(1, vI z88412), (0, .ref r0)]) rfl rfl rfl ?_)
    refine wp_of e180 c180_29 (rw_aload_n (pc' := 30) (v := .ref r0) rfl rfl rfl ?_)
    have k88415 : H88401 r0 4 = H r0 4 := ((f88406 r0 4 _ g0 rfl).trans (f88391 r0 4 _ g0 rfl))
    have q88416 : H88401 r0 4 = (rp : Int) := k88415.trans qrp
    refine wp_of e180 c180_30 (xg_K (pc' := 33) lf_9_166 w88405 g0 sh_42 (by decide) (by decide) rfl q88416 rfl ?_)
    refine wp_of e180 c180_33 (rw_aload_n (pc' := 34) (v := .ref r0) rfl rfl rfl ?_)
    refine wp_of e180 c180_34 (rw_ldcS (pc' := 36) (k := 74) rfl rfl rfl rfl ?_)
    refine wp_of e180 c180_36 (rw_iconst (pc' := 37) rfl ?_)
    refine wp_of e180 c180_37 (rw_bipush (pc' := 39) (z := 9) rfl (by decide) ?_)
    refine wp_of e180 c180_39 (xc_V (pc' := 42) (r := r0) (as := [.ref 74, vI 0, vI 9]) (st := [.ref rp]) (lm_9_216) rfl rfl (Nat.le_of_ble_eq_true rfl) w88405 g0 sh_42 (by decide) rfl (by decide) (s_182 w88405 g0 rfl ⟨by omega, by omega⟩ ⟨by omega, by omega⟩ (by omega)) (fun R88417 T88418 H88419 p88420 => ?_))
    obtain ⟨e88421, w88423, f88424, z88430, e88422, b88431, p88425, p88426, p88427, p88428, p88429⟩ := p88420
    subst e88421
    subst e88422
    have f88432 := f88414.tr f88424 rfl
    show wp _ _ 180 42 [(1, vI z88412), (0, .ref r0)] [vI z88430, .ref rp] _ H88419 _
    refine wp_of e180 c180_42 (xp_I (pc' := 45) lf_9_222 w88423 grp sh_54 (by decide) (by decide) ty_54_1 rfl rfl (by omega) (by omega) ⟨by omega, by omega⟩ rfl (fun H88433 e88434 w88435 => ?_))
    have f88436 := f88432.put' e88434 grp rfl
    have k88437 : H88433 rp 1 = z88430 := wq_u_s e88434
    refine wp_of e180 c180_45 (rw_aload_n (pc' := 46) (v := .ref r0) rfl rfl rfl ?_)
    have k88438 : H88433 r0 4 = H88401 r0 4 := ((wq_u_t e88434 grp g0 rfl 4).trans (f88424 r0 4 _ g0 rfl))
    have q88439 : H88433 r0 4 = (rp : Int) := k88438.trans q88416
    refine wp_of e180 c180_46 (xg_K (pc' := 49) lf_9_166 w88435 g0 sh_42 (by decide) (by decide) rfl q88439 rfl ?_)
    refine wp_of e180 c180_49 (rw_aload_n (pc' := 50) (v := .ref r0) rfl rfl rfl ?_)
    refine wp_of e180 c180_50 (rw_ldcS (pc' := 52) (k := 75) rfl rfl rfl rfl ?_)
    refine wp_of e180 c180_52 (rw_iconst (pc' := 53) rfl ?_)
    refine wp_of e180 c180_53 (rw_iconst (pc' := 54) rfl ?_)
    have k88440 : wJ H88433 r0 = wJ H88419 r0 := (wJ_fr w88423 g0 ((wfr.rf (l := [(54, 1)])).put' e88434 grp rfl) rfl)
    have k88441 : wOV H88433 r0 = wOV H88419 r0 := (wOV_fr w88423 g0 ((wfr.rf (l := [(54, 1)])).put' e88434 grp rfl) rfl)
    have k88442 : H88433 r0 10 = H88419 r0 10 := (wq_u_t e88434 grp g0 rfl 10)
    refine wp_of e180 c180_54 (xc_V (pc' := 57) (r := r0) (as := [.ref 75, vI 0, vI 3]) (st := [.ref rp]) (lm_9_216) rfl rfl (Nat.le_of_ble_eq_true rfl) w88435 g0 sh_42 (by decide) rfl (by decide) (s_182 w88435 g0 rfl ⟨by omega, by omega⟩ ⟨by omega, by omega⟩ (by omega)) (fun R88443 T88444 H88445 p88446 => ?_))
    obtain ⟨e88447, w88449, f88450, z88456, e88448, b88457, p88451, p88452, p88453, p88454, p88455⟩ := p88446
    subst e88447
    subst e88448
    have f88458 := f88436.tr f88450 rfl
    show wp _ _ 180 57 [(1, vI z88412), (0, .ref r0)] [vI z88456, .ref rp] _ H88445 _
    refine wp_of e180 c180_57 (xp_I (pc' := 60) lf_9_226 w88449 grp sh_54 (by decide) (by decide) ty_54_2 rfl rfl (by omega) (by omega) ⟨by omega, by omega⟩ rfl (fun H88459 e88460 w88461 => ?_))
    have f88462 := f88458.put' e88460 grp rfl
    have k88463 : H88459 rp 2 = z88456 := wq_u_s e88460
    refine wp_of e180 c180_60 (rw_aload_n (pc' := 61) (v := .ref r0) rfl rfl rfl ?_)
    refine wp_of e180 c180_61 (xg_I (pc' := 64) lf_9_75 w88461 g0 sh_42 (by decide) (by decide) ty_42_9 rfl rfl (fun b88464 b88465 => ?_))
    have k88466 := wOV_e (H := H88459) (m := r0)
    refine wp_of e180 c180_64 (rw_iconst (pc' := 65) rfl ?_)
    refine wp_of e180 c180_65 (rw_icmp_eq (p1 := 76) (p2 := 68) (by decide) rfl ⟨by omega, by omega⟩ ⟨by omega, by omega⟩ (fun c88467 => ?_) (fun c88467 => ?_))
    · have k88468 : H88459 r0 10 = H88445 r0 10 := (wq_u_t e88460 grp g0 rfl 10)
      have k88469 : wOV H88459 r0 = wOV H88445 r0 := (wOV_fr w88449 g0 ((wfr.rf (l := [(54, 2)])).put' e88460 grp rfl) rfl)
      have k88470 : wJ H88459 r0 = wJ H88445 r0 := (wJ_fr w88449 g0 ((wfr.rf (l := [(54, 2)])).put' e88460 grp rfl) rfl)
      exact wp_return e180 c180_76 rfl ⟨rfl, w88461, f88462, rfl, by omega, by omega, by omega, by omega⟩
    · refine wp_of e180 c180_68 (rw_aload_n (pc' := 69) (v := .ref r0) rfl rfl rfl ?_)
      have k88471 : H88459 r0 4 = H88433 r0 4 := ((wq_u_t e88460 grp g0 rfl 4).trans (f88450 r0 4 _ g0 rfl))
      have q88472 : H88459 r0 4 = (rp : Int) := k88471.trans q88439
      refine wp_of e180 c180_69 (xg_K (pc' := 72) lf_9_166 w88461 g0 sh_42 (by decide) (by decide) rfl q88472 rfl ?_)
      refine wp_of e180 c180_72 (rw_iload_n (pc' := 73) (z := z88412) rfl rfl ?_)
      refine wp_of e180 c180_73 (xp_I (pc' := 76) lf_9_185 w88461 grp sh_54 (by decide) (by decide) ty_54_0 rfl rfl (by omega) (by omega) ⟨by omega, by omega⟩ rfl (fun H88473 e88474 w88475 => ?_))
      have f88476 := f88462.put' e88474 grp rfl
      have k88477 : H88473 rp 0 = z88412 := wq_u_s e88474
      have k88478 : H88473 r0 9 = H88459 r0 9 := (wq_u_t e88474 grp g0 rfl 9)
      have k88479 : H88473 r0 10 = H88445 r0 10 := ((wq_u_t e88474 grp g0 rfl 10).trans (wq_u_t e88460 grp g0 rfl 10))
      have k88480 : wOV H88473 r0 = wOV H88445 r0 := ((wOV_fr w88461 g0 ((wfr.rf (l := [(54, 0)])).put' e88474 grp rfl) rfl).trans (wOV_fr w88449 g0 ((wfr.rf (l := [(54, 2)])).put' e88460 grp rfl) rfl))
      have k88481 : wJ H88473 r0 = wJ H88445 r0 := ((wJ_fr w88461 g0 ((wfr.rf (l := [(54, 0)])).put' e88474 grp rfl) rfl).trans (wJ_fr w88449 g0 ((wfr.rf (l := [(54, 2)])).put' e88460 grp rfl) rfl))
      exact wp_return e180 c180_76 rfl ⟨rfl, w88475, f88476, rfl, by omega, by omega, by omega, by omega⟩
  · refine wp_of e180 c180_10 (rw_aload_n (pc' := 11) (v := .ref r0) rfl rfl rfl ?_)
    refine wp_of e180 c180_11 (rw_iconst (pc' := 12) rfl ?_)
    refine wp_of e180 c180_12 (xc_V (pc' := 15) (r := r0) (as := [vI 3]) (st := []) (lm_9_121) rfl rfl (Nat.le_of_ble_eq_true rfl) hW g0 sh_42 (by decide) rfl (by decide) (s_181 hW g0 ⟨by omega, by omega⟩ (by omega)) (fun R88482 T88483 H88484 p88485 => ?_))
    obtain ⟨e88486, w88488, f88489, e88487, p88490, p88491, p88492, p88493, p88494, p88495⟩ := p88485
    subst e88486
    subst e88487
    have f88496 := f0.tr f88489 rfl
    show wp _ _ 180 15 [(0, .ref r0)] [] _ H88484 _
    refine wp_of e180 c180_15 (rw_aload_n (pc' := 16) (v := .ref r0) rfl rfl rfl ?_)
    refine wp_of e180 c180_16 (xc_V (pc' := 19) (r := r0) (as := []) (st := []) (lm_9_118) rfl rfl (Nat.le_of_ble_eq_true rfl) w88488 g0 sh_42 (by decide) rfl (by decide) (s_172 w88488 g0 (by omega)) (fun R88497 T88498 H88499 p88500 => ?_))
    obtain ⟨e88501, w88503, f88504, e88502, p88505, p88506, p88507, p88508, p88509, p88510⟩ := p88500
    subst e88501
    subst e88502
    have f88511 := f88496.tr f88504 rfl
    show wp _ _ 180 19 [(0, .ref r0)] [] _ H88499 _
    refine wp_of e180 c180_19 (rw_aload_n (pc' := 20) (v := .ref r0) rfl rfl rfl ?_)
    refine wp_of e180 c180_20 (rw_ldcS (pc' := 22) (k := 73) rfl rfl rfl rfl ?_)
    refine wp_of e180 c180_22 (rw_iconst (pc' := 23) rfl ?_)
    refine wp_of e180 c180_23 (rw_bipush (pc' := 25) (z := 24) rfl (by decide) ?_)
    refine wp_of e180 c180_25 (xc_V (pc' := 28) (r := r0) (as := [.ref 73, vI 1, vI 24]) (st := []) (lm_9_216) rfl rfl (Nat.le_of_ble_eq_true rfl) w88503 g0 sh_42 (by decide) rfl (by decide) (s_182 w88503 g0 rfl ⟨by omega, by omega⟩ ⟨by omega, by omega⟩ (by omega)) (fun R88512 T88513 H88514 p88515 => ?_))
    obtain ⟨e88516, w88518, f88519, z88525, e88517, b88526, p88520, p88521, p88522, p88523, p88524⟩ := p88515
    subst e88516
    subst e88517
    have f88527 := f88511.tr f88519 rfl
    show wp _ _ 180 28 [(0, .ref r0)] [vI z88525] _ H88514 _
    refine wp_of e180 c180_28 (rw_istore_n (pc' := 29) (z := z88525) (L' := [(1, vI z88525), (0, .ref r0)]) rfl rfl rfl ?_)
    refine wp_of e180 c180_29 (rw_aload_n (pc' := 30) (v := .ref r0) rfl rfl rfl ?_)
    have k88528 : H88514 r0 4 = H r0 4 := ((f88519 r0 4 _ g0 rfl).trans ((f88504 r0 4 _ g0 rfl).trans (f88489 r0 4 _ g0 rfl)))
    have q88529 : H88514 r0 4 = (rp : Int) := k88528.trans qrp
    refine wp_of e180 c180_30 (xg_K (pc' := 33) lf_9_166 w88518 g0 sh_42 (by decide) (by decide) rfl q88529 rfl ?_)
    refine wp_of e180 c180_33 (rw_aload_n (pc' := 34) (v := .ref r0) rfl rfl rfl ?_)
    refine wp_of e180 c180_34 (rw_ldcS (pc' := 36) (k := 74) rfl rfl rfl rfl ?_)
    refine wp_of e180 c180_36 (rw_iconst (pc' := 37) rfl ?_)
    refine wp_of e180 c180_37 (rw_bipush (pc' := 39) (z := 9) rfl (by decide) ?_)
    refine wp_of e180 c180_39 (xc_V (pc' := 42) (r := r0) (as := [.ref 74, vI 0, vI 9]) (st := [.ref rp]) (lm_9_216) rfl rfl (Nat.le_of_ble_eq_true rfl) w88518 g0 sh_42 (by decide) rfl (by decide) (s_182 w88518 g0 rfl ⟨by omega, by omega⟩ ⟨by omega, by omega⟩ (by omega)) (fun R88530 T88531 H88532 p88533 => ?_))
    obtain ⟨e88534, w88536, f88537, z88543, e88535, b88544, p88538, p88539, p88540, p88541, p88542⟩ := p88533
    subst e88534
    subst e88535
    have f88545 := f88527.tr f88537 rfl
    show wp _ _ 180 42 [(1, vI z88525), (0, .ref r0)] [vI z88543, .ref rp] _ H88532 _
    refine wp_of e180 c180_42 (xp_I (pc' := 45) lf_9_222 w88536 grp sh_54 (by decide) (by decide) ty_54_1 rfl rfl (by omega) (by omega) ⟨by omega, by omega⟩ rfl (fun H88546 e88547 w88548 => ?_))
    have f88549 := f88545.put' e88547 grp rfl
    have k88550 : H88546 rp 1 = z88543 := wq_u_s e88547
    refine wp_of e180 c180_45 (rw_aload_n (pc' := 46) (v := .ref r0) rfl rfl rfl ?_)
    have k88551 : H88546 r0 4 = H88514 r0 4 := ((wq_u_t e88547 grp g0 rfl 4).trans (f88537 r0 4 _ g0 rfl))
    have q88552 : H88546 r0 4 = (rp : Int) := k88551.trans q88529
    refine wp_of e180 c180_46 (xg_K (pc' := 49) lf_9_166 w88548 g0 sh_42 (by decide) (by decide) rfl q88552 rfl ?_)
    refine wp_of e180 c180_49 (rw_aload_n (pc' := 50) (v := .ref r0) rfl rfl rfl ?_)
    refine wp_of e180 c180_50 (rw_ldcS (pc' := 52) (k := 75) rfl rfl rfl rfl ?_)
    refine wp_of e180 c180_52 (rw_iconst (pc' := 53) rfl ?_)
    refine wp_of e180 c180_53 (rw_iconst (pc' := 54) rfl ?_)
    have k88553 : wJ H88546 r0 = wJ H88532 r0 := (wJ_fr w88536 g0 ((wfr.rf (l := [(54, 1)])).put' e88547 grp rfl) rfl)
    have k88554 : wOV H88546 r0 = wOV H88532 r0 := (wOV_fr w88536 g0 ((wfr.rf (l := [(54, 1)])).put' e88547 grp rfl) rfl)
    have k88555 : H88546 r0 10 = H88532 r0 10 := (wq_u_t e88547 grp g0 rfl 10)
    refine wp_of e180 c180_54 (xc_V (pc' := 57) (r := r0) (as := [.ref 75, vI 0, vI 3]) (st := [.ref rp]) (lm_9_216) rfl rfl (Nat.le_of_ble_eq_true rfl) w88548 g0 sh_42 (by decide) rfl (by decide) (s_182 w88548 g0 rfl ⟨by omega, by omega⟩ ⟨by omega, by omega⟩ (by omega)) (fun R88556 T88557 H88558 p88559 => ?_))
    obtain ⟨e88560, w88562, f88563, z88569, e88561, b88570, p88564, p88565, p88566, p88567, p88568⟩ := p88559
    subst e88560
    subst e88561
    have f88571 := f88549.tr f88563 rfl
    show wp _ _ 180 57 [(1, vI z88525), (0, .ref r0)] [vI z88569, .ref rp] _ H88558 _
    refine wp_of e180 c180_57 (xp_I (pc' := 60) lf_9_226 w88562 grp sh_54 (by decide) (by decide) ty_54_2 rfl rfl (by omega) (by omega) ⟨by omega, by omega⟩ rfl (fun H88572 e88573 w88574 => ?_))
    have f88575 := f88571.put' e88573 grp rfl
    have k88576 : H88572 rp 2 = z88569 := wq_u_s e88573
    refine wp_of e180 c180_60 (rw_aload_n (pc' := 61) (v := .ref r0) rfl rfl rfl ?_)
    refine wp_of e180 c180_61 (xg_I (pc' := 64) lf_9_75 w88574 g0 sh_42 (by decide) (by decide) ty_42_9 rfl rfl (fun b88577 b88578 => ?_))
    have k88579 := wOV_e (H := H88572) (m := r0)
    refine wp_of e180 c180_64 (rw_iconst (pc' := 65) rfl ?_)
    refine wp_of e180 c180_65 (rw_icmp_eq (p1 := 76) (p2 := 68) (by decide) rfl ⟨by omega, by omega⟩ ⟨by omega, by omega⟩ (fun c88580 => ?_) (fun c88580 => ?_))
    · have k88581 : H88572 r0 10 = H88558 r0 10 := (wq_u_t e88573 grp g0 rfl 10)
      have k88582 : wOV H88572 r0 = wOV H88558 r0 := (wOV_fr w88562 g0 ((wfr.rf (l := [(54, 2)])).put' e88573 grp rfl) rfl)
      have k88583 : wJ H88572 r0 = wJ H88558 r0 := (wJ_fr w88562 g0 ((wfr.rf (l := [(54, 2)])).put' e88573 grp rfl) rfl)
      exact wp_return e180 c180_76 rfl ⟨rfl, w88574, f88575, rfl, by omega, by omega, by omega, by omega⟩
    · refine wp_of e180 c180_68 (rw_aload_n (pc' := 69) (v := .ref r0) rfl rfl rfl ?_)
      have k88584 : H88572 r0 4 = H88546 r0 4 := ((wq_u_t e88573 grp g0 rfl 4).trans (f88563 r0 4 _ g0 rfl))
      have q88585 : H88572 r0 4 = (rp : Int) := k88584.trans q88552
      refine wp_of e180 c180_69 (xg_K (pc' := 72) lf_9_166 w88574 g0 sh_42 (by decide) (by decide) rfl q88585 rfl ?_)
      refine wp_of e180 c180_72 (rw_iload_n (pc' := 73) (z := z88525) rfl rfl ?_)
      refine wp_of e180 c180_73 (xp_I (pc' := 76) lf_9_185 w88574 grp sh_54 (by decide) (by decide) ty_54_0 rfl rfl (by omega) (by omega) ⟨by omega, by omega⟩ rfl (fun H88586 e88587 w88588 => ?_))
      have f88589 := f88575.put' e88587 grp rfl
      have k88590 : H88586 rp 0 = z88525 := wq_u_s e88587
      have k88591 : H88586 r0 9 = H88572 r0 9 := (wq_u_t e88587 grp g0 rfl 9)
      have k88592 : H88586 r0 10 = H88558 r0 10 := ((wq_u_t e88587 grp g0 rfl 10).trans (wq_u_t e88573 grp g0 rfl 10))
      have k88593 : wOV H88586 r0 = wOV H88558 r0 := ((wOV_fr w88574 g0 ((wfr.rf (l := [(54, 0)])).put' e88587 grp rfl) rfl).trans (wOV_fr w88562 g0 ((wfr.rf (l := [(54, 2)])).put' e88573 grp rfl) rfl))
      have k88594 : wJ H88586 r0 = wJ H88558 r0 := ((wJ_fr w88574 g0 ((wfr.rf (l := [(54, 0)])).put' e88587 grp rfl) rfl).trans (wJ_fr w88562 g0 ((wfr.rf (l := [(54, 2)])).put' e88573 grp rfl) rfl))
      exact wp_return e180 c180_76 rfl ⟨rfl, w88588, f88589, rfl, by omega, by omega, by omega, by omega⟩
/-! StrikeAwakeModel.begins(II)V -/
theorem e188 : wq_en 188 = some (9, 3, false, none) := rfl
theorem c188_0 : mc_cd 188 0 = some (.iload_n 1, 1) := by decide +kernel
theorem c188_1 : mc_cd 188 1 = some (.iload_n 2, 1) := by decide +kernel
theorem c188_2 : mc_cd 188 2 = some (.if_icmp .ne 8, 3) := by decide +kernel
theorem c188_5 : mc_cd 188 5 = some (.aload_n 0, 1) := by decide +kernel
theorem c188_6 : mc_cd 188 6 = some (.iconst 5, 1) := by decide +kernel
theorem c188_7 : mc_cd 188 7 = some (.invokevirtual 121, 3) := by decide +kernel
theorem c188_10 : mc_cd 188 10 = some (.aload_n 0, 1) := by decide +kernel
theorem c188_11 : mc_cd 188 11 = some (.invokevirtual 118, 3) := by decide +kernel
theorem c188_14 : mc_cd 188 14 = some (.return_, 1) := by decide +kernel
abbrev q_188 (r0 : Nat) (a1 : Int) (a2 : Int) (T : wq_T) (H : wq_H) : Option Value → wq_T → wq_H → Prop := fun r T' H' => T = T' ∧ WT T H' ∧ wfr [(42, 8), (42, 9), (42, 10), (42, 11), (42, 12), (42, 13), (42, 14), (42, 15)] T H H' ∧ none = r ∧ (wJ H' r0 = 1) ∧ (H r0 10 ≤ H' r0 10) ∧ (wOV H r0 ≤ wOV H' r0) ∧ (wOV H' r0 ≤ 1) ∧ (wOV H' r0 = 1 ∨ a1 ≠ a2)
set_option maxHeartbeats 4000000 in
theorem s_188 {kt : Nat → Option mc_E} {T : wq_T} {H : wq_H} {r0 : Nat} {a1 : Int} {a2 : Int} (hW : WT T H) (g0 : T.2.2.2 r0 = some 42) (i1 : (-2147483648) ≤ a1 ∧ a1 ≤ 2147483647) (i2 : (-2147483648) ≤ a2 ∧ a2 ≤ 2147483647) (p0 : wJ H r0 = 1) : wpc kt 3 188 [.ref r0, vI a1, vI a2] T H (q_188 r0 a1 a2 T H) := by
  refine wp_enter e188 (Nat.le_of_ble_eq_true rfl) rfl ?_
  have f0 : wfr [(42, 8), (42, 9), (42, 10), (42, 11), (42, 12), (42, 13), (42, 14), (42, 15)] T H H := wfr.rf
  show wp _ _ 188 0 [(0, .ref r0), (1, vI a1), (2, vI a2)] [] _ H _
  have b88641 : (-2147483648) ≤ H r0 10 ∧ H r0 10 ≤ 2147483647 := hW.box g0 (n := 33) rfl (by decide) rfl
  have b88642 : 0 ≤ H r0 9 ∧ H r0 9 ≤ 5 := hW.box g0 (n := 33) rfl (by decide) rfl
  have b88643 : 0 ≤ H r0 8 ∧ H r0 8 ≤ 900 := hW.box g0 (n := 33) rfl (by decide) rfl
  have hb0 := wOV_b (H := H) (m := r0)
  refine wp_of e188 c188_0 (rw_iload_n (pc' := 1) (z := a1) rfl rfl ?_)
  refine wp_of e188 c188_1 (rw_iload_n (pc' := 2) (z := a2) rfl rfl ?_)
  refine wp_of e188 c188_2 (rw_icmp_ne (p1 := 10) (p2 := 5) (by decide) rfl ⟨by omega, by omega⟩ ⟨by omega, by omega⟩ (fun c88644 => ?_) (fun c88644 => ?_))
  · refine wp_of e188 c188_10 (rw_aload_n (pc' := 11) (v := .ref r0) rfl rfl rfl ?_)
    refine wp_of e188 c188_11 (xc_V (pc' := 14) (r := r0) (as := []) (st := []) (lm_9_118) rfl rfl (Nat.le_of_ble_eq_true rfl) hW g0 sh_42 (by decide) rfl (by decide) (s_172 hW g0 (by omega)) (fun R88645 T88646 H88647 p88648 => ?_))
    obtain ⟨e88649, w88651, f88652, e88650, p88653, p88654, p88655, p88656, p88657, p88658⟩ := p88648
    subst e88649
    subst e88650
    have f88659 := f0.tr f88652 rfl
    show wp _ _ 188 14 [(0, .ref r0), (1, vI a1), (2, vI a2)] [] _ H88647 _
    exact wp_return e188 c188_14 rfl ⟨rfl, w88651, f88659, rfl, by omega, by omega, by omega, by omega, by omega⟩
  · refine wp_of e188 c188_5 (rw_aload_n (pc' := 6) (v := .ref r0) rfl rfl rfl ?_)
    refine wp_of e188 c188_6 (rw_iconst (pc' := 7) rfl ?_)
    refine wp_of e188 c188_7 (xc_V (pc' := 10) (r := r0) (as := [vI 5]) (st := []) (lm_9_121) rfl rfl (Nat.le_of_ble_eq_true rfl) hW g0 sh_42 (by decide) rfl (by decide) (s_181 hW g0 ⟨by omega, by omega⟩ (by omega)) (fun R88660 T88661 H88662 p88663 => ?_))
    obtain ⟨e88664, w88666, f88667, e88665, p88668, p88669, p88670, p88671, p88672, p88673⟩ := p88663
    subst e88664
    subst e88665
    have f88674 := f0.tr f88667 rfl
    show wp _ _ 188 10 [(0, .ref r0), (1, vI a1), (2, vI a2)] [] _ H88662 _
    refine wp_of e188 c188_10 (rw_aload_n (pc' := 11) (v := .ref r0) rfl rfl rfl ?_)
    refine wp_of e188 c188_11 (xc_V (pc' := 14) (r := r0) (as := []) (st := []) (lm_9_118) rfl rfl (Nat.le_of_ble_eq_true rfl) w88666 g0 sh_42 (by decide) rfl (by decide) (s_172 w88666 g0 (by omega)) (fun R88675 T88676 H88677 p88678 => ?_))
    obtain ⟨e88679, w88681, f88682, e88680, p88683, p88684, p88685, p88686, p88687, p88688⟩ := p88678
    subst e88679
    subst e88680
    have f88689 := f88674.tr f88682 rfl
    show wp _ _ 188 14 [(0, .ref r0), (1, vI a1), (2, vI a2)] [] _ H88677 _
    exact wp_return e188 c188_14 rfl ⟨rfl, w88681, f88689, rfl, by omega, by omega, by omega, by omega, by omega⟩
/-! StrikeAwakeModel.isName()Z -/
theorem e189 : wq_en 189 = some (9, 1, false, some FieldType.boolean) := rfl
theorem c189_0 : mc_cd 189 0 = some (.aload_n 0, 1) := by decide +kernel
theorem c189_1 : mc_cd 189 1 = some (.getfield 75, 3) := by decide +kernel
theorem c189_4 : mc_cd 189 4 = some (.iconst 2, 1) := by decide +kernel
theorem c189_5 : mc_cd 189 5 = some (.if_icmp .ne 57, 3) := by decide +kernel
theorem c189_8 : mc_cd 189 8 = some (.aload_n 0, 1) := by decide +kernel
theorem c189_9 : mc_cd 189 9 = some (.ldc 140, 2) := by decide +kernel
theorem c189_11 : mc_cd 189 11 = some (.invokevirtual 114, 3) := by decide +kernel
theorem c189_14 : mc_cd 189 14 = some (.ifCond .ne 48, 3) := by decide +kernel
theorem c189_17 : mc_cd 189 17 = some (.aload_n 0, 1) := by decide +kernel
theorem c189_18 : mc_cd 189 18 = some (.ldc 142, 2) := by decide +kernel
theorem c189_20 : mc_cd 189 20 = some (.invokevirtual 114, 3) := by decide +kernel
theorem c189_23 : mc_cd 189 23 = some (.ifCond .ne 39, 3) := by decide +kernel
theorem c189_26 : mc_cd 189 26 = some (.aload_n 0, 1) := by decide +kernel
theorem c189_27 : mc_cd 189 27 = some (.ldc 144, 2) := by decide +kernel
theorem c189_29 : mc_cd 189 29 = some (.invokevirtual 114, 3) := by decide +kernel
theorem c189_32 : mc_cd 189 32 = some (.ifCond .ne 30, 3) := by decide +kernel
theorem c189_35 : mc_cd 189 35 = some (.aload_n 0, 1) := by decide +kernel
theorem c189_36 : mc_cd 189 36 = some (.ldc 146, 2) := by decide +kernel
theorem c189_38 : mc_cd 189 38 = some (.invokevirtual 114, 3) := by decide +kernel
theorem c189_41 : mc_cd 189 41 = some (.ifCond .ne 21, 3) := by decide +kernel
theorem c189_44 : mc_cd 189 44 = some (.aload_n 0, 1) := by decide +kernel
theorem c189_45 : mc_cd 189 45 = some (.ldc 148, 2) := by decide +kernel
theorem c189_47 : mc_cd 189 47 = some (.invokevirtual 114, 3) := by decide +kernel
theorem c189_50 : mc_cd 189 50 = some (.ifCond .ne 12, 3) := by decide +kernel
theorem c189_53 : mc_cd 189 53 = some (.aload_n 0, 1) := by decide +kernel
theorem c189_54 : mc_cd 189 54 = some (.ldc 150, 2) := by decide +kernel
theorem c189_56 : mc_cd 189 56 = some (.invokevirtual 114, 3) := by decide +kernel
theorem c189_59 : mc_cd 189 59 = some (.ifCond .eq 5, 3) := by decide +kernel
theorem c189_62 : mc_cd 189 62 = some (.iconst 0, 1) := by decide +kernel
theorem c189_63 : mc_cd 189 63 = some (.ireturn, 1) := by decide +kernel
theorem c189_64 : mc_cd 189 64 = some (.aload_n 0, 1) := by decide +kernel
theorem c189_65 : mc_cd 189 65 = some (.ldc 152, 2) := by decide +kernel
theorem c189_67 : mc_cd 189 67 = some (.invokevirtual 114, 3) := by decide +kernel
theorem c189_70 : mc_cd 189 70 = some (.ifCond .ne 43, 3) := by decide +kernel
theorem c189_73 : mc_cd 189 73 = some (.aload_n 0, 1) := by decide +kernel
theorem c189_74 : mc_cd 189 74 = some (.ldc 154, 2) := by decide +kernel
theorem c189_76 : mc_cd 189 76 = some (.invokevirtual 114, 3) := by decide +kernel
theorem c189_79 : mc_cd 189 79 = some (.ifCond .ne 34, 3) := by decide +kernel
theorem c189_82 : mc_cd 189 82 = some (.aload_n 0, 1) := by decide +kernel
theorem c189_83 : mc_cd 189 83 = some (.ldc 156, 2) := by decide +kernel
theorem c189_85 : mc_cd 189 85 = some (.invokevirtual 114, 3) := by decide +kernel
theorem c189_88 : mc_cd 189 88 = some (.ifCond .ne 25, 3) := by decide +kernel
theorem c189_91 : mc_cd 189 91 = some (.aload_n 0, 1) := by decide +kernel
theorem c189_92 : mc_cd 189 92 = some (.ldc 158, 2) := by decide +kernel
theorem c189_94 : mc_cd 189 94 = some (.invokevirtual 114, 3) := by decide +kernel
theorem c189_97 : mc_cd 189 97 = some (.ifCond .ne 16, 3) := by decide +kernel
theorem c189_100 : mc_cd 189 100 = some (.aload_n 0, 1) := by decide +kernel
theorem c189_101 : mc_cd 189 101 = some (.ldc 160, 2) := by decide +kernel
theorem c189_103 : mc_cd 189 103 = some (.invokevirtual 114, 3) := by decide +kernel
theorem c189_106 : mc_cd 189 106 = some (.ifCond .ne 7, 3) := by decide +kernel
theorem c189_109 : mc_cd 189 109 = some (.iconst 1, 1) := by decide +kernel
theorem c189_110 : mc_cd 189 110 = some (.goto 4, 3) := by decide +kernel
theorem c189_113 : mc_cd 189 113 = some (.iconst 0, 1) := by decide +kernel
theorem c189_114 : mc_cd 189 114 = some (.ireturn, 1) := by decide +kernel
abbrev q_189 (r0 : Nat) (T : wq_T) (H : wq_H) : Option Value → wq_T → wq_H → Prop := fun r T' H' => T = T' ∧ H = H' ∧ ∃ z : Int, some (vI z) = r ∧ (0 ≤ z ∧ z ≤ 1)
set_option maxHeartbeats 4000000 in
theorem s_189 {kt : Nat → Option mc_E} {T : wq_T} {H : wq_H} {r0 : Nat} (hW : WT T H) (g0 : T.2.2.2 r0 = some 42) : wpc kt 3 189 [.ref r0] T H (q_189 r0 T H) := by
  refine wp_enter e189 (Nat.le_of_ble_eq_true rfl) rfl ?_
  show wp _ _ 189 0 [(0, .ref r0)] [] _ H _
  refine wp_of e189 c189_0 (rw_aload_n (pc' := 1) (v := .ref r0) rfl rfl rfl ?_)
  refine wp_of e189 c189_1 (xg_I (pc' := 4) lf_9_75 hW g0 sh_42 (by decide) (by decide) ty_42_9 rfl rfl (fun b88803 b88804 => ?_))
  refine wp_of e189 c189_4 (rw_iconst (pc' := 5) rfl ?_)
  refine wp_of e189 c189_5 (rw_icmp_ne (p1 := 62) (p2 := 8) (by decide) rfl ⟨by omega, by omega⟩ ⟨by omega, by omega⟩ (fun c88805 => ?_) (fun c88805 => ?_))
  · refine wp_of e189 c189_62 (rw_iconst (pc' := 63) rfl ?_)
    exact wp_zreturn e189 c189_63 rfl (by omega) ⟨rfl, rfl, 0, rfl, ⟨by omega, by omega⟩⟩
  · refine wp_of e189 c189_8 (rw_aload_n (pc' := 9) (v := .ref r0) rfl rfl rfl ?_)
    refine wp_of e189 c189_9 (rw_ldcS (pc' := 11) (k := 72) rfl rfl rfl rfl ?_)
    refine wp_of e189 c189_11 (xc_V (pc' := 14) (r := r0) (as := [.ref 72]) (st := []) (lm_9_114) rfl rfl (Nat.le_of_ble_eq_true rfl) hW g0 sh_42 (by decide) rfl (by decide) (s_178 hW g0 rfl) (fun R88806 T88807 H88808 p88809 => ?_))
    obtain ⟨e88810, e88812, z88813, e88811, b88814⟩ := p88809
    subst e88810
    subst e88811
    subst e88812
    show wp _ _ 189 14 [(0, .ref r0)] [vI z88813] _ H _
    refine wp_of e189 c189_14 (rw_if_ne (p1 := 62) (p2 := 17) (by decide) rfl ⟨by omega, by omega⟩ (fun c88815 => ?_) (fun c88815 => ?_))
    · refine wp_of e189 c189_62 (rw_iconst (pc' := 63) rfl ?_)
      exact wp_zreturn e189 c189_63 rfl (by omega) ⟨rfl, rfl, 0, rfl, ⟨by omega, by omega⟩⟩
    · refine wp_of e189 c189_17 (rw_aload_n (pc' := 18) (v := .ref r0) rfl rfl rfl ?_)
      refine wp_of e189 c189_18 (rw_ldcS (pc' := 20) (k := 76) rfl rfl rfl rfl ?_)
      refine wp_of e189 c189_20 (xc_V (pc' := 23) (r := r0) (as := [.ref 76]) (st := []) (lm_9_114) rfl rfl (Nat.le_of_ble_eq_true rfl) hW g0 sh_42 (by decide) rfl (by decide) (s_178 hW g0 rfl) (fun R88816 T88817 H88818 p88819 => ?_))
      obtain ⟨e88820, e88822, z88823, e88821, b88824⟩ := p88819
      subst e88820
      subst e88821
      subst e88822
      show wp _ _ 189 23 [(0, .ref r0)] [vI z88823] _ H _
      refine wp_of e189 c189_23 (rw_if_ne (p1 := 62) (p2 := 26) (by decide) rfl ⟨by omega, by omega⟩ (fun c88825 => ?_) (fun c88825 => ?_))
      · refine wp_of e189 c189_62 (rw_iconst (pc' := 63) rfl ?_)
        exact wp_zreturn e189 c189_63 rfl (by omega) ⟨rfl, rfl, 0, rfl, ⟨by omega, by omega⟩⟩
      · refine wp_of e189 c189_26 (rw_aload_n (pc' := 27) (v := .ref r0) rfl rfl rfl ?_)
        refine wp_of e189 c189_27 (rw_ldcS (pc' := 29) (k := 77) rfl rfl rfl rfl ?_)
        refine wp_of e189 c189_29 (xc_V (pc' := 32) (r := r0) (as := [.ref 77]) (st := []) (lm_9_114) rfl rfl (Nat.le_of_ble_eq_true rfl) hW g0 sh_42 (by decide) rfl (by decide) (s_178 hW g0 rfl) (fun R88826 T88827 H88828 p88829 => ?_))
        obtain ⟨e88830, e88832, z88833, e88831, b88834⟩ := p88829
        subst e88830
        subst e88831
        subst e88832
        show wp _ _ 189 32 [(0, .ref r0)] [vI z88833] _ H _
        refine wp_of e189 c189_32 (rw_if_ne (p1 := 62) (p2 := 35) (by decide) rfl ⟨by omega, by omega⟩ (fun c88835 => ?_) (fun c88835 => ?_))
        · refine wp_of e189 c189_62 (rw_iconst (pc' := 63) rfl ?_)
          exact wp_zreturn e189 c189_63 rfl (by omega) ⟨rfl, rfl, 0, rfl, ⟨by omega, by omega⟩⟩
        · refine wp_of e189 c189_35 (rw_aload_n (pc' := 36) (v := .ref r0) rfl rfl rfl ?_)
          refine wp_of e189 c189_36 (rw_ldcS (pc' := 38) (k := 78) rfl rfl rfl rfl ?_)
          refine wp_of e189 c189_38 (xc_V (pc' := 41) (r := r0) (as := [.ref 78]) (st := []) (lm_9_114) rfl rfl (Nat.le_of_ble_eq_true rfl) hW g0 sh_42 (by decide) rfl (by decide) (s_178 hW g0 rfl) (fun R88836 T88837 H88838 p88839 => ?_))
          obtain ⟨e88840, e88842, z88843, e88841, b88844⟩ := p88839
          subst e88840
          subst e88841
          subst e88842
          show wp _ _ 189 41 [(0, .ref r0)] [vI z88843] _ H _
          refine wp_of e189 c189_41 (rw_if_ne (p1 := 62) (p2 := 44) (by decide) rfl ⟨by omega, by omega⟩ (fun c88845 => ?_) (fun c88845 => ?_))
          · refine wp_of e189 c189_62 (rw_iconst (pc' := 63) rfl ?_)
            exact wp_zreturn e189 c189_63 rfl (by omega) ⟨rfl, rfl, 0, rfl, ⟨by omega, by omega⟩⟩
          · refine wp_of e189 c189_44 (rw_aload_n (pc' := 45) (v := .ref r0) rfl rfl rfl ?_)
            refine wp_of e189 c189_45 (rw_ldcS (pc' := 47) (k := 79) rfl rfl rfl rfl ?_)
            refine wp_of e189 c189_47 (xc_V (pc' := 50) (r := r0) (as := [.ref 79]) (st := []) (lm_9_114) rfl rfl (Nat.le_of_ble_eq_true rfl) hW g0 sh_42 (by decide) rfl (by decide) (s_178 hW g0 rfl) (fun R88846 T88847 H88848 p88849 => ?_))
            obtain ⟨e88850, e88852, z88853, e88851, b88854⟩ := p88849
            subst e88850
            subst e88851
            subst e88852
            show wp _ _ 189 50 [(0, .ref r0)] [vI z88853] _ H _
            refine wp_of e189 c189_50 (rw_if_ne (p1 := 62) (p2 := 53) (by decide) rfl ⟨by omega, by omega⟩ (fun c88855 => ?_) (fun c88855 => ?_))
            · refine wp_of e189 c189_62 (rw_iconst (pc' := 63) rfl ?_)
              exact wp_zreturn e189 c189_63 rfl (by omega) ⟨rfl, rfl, 0, rfl, ⟨by omega, by omega⟩⟩
            · refine wp_of e189 c189_53 (rw_aload_n (pc' := 54) (v := .ref r0) rfl rfl rfl ?_)
              refine wp_of e189 c189_54 (rw_ldcS (pc' := 56) (k := 80) rfl rfl rfl rfl ?_)
              refine wp_of e189 c189_56 (xc_V (pc' := 59) (r := r0) (as := [.ref 80]) (st := []) (lm_9_114) rfl rfl (Nat.le_of_ble_eq_true rfl) hW g0 sh_42 (by decide) rfl (by decide) (s_178 hW g0 rfl) (fun R88856 T88857 H88858 p88859 => ?_))
              obtain ⟨e88860, e88862, z88863, e88861, b88864⟩ := p88859
              subst e88860
              subst e88861
              subst e88862
              show wp _ _ 189 59 [(0, .ref r0)] [vI z88863] _ H _
              refine wp_of e189 c189_59 (rw_if_eq (p1 := 64) (p2 := 62) (by decide) rfl ⟨by omega, by omega⟩ (fun c88865 => ?_) (fun c88865 => ?_))
              · refine wp_of e189 c189_64 (rw_aload_n (pc' := 65) (v := .ref r0) rfl rfl rfl ?_)
                refine wp_of e189 c189_65 (rw_ldcS (pc' := 67) (k := 81) rfl rfl rfl rfl ?_)
                refine wp_of e189 c189_67 (xc_V (pc' := 70) (r := r0) (as := [.ref 81]) (st := []) (lm_9_114) rfl rfl (Nat.le_of_ble_eq_true rfl) hW g0 sh_42 (by decide) rfl (by decide) (s_178 hW g0 rfl) (fun R88866 T88867 H88868 p88869 => ?_))
                obtain ⟨e88870, e88872, z88873, e88871, b88874⟩ := p88869
                subst e88870
                subst e88871
                subst e88872
                show wp _ _ 189 70 [(0, .ref r0)] [vI z88873] _ H _
                refine wp_of e189 c189_70 (rw_if_ne (p1 := 113) (p2 := 73) (by decide) rfl ⟨by omega, by omega⟩ (fun c88875 => ?_) (fun c88875 => ?_))
                · refine wp_of e189 c189_113 (rw_iconst (pc' := 114) rfl ?_)
                  exact wp_zreturn e189 c189_114 rfl (by omega) ⟨rfl, rfl, 0, rfl, ⟨by omega, by omega⟩⟩
                · refine wp_of e189 c189_73 (rw_aload_n (pc' := 74) (v := .ref r0) rfl rfl rfl ?_)
                  refine wp_of e189 c189_74 (rw_ldcS (pc' := 76) (k := 82) rfl rfl rfl rfl ?_)
                  refine wp_of e189 c189_76 (xc_V (pc' := 79) (r := r0) (as := [.ref 82]) (st := []) (lm_9_114) rfl rfl (Nat.le_of_ble_eq_true rfl) hW g0 sh_42 (by decide) rfl (by decide) (s_178 hW g0 rfl) (fun R88876 T88877 H88878 p88879 => ?_))
                  obtain ⟨e88880, e88882, z88883, e88881, b88884⟩ := p88879
                  subst e88880
                  subst e88881
                  subst e88882
                  show wp _ _ 189 79 [(0, .ref r0)] [vI z88883] _ H _
                  refine wp_of e189 c189_79 (rw_if_ne (p1 := 113) (p2 := 82) (by decide) rfl ⟨by omega, by omega⟩ (fun c88885 => ?_) (fun c88885 => ?_))
                  · refine wp_of e189 c189_113 (rw_iconst (pc' := 114) rfl ?_)
                    exact wp_zreturn e189 c189_114 rfl (by omega) ⟨rfl, rfl, 0, rfl, ⟨by omega, by omega⟩⟩
                  · refine wp_of e189 c189_82 (rw_aload_n (pc' := 83) (v := .ref r0) rfl rfl rfl ?_)
                    refine wp_of e189 c189_83 (rw_ldcS (pc' := 85) (k := 83) rfl rfl rfl rfl ?_)
                    refine wp_of e189 c189_85 (xc_V (pc' := 88) (r := r0) (as := [.ref 83]) (st := []) (lm_9_114) rfl rfl (Nat.le_of_ble_eq_true rfl) hW g0 sh_42 (by decide) rfl (by decide) (s_178 hW g0 rfl) (fun R88886 T88887 H88888 p88889 => ?_))
                    obtain ⟨e88890, e88892, z88893, e88891, b88894⟩ := p88889
                    subst e88890
                    subst e88891
                    subst e88892
                    show wp _ _ 189 88 [(0, .ref r0)] [vI z88893] _ H _
                    refine wp_of e189 c189_88 (rw_if_ne (p1 := 113) (p2 := 91) (by decide) rfl ⟨by omega, by omega⟩ (fun c88895 => ?_) (fun c88895 => ?_))
                    · refine wp_of e189 c189_113 (rw_iconst (pc' := 114) rfl ?_)
                      exact wp_zreturn e189 c189_114 rfl (by omega) ⟨rfl, rfl, 0, rfl, ⟨by omega, by omega⟩⟩
                    · refine wp_of e189 c189_91 (rw_aload_n (pc' := 92) (v := .ref r0) rfl rfl rfl ?_)
                      refine wp_of e189 c189_92 (rw_ldcS (pc' := 94) (k := 84) rfl rfl rfl rfl ?_)
                      refine wp_of e189 c189_94 (xc_V (pc' := 97) (r := r0) (as := [.ref 84]) (st := []) (lm_9_114) rfl rfl (Nat.le_of_ble_eq_true rfl) hW g0 sh_42 (by decide) rfl (by decide) (s_178 hW g0 rfl) (fun R88896 T88897 H88898 p88899 => ?_))
                      obtain ⟨e88900, e88902, z88903, e88901, b88904⟩ := p88899
                      subst e88900
                      subst e88901
                      subst e88902
                      show wp _ _ 189 97 [(0, .ref r0)] [vI z88903] _ H _
                      refine wp_of e189 c189_97 (rw_if_ne (p1 := 113) (p2 := 100) (by decide) rfl ⟨by omega, by omega⟩ (fun c88905 => ?_) (fun c88905 => ?_))
                      · refine wp_of e189 c189_113 (rw_iconst (pc' := 114) rfl ?_)
                        exact wp_zreturn e189 c189_114 rfl (by omega) ⟨rfl, rfl, 0, rfl, ⟨by omega, by omega⟩⟩
                      · refine wp_of e189 c189_100 (rw_aload_n (pc' := 101) (v := .ref r0) rfl rfl rfl ?_)
                        refine wp_of e189 c189_101 (rw_ldcS (pc' := 103) (k := 85) rfl rfl rfl rfl ?_)
                        refine wp_of e189 c189_103 (xc_V (pc' := 106) (r := r0) (as := [.ref 85]) (st := []) (lm_9_114) rfl rfl (Nat.le_of_ble_eq_true rfl) hW g0 sh_42 (by decide) rfl (by decide) (s_178 hW g0 rfl) (fun R88906 T88907 H88908 p88909 => ?_))
                        obtain ⟨e88910, e88912, z88913, e88911, b88914⟩ := p88909
                        subst e88910
                        subst e88911
                        subst e88912
                        show wp _ _ 189 106 [(0, .ref r0)] [vI z88913] _ H _
                        refine wp_of e189 c189_106 (rw_if_ne (p1 := 113) (p2 := 109) (by decide) rfl ⟨by omega, by omega⟩ (fun c88915 => ?_) (fun c88915 => ?_))
                        · refine wp_of e189 c189_113 (rw_iconst (pc' := 114) rfl ?_)
                          exact wp_zreturn e189 c189_114 rfl (by omega) ⟨rfl, rfl, 0, rfl, ⟨by omega, by omega⟩⟩
                        · refine wp_of e189 c189_109 (rw_iconst (pc' := 110) rfl ?_)
                          refine wp_of e189 c189_110 (rw_goto (p1 := 114) (by decide) ?_)
                          exact wp_zreturn e189 c189_114 rfl (by omega) ⟨rfl, rfl, 1, rfl, ⟨by omega, by omega⟩⟩
              · refine wp_of e189 c189_62 (rw_iconst (pc' := 63) rfl ?_)
                exact wp_zreturn e189 c189_63 rfl (by omega) ⟨rfl, rfl, 0, rfl, ⟨by omega, by omega⟩⟩
/-! StrikeAwakeModel$Parish.find(J)I -/
theorem e190 : wq_en 190 = some (10, 4, false, some FieldType.int) := rfl
theorem c190_0 : mc_cd 190 0 = some (.iconst 0, 1) := by decide +kernel
theorem c190_1 : mc_cd 190 1 = some (.istore_n 3, 1) := by decide +kernel
theorem c190_2 : mc_cd 190 2 = some (.iload_n 3, 1) := by decide +kernel
theorem c190_3 : mc_cd 190 3 = some (.aload_n 0, 1) := by decide +kernel
theorem c190_4 : mc_cd 190 4 = some (.getfield 72, 3) := by decide +kernel
theorem c190_7 : mc_cd 190 7 = some (.if_icmp .ge 22, 3) := by decide +kernel
theorem c190_10 : mc_cd 190 10 = some (.aload_n 0, 1) := by decide +kernel
theorem c190_11 : mc_cd 190 11 = some (.getfield 15, 3) := by decide +kernel
theorem c190_14 : mc_cd 190 14 = some (.iload_n 3, 1) := by decide +kernel
theorem c190_15 : mc_cd 190 15 = some (.laload, 1) := by decide +kernel
theorem c190_16 : mc_cd 190 16 = some (.lload_n 1, 1) := by decide +kernel
theorem c190_17 : mc_cd 190 17 = some (.lcmp, 1) := by decide +kernel
theorem c190_18 : mc_cd 190 18 = some (.ifCond .ne 5, 3) := by decide +kernel
theorem c190_21 : mc_cd 190 21 = some (.iload_n 3, 1) := by decide +kernel
theorem c190_22 : mc_cd 190 22 = some (.ireturn, 1) := by decide +kernel
theorem c190_23 : mc_cd 190 23 = some (.iinc 3 1, 3) := by decide +kernel
theorem c190_26 : mc_cd 190 26 = some (.goto (-24), 3) := by decide +kernel
theorem c190_29 : mc_cd 190 29 = some (.iconst (-1), 1) := by decide +kernel
theorem c190_30 : mc_cd 190 30 = some (.ireturn, 1) := by decide +kernel
abbrev q_190 (r0 : Nat) (a1 : Int) (T : wq_T) (H : wq_H) : Option Value → wq_T → wq_H → Prop := fun r T' H' => T = T' ∧ H = H' ∧ ∃ z : Int, some (vI z) = r ∧ ((-1) ≤ z ∧ z ≤ 5)
set_option maxHeartbeats 4000000 in
theorem s_190 {kt : Nat → Option mc_E} {T : wq_T} {H : wq_H} {r0 : Nat} {a1 : Int} (hW : WT T H) (g0 : T.2.2.2 r0 = some 54) (i1 : (-9223372036854775808) ≤ a1 ∧ a1 ≤ 9223372036854775807) : wpc kt 1 190 [.ref r0, vL a1] T H (q_190 r0 a1 T H) := by
  refine wp_enter e190 (Nat.le_of_ble_eq_true rfl) rfl ?_
  show wp _ _ 190 0 [(0, .ref r0), (1, vL a1)] [] _ H _
  refine wp_of e190 c190_0 (rw_iconst (pc' := 1) rfl ?_)
  refine wp_of e190 c190_1 (rw_istore_n (pc' := 2) (z := 0) (L' := [(3, vI 0), (0, .ref r0), (1, vL a1)]) rfl rfl rfl ?_)
  have lp89067 : ∀ (n89068 : Nat) (v89070 : Int), (0 ≤ v89070 ∧ v89070 ≤ 6) → (6 - v89070).toNat = n89068 → wp kt 0 190 2 [(3, vI v89070), (0, .ref r0), (1, vL a1)] [] T H (q_190 r0 a1 T H) := by
    intro n89068
    induction n89068 using Nat.strongRecOn with
    | _ n89068 ih89069 =>
      intro v89070 b89073 m89074
      refine wp_of e190 c190_2 (rw_iload_n (pc' := 3) (z := v89070) rfl rfl ?_)
      refine wp_of e190 c190_3 (rw_aload_n (pc' := 4) (v := .ref r0) rfl rfl rfl ?_)
      refine wp_of e190 c190_4 (xg_I (pc' := 7) lf_10_72 hW g0 sh_54 (by decide) (by decide) ty_54_3 rfl rfl (fun b89075 b89076 => ?_))
      refine wp_of e190 c190_7 (rw_icmp_ge (p1 := 29) (p2 := 10) (by decide) rfl ⟨by omega, by omega⟩ ⟨by omega, by omega⟩ (fun c89077 => ?_) (fun c89077 => ?_))
      · refine wp_of e190 c190_29 (rw_iconst (pc' := 30) rfl ?_)
        exact wp_ireturn e190 c190_30 rfl ⟨rfl, rfl, -1, rfl, ⟨by omega, by omega⟩⟩
      · refine wp_of e190 c190_10 (rw_aload_n (pc' := 11) (v := .ref r0) rfl rfl rfl ?_)
        refine wp_of e190 c190_11 (xg_R (pc' := 14) lf_10_15 hW g0 sh_54 (by decide) (by decide) ty_54_9 rfl rfl (fun r89078 q89079 g89080 => ?_))
        refine wp_of e190 c190_14 (rw_iload_n (pc' := 15) (z := v89070) rfl rfl ?_)
        refine wp_of e190 c190_15 (xa_L (pc' := 16) hW g89080 sh_55 (by decide) (ty_55 _) (by omega) (by omega) rfl (fun b89081 b89082 => ?_))
        refine wp_of e190 c190_16 (rw_lload_n (pc' := 17) (z := a1) rfl rfl ?_)
        refine wp_of e190 c190_17 (rw_lcmp (pc' := 18) rfl ⟨by omega, by omega⟩ ⟨by omega, by omega⟩ ?_)
        have b89083 := wq_cmp_b (H r89078 (v89070.toNat)) a1
        refine wp_of e190 c190_18 (rw_if_ne (p1 := 23) (p2 := 21) (by decide) rfl ⟨by omega, by omega⟩ (fun c89084 => ?_) (fun c89084 => ?_))
        · refine wp_of e190 c190_23 (rw_iinc (pc' := 26) (z := v89070) (L' := [(3, vI (v89070 + 1)), (0, .ref r0), (1, vL a1)]) rfl rfl rfl rfl ?_)
          refine wp_of e190 c190_26 (rw_goto (p1 := 2) (by decide) ?_)
          exact wp_lc (ks := [3, 0, 1]) (wl_c rfl (wl_c rfl (wl_c rfl wl_n))) rfl (by decide) (ih89069 _ (by omega) (v89070 + 1) ⟨by omega, by omega⟩ rfl)
        · refine wp_of e190 c190_21 (rw_iload_n (pc' := 22) (z := v89070) rfl rfl ?_)
          exact wp_ireturn e190 c190_22 rfl ⟨rfl, rfl, v89070, rfl, ⟨by omega, by omega⟩⟩
  exact wp_lc (ks := [3, 0, 1]) (wl_c rfl (wl_c rfl (wl_c rfl wl_n))) rfl (by decide) (lp89067 _ 0 ⟨by omega, by omega⟩ rfl)
/-! StrikeAwakeModel.least(II)I -/
theorem e191 : wq_en 191 = some (9, 2, false, some FieldType.int) := rfl
theorem c191_0 : mc_cd 191 0 = some (.iload_n 0, 1) := by decide +kernel
theorem c191_1 : mc_cd 191 1 = some (.iload_n 1, 1) := by decide +kernel
theorem c191_2 : mc_cd 191 2 = some (.if_icmp .ge 7, 3) := by decide +kernel
theorem c191_5 : mc_cd 191 5 = some (.iload_n 0, 1) := by decide +kernel
theorem c191_6 : mc_cd 191 6 = some (.goto 4, 3) := by decide +kernel
theorem c191_9 : mc_cd 191 9 = some (.iload_n 1, 1) := by decide +kernel
theorem c191_10 : mc_cd 191 10 = some (.ireturn, 1) := by decide +kernel
abbrev q_191 (a0 : Int) (a1 : Int) (T : wq_T) (H : wq_H) : Option Value → wq_T → wq_H → Prop := fun r T' H' => T = T' ∧ H = H' ∧ ∃ z : Int, some (vI z) = r ∧ (0 ≤ z ∧ z ≤ 100) ∧ (z ≤ a0 ∧ z ≤ a1)
set_option maxHeartbeats 4000000 in
theorem s_191 {kt : Nat → Option mc_E} {T : wq_T} {H : wq_H} {a0 : Int} {a1 : Int} (hW : WT T H) (i0 : 0 ≤ a0 ∧ a0 ≤ 100) (i1 : 0 ≤ a1 ∧ a1 ≤ 100) : wpc kt 1 191 [vI a0, vI a1] T H (q_191 a0 a1 T H) := by
  refine wp_enter e191 (Nat.le_of_ble_eq_true rfl) rfl ?_
  show wp _ _ 191 0 [(0, vI a0), (1, vI a1)] [] _ H _
  refine wp_of e191 c191_0 (rw_iload_n (pc' := 1) (z := a0) rfl rfl ?_)
  refine wp_of e191 c191_1 (rw_iload_n (pc' := 2) (z := a1) rfl rfl ?_)
  refine wp_of e191 c191_2 (rw_icmp_ge (p1 := 9) (p2 := 5) (by decide) rfl ⟨by omega, by omega⟩ ⟨by omega, by omega⟩ (fun c89086 => ?_) (fun c89086 => ?_))
  · refine wp_of e191 c191_9 (rw_iload_n (pc' := 10) (z := a1) rfl rfl ?_)
    exact wp_ireturn e191 c191_10 rfl ⟨rfl, rfl, a1, rfl, ⟨by omega, by omega⟩, by omega⟩
  · refine wp_of e191 c191_5 (rw_iload_n (pc' := 6) (z := a0) rfl rfl ?_)
    refine wp_of e191 c191_6 (rw_goto (p1 := 10) (by decide) ?_)
    exact wp_ireturn e191 c191_10 rfl ⟨rfl, rfl, a0, rfl, ⟨by omega, by omega⟩, by omega⟩
/-! StrikeAwakeModel.eatsWord(Ljava/lang/String;)Z -/
theorem e192 : wq_en 192 = some (9, 3, false, some FieldType.boolean) := rfl
theorem c192_0 : mc_cd 192 0 = some (.aload_n 0, 1) := by decide +kernel
theorem c192_1 : mc_cd 192 1 = some (.aload_n 1, 1) := by decide +kernel
theorem c192_2 : mc_cd 192 2 = some (.invokevirtual 114, 3) := by decide +kernel
theorem c192_5 : mc_cd 192 5 = some (.istore_n 2, 1) := by decide +kernel
theorem c192_6 : mc_cd 192 6 = some (.iload_n 2, 1) := by decide +kernel
theorem c192_7 : mc_cd 192 7 = some (.ifCond .eq 7, 3) := by decide +kernel
theorem c192_10 : mc_cd 192 10 = some (.aload_n 0, 1) := by decide +kernel
theorem c192_11 : mc_cd 192 11 = some (.invokevirtual 118, 3) := by decide +kernel
theorem c192_14 : mc_cd 192 14 = some (.iload_n 2, 1) := by decide +kernel
theorem c192_15 : mc_cd 192 15 = some (.ireturn, 1) := by decide +kernel
abbrev q_192 (r0 : Nat) (s1 : Nat) (T : wq_T) (H : wq_H) : Option Value → wq_T → wq_H → Prop := fun r T' H' => T = T' ∧ WT T H' ∧ wfr [(42, 8), (42, 9), (42, 10), (42, 11), (42, 12), (42, 15)] T H H' ∧ ∃ z : Int, some (vI z) = r ∧ (0 ≤ z ∧ z ≤ 1) ∧ (wJ H' r0 = 1) ∧ (H r0 10 ≤ H' r0 10) ∧ (wOV H r0 ≤ wOV H' r0) ∧ (wOV H' r0 ≤ 1)
set_option maxHeartbeats 4000000 in
theorem s_192 {kt : Nat → Option mc_E} {T : wq_T} {H : wq_H} {r0 : Nat} {s1 : Nat} {t1 : List Int32} (hW : WT T H) (g0 : T.2.2.2 r0 = some 42) (h1 : mc_find mc_sb s1 = some t1) (p0 : wJ H r0 = 1) : wpc kt 3 192 [.ref r0, .ref s1] T H (q_192 r0 s1 T H) := by
  refine wp_enter e192 (Nat.le_of_ble_eq_true rfl) rfl ?_
  have f0 : wfr [(42, 8), (42, 9), (42, 10), (42, 11), (42, 12), (42, 15)] T H H := wfr.rf
  show wp _ _ 192 0 [(0, .ref r0), (1, .ref s1)] [] _ H _
  have b89112 : (-2147483648) ≤ H r0 10 ∧ H r0 10 ≤ 2147483647 := hW.box g0 (n := 33) rfl (by decide) rfl
  have b89113 : 0 ≤ H r0 9 ∧ H r0 9 ≤ 5 := hW.box g0 (n := 33) rfl (by decide) rfl
  have b89114 : 0 ≤ H r0 8 ∧ H r0 8 ≤ 900 := hW.box g0 (n := 33) rfl (by decide) rfl
  have hb0 := wOV_b (H := H) (m := r0)
  refine wp_of e192 c192_0 (rw_aload_n (pc' := 1) (v := .ref r0) rfl rfl rfl ?_)
  refine wp_of e192 c192_1 (rw_aload_n (pc' := 2) (v := .ref s1) rfl rfl rfl ?_)
  refine wp_of e192 c192_2 (xc_V (pc' := 5) (r := r0) (as := [.ref s1]) (st := []) (lm_9_114) rfl rfl (Nat.le_of_ble_eq_true rfl) hW g0 sh_42 (by decide) rfl (by decide) (s_178 hW g0 h1) (fun R89115 T89116 H89117 p89118 => ?_))
  obtain ⟨e89119, e89121, z89122, e89120, b89123⟩ := p89118
  subst e89119
  subst e89120
  subst e89121
  show wp _ _ 192 5 [(0, .ref r0), (1, .ref s1)] [vI z89122] _ H _
  refine wp_of e192 c192_5 (rw_istore_n (pc' := 6) (z := z89122) (L' := [(2, vI z89122), (0, .ref r0), (1, .ref s1)]) rfl rfl rfl ?_)
  refine wp_of e192 c192_6 (rw_iload_n (pc' := 7) (z := z89122) rfl rfl ?_)
  refine wp_of e192 c192_7 (rw_if_eq (p1 := 14) (p2 := 10) (by decide) rfl ⟨by omega, by omega⟩ (fun c89124 => ?_) (fun c89124 => ?_))
  · refine wp_of e192 c192_14 (rw_iload_n (pc' := 15) (z := z89122) rfl rfl ?_)
    exact wp_zreturn e192 c192_15 rfl (by omega) ⟨rfl, hW, f0, z89122, rfl, ⟨by omega, by omega⟩, by omega, by omega, by omega, by omega⟩
  · refine wp_of e192 c192_10 (rw_aload_n (pc' := 11) (v := .ref r0) rfl rfl rfl ?_)
    refine wp_of e192 c192_11 (xc_V (pc' := 14) (r := r0) (as := []) (st := []) (lm_9_118) rfl rfl (Nat.le_of_ble_eq_true rfl) hW g0 sh_42 (by decide) rfl (by decide) (s_172 hW g0 (by omega)) (fun R89125 T89126 H89127 p89128 => ?_))
    obtain ⟨e89129, w89131, f89132, e89130, p89133, p89134, p89135, p89136, p89137, p89138⟩ := p89128
    subst e89129
    subst e89130
    have f89139 := f0.tr f89132 rfl
    show wp _ _ 192 14 [(2, vI z89122), (0, .ref r0), (1, .ref s1)] [] _ H89127 _
    refine wp_of e192 c192_14 (rw_iload_n (pc' := 15) (z := z89122) rfl rfl ?_)
    exact wp_zreturn e192 c192_15 rfl (by omega) ⟨rfl, w89131, f89139, z89122, rfl, ⟨by omega, by omega⟩, by omega, by omega, by omega, by omega⟩
/-! StrikeAwakeModel.readPerson()V -/
theorem e187 : wq_en 187 = some (9, 13, false, none) := rfl
theorem c187_0 : mc_cd 187 0 = some (.aload_n 0, 1) := by decide +kernel
theorem c187_1 : mc_cd 187 1 = some (.aload_n 0, 1) := by decide +kernel
theorem c187_2 : mc_cd 187 2 = some (.getfield 166, 3) := by decide +kernel
theorem c187_5 : mc_cd 187 5 = some (.getfield 188, 3) := by decide +kernel
theorem c187_8 : mc_cd 187 8 = some (.bipush 6, 2) := by decide +kernel
theorem c187_10 : mc_cd 187 10 = some (.invokevirtual 228, 3) := by decide +kernel
theorem c187_13 : mc_cd 187 13 = some (.aload_n 0, 1) := by decide +kernel
theorem c187_14 : mc_cd 187 14 = some (.invokevirtual 162, 3) := by decide +kernel
theorem c187_17 : mc_cd 187 17 = some (.ifCond .ne 8, 3) := by decide +kernel
theorem c187_20 : mc_cd 187 20 = some (.aload_n 0, 1) := by decide +kernel
theorem c187_21 : mc_cd 187 21 = some (.iconst 1, 1) := by decide +kernel
theorem c187_22 : mc_cd 187 22 = some (.invokevirtual 121, 3) := by decide +kernel
theorem c187_25 : mc_cd 187 25 = some (.aload_n 0, 1) := by decide +kernel
theorem c187_26 : mc_cd 187 26 = some (.getfield 166, 3) := by decide +kernel
theorem c187_29 : mc_cd 187 29 = some (.aload_n 0, 1) := by decide +kernel
theorem c187_30 : mc_cd 187 30 = some (.getfield 94, 3) := by decide +kernel
theorem c187_33 : mc_cd 187 33 = some (.invokevirtual 170, 3) := by decide +kernel
theorem c187_36 : mc_cd 187 36 = some (.iconst (-1), 1) := by decide +kernel
theorem c187_37 : mc_cd 187 37 = some (.if_icmp .eq 8, 3) := by decide +kernel
theorem c187_40 : mc_cd 187 40 = some (.aload_n 0, 1) := by decide +kernel
theorem c187_41 : mc_cd 187 41 = some (.iconst 3, 1) := by decide +kernel
theorem c187_42 : mc_cd 187 42 = some (.invokevirtual 121, 3) := by decide +kernel
theorem c187_45 : mc_cd 187 45 = some (.aload_n 0, 1) := by decide +kernel
theorem c187_46 : mc_cd 187 46 = some (.getfield 94, 3) := by decide +kernel
theorem c187_49 : mc_cd 187 49 = some (.lstore_n 1, 1) := by decide +kernel
theorem c187_50 : mc_cd 187 50 = some (.aload_n 0, 1) := by decide +kernel
theorem c187_51 : mc_cd 187 51 = some (.invokevirtual 118, 3) := by decide +kernel
theorem c187_54 : mc_cd 187 54 = some (.aload_n 0, 1) := by decide +kernel
theorem c187_55 : mc_cd 187 55 = some (.ldc 232, 2) := by decide +kernel
theorem c187_57 : mc_cd 187 57 = some (.iconst 0, 1) := by decide +kernel
theorem c187_58 : mc_cd 187 58 = some (.bipush 23, 2) := by decide +kernel
theorem c187_60 : mc_cd 187 60 = some (.invokevirtual 216, 3) := by decide +kernel
theorem c187_63 : mc_cd 187 63 = some (.istore_n 3, 1) := by decide +kernel
theorem c187_64 : mc_cd 187 64 = some (.aload_n 0, 1) := by decide +kernel
theorem c187_65 : mc_cd 187 65 = some (.ldc 233, 2) := by decide +kernel
theorem c187_67 : mc_cd 187 67 = some (.iload_n 3, 1) := by decide +kernel
theorem c187_68 : mc_cd 187 68 = some (.bipush 23, 2) := by decide +kernel
theorem c187_70 : mc_cd 187 70 = some (.iload_n 3, 1) := by decide +kernel
theorem c187_71 : mc_cd 187 71 = some (.bipush 7, 2) := by decide +kernel
theorem c187_73 : mc_cd 187 73 = some (.iadd, 1) := by decide +kernel
theorem c187_74 : mc_cd 187 74 = some (.invokestatic 235, 3) := by decide +kernel
theorem c187_77 : mc_cd 187 77 = some (.invokevirtual 216, 3) := by decide +kernel
theorem c187_80 : mc_cd 187 80 = some (.istore 4, 2) := by decide +kernel
theorem c187_82 : mc_cd 187 82 = some (.aload_n 0, 1) := by decide +kernel
theorem c187_83 : mc_cd 187 83 = some (.ldc 238, 2) := by decide +kernel
theorem c187_85 : mc_cd 187 85 = some (.iconst 0, 1) := by decide +kernel
theorem c187_86 : mc_cd 187 86 = some (.bipush 12, 2) := by decide +kernel
theorem c187_88 : mc_cd 187 88 = some (.invokevirtual 216, 3) := by decide +kernel
theorem c187_91 : mc_cd 187 91 = some (.istore 5, 2) := by decide +kernel
theorem c187_93 : mc_cd 187 93 = some (.aload_n 0, 1) := by decide +kernel
theorem c187_94 : mc_cd 187 94 = some (.ldc 233, 2) := by decide +kernel
theorem c187_96 : mc_cd 187 96 = some (.iload 5, 2) := by decide +kernel
theorem c187_98 : mc_cd 187 98 = some (.bipush 12, 2) := by decide +kernel
theorem c187_100 : mc_cd 187 100 = some (.iload 5, 2) := by decide +kernel
theorem c187_102 : mc_cd 187 102 = some (.iconst 4, 1) := by decide +kernel
theorem c187_103 : mc_cd 187 103 = some (.iadd, 1) := by decide +kernel
theorem c187_104 : mc_cd 187 104 = some (.invokestatic 235, 3) := by decide +kernel
theorem c187_107 : mc_cd 187 107 = some (.invokevirtual 216, 3) := by decide +kernel
theorem c187_110 : mc_cd 187 110 = some (.istore 6, 2) := by decide +kernel
theorem c187_112 : mc_cd 187 112 = some (.aload_n 0, 1) := by decide +kernel
theorem c187_113 : mc_cd 187 113 = some (.ldc 156, 2) := by decide +kernel
theorem c187_115 : mc_cd 187 115 = some (.invokevirtual 240, 3) := by decide +kernel
theorem c187_118 : mc_cd 187 118 = some (.ifCond .eq 13, 3) := by decide +kernel
theorem c187_121 : mc_cd 187 121 = some (.aload_n 0, 1) := by decide +kernel
theorem c187_122 : mc_cd 187 122 = some (.iconst 0, 1) := by decide +kernel
theorem c187_123 : mc_cd 187 123 = some (.bipush 23, 2) := by decide +kernel
theorem c187_125 : mc_cd 187 125 = some (.invokevirtual 137, 3) := by decide +kernel
theorem c187_128 : mc_cd 187 128 = some (.goto 4, 3) := by decide +kernel
theorem c187_131 : mc_cd 187 131 = some (.iconst (-1), 1) := by decide +kernel
theorem c187_132 : mc_cd 187 132 = some (.istore 7, 2) := by decide +kernel
theorem c187_134 : mc_cd 187 134 = some (.aload_n 0, 1) := by decide +kernel
theorem c187_135 : mc_cd 187 135 = some (.ldc 158, 2) := by decide +kernel
theorem c187_137 : mc_cd 187 137 = some (.invokevirtual 240, 3) := by decide +kernel
theorem c187_140 : mc_cd 187 140 = some (.istore 8, 2) := by decide +kernel
theorem c187_142 : mc_cd 187 142 = some (.iload 8, 2) := by decide +kernel
theorem c187_144 : mc_cd 187 144 = some (.ifCond .eq 13, 3) := by decide +kernel
theorem c187_147 : mc_cd 187 147 = some (.aload_n 0, 1) := by decide +kernel
theorem c187_148 : mc_cd 187 148 = some (.iconst 0, 1) := by decide +kernel
theorem c187_149 : mc_cd 187 149 = some (.bipush 23, 2) := by decide +kernel
theorem c187_151 : mc_cd 187 151 = some (.invokevirtual 137, 3) := by decide +kernel
theorem c187_154 : mc_cd 187 154 = some (.goto 4, 3) := by decide +kernel
theorem c187_157 : mc_cd 187 157 = some (.iconst 0, 1) := by decide +kernel
theorem c187_158 : mc_cd 187 158 = some (.istore 9, 2) := by decide +kernel
theorem c187_160 : mc_cd 187 160 = some (.iload 8, 2) := by decide +kernel
theorem c187_162 : mc_cd 187 162 = some (.ifCond .eq 18, 3) := by decide +kernel
theorem c187_165 : mc_cd 187 165 = some (.aload_n 0, 1) := by decide +kernel
theorem c187_166 : mc_cd 187 166 = some (.ldc 233, 2) := by decide +kernel
theorem c187_168 : mc_cd 187 168 = some (.iload 9, 2) := by decide +kernel
theorem c187_170 : mc_cd 187 170 = some (.iconst 1, 1) := by decide +kernel
theorem c187_171 : mc_cd 187 171 = some (.iadd, 1) := by decide +kernel
theorem c187_172 : mc_cd 187 172 = some (.bipush 24, 2) := by decide +kernel
theorem c187_174 : mc_cd 187 174 = some (.invokevirtual 216, 3) := by decide +kernel
theorem c187_177 : mc_cd 187 177 = some (.goto 4, 3) := by decide +kernel
theorem c187_180 : mc_cd 187 180 = some (.iconst 0, 1) := by decide +kernel
theorem c187_181 : mc_cd 187 181 = some (.istore 10, 2) := by decide +kernel
theorem c187_183 : mc_cd 187 183 = some (.aload_n 0, 1) := by decide +kernel
theorem c187_184 : mc_cd 187 184 = some (.ldc 160, 2) := by decide +kernel
theorem c187_186 : mc_cd 187 186 = some (.invokevirtual 240, 3) := by decide +kernel
theorem c187_189 : mc_cd 187 189 = some (.istore 11, 2) := by decide +kernel
theorem c187_191 : mc_cd 187 191 = some (.aload_n 0, 1) := by decide +kernel
theorem c187_192 : mc_cd 187 192 = some (.getfield 75, 3) := by decide +kernel
theorem c187_195 : mc_cd 187 195 = some (.iconst 5, 1) := by decide +kernel
theorem c187_196 : mc_cd 187 196 = some (.if_icmp .ne 4, 3) := by decide +kernel
theorem c187_199 : mc_cd 187 199 = some (.return_, 1) := by decide +kernel
theorem c187_200 : mc_cd 187 200 = some (.aload_n 0, 1) := by decide +kernel
theorem c187_201 : mc_cd 187 201 = some (.getfield 166, 3) := by decide +kernel
theorem c187_204 : mc_cd 187 204 = some (.getfield 188, 3) := by decide +kernel
theorem c187_207 : mc_cd 187 207 = some (.istore 12, 2) := by decide +kernel
theorem c187_209 : mc_cd 187 209 = some (.aload_n 0, 1) := by decide +kernel
theorem c187_210 : mc_cd 187 210 = some (.getfield 166, 3) := by decide +kernel
theorem c187_213 : mc_cd 187 213 = some (.getfield 243, 3) := by decide +kernel
theorem c187_216 : mc_cd 187 216 = some (.iload 12, 2) := by decide +kernel
theorem c187_218 : mc_cd 187 218 = some (.lload_n 1, 1) := by decide +kernel
theorem c187_219 : mc_cd 187 219 = some (.lastore, 1) := by decide +kernel
theorem c187_220 : mc_cd 187 220 = some (.aload_n 0, 1) := by decide +kernel
theorem c187_221 : mc_cd 187 221 = some (.getfield 166, 3) := by decide +kernel
theorem c187_224 : mc_cd 187 224 = some (.getfield 247, 3) := by decide +kernel
theorem c187_227 : mc_cd 187 227 = some (.iload 12, 2) := by decide +kernel
theorem c187_229 : mc_cd 187 229 = some (.iload_n 3, 1) := by decide +kernel
theorem c187_230 : mc_cd 187 230 = some (.iastore, 1) := by decide +kernel
theorem c187_231 : mc_cd 187 231 = some (.aload_n 0, 1) := by decide +kernel
theorem c187_232 : mc_cd 187 232 = some (.getfield 166, 3) := by decide +kernel
theorem c187_235 : mc_cd 187 235 = some (.getfield 250, 3) := by decide +kernel
theorem c187_238 : mc_cd 187 238 = some (.iload 12, 2) := by decide +kernel
theorem c187_240 : mc_cd 187 240 = some (.iload 4, 2) := by decide +kernel
theorem c187_242 : mc_cd 187 242 = some (.iastore, 1) := by decide +kernel
theorem c187_243 : mc_cd 187 243 = some (.aload_n 0, 1) := by decide +kernel
theorem c187_244 : mc_cd 187 244 = some (.getfield 166, 3) := by decide +kernel
theorem c187_247 : mc_cd 187 247 = some (.getfield 253, 3) := by decide +kernel
theorem c187_250 : mc_cd 187 250 = some (.iload 12, 2) := by decide +kernel
theorem c187_252 : mc_cd 187 252 = some (.iload 5, 2) := by decide +kernel
theorem c187_254 : mc_cd 187 254 = some (.iastore, 1) := by decide +kernel
theorem c187_255 : mc_cd 187 255 = some (.aload_n 0, 1) := by decide +kernel
theorem c187_256 : mc_cd 187 256 = some (.getfield 166, 3) := by decide +kernel
theorem c187_259 : mc_cd 187 259 = some (.getfield 256, 3) := by decide +kernel
theorem c187_262 : mc_cd 187 262 = some (.iload 12, 2) := by decide +kernel
theorem c187_264 : mc_cd 187 264 = some (.iload 6, 2) := by decide +kernel
theorem c187_266 : mc_cd 187 266 = some (.iastore, 1) := by decide +kernel
theorem c187_267 : mc_cd 187 267 = some (.aload_n 0, 1) := by decide +kernel
theorem c187_268 : mc_cd 187 268 = some (.getfield 166, 3) := by decide +kernel
theorem c187_271 : mc_cd 187 271 = some (.getfield 259, 3) := by decide +kernel
theorem c187_274 : mc_cd 187 274 = some (.iload 12, 2) := by decide +kernel
theorem c187_276 : mc_cd 187 276 = some (.iload 7, 2) := by decide +kernel
theorem c187_278 : mc_cd 187 278 = some (.iastore, 1) := by decide +kernel
theorem c187_279 : mc_cd 187 279 = some (.aload_n 0, 1) := by decide +kernel
theorem c187_280 : mc_cd 187 280 = some (.getfield 166, 3) := by decide +kernel
theorem c187_283 : mc_cd 187 283 = some (.getfield 261, 3) := by decide +kernel
theorem c187_286 : mc_cd 187 286 = some (.iload 12, 2) := by decide +kernel
theorem c187_288 : mc_cd 187 288 = some (.iload 9, 2) := by decide +kernel
theorem c187_290 : mc_cd 187 290 = some (.iastore, 1) := by decide +kernel
theorem c187_291 : mc_cd 187 291 = some (.aload_n 0, 1) := by decide +kernel
theorem c187_292 : mc_cd 187 292 = some (.getfield 166, 3) := by decide +kernel
theorem c187_295 : mc_cd 187 295 = some (.getfield 264, 3) := by decide +kernel
theorem c187_298 : mc_cd 187 298 = some (.iload 12, 2) := by decide +kernel
theorem c187_300 : mc_cd 187 300 = some (.iload 10, 2) := by decide +kernel
theorem c187_302 : mc_cd 187 302 = some (.iastore, 1) := by decide +kernel
theorem c187_303 : mc_cd 187 303 = some (.aload_n 0, 1) := by decide +kernel
theorem c187_304 : mc_cd 187 304 = some (.getfield 166, 3) := by decide +kernel
theorem c187_307 : mc_cd 187 307 = some (.getfield 267, 3) := by decide +kernel
theorem c187_310 : mc_cd 187 310 = some (.iload 12, 2) := by decide +kernel
theorem c187_312 : mc_cd 187 312 = some (.iload 11, 2) := by decide +kernel
theorem c187_314 : mc_cd 187 314 = some (.bastore, 1) := by decide +kernel
theorem c187_315 : mc_cd 187 315 = some (.aload_n 0, 1) := by decide +kernel
theorem c187_316 : mc_cd 187 316 = some (.getfield 166, 3) := by decide +kernel
theorem c187_319 : mc_cd 187 319 = some (.dup, 1) := by decide +kernel
theorem c187_320 : mc_cd 187 320 = some (.getfield 188, 3) := by decide +kernel
theorem c187_323 : mc_cd 187 323 = some (.iconst 1, 1) := by decide +kernel
theorem c187_324 : mc_cd 187 324 = some (.iadd, 1) := by decide +kernel
theorem c187_325 : mc_cd 187 325 = some (.putfield 188, 3) := by decide +kernel
theorem c187_328 : mc_cd 187 328 = some (.return_, 1) := by decide +kernel
abbrev q_187 (r0 : Nat) (rp : Nat) (T : wq_T) (H : wq_H) : Option Value → wq_T → wq_H → Prop := fun r T' H' => T = T' ∧ WT T H' ∧ wfr [(54, 3), (42, 8), (42, 9), (42, 10), (42, 11), (42, 12), (42, 13), (42, 14), (42, 15), (56, 999), (57, 999), (60, 999), (63, 999), (58, 999), (59, 999), (55, 999), (61, 999), (62, 999)] T H H' ∧ none = r ∧ (wJ H' r0 = 1) ∧ (H r0 10 ≤ H' r0 10) ∧ (wOV H r0 ≤ wOV H' r0) ∧ (wOV H' r0 ≤ 1) ∧ (wPI H' rp = 1) ∧ (∀ a, a ≠ rp → T.2.2.2 a = some 54 → H' a 3 = H a 3)
set_option maxHeartbeats 4000000 in
theorem s_187 {kt : Nat → Option mc_E} {T : wq_T} {H : wq_H} {r0 : Nat} {rp : Nat} (hW : WT T H) (g0 : T.2.2.2 r0 = some 42) (qrp : H r0 4 = (rp : Int)) (grp : T.2.2.2 rp = some 54) (p0 : wJ H r0 = 1) (p1 : wPI H rp = 1) : wpc kt 5 187 [.ref r0] T H (q_187 r0 rp T H) := by
  refine wp_enter e187 (Nat.le_of_ble_eq_true rfl) rfl ?_
  have f0 : wfr [(54, 3), (42, 8), (42, 9), (42, 10), (42, 11), (42, 12), (42, 13), (42, 14), (42, 15), (56, 999), (57, 999), (60, 999), (63, 999), (58, 999), (59, 999), (55, 999), (61, 999), (62, 999)] T H H := wfr.rf
  show wp _ _ 187 0 [(0, .ref r0)] [] _ H _
  have b89653 : (-2147483648) ≤ H r0 10 ∧ H r0 10 ≤ 2147483647 := hW.box g0 (n := 33) rfl (by decide) rfl
  have b89654 : 0 ≤ H r0 9 ∧ H r0 9 ≤ 5 := hW.box g0 (n := 33) rfl (by decide) rfl
  have b89655 : 0 ≤ H r0 8 ∧ H r0 8 ≤ 900 := hW.box g0 (n := 33) rfl (by decide) rfl
  have hb0 := wOV_b (H := H) (m := r0)
  refine wp_of e187 c187_0 (rw_aload_n (pc' := 1) (v := .ref r0) rfl rfl rfl ?_)
  refine wp_of e187 c187_1 (rw_aload_n (pc' := 2) (v := .ref r0) rfl rfl rfl ?_)
  refine wp_of e187 c187_2 (xg_K (pc' := 5) lf_9_166 hW g0 sh_42 (by decide) (by decide) rfl qrp rfl ?_)
  refine wp_of e187 c187_5 (xg_I (pc' := 8) lf_9_188 hW grp sh_54 (by decide) (by decide) ty_54_3 rfl rfl (fun b89656 b89657 => ?_))
  refine wp_of e187 c187_8 (rw_bipush (pc' := 10) (z := 6) rfl (by decide) ?_)
  refine wp_of e187 c187_10 (xc_V (pc' := 13) (r := r0) (as := [vI (H rp 3), vI 6]) (st := []) (lm_9_228) rfl rfl (Nat.le_of_ble_eq_true rfl) hW g0 sh_42 (by decide) rfl (by decide) (s_188 hW g0 ⟨by omega, by omega⟩ ⟨by omega, by omega⟩ (by omega)) (fun R89658 T89659 H89660 p89661 => ?_))
  obtain ⟨e89662, w89664, f89665, e89663, p89666, p89667, p89668, p89669, p89670⟩ := p89661
  subst e89662
  subst e89663
  have f89671 := f0.tr f89665 rfl
  show wp _ _ 187 13 [(0, .ref r0)] [] _ H89660 _
  refine wp_of e187 c187_13 (rw_aload_n (pc' := 14) (v := .ref r0) rfl rfl rfl ?_)
  refine wp_of e187 c187_14 (xc_V (pc' := 17) (r := r0) (as := []) (st := []) (lm_9_162) rfl rfl (Nat.le_of_ble_eq_true rfl) w89664 g0 sh_42 (by decide) rfl (by decide) (s_189 w89664 g0) (fun R89672 T89673 H89674 p89675 => ?_))
  obtain ⟨e89676, e89678, z89679, e89677, b89680⟩ := p89675
  subst e89676
  subst e89677
  subst e89678
  show wp _ _ 187 17 [(0, .ref r0)] [vI z89679] _ H89660 _
  have jn89698 : ∀  (H89697 : wq_H), WT T H89697 → wfr [(42, 9), (42, 13), (42, 14)] T H89660 H89697 → (wJ H89697 r0 = 1) → (H r0 10 ≤ H89697 r0 10) → (wOV H r0 ≤ wOV H89697 r0) → (wOV H89697 r0 ≤ 1) → (wOV H89697 r0 = 1 ∨ H rp 3 ≠ 6) → wp kt 4 187 25 [(0, .ref r0)] [] T H89697 (q_187 r0 rp T H) := by
    intro H89697 w89699 f89700 x89701 x89702 x89703 x89704 x89705
    have f89706 := f89671.tr f89700 rfl
    have k89707 : H89697 r0 10 = H89660 r0 10 := (f89700 r0 10 _ g0 rfl)
    refine wp_of e187 c187_25 (rw_aload_n (pc' := 26) (v := .ref r0) rfl rfl rfl ?_)
    have k89708 : H89697 r0 4 = H r0 4 := ((f89700 r0 4 _ g0 rfl).trans (f89665 r0 4 _ g0 rfl))
    have q89709 : H89697 r0 4 = (rp : Int) := k89708.trans qrp
    refine wp_of e187 c187_26 (xg_K (pc' := 29) lf_9_166 w89699 g0 sh_42 (by decide) (by decide) rfl q89709 rfl ?_)
    refine wp_of e187 c187_29 (rw_aload_n (pc' := 30) (v := .ref r0) rfl rfl rfl ?_)
    refine wp_of e187 c187_30 (xg_L (pc' := 33) lf_9_94 w89699 g0 sh_42 (by decide) (by decide) ty_42_15 rfl rfl (fun b89710 b89711 => ?_))
    refine wp_of e187 c187_33 (xc_V (pc' := 36) (r := rp) (as := [vL (H89697 r0 15)]) (st := []) (lm_9_170) rfl rfl (Nat.le_of_ble_eq_true rfl) w89699 grp sh_54 (by decide) rfl (by decide) (s_190 w89699 grp ⟨by omega, by omega⟩) (fun R89712 T89713 H89714 p89715 => ?_))
    obtain ⟨e89716, e89718, z89719, e89717, b89720⟩ := p89715
    subst e89716
    subst e89717
    subst e89718
    show wp _ _ 187 36 [(0, .ref r0)] [vI z89719] _ H89697 _
    refine wp_of e187 c187_36 (rw_iconst (pc' := 37) rfl ?_)
    have jn89738 : ∀  (H89737 : wq_H), WT T H89737 → wfr [(42, 9), (42, 13), (42, 14)] T H89697 H89737 → (wJ H89737 r0 = 1) → (H r0 10 ≤ H89737 r0 10) → (wOV H r0 ≤ wOV H89737 r0) → (wOV H89737 r0 ≤ 1) → (wOV H89737 r0 = 1 ∨ H rp 3 ≠ 6) → wp kt 4 187 45 [(0, .ref r0)] [] T H89737 (q_187 r0 rp T H) := by
      intro H89737 w89739 f89740 x89741 x89742 x89743 x89744 x89745
      have f89746 := f89706.tr f89740 rfl
      have k89747 : H89737 r0 10 = H89697 r0 10 := (f89740 r0 10 _ g0 rfl)
      refine wp_of e187 c187_45 (rw_aload_n (pc' := 46) (v := .ref r0) rfl rfl rfl ?_)
      have k89748 : H89737 r0 15 = H89697 r0 15 := (f89740 r0 15 _ g0 rfl)
      refine wp_of e187 c187_46 (xg_L (pc' := 49) lf_9_94 w89739 g0 sh_42 (by decide) (by decide) ty_42_15 rfl rfl (fun b89749 b89750 => ?_))
      refine wp_of e187 c187_49 (rw_lstore_n (pc' := 50) (z := H89737 r0 15) (L' := [(1, vL (H89737 r0 15)), (0, .ref r0)]) rfl rfl rfl ?_)
      refine wp_of e187 c187_50 (rw_aload_n (pc' := 51) (v := .ref r0) rfl rfl rfl ?_)
      refine wp_of e187 c187_51 (xc_V (pc' := 54) (r := r0) (as := []) (st := []) (lm_9_118) rfl rfl (Nat.le_of_ble_eq_true rfl) w89739 g0 sh_42 (by decide) rfl (by decide) (s_172 w89739 g0 (by omega)) (fun R89751 T89752 H89753 p89754 => ?_))
      obtain ⟨e89755, w89757, f89758, e89756, p89759, p89760, p89761, p89762, p89763, p89764⟩ := p89754
      subst e89755
      subst e89756
      have f89765 := f89746.tr f89758 rfl
      show wp _ _ 187 54 [(1, vL (H89737 r0 15)), (0, .ref r0)] [] _ H89753 _
      refine wp_of e187 c187_54 (rw_aload_n (pc' := 55) (v := .ref r0) rfl rfl rfl ?_)
      refine wp_of e187 c187_55 (rw_ldcS (pc' := 57) (k := 86) rfl rfl rfl rfl ?_)
      refine wp_of e187 c187_57 (rw_iconst (pc' := 58) rfl ?_)
      refine wp_of e187 c187_58 (rw_bipush (pc' := 60) (z := 23) rfl (by decide) ?_)
      refine wp_of e187 c187_60 (xc_V (pc' := 63) (r := r0) (as := [.ref 86, vI 0, vI 23]) (st := []) (lm_9_216) rfl rfl (Nat.le_of_ble_eq_true rfl) w89757 g0 sh_42 (by decide) rfl (by decide) (s_182 w89757 g0 rfl ⟨by omega, by omega⟩ ⟨by omega, by omega⟩ (by omega)) (fun R89766 T89767 H89768 p89769 => ?_))
      obtain ⟨e89770, w89772, f89773, z89779, e89771, b89780, p89774, p89775, p89776, p89777, p89778⟩ := p89769
      subst e89770
      subst e89771
      have f89781 := f89765.tr f89773 rfl
      show wp _ _ 187 63 [(1, vL (H89737 r0 15)), (0, .ref r0)] [vI z89779] _ H89768 _
      refine wp_of e187 c187_63 (rw_istore_n (pc' := 64) (z := z89779) (L' := [(3, vI z89779), (1, vL (H89737 r0 15)), (0, .ref r0)]) rfl rfl rfl ?_)
      refine wp_of e187 c187_64 (rw_aload_n (pc' := 65) (v := .ref r0) rfl rfl rfl ?_)
      refine wp_of e187 c187_65 (rw_ldcS (pc' := 67) (k := 87) rfl rfl rfl rfl ?_)
      refine wp_of e187 c187_67 (rw_iload_n (pc' := 68) (z := z89779) rfl rfl ?_)
      refine wp_of e187 c187_68 (rw_bipush (pc' := 70) (z := 23) rfl (by decide) ?_)
      refine wp_of e187 c187_70 (rw_iload_n (pc' := 71) (z := z89779) rfl rfl ?_)
      refine wp_of e187 c187_71 (rw_bipush (pc' := 73) (z := 7) rfl (by decide) ?_)
      refine wp_of e187 c187_73 (rw_iadd (pc' := 74) rfl ?_)
      refine wp_of e187 c187_74 (xc_S (pc' := 77) (as := [vI 23, vI (z89779 + 7)]) (st := [vI z89779, .ref 87, .ref r0]) (lm_9_235) rfl rfl (Nat.le_of_ble_eq_true rfl) rfl (by decide) (s_191 w89772 ⟨by omega, by omega⟩ ⟨by omega, by omega⟩) (fun R89782 T89783 H89784 p89785 => ?_))
      obtain ⟨e89786, e89788, z89790, e89787, b89791, p89789⟩ := p89785
      subst e89786
      subst e89787
      subst e89788
      show wp _ _ 187 77 [(3, vI z89779), (1, vL (H89737 r0 15)), (0, .ref r0)] [vI z89790, vI z89779, .ref 87, .ref r0] _ H89768 _
      refine wp_of e187 c187_77 (xc_V (pc' := 80) (r := r0) (as := [.ref 87, vI z89779, vI z89790]) (st := []) (lm_9_216) rfl rfl (Nat.le_of_ble_eq_true rfl) w89772 g0 sh_42 (by decide) rfl (by decide) (s_182 w89772 g0 rfl ⟨by omega, by omega⟩ ⟨by omega, by omega⟩ (by omega)) (fun R89792 T89793 H89794 p89795 => ?_))
      obtain ⟨e89796, w89798, f89799, z89805, e89797, b89806, p89800, p89801, p89802, p89803, p89804⟩ := p89795
      subst e89796
      subst e89797
      have f89807 := f89781.tr f89799 rfl
      show wp _ _ 187 80 [(3, vI z89779), (1, vL (H89737 r0 15)), (0, .ref r0)] [vI z89805] _ H89794 _
      refine wp_of e187 c187_80 (rw_istore (pc' := 82) (z := z89805) (L' := [(4, vI z89805), (3, vI z89779), (1, vL (H89737 r0 15)), (0, .ref r0)]) rfl rfl rfl ?_)
      refine wp_of e187 c187_82 (rw_aload_n (pc' := 83) (v := .ref r0) rfl rfl rfl ?_)
      refine wp_of e187 c187_83 (rw_ldcS (pc' := 85) (k := 88) rfl rfl rfl rfl ?_)
      refine wp_of e187 c187_85 (rw_iconst (pc' := 86) rfl ?_)
      refine wp_of e187 c187_86 (rw_bipush (pc' := 88) (z := 12) rfl (by decide) ?_)
      refine wp_of e187 c187_88 (xc_V (pc' := 91) (r := r0) (as := [.ref 88, vI 0, vI 12]) (st := []) (lm_9_216) rfl rfl (Nat.le_of_ble_eq_true rfl) w89798 g0 sh_42 (by decide) rfl (by decide) (s_182 w89798 g0 rfl ⟨by omega, by omega⟩ ⟨by omega, by omega⟩ (by omega)) (fun R89808 T89809 H89810 p89811 => ?_))
      obtain ⟨e89812, w89814, f89815, z89821, e89813, b89822, p89816, p89817, p89818, p89819, p89820⟩ := p89811
      subst e89812
      subst e89813
      have f89823 := f89807.tr f89815 rfl
      show wp _ _ 187 91 [(4, vI z89805), (3, vI z89779), (1, vL (H89737 r0 15)), (0, .ref r0)] [vI z89821] _ H89810 _
      refine wp_of e187 c187_91 (rw_istore (pc' := 93) (z := z89821) (L' := [(5, vI z89821), (4, vI z89805), (3, vI z89779), (1, vL (H89737 r0 15)), (0, .ref r0)]) rfl rfl rfl ?_)
      refine wp_of e187 c187_93 (rw_aload_n (pc' := 94) (v := .ref r0) rfl rfl rfl ?_)
      refine wp_of e187 c187_94 (rw_ldcS (pc' := 96) (k := 87) rfl rfl rfl rfl ?_)
      refine wp_of e187 c187_96 (rw_iload (pc' := 98) (z := z89821) rfl rfl ?_)
      refine wp_of e187 c187_98 (rw_bipush (pc' := 100) (z := 12) rfl (by decide) ?_)
      refine wp_of e187 c187_100 (rw_iload (pc' := 102) (z := z89821) rfl rfl ?_)
      refine wp_of e187 c187_102 (rw_iconst (pc' := 103) rfl ?_)
      refine wp_of e187 c187_103 (rw_iadd (pc' := 104) rfl ?_)
      refine wp_of e187 c187_104 (xc_S (pc' := 107) (as := [vI 12, vI (z89821 + 4)]) (st := [vI z89821, .ref 87, .ref r0]) (lm_9_235) rfl rfl (Nat.le_of_ble_eq_true rfl) rfl (by decide) (s_191 w89814 ⟨by omega, by omega⟩ ⟨by omega, by omega⟩) (fun R89824 T89825 H89826 p89827 => ?_))
      obtain ⟨e89828, e89830, z89832, e89829, b89833, p89831⟩ := p89827
      subst e89828
      subst e89829
      subst e89830
      show wp _ _ 187 107 [(5, vI z89821), (4, vI z89805), (3, vI z89779), (1, vL (H89737 r0 15)), (0, .ref r0)] [vI z89832, vI z89821, .ref 87, .ref r0] _ H89810 _
      refine wp_of e187 c187_107 (xc_V (pc' := 110) (r := r0) (as := [.ref 87, vI z89821, vI z89832]) (st := []) (lm_9_216) rfl rfl (Nat.le_of_ble_eq_true rfl) w89814 g0 sh_42 (by decide) rfl (by decide) (s_182 w89814 g0 rfl ⟨by omega, by omega⟩ ⟨by omega, by omega⟩ (by omega)) (fun R89834 T89835 H89836 p89837 => ?_))
      obtain ⟨e89838, w89840, f89841, z89847, e89839, b89848, p89842, p89843, p89844, p89845, p89846⟩ := p89837
      subst e89838
      subst e89839
      have f89849 := f89823.tr f89841 rfl
      show wp _ _ 187 110 [(5, vI z89821), (4, vI z89805), (3, vI z89779), (1, vL (H89737 r0 15)), (0, .ref r0)] [vI z89847] _ H89836 _
      refine wp_of e187 c187_110 (rw_istore (pc' := 112) (z := z89847) (L' := [(6, vI z89847), (5, vI z89821), (4, vI z89805), (3, vI z89779), (1, vL (H89737 r0 15)), (0, .ref r0)]) rfl rfl rfl ?_)
      refine wp_of e187 c187_112 (rw_aload_n (pc' := 113) (v := .ref r0) rfl rfl rfl ?_)
      refine wp_of e187 c187_113 (rw_ldcS (pc' := 115) (k := 83) rfl rfl rfl rfl ?_)
      refine wp_of e187 c187_115 (xc_V (pc' := 118) (r := r0) (as := [.ref 83]) (st := []) (lm_9_240) rfl rfl (Nat.le_of_ble_eq_true rfl) w89840 g0 sh_42 (by decide) rfl (by decide) (s_192 w89840 g0 rfl (by omega)) (fun R89850 T89851 H89852 p89853 => ?_))
      obtain ⟨e89854, w89856, f89857, z89862, e89855, b89863, p89858, p89859, p89860, p89861⟩ := p89853
      subst e89854
      subst e89855
      have f89864 := f89849.tr f89857 rfl
      show wp _ _ 187 118 [(6, vI z89847), (5, vI z89821), (4, vI z89805), (3, vI z89779), (1, vL (H89737 r0 15)), (0, .ref r0)] [vI z89862] _ H89852 _
      have jn89884 : ∀ (v89882 : Int) (H89883 : wq_H), WT T H89883 → wfr [(42, 8), (42, 9), (42, 10), (42, 11), (42, 12), (42, 13), (42, 14), (42, 15)] T H89852 H89883 → ((-1) ≤ v89882 ∧ v89882 ≤ 23) → (wJ H89883 r0 = 1) → (H r0 10 ≤ H89883 r0 10) → (wOV H r0 ≤ wOV H89883 r0) → (wOV H89883 r0 ≤ 1) → (wOV H89883 r0 = 1 ∨ H rp 3 ≠ 6) → wp kt 4 187 132 [(0, .ref r0), (1, vL (H89737 r0 15)), (3, vI z89779), (4, vI z89805), (5, vI z89821), (6, vI z89847)] [vI v89882] T H89883 (q_187 r0 rp T H) := by
        intro v89882 H89883 w89885 f89886 b89887 x89888 x89889 x89890 x89891 x89892
        have f89893 := f89864.tr f89886 rfl
        refine wp_of e187 c187_132 (rw_istore (pc' := 134) (z := v89882) (L' := [(7, vI v89882), (0, .ref r0), (1, vL (H89737 r0 15)), (3, vI z89779), (4, vI z89805), (5, vI z89821), (6, vI z89847)]) rfl rfl rfl ?_)
        refine wp_of e187 c187_134 (rw_aload_n (pc' := 135) (v := .ref r0) rfl rfl rfl ?_)
        refine wp_of e187 c187_135 (rw_ldcS (pc' := 137) (k := 84) rfl rfl rfl rfl ?_)
        refine wp_of e187 c187_137 (xc_V (pc' := 140) (r := r0) (as := [.ref 84]) (st := []) (lm_9_240) rfl rfl (Nat.le_of_ble_eq_true rfl) w89885 g0 sh_42 (by decide) rfl (by decide) (s_192 w89885 g0 rfl (by omega)) (fun R89894 T89895 H89896 p89897 => ?_))
        obtain ⟨e89898, w89900, f89901, z89906, e89899, b89907, p89902, p89903, p89904, p89905⟩ := p89897
        subst e89898
        subst e89899
        have f89908 := f89893.tr f89901 rfl
        show wp _ _ 187 140 [(7, vI v89882), (0, .ref r0), (1, vL (H89737 r0 15)), (3, vI z89779), (4, vI z89805), (5, vI z89821), (6, vI z89847)] [vI z89906] _ H89896 _
        refine wp_of e187 c187_140 (rw_istore (pc' := 142) (z := z89906) (L' := [(8, vI z89906), (7, vI v89882), (0, .ref r0), (1, vL (H89737 r0 15)), (3, vI z89779), (4, vI z89805), (5, vI z89821), (6, vI z89847)]) rfl rfl rfl ?_)
        refine wp_of e187 c187_142 (rw_iload (pc' := 144) (z := z89906) rfl rfl ?_)
        have jn89928 : ∀ (v89926 : Int) (H89927 : wq_H), WT T H89927 → wfr [(42, 8), (42, 9), (42, 10), (42, 11), (42, 12), (42, 13), (42, 14), (42, 15)] T H89896 H89927 → (0 ≤ v89926 ∧ v89926 ≤ 23) → (wJ H89927 r0 = 1) → (H r0 10 ≤ H89927 r0 10) → (wOV H r0 ≤ wOV H89927 r0) → (wOV H89927 r0 ≤ 1) → (wOV H89927 r0 = 1 ∨ H rp 3 ≠ 6) → wp kt 4 187 158 [(0, .ref r0), (1, vL (H89737 r0 15)), (3, vI z89779), (4, vI z89805), (5, vI z89821), (6, vI z89847), (7, vI v89882), (8, vI z89906)] [vI v89926] T H89927 (q_187 r0 rp T H) := by
          intro v89926 H89927 w89929 f89930 b89931 x89932 x89933 x89934 x89935 x89936
          have f89937 := f89908.tr f89930 rfl
          refine wp_of e187 c187_158 (rw_istore (pc' := 160) (z := v89926) (L' := [(9, vI v89926), (0, .ref r0), (1, vL (H89737 r0 15)), (3, vI z89779), (4, vI z89805), (5, vI z89821), (6, vI z89847), (7, vI v89882), (8, vI z89906)]) rfl rfl rfl ?_)
          refine wp_of e187 c187_160 (rw_iload (pc' := 162) (z := z89906) rfl rfl ?_)
          have jn89957 : ∀ (v89955 : Int) (H89956 : wq_H), WT T H89956 → wfr [(42, 8), (42, 9), (42, 10), (42, 11), (42, 12), (42, 13), (42, 14), (42, 15)] T H89927 H89956 → (0 ≤ v89955 ∧ v89955 ≤ 24) → (wJ H89956 r0 = 1) → (H r0 10 ≤ H89956 r0 10) → (wOV H r0 ≤ wOV H89956 r0) → (wOV H89956 r0 ≤ 1) → (wOV H89956 r0 = 1 ∨ H rp 3 ≠ 6) → wp kt 4 187 181 [(0, .ref r0), (1, vL (H89737 r0 15)), (3, vI z89779), (4, vI z89805), (5, vI z89821), (6, vI z89847), (7, vI v89882), (9, vI v89926)] [vI v89955] T H89956 (q_187 r0 rp T H) := by
            intro v89955 H89956 w89958 f89959 b89960 x89961 x89962 x89963 x89964 x89965
            have f89966 := f89937.tr f89959 rfl
            refine wp_of e187 c187_181 (rw_istore (pc' := 183) (z := v89955) (L' := [(10, vI v89955), (0, .ref r0), (1, vL (H89737 r0 15)), (3, vI z89779), (4, vI z89805), (5, vI z89821), (6, vI z89847), (7, vI v89882), (9, vI v89926)]) rfl rfl rfl ?_)
            refine wp_of e187 c187_183 (rw_aload_n (pc' := 184) (v := .ref r0) rfl rfl rfl ?_)
            refine wp_of e187 c187_184 (rw_ldcS (pc' := 186) (k := 85) rfl rfl rfl rfl ?_)
            refine wp_of e187 c187_186 (xc_V (pc' := 189) (r := r0) (as := [.ref 85]) (st := []) (lm_9_240) rfl rfl (Nat.le_of_ble_eq_true rfl) w89958 g0 sh_42 (by decide) rfl (by decide) (s_192 w89958 g0 rfl (by omega)) (fun R89967 T89968 H89969 p89970 => ?_))
            obtain ⟨e89971, w89973, f89974, z89979, e89972, b89980, p89975, p89976, p89977, p89978⟩ := p89970
            subst e89971
            subst e89972
            have f89981 := f89966.tr f89974 rfl
            show wp _ _ 187 189 [(10, vI v89955), (0, .ref r0), (1, vL (H89737 r0 15)), (3, vI z89779), (4, vI z89805), (5, vI z89821), (6, vI z89847), (7, vI v89882), (9, vI v89926)] [vI z89979] _ H89969 _
            refine wp_of e187 c187_189 (rw_istore (pc' := 191) (z := z89979) (L' := [(11, vI z89979), (10, vI v89955), (0, .ref r0), (1, vL (H89737 r0 15)), (3, vI z89779), (4, vI z89805), (5, vI z89821), (6, vI z89847), (7, vI v89882), (9, vI v89926)]) rfl rfl rfl ?_)
            refine wp_of e187 c187_191 (rw_aload_n (pc' := 192) (v := .ref r0) rfl rfl rfl ?_)
            refine wp_of e187 c187_192 (xg_I (pc' := 195) lf_9_75 w89973 g0 sh_42 (by decide) (by decide) ty_42_9 rfl rfl (fun b89982 b89983 => ?_))
            have k89984 := wOV_e (H := H89969) (m := r0)
            refine wp_of e187 c187_195 (rw_iconst (pc' := 196) rfl ?_)
            refine wp_of e187 c187_196 (rw_icmp_ne (p1 := 200) (p2 := 199) (by decide) rfl ⟨by omega, by omega⟩ ⟨by omega, by omega⟩ (fun c89985 => ?_) (fun c89985 => ?_))
            · refine wp_of e187 c187_200 (rw_aload_n (pc' := 201) (v := .ref r0) rfl rfl rfl ?_)
              have k89986 : H89969 r0 4 = H89697 r0 4 := ((f89974 r0 4 _ g0 rfl).trans ((f89959 r0 4 _ g0 rfl).trans ((f89930 r0 4 _ g0 rfl).trans ((f89901 r0 4 _ g0 rfl).trans ((f89886 r0 4 _ g0 rfl).trans ((f89857 r0 4 _ g0 rfl).trans ((f89841 r0 4 _ g0 rfl).trans ((f89815 r0 4 _ g0 rfl).trans ((f89799 r0 4 _ g0 rfl).trans ((f89773 r0 4 _ g0 rfl).trans ((f89758 r0 4 _ g0 rfl).trans (f89740 r0 4 _ g0 rfl))))))))))))
              have q89987 : H89969 r0 4 = (rp : Int) := k89986.trans q89709
              refine wp_of e187 c187_201 (xg_K (pc' := 204) lf_9_166 w89973 g0 sh_42 (by decide) (by decide) rfl q89987 rfl ?_)
              have k89988 : H89969 rp 3 = H rp 3 := ((f89974 rp 3 _ grp rfl).trans ((f89959 rp 3 _ grp rfl).trans ((f89930 rp 3 _ grp rfl).trans ((f89901 rp 3 _ grp rfl).trans ((f89886 rp 3 _ grp rfl).trans ((f89857 rp 3 _ grp rfl).trans ((f89841 rp 3 _ grp rfl).trans ((f89815 rp 3 _ grp rfl).trans ((f89799 rp 3 _ grp rfl).trans ((f89773 rp 3 _ grp rfl).trans ((f89758 rp 3 _ grp rfl).trans ((f89740 rp 3 _ grp rfl).trans ((f89700 rp 3 _ grp rfl).trans (f89665 rp 3 _ grp rfl))))))))))))))
              refine wp_of e187 c187_204 (xg_I (pc' := 207) lf_9_188 w89973 grp sh_54 (by decide) (by decide) ty_54_3 rfl rfl (fun b89989 b89990 => ?_))
              refine wp_of e187 c187_207 (rw_istore (pc' := 209) (z := H89969 rp 3) (L' := [(12, vI (H89969 rp 3)), (11, vI z89979), (10, vI v89955), (0, .ref r0), (1, vL (H89737 r0 15)), (3, vI z89779), (4, vI z89805), (5, vI z89821), (6, vI z89847), (7, vI v89882), (9, vI v89926)]) rfl rfl rfl ?_)
              refine wp_of e187 c187_209 (rw_aload_n (pc' := 210) (v := .ref r0) rfl rfl rfl ?_)
              refine wp_of e187 c187_210 (xg_K (pc' := 213) lf_9_166 w89973 g0 sh_42 (by decide) (by decide) rfl q89987 rfl ?_)
              refine wp_of e187 c187_213 (xg_R (pc' := 216) lf_9_243 w89973 grp sh_54 (by decide) (by decide) ty_54_9 rfl rfl (fun r89991 q89992 g89993 => ?_))
              refine wp_of e187 c187_216 (rw_iload (pc' := 218) (z := H89969 rp 3) rfl rfl ?_)
              refine wp_of e187 c187_218 (rw_lload_n (pc' := 219) (z := H89737 r0 15) rfl rfl ?_)
              refine wp_of e187 c187_219 (xs_L (pc' := 220) w89973 g89993 (by decide) sh_55 (by decide) (ty_55 _) (by omega) (by omega) ⟨by omega, by omega⟩ (by omega) (by omega) rfl (fun H89994 e89995 w89996 => ?_))
              have f89997 := f89981.put' e89995 g89993 rfl
              refine wp_of e187 c187_220 (rw_aload_n (pc' := 221) (v := .ref r0) rfl rfl rfl ?_)
              have k89998 : H89994 r0 4 = H89969 r0 4 := (wq_u_t e89995 g89993 g0 rfl 4)
              have q89999 : H89994 r0 4 = (rp : Int) := k89998.trans q89987
              refine wp_of e187 c187_221 (xg_K (pc' := 224) lf_9_166 w89996 g0 sh_42 (by decide) (by decide) rfl q89999 rfl ?_)
              refine wp_of e187 c187_224 (xg_R (pc' := 227) lf_9_247 w89996 grp sh_54 (by decide) (by decide) ty_54_10 rfl rfl (fun r90000 q90001 g90002 => ?_))
              refine wp_of e187 c187_227 (rw_iload (pc' := 229) (z := H89969 rp 3) rfl rfl ?_)
              refine wp_of e187 c187_229 (rw_iload_n (pc' := 230) (z := z89779) rfl rfl ?_)
              refine wp_of e187 c187_230 (xs_I (pc' := 231) w89996 g90002 (by decide) sh_56 (by decide) (ty_56 _) (by omega) (by omega) ⟨by omega, by omega⟩ (by omega) (by omega) rfl (fun H90003 e90004 w90005 => ?_))
              have f90006 := f89997.put' e90004 g90002 rfl
              refine wp_of e187 c187_231 (rw_aload_n (pc' := 232) (v := .ref r0) rfl rfl rfl ?_)
              have k90007 : H90003 r0 4 = H89994 r0 4 := (wq_u_t e90004 g90002 g0 rfl 4)
              have q90008 : H90003 r0 4 = (rp : Int) := k90007.trans q89999
              refine wp_of e187 c187_232 (xg_K (pc' := 235) lf_9_166 w90005 g0 sh_42 (by decide) (by decide) rfl q90008 rfl ?_)
              refine wp_of e187 c187_235 (xg_R (pc' := 238) lf_9_250 w90005 grp sh_54 (by decide) (by decide) ty_54_11 rfl rfl (fun r90009 q90010 g90011 => ?_))
              refine wp_of e187 c187_238 (rw_iload (pc' := 240) (z := H89969 rp 3) rfl rfl ?_)
              refine wp_of e187 c187_240 (rw_iload (pc' := 242) (z := z89805) rfl rfl ?_)
              refine wp_of e187 c187_242 (xs_I (pc' := 243) w90005 g90011 (by decide) sh_57 (by decide) (ty_57 _) (by omega) (by omega) ⟨by omega, by omega⟩ (by omega) (by omega) rfl (fun H90012 e90013 w90014 => ?_))
              have f90015 := f90006.put' e90013 g90011 rfl
              refine wp_of e187 c187_243 (rw_aload_n (pc' := 244) (v := .ref r0) rfl rfl rfl ?_)
              have k90016 : H90012 r0 4 = H90003 r0 4 := (wq_u_t e90013 g90011 g0 rfl 4)
              have q90017 : H90012 r0 4 = (rp : Int) := k90016.trans q90008
              refine wp_of e187 c187_244 (xg_K (pc' := 247) lf_9_166 w90014 g0 sh_42 (by decide) (by decide) rfl q90017 rfl ?_)
              refine wp_of e187 c187_247 (xg_R (pc' := 250) lf_9_253 w90014 grp sh_54 (by decide) (by decide) ty_54_12 rfl rfl (fun r90018 q90019 g90020 => ?_))
              refine wp_of e187 c187_250 (rw_iload (pc' := 252) (z := H89969 rp 3) rfl rfl ?_)
              refine wp_of e187 c187_252 (rw_iload (pc' := 254) (z := z89821) rfl rfl ?_)
              refine wp_of e187 c187_254 (xs_I (pc' := 255) w90014 g90020 (by decide) sh_58 (by decide) (ty_58 _) (by omega) (by omega) ⟨by omega, by omega⟩ (by omega) (by omega) rfl (fun H90021 e90022 w90023 => ?_))
              have f90024 := f90015.put' e90022 g90020 rfl
              refine wp_of e187 c187_255 (rw_aload_n (pc' := 256) (v := .ref r0) rfl rfl rfl ?_)
              have k90025 : H90021 r0 4 = H90012 r0 4 := (wq_u_t e90022 g90020 g0 rfl 4)
              have q90026 : H90021 r0 4 = (rp : Int) := k90025.trans q90017
              refine wp_of e187 c187_256 (xg_K (pc' := 259) lf_9_166 w90023 g0 sh_42 (by decide) (by decide) rfl q90026 rfl ?_)
              refine wp_of e187 c187_259 (xg_R (pc' := 262) lf_9_256 w90023 grp sh_54 (by decide) (by decide) ty_54_13 rfl rfl (fun r90027 q90028 g90029 => ?_))
              refine wp_of e187 c187_262 (rw_iload (pc' := 264) (z := H89969 rp 3) rfl rfl ?_)
              refine wp_of e187 c187_264 (rw_iload (pc' := 266) (z := z89847) rfl rfl ?_)
              refine wp_of e187 c187_266 (xs_I (pc' := 267) w90023 g90029 (by decide) sh_59 (by decide) (ty_59 _) (by omega) (by omega) ⟨by omega, by omega⟩ (by omega) (by omega) rfl (fun H90030 e90031 w90032 => ?_))
              have f90033 := f90024.put' e90031 g90029 rfl
              refine wp_of e187 c187_267 (rw_aload_n (pc' := 268) (v := .ref r0) rfl rfl rfl ?_)
              have k90034 : H90030 r0 4 = H90021 r0 4 := (wq_u_t e90031 g90029 g0 rfl 4)
              have q90035 : H90030 r0 4 = (rp : Int) := k90034.trans q90026
              refine wp_of e187 c187_268 (xg_K (pc' := 271) lf_9_166 w90032 g0 sh_42 (by decide) (by decide) rfl q90035 rfl ?_)
              refine wp_of e187 c187_271 (xg_R (pc' := 274) lf_9_259 w90032 grp sh_54 (by decide) (by decide) ty_54_14 rfl rfl (fun r90036 q90037 g90038 => ?_))
              refine wp_of e187 c187_274 (rw_iload (pc' := 276) (z := H89969 rp 3) rfl rfl ?_)
              refine wp_of e187 c187_276 (rw_iload (pc' := 278) (z := v89882) rfl rfl ?_)
              refine wp_of e187 c187_278 (xs_I (pc' := 279) w90032 g90038 (by decide) sh_60 (by decide) (ty_60 _) (by omega) (by omega) ⟨by omega, by omega⟩ (by omega) (by omega) rfl (fun H90039 e90040 w90041 => ?_))
              have f90042 := f90033.put' e90040 g90038 rfl
              refine wp_of e187 c187_279 (rw_aload_n (pc' := 280) (v := .ref r0) rfl rfl rfl ?_)
              have k90043 : H90039 r0 4 = H90030 r0 4 := (wq_u_t e90040 g90038 g0 rfl 4)
              have q90044 : H90039 r0 4 = (rp : Int) := k90043.trans q90035
              refine wp_of e187 c187_280 (xg_K (pc' := 283) lf_9_166 w90041 g0 sh_42 (by decide) (by decide) rfl q90044 rfl ?_)
              refine wp_of e187 c187_283 (xg_R (pc' := 286) lf_9_261 w90041 grp sh_54 (by decide) (by decide) ty_54_15 rfl rfl (fun r90045 q90046 g90047 => ?_))
              refine wp_of e187 c187_286 (rw_iload (pc' := 288) (z := H89969 rp 3) rfl rfl ?_)
              refine wp_of e187 c187_288 (rw_iload (pc' := 290) (z := v89926) rfl rfl ?_)
              refine wp_of e187 c187_290 (xs_I (pc' := 291) w90041 g90047 (by decide) sh_61 (by decide) (ty_61 _) (by omega) (by omega) ⟨by omega, by omega⟩ (by omega) (by omega) rfl (fun H90048 e90049 w90050 => ?_))
              have f90051 := f90042.put' e90049 g90047 rfl
              refine wp_of e187 c187_291 (rw_aload_n (pc' := 292) (v := .ref r0) rfl rfl rfl ?_)
              have k90052 : H90048 r0 4 = H90039 r0 4 := (wq_u_t e90049 g90047 g0 rfl 4)
              have q90053 : H90048 r0 4 = (rp : Int) := k90052.trans q90044
              refine wp_of e187 c187_292 (xg_K (pc' := 295) lf_9_166 w90050 g0 sh_42 (by decide) (by decide) rfl q90053 rfl ?_)
              refine wp_of e187 c187_295 (xg_R (pc' := 298) lf_9_264 w90050 grp sh_54 (by decide) (by decide) ty_54_16 rfl rfl (fun r90054 q90055 g90056 => ?_))
              refine wp_of e187 c187_298 (rw_iload (pc' := 300) (z := H89969 rp 3) rfl rfl ?_)
              refine wp_of e187 c187_300 (rw_iload (pc' := 302) (z := v89955) rfl rfl ?_)
              refine wp_of e187 c187_302 (xs_I (pc' := 303) w90050 g90056 (by decide) sh_62 (by decide) (ty_62 _) (by omega) (by omega) ⟨by omega, by omega⟩ (by omega) (by omega) rfl (fun H90057 e90058 w90059 => ?_))
              have f90060 := f90051.put' e90058 g90056 rfl
              refine wp_of e187 c187_303 (rw_aload_n (pc' := 304) (v := .ref r0) rfl rfl rfl ?_)
              have k90061 : H90057 r0 4 = H90048 r0 4 := (wq_u_t e90058 g90056 g0 rfl 4)
              have q90062 : H90057 r0 4 = (rp : Int) := k90061.trans q90053
              refine wp_of e187 c187_304 (xg_K (pc' := 307) lf_9_166 w90059 g0 sh_42 (by decide) (by decide) rfl q90062 rfl ?_)
              refine wp_of e187 c187_307 (xg_R (pc' := 310) lf_9_267 w90059 grp sh_54 (by decide) (by decide) ty_54_17 rfl rfl (fun r90063 q90064 g90065 => ?_))
              refine wp_of e187 c187_310 (rw_iload (pc' := 312) (z := H89969 rp 3) rfl rfl ?_)
              refine wp_of e187 c187_312 (rw_iload (pc' := 314) (z := z89979) rfl rfl ?_)
              refine wp_of e187 c187_314 (xs_Z (pc' := 315) w90059 g90065 (by decide) sh_63 (by decide) (ty_63 _) (by omega) (by omega) ⟨by omega, by omega⟩ (by omega) (by omega) rfl (fun H90066 e90067 w90068 => ?_))
              have f90069 := f90060.put' e90067 g90065 rfl
              refine wp_of e187 c187_315 (rw_aload_n (pc' := 316) (v := .ref r0) rfl rfl rfl ?_)
              have k90070 : H90066 r0 4 = H90057 r0 4 := (wq_u_t e90067 g90065 g0 rfl 4)
              have q90071 : H90066 r0 4 = (rp : Int) := k90070.trans q90062
              refine wp_of e187 c187_316 (xg_K (pc' := 319) lf_9_166 w90068 g0 sh_42 (by decide) (by decide) rfl q90071 rfl ?_)
              refine wp_of e187 c187_319 (rw_dup (pc' := 320) rfl rfl ?_)
              have k90072 : H90066 rp 3 = H89969 rp 3 := ((wq_u_t e90067 g90065 grp rfl 3).trans ((wq_u_t e90058 g90056 grp rfl 3).trans ((wq_u_t e90049 g90047 grp rfl 3).trans ((wq_u_t e90040 g90038 grp rfl 3).trans ((wq_u_t e90031 g90029 grp rfl 3).trans ((wq_u_t e90022 g90020 grp rfl 3).trans ((wq_u_t e90013 g90011 grp rfl 3).trans ((wq_u_t e90004 g90002 grp rfl 3).trans (wq_u_t e89995 g89993 grp rfl 3)))))))))
              refine wp_of e187 c187_320 (xg_I (pc' := 323) lf_9_188 w90068 grp sh_54 (by decide) (by decide) ty_54_3 rfl rfl (fun b90073 b90074 => ?_))
              refine wp_of e187 c187_323 (rw_iconst (pc' := 324) rfl ?_)
              refine wp_of e187 c187_324 (rw_iadd (pc' := 325) rfl ?_)
              refine wp_of e187 c187_325 (xp_I (pc' := 328) lf_9_188 w90068 grp sh_54 (by decide) (by decide) ty_54_3 rfl rfl (by omega) (by omega) ⟨by omega, by omega⟩ rfl (fun H90075 e90076 w90077 => ?_))
              have f90078 := f90069.put' e90076 grp rfl
              have k90079 : H90075 rp 3 = (H90066 rp 3) + 1 := wq_u_s e90076
              have k90080 : H90075 r0 9 = H89969 r0 9 := ((wq_u_t e90076 grp g0 rfl 9).trans ((wq_u_t e90067 g90065 g0 rfl 9).trans ((wq_u_t e90058 g90056 g0 rfl 9).trans ((wq_u_t e90049 g90047 g0 rfl 9).trans ((wq_u_t e90040 g90038 g0 rfl 9).trans ((wq_u_t e90031 g90029 g0 rfl 9).trans ((wq_u_t e90022 g90020 g0 rfl 9).trans ((wq_u_t e90013 g90011 g0 rfl 9).trans ((wq_u_t e90004 g90002 g0 rfl 9).trans (wq_u_t e89995 g89993 g0 rfl 9))))))))))
              have k90081 : H90075 r0 10 = H89969 r0 10 := ((wq_u_t e90076 grp g0 rfl 10).trans ((wq_u_t e90067 g90065 g0 rfl 10).trans ((wq_u_t e90058 g90056 g0 rfl 10).trans ((wq_u_t e90049 g90047 g0 rfl 10).trans ((wq_u_t e90040 g90038 g0 rfl 10).trans ((wq_u_t e90031 g90029 g0 rfl 10).trans ((wq_u_t e90022 g90020 g0 rfl 10).trans ((wq_u_t e90013 g90011 g0 rfl 10).trans ((wq_u_t e90004 g90002 g0 rfl 10).trans (wq_u_t e89995 g89993 g0 rfl 10))))))))))
              have k90082 : wOV H90075 r0 = wOV H89969 r0 := ((wOV_fr w90068 g0 ((wfr.rf (l := [(54, 3)])).put' e90076 grp rfl) rfl).trans ((wOV_fr w90059 g0 ((wfr.rf (l := [(63, 999)])).put' e90067 g90065 rfl) rfl).trans ((wOV_fr w90050 g0 ((wfr.rf (l := [(62, 999)])).put' e90058 g90056 rfl) rfl).trans ((wOV_fr w90041 g0 ((wfr.rf (l := [(61, 999)])).put' e90049 g90047 rfl) rfl).trans ((wOV_fr w90032 g0 ((wfr.rf (l := [(60, 999)])).put' e90040 g90038 rfl) rfl).trans ((wOV_fr w90023 g0 ((wfr.rf (l := [(59, 999)])).put' e90031 g90029 rfl) rfl).trans ((wOV_fr w90014 g0 ((wfr.rf (l := [(58, 999)])).put' e90022 g90020 rfl) rfl).trans ((wOV_fr w90005 g0 ((wfr.rf (l := [(57, 999)])).put' e90013 g90011 rfl) rfl).trans ((wOV_fr w89996 g0 ((wfr.rf (l := [(56, 999)])).put' e90004 g90002 rfl) rfl).trans (wOV_fr w89973 g0 ((wfr.rf (l := [(55, 999)])).put' e89995 g89993 rfl) rfl))))))))))
              have k90083 : wJ H90075 r0 = wJ H89969 r0 := ((wJ_fr w90068 g0 ((wfr.rf (l := [(54, 3)])).put' e90076 grp rfl) rfl).trans ((wJ_fr w90059 g0 ((wfr.rf (l := [(63, 999)])).put' e90067 g90065 rfl) rfl).trans ((wJ_fr w90050 g0 ((wfr.rf (l := [(62, 999)])).put' e90058 g90056 rfl) rfl).trans ((wJ_fr w90041 g0 ((wfr.rf (l := [(61, 999)])).put' e90049 g90047 rfl) rfl).trans ((wJ_fr w90032 g0 ((wfr.rf (l := [(60, 999)])).put' e90040 g90038 rfl) rfl).trans ((wJ_fr w90023 g0 ((wfr.rf (l := [(59, 999)])).put' e90031 g90029 rfl) rfl).trans ((wJ_fr w90014 g0 ((wfr.rf (l := [(58, 999)])).put' e90022 g90020 rfl) rfl).trans ((wJ_fr w90005 g0 ((wfr.rf (l := [(57, 999)])).put' e90013 g90011 rfl) rfl).trans ((wJ_fr w89996 g0 ((wfr.rf (l := [(56, 999)])).put' e90004 g90002 rfl) rfl).trans (wJ_fr w89973 g0 ((wfr.rf (l := [(55, 999)])).put' e89995 g89993 rfl) rfl))))))))))
              have k90085 : H90075 rp 10 = H89994 rp 10 := ((wq_u_j e90076 rfl).trans ((wq_u_t e90067 g90065 grp rfl 10).trans ((wq_u_t e90058 g90056 grp rfl 10).trans ((wq_u_t e90049 g90047 grp rfl 10).trans ((wq_u_t e90040 g90038 grp rfl 10).trans ((wq_u_t e90031 g90029 grp rfl 10).trans ((wq_u_t e90022 g90020 grp rfl 10).trans ((wq_u_t e90013 g90011 grp rfl 10).trans (wq_u_t e90004 g90002 grp rfl 10)))))))))
              have q90086 : H90075 rp 10 = (r90000 : Int) := k90085.trans q90001
              have k90087 : H90075 rp 11 = H90003 rp 11 := ((wq_u_j e90076 rfl).trans ((wq_u_t e90067 g90065 grp rfl 11).trans ((wq_u_t e90058 g90056 grp rfl 11).trans ((wq_u_t e90049 g90047 grp rfl 11).trans ((wq_u_t e90040 g90038 grp rfl 11).trans ((wq_u_t e90031 g90029 grp rfl 11).trans ((wq_u_t e90022 g90020 grp rfl 11).trans (wq_u_t e90013 g90011 grp rfl 11))))))))
              have q90088 : H90075 rp 11 = (r90009 : Int) := k90087.trans q90010
              have k90089 : H90075 rp 12 = H90012 rp 12 := ((wq_u_j e90076 rfl).trans ((wq_u_t e90067 g90065 grp rfl 12).trans ((wq_u_t e90058 g90056 grp rfl 12).trans ((wq_u_t e90049 g90047 grp rfl 12).trans ((wq_u_t e90040 g90038 grp rfl 12).trans ((wq_u_t e90031 g90029 grp rfl 12).trans (wq_u_t e90022 g90020 grp rfl 12)))))))
              have q90090 : H90075 rp 12 = (r90018 : Int) := k90089.trans q90019
              have k90091 : H90075 rp 13 = H90021 rp 13 := ((wq_u_j e90076 rfl).trans ((wq_u_t e90067 g90065 grp rfl 13).trans ((wq_u_t e90058 g90056 grp rfl 13).trans ((wq_u_t e90049 g90047 grp rfl 13).trans ((wq_u_t e90040 g90038 grp rfl 13).trans (wq_u_t e90031 g90029 grp rfl 13))))))
              have q90092 : H90075 rp 13 = (r90027 : Int) := k90091.trans q90028
              have k90084 : wPI H90075 rp = 1 := wPI_set ((((wPI_fr w89973 grp ((wfr.rf (l := [(55, 999)])).put' e89995 g89993 rfl) rfl).trans ((wPI_fr w89958 grp f89974 rfl).trans ((wPI_fr w89929 grp f89959 rfl).trans ((wPI_fr w89900 grp f89930 rfl).trans ((wPI_fr w89885 grp f89901 rfl).trans ((wPI_fr w89856 grp f89886 rfl).trans ((wPI_fr w89840 grp f89857 rfl).trans ((wPI_fr w89814 grp f89841 rfl).trans ((wPI_fr w89798 grp f89815 rfl).trans ((wPI_fr w89772 grp f89799 rfl).trans ((wPI_fr w89757 grp f89773 rfl).trans ((wPI_fr w89739 grp f89758 rfl).trans ((wPI_fr w89699 grp f89740 rfl).trans ((wPI_fr w89664 grp f89700 rfl).trans (wPI_fr hW grp f89665 rfl)))))))))))))))).trans (by omega)) ((((wq_u_j e90076 rfl).trans ((wq_u_t e90067 g90065 grp rfl 10).trans ((wq_u_t e90058 g90056 grp rfl 10).trans ((wq_u_t e90049 g90047 grp rfl 10).trans ((wq_u_t e90040 g90038 grp rfl 10).trans ((wq_u_t e90031 g90029 grp rfl 10).trans ((wq_u_t e90022 g90020 grp rfl 10).trans ((wq_u_t e90013 g90011 grp rfl 10).trans (wq_u_t e90004 g90002 grp rfl 10)))))))))).symm.trans q90086) ((((wq_u_j e90076 rfl).trans ((wq_u_t e90067 g90065 grp rfl 11).trans ((wq_u_t e90058 g90056 grp rfl 11).trans ((wq_u_t e90049 g90047 grp rfl 11).trans ((wq_u_t e90040 g90038 grp rfl 11).trans ((wq_u_t e90031 g90029 grp rfl 11).trans ((wq_u_t e90022 g90020 grp rfl 11).trans ((wq_u_t e90013 g90011 grp rfl 11).trans (wq_u_t e90004 g90002 grp rfl 11)))))))))).symm.trans q90088) ((((wq_u_j e90076 rfl).trans ((wq_u_t e90067 g90065 grp rfl 12).trans ((wq_u_t e90058 g90056 grp rfl 12).trans ((wq_u_t e90049 g90047 grp rfl 12).trans ((wq_u_t e90040 g90038 grp rfl 12).trans ((wq_u_t e90031 g90029 grp rfl 12).trans ((wq_u_t e90022 g90020 grp rfl 12).trans ((wq_u_t e90013 g90011 grp rfl 12).trans (wq_u_t e90004 g90002 grp rfl 12)))))))))).symm.trans q90090) ((((wq_u_j e90076 rfl).trans ((wq_u_t e90067 g90065 grp rfl 13).trans ((wq_u_t e90058 g90056 grp rfl 13).trans ((wq_u_t e90049 g90047 grp rfl 13).trans ((wq_u_t e90040 g90038 grp rfl 13).trans ((wq_u_t e90031 g90029 grp rfl 13).trans ((wq_u_t e90022 g90020 grp rfl 13).trans ((wq_u_t e90013 g90011 grp rfl 13).trans (wq_u_t e90004 g90002 grp rfl 13)))))))))).symm.trans q90092) q90086 q90088 q90090 q90092 (fun j hj => (((wq_u_t e90076 grp g90002 rfl (j)).trans ((wq_u_t e90067 g90065 g90002 rfl (j)).trans ((wq_u_t e90058 g90056 g90002 rfl (j)).trans ((wq_u_t e90049 g90047 g90002 rfl (j)).trans ((wq_u_t e90040 g90038 g90002 rfl (j)).trans ((wq_u_t e90031 g90029 g90002 rfl (j)).trans ((wq_u_t e90022 g90020 g90002 rfl (j)).trans (wq_u_t e90013 g90011 g90002 rfl (j)))))))))).trans ((wq_u_i e90004 hj).trans (rfl))) ((((wq_u_t e90076 grp g90002 rfl ((H89969 rp 3).toNat)).trans ((wq_u_t e90067 g90065 g90002 rfl ((H89969 rp 3).toNat)).trans ((wq_u_t e90058 g90056 g90002 rfl ((H89969 rp 3).toNat)).trans ((wq_u_t e90049 g90047 g90002 rfl ((H89969 rp 3).toNat)).trans ((wq_u_t e90040 g90038 g90002 rfl ((H89969 rp 3).toNat)).trans ((wq_u_t e90031 g90029 g90002 rfl ((H89969 rp 3).toNat)).trans ((wq_u_t e90022 g90020 g90002 rfl ((H89969 rp 3).toNat)).trans (wq_u_t e90013 g90011 g90002 rfl ((H89969 rp 3).toNat)))))))))).trans (wq_u_s e90004)) (fun j hj => (((wq_u_t e90076 grp g90011 rfl (j)).trans ((wq_u_t e90067 g90065 g90011 rfl (j)).trans ((wq_u_t e90058 g90056 g90011 rfl (j)).trans ((wq_u_t e90049 g90047 g90011 rfl (j)).trans ((wq_u_t e90040 g90038 g90011 rfl (j)).trans ((wq_u_t e90031 g90029 g90011 rfl (j)).trans (wq_u_t e90022 g90020 g90011 rfl (j))))))))).trans ((wq_u_i e90013 hj).trans ((wq_u_t e90004 g90002 g90011 rfl (j))))) ((((wq_u_t e90076 grp g90011 rfl ((H89969 rp 3).toNat)).trans ((wq_u_t e90067 g90065 g90011 rfl ((H89969 rp 3).toNat)).trans ((wq_u_t e90058 g90056 g90011 rfl ((H89969 rp 3).toNat)).trans ((wq_u_t e90049 g90047 g90011 rfl ((H89969 rp 3).toNat)).trans ((wq_u_t e90040 g90038 g90011 rfl ((H89969 rp 3).toNat)).trans ((wq_u_t e90031 g90029 g90011 rfl ((H89969 rp 3).toNat)).trans (wq_u_t e90022 g90020 g90011 rfl ((H89969 rp 3).toNat))))))))).trans (wq_u_s e90013)) (fun j hj => (((wq_u_t e90076 grp g90020 rfl (j)).trans ((wq_u_t e90067 g90065 g90020 rfl (j)).trans ((wq_u_t e90058 g90056 g90020 rfl (j)).trans ((wq_u_t e90049 g90047 g90020 rfl (j)).trans ((wq_u_t e90040 g90038 g90020 rfl (j)).trans (wq_u_t e90031 g90029 g90020 rfl (j)))))))).trans ((wq_u_i e90022 hj).trans (((wq_u_t e90013 g90011 g90020 rfl (j)).trans (wq_u_t e90004 g90002 g90020 rfl (j)))))) ((((wq_u_t e90076 grp g90020 rfl ((H89969 rp 3).toNat)).trans ((wq_u_t e90067 g90065 g90020 rfl ((H89969 rp 3).toNat)).trans ((wq_u_t e90058 g90056 g90020 rfl ((H89969 rp 3).toNat)).trans ((wq_u_t e90049 g90047 g90020 rfl ((H89969 rp 3).toNat)).trans ((wq_u_t e90040 g90038 g90020 rfl ((H89969 rp 3).toNat)).trans (wq_u_t e90031 g90029 g90020 rfl ((H89969 rp 3).toNat)))))))).trans (wq_u_s e90022)) (fun j hj => (((wq_u_t e90076 grp g90029 rfl (j)).trans ((wq_u_t e90067 g90065 g90029 rfl (j)).trans ((wq_u_t e90058 g90056 g90029 rfl (j)).trans ((wq_u_t e90049 g90047 g90029 rfl (j)).trans (wq_u_t e90040 g90038 g90029 rfl (j))))))).trans ((wq_u_i e90031 hj).trans (((wq_u_t e90022 g90020 g90029 rfl (j)).trans ((wq_u_t e90013 g90011 g90029 rfl (j)).trans (wq_u_t e90004 g90002 g90029 rfl (j))))))) ((((wq_u_t e90076 grp g90029 rfl ((H89969 rp 3).toNat)).trans ((wq_u_t e90067 g90065 g90029 rfl ((H89969 rp 3).toNat)).trans ((wq_u_t e90058 g90056 g90029 rfl ((H89969 rp 3).toNat)).trans ((wq_u_t e90049 g90047 g90029 rfl ((H89969 rp 3).toNat)).trans (wq_u_t e90040 g90038 g90029 rfl ((H89969 rp 3).toNat))))))).trans (wq_u_s e90031)) (by omega) (by omega)
              exact wp_return e187 c187_328 rfl ⟨rfl, w90077, f90078, rfl, by omega, by omega, by omega, by omega, by omega, fun a ha ga => ((wq_u_a e90076 ha 3).trans ((wq_u_t e90067 g90065 ga rfl 3).trans ((wq_u_t e90058 g90056 ga rfl 3).trans ((wq_u_t e90049 g90047 ga rfl 3).trans ((wq_u_t e90040 g90038 ga rfl 3).trans ((wq_u_t e90031 g90029 ga rfl 3).trans ((wq_u_t e90022 g90020 ga rfl 3).trans ((wq_u_t e90013 g90011 ga rfl 3).trans ((wq_u_t e90004 g90002 ga rfl 3).trans ((wq_u_t e89995 g89993 ga rfl 3).trans ((f89974 a 3 _ ga rfl).trans ((f89959 a 3 _ ga rfl).trans ((f89930 a 3 _ ga rfl).trans ((f89901 a 3 _ ga rfl).trans ((f89886 a 3 _ ga rfl).trans ((f89857 a 3 _ ga rfl).trans ((f89841 a 3 _ ga rfl).trans ((f89815 a 3 _ ga rfl).trans ((f89799 a 3 _ ga rfl).trans ((f89773 a 3 _ ga rfl).trans ((f89758 a 3 _ ga rfl).trans ((f89740 a 3 _ ga rfl).trans ((f89700 a 3 _ ga rfl).trans (f89665 a 3 _ ga rfl))))))))))))))))))))))))⟩
            · have k90093 : wPI H89969 rp = wPI H rp := ((wPI_fr w89958 grp f89974 rfl).trans ((wPI_fr w89929 grp f89959 rfl).trans ((wPI_fr w89900 grp f89930 rfl).trans ((wPI_fr w89885 grp f89901 rfl).trans ((wPI_fr w89856 grp f89886 rfl).trans ((wPI_fr w89840 grp f89857 rfl).trans ((wPI_fr w89814 grp f89841 rfl).trans ((wPI_fr w89798 grp f89815 rfl).trans ((wPI_fr w89772 grp f89799 rfl).trans ((wPI_fr w89757 grp f89773 rfl).trans ((wPI_fr w89739 grp f89758 rfl).trans ((wPI_fr w89699 grp f89740 rfl).trans ((wPI_fr w89664 grp f89700 rfl).trans (wPI_fr hW grp f89665 rfl))))))))))))))
              exact wp_return e187 c187_199 rfl ⟨rfl, w89973, f89981, rfl, by omega, by omega, by omega, by omega, by omega, fun a ha ga => ((f89974 a 3 _ ga rfl).trans ((f89959 a 3 _ ga rfl).trans ((f89930 a 3 _ ga rfl).trans ((f89901 a 3 _ ga rfl).trans ((f89886 a 3 _ ga rfl).trans ((f89857 a 3 _ ga rfl).trans ((f89841 a 3 _ ga rfl).trans ((f89815 a 3 _ ga rfl).trans ((f89799 a 3 _ ga rfl).trans ((f89773 a 3 _ ga rfl).trans ((f89758 a 3 _ ga rfl).trans ((f89740 a 3 _ ga rfl).trans ((f89700 a 3 _ ga rfl).trans (f89665 a 3 _ ga rfl))))))))))))))⟩
          have f90094 : wfr [(42, 8), (42, 9), (42, 10), (42, 11), (42, 12), (42, 13), (42, 14), (42, 15)] T H89927 H89927 := wfr.rf
          refine wp_of e187 c187_162 (rw_if_eq (p1 := 180) (p2 := 165) (by decide) rfl ⟨by omega, by omega⟩ (fun c90095 => ?_) (fun c90095 => ?_))
          · refine wp_of e187 c187_180 (rw_iconst (pc' := 181) rfl ?_)
            exact wp_lc (ks := [9, 0, 1, 3, 4, 5, 6, 7, 8]) (wl_c rfl (wl_c rfl (wl_c rfl (wl_c rfl (wl_c rfl (wl_c rfl (wl_c rfl (wl_c rfl wl_n)))))))) rfl (by decide) (jn89957 0 H89927 w89929 f90094 ⟨by omega, by omega⟩ (by omega) (by omega) (by omega) (by omega) (by omega))
          · refine wp_of e187 c187_165 (rw_aload_n (pc' := 166) (v := .ref r0) rfl rfl rfl ?_)
            refine wp_of e187 c187_166 (rw_ldcS (pc' := 168) (k := 87) rfl rfl rfl rfl ?_)
            refine wp_of e187 c187_168 (rw_iload (pc' := 170) (z := v89926) rfl rfl ?_)
            refine wp_of e187 c187_170 (rw_iconst (pc' := 171) rfl ?_)
            refine wp_of e187 c187_171 (rw_iadd (pc' := 172) rfl ?_)
            refine wp_of e187 c187_172 (rw_bipush (pc' := 174) (z := 24) rfl (by decide) ?_)
            refine wp_of e187 c187_174 (xc_V (pc' := 177) (r := r0) (as := [.ref 87, vI (v89926 + 1), vI 24]) (st := []) (lm_9_216) rfl rfl (Nat.le_of_ble_eq_true rfl) w89929 g0 sh_42 (by decide) rfl (by decide) (s_182 w89929 g0 rfl ⟨by omega, by omega⟩ ⟨by omega, by omega⟩ (by omega)) (fun R90096 T90097 H90098 p90099 => ?_))
            obtain ⟨e90100, w90102, f90103, z90109, e90101, b90110, p90104, p90105, p90106, p90107, p90108⟩ := p90099
            subst e90100
            subst e90101
            have f90111 := f89937.tr f90103 rfl
            have f90112 := f90094.tr f90103 rfl
            show wp _ _ 187 177 [(9, vI v89926), (0, .ref r0), (1, vL (H89737 r0 15)), (3, vI z89779), (4, vI z89805), (5, vI z89821), (6, vI z89847), (7, vI v89882), (8, vI z89906)] [vI z90109] _ H90098 _
            refine wp_of e187 c187_177 (rw_goto (p1 := 181) (by decide) ?_)
            exact wp_lc (ks := [9, 0, 1, 3, 4, 5, 6, 7, 8]) (wl_c rfl (wl_c rfl (wl_c rfl (wl_c rfl (wl_c rfl (wl_c rfl (wl_c rfl (wl_c rfl wl_n)))))))) rfl (by decide) (jn89957 z90109 H90098 w90102 f90112 ⟨by omega, by omega⟩ (by omega) (by omega) (by omega) (by omega) (by omega))
        have f90113 : wfr [(42, 8), (42, 9), (42, 10), (42, 11), (42, 12), (42, 13), (42, 14), (42, 15)] T H89896 H89896 := wfr.rf
        refine wp_of e187 c187_144 (rw_if_eq (p1 := 157) (p2 := 147) (by decide) rfl ⟨by omega, by omega⟩ (fun c90114 => ?_) (fun c90114 => ?_))
        · refine wp_of e187 c187_157 (rw_iconst (pc' := 158) rfl ?_)
          exact wp_lc (ks := [8, 7, 0, 1, 3, 4, 5, 6]) (wl_c rfl (wl_c rfl (wl_c rfl (wl_c rfl (wl_c rfl (wl_c rfl (wl_c rfl (wl_c rfl wl_n)))))))) rfl (by decide) (jn89928 0 H89896 w89900 f90113 ⟨by omega, by omega⟩ (by omega) (by omega) (by omega) (by omega) (by omega))
        · refine wp_of e187 c187_147 (rw_aload_n (pc' := 148) (v := .ref r0) rfl rfl rfl ?_)
          refine wp_of e187 c187_148 (rw_iconst (pc' := 149) rfl ?_)
          refine wp_of e187 c187_149 (rw_bipush (pc' := 151) (z := 23) rfl (by decide) ?_)
          refine wp_of e187 c187_151 (xc_V (pc' := 154) (r := r0) (as := [vI 0, vI 23]) (st := []) (lm_9_137) rfl rfl (Nat.le_of_ble_eq_true rfl) w89900 g0 sh_42 (by decide) rfl (by decide) (s_184 w89900 g0 ⟨by omega, by omega⟩ ⟨by omega, by omega⟩ (by omega)) (fun R90115 T90116 H90117 p90118 => ?_))
          obtain ⟨e90119, w90121, f90122, z90128, e90120, b90129, p90123, p90124, p90125, p90126, p90127⟩ := p90118
          subst e90119
          subst e90120
          have f90130 := f89908.tr f90122 rfl
          have f90131 := f90113.tr f90122 rfl
          show wp _ _ 187 154 [(8, vI z89906), (7, vI v89882), (0, .ref r0), (1, vL (H89737 r0 15)), (3, vI z89779), (4, vI z89805), (5, vI z89821), (6, vI z89847)] [vI z90128] _ H90117 _
          refine wp_of e187 c187_154 (rw_goto (p1 := 158) (by decide) ?_)
          exact wp_lc (ks := [8, 7, 0, 1, 3, 4, 5, 6]) (wl_c rfl (wl_c rfl (wl_c rfl (wl_c rfl (wl_c rfl (wl_c rfl (wl_c rfl (wl_c rfl wl_n)))))))) rfl (by decide) (jn89928 z90128 H90117 w90121 f90131 ⟨by omega, by omega⟩ (by omega) (by omega) (by omega) (by omega) (by omega))
      have f90132 : wfr [(42, 8), (42, 9), (42, 10), (42, 11), (42, 12), (42, 13), (42, 14), (42, 15)] T H89852 H89852 := wfr.rf
      refine wp_of e187 c187_118 (rw_if_eq (p1 := 131) (p2 := 121) (by decide) rfl ⟨by omega, by omega⟩ (fun c90133 => ?_) (fun c90133 => ?_))
      · refine wp_of e187 c187_131 (rw_iconst (pc' := 132) rfl ?_)
        exact wp_lc (ks := [6, 5, 4, 3, 1, 0]) (wl_c rfl (wl_c rfl (wl_c rfl (wl_c rfl (wl_c rfl (wl_c rfl wl_n)))))) rfl (by decide) (jn89884 (-1) H89852 w89856 f90132 ⟨by omega, by omega⟩ (by omega) (by omega) (by omega) (by omega) (by omega))
      · refine wp_of e187 c187_121 (rw_aload_n (pc' := 122) (v := .ref r0) rfl rfl rfl ?_)
        refine wp_of e187 c187_122 (rw_iconst (pc' := 123) rfl ?_)
        refine wp_of e187 c187_123 (rw_bipush (pc' := 125) (z := 23) rfl (by decide) ?_)
        refine wp_of e187 c187_125 (xc_V (pc' := 128) (r := r0) (as := [vI 0, vI 23]) (st := []) (lm_9_137) rfl rfl (Nat.le_of_ble_eq_true rfl) w89856 g0 sh_42 (by decide) rfl (by decide) (s_184 w89856 g0 ⟨by omega, by omega⟩ ⟨by omega, by omega⟩ (by omega)) (fun R90134 T90135 H90136 p90137 => ?_))
        obtain ⟨e90138, w90140, f90141, z90147, e90139, b90148, p90142, p90143, p90144, p90145, p90146⟩ := p90137
        subst e90138
        subst e90139
        have f90149 := f89864.tr f90141 rfl
        have f90150 := f90132.tr f90141 rfl
        show wp _ _ 187 128 [(6, vI z89847), (5, vI z89821), (4, vI z89805), (3, vI z89779), (1, vL (H89737 r0 15)), (0, .ref r0)] [vI z90147] _ H90136 _
        refine wp_of e187 c187_128 (rw_goto (p1 := 132) (by decide) ?_)
        exact wp_lc (ks := [6, 5, 4, 3, 1, 0]) (wl_c rfl (wl_c rfl (wl_c rfl (wl_c rfl (wl_c rfl (wl_c rfl wl_n)))))) rfl (by decide) (jn89884 z90147 H90136 w90140 f90150 ⟨by omega, by omega⟩ (by omega) (by omega) (by omega) (by omega) (by omega))
    have f90151 : wfr [(42, 9), (42, 13), (42, 14)] T H89697 H89697 := wfr.rf
    refine wp_of e187 c187_37 (rw_icmp_eq (p1 := 45) (p2 := 40) (by decide) rfl ⟨by omega, by omega⟩ ⟨by omega, by omega⟩ (fun c90152 => ?_) (fun c90152 => ?_))
    · exact wp_lc (ks := [0]) (wl_c rfl wl_n) rfl (by decide) (jn89738 H89697 w89699 f90151 (by omega) (by omega) (by omega) (by omega) (by omega))
    · refine wp_of e187 c187_40 (rw_aload_n (pc' := 41) (v := .ref r0) rfl rfl rfl ?_)
      refine wp_of e187 c187_41 (rw_iconst (pc' := 42) rfl ?_)
      refine wp_of e187 c187_42 (xc_V (pc' := 45) (r := r0) (as := [vI 3]) (st := []) (lm_9_121) rfl rfl (Nat.le_of_ble_eq_true rfl) w89699 g0 sh_42 (by decide) rfl (by decide) (s_181 w89699 g0 ⟨by omega, by omega⟩ (by omega)) (fun R90153 T90154 H90155 p90156 => ?_))
      obtain ⟨e90157, w90159, f90160, e90158, p90161, p90162, p90163, p90164, p90165, p90166⟩ := p90156
      subst e90157
      subst e90158
      have f90167 := f89706.tr f90160 rfl
      have f90168 := f90151.tr f90160 rfl
      show wp _ _ 187 45 [(0, .ref r0)] [] _ H90155 _
      exact wp_lc (ks := [0]) (wl_c rfl wl_n) rfl (by decide) (jn89738 H90155 w90159 f90168 (by omega) (by omega) (by omega) (by omega) (by omega))
  have f90169 : wfr [(42, 9), (42, 13), (42, 14)] T H89660 H89660 := wfr.rf
  refine wp_of e187 c187_17 (rw_if_ne (p1 := 25) (p2 := 20) (by decide) rfl ⟨by omega, by omega⟩ (fun c90170 => ?_) (fun c90170 => ?_))
  · exact wp_lc (ks := [0]) (wl_c rfl wl_n) rfl (by decide) (jn89698 H89660 w89664 f90169 (by omega) (by omega) (by omega) (by omega) (by omega))
  · refine wp_of e187 c187_20 (rw_aload_n (pc' := 21) (v := .ref r0) rfl rfl rfl ?_)
    refine wp_of e187 c187_21 (rw_iconst (pc' := 22) rfl ?_)
    refine wp_of e187 c187_22 (xc_V (pc' := 25) (r := r0) (as := [vI 1]) (st := []) (lm_9_121) rfl rfl (Nat.le_of_ble_eq_true rfl) w89664 g0 sh_42 (by decide) rfl (by decide) (s_181 w89664 g0 ⟨by omega, by omega⟩ (by omega)) (fun R90171 T90172 H90173 p90174 => ?_))
    obtain ⟨e90175, w90177, f90178, e90176, p90179, p90180, p90181, p90182, p90183, p90184⟩ := p90174
    subst e90175
    subst e90176
    have f90185 := f89671.tr f90178 rfl
    have f90186 := f90169.tr f90178 rfl
    show wp _ _ 187 25 [(0, .ref r0)] [] _ H90173 _
    exact wp_lc (ks := [0]) (wl_c rfl wl_n) rfl (by decide) (jn89698 H90173 w90177 f90186 (by omega) (by omega) (by omega) (by omega) (by omega))
