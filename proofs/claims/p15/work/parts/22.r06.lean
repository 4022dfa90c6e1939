/-! methods of the reference (own work, written by wip/gen2/sx.py) -/
/-! StrikeAwakeModel.agrees()I -/
theorem e237 : wq_en 237 = some (9, 2, false, some FieldType.int) := rfl
theorem cg237_0 : mc_cd 237 0 = some (.aload_n 0, 1) ∧ mc_cd 237 1 = some (.iconst 0, 1) ∧ mc_cd 237 2 = some (.putfield 48, 3) ∧ mc_cd 237 5 = some (.aload_n 0, 1) ∧ mc_cd 237 6 = some (.invokevirtual 412, 3) ∧ mc_cd 237 9 = some (.istore_n 1, 1) ∧ mc_cd 237 10 = some (.iload_n 1, 1) ∧ mc_cd 237 11 = some (.ifCond .le 11, 3) := by decide +kernel
theorem c237_0 : mc_cd 237 0 = some (.aload_n 0, 1) := cg237_0.1
theorem c237_1 : mc_cd 237 1 = some (.iconst 0, 1) := cg237_0.2.1
theorem c237_2 : mc_cd 237 2 = some (.putfield 48, 3) := cg237_0.2.2.1
theorem c237_5 : mc_cd 237 5 = some (.aload_n 0, 1) := cg237_0.2.2.2.1
theorem c237_6 : mc_cd 237 6 = some (.invokevirtual 412, 3) := cg237_0.2.2.2.2.1
theorem c237_9 : mc_cd 237 9 = some (.istore_n 1, 1) := cg237_0.2.2.2.2.2.1
theorem c237_10 : mc_cd 237 10 = some (.iload_n 1, 1) := cg237_0.2.2.2.2.2.2.1
theorem c237_11 : mc_cd 237 11 = some (.ifCond .le 11, 3) := cg237_0.2.2.2.2.2.2.2
theorem cg237_14 : mc_cd 237 14 = some (.aload_n 0, 1) ∧ mc_cd 237 15 = some (.iload_n 1, 1) ∧ mc_cd 237 16 = some (.invokevirtual 54, 3) ∧ mc_cd 237 19 = some (.goto 23, 3) ∧ mc_cd 237 22 = some (.aload_n 0, 1) ∧ mc_cd 237 23 = some (.aload_n 0, 1) ∧ mc_cd 237 24 = some (.aload_n 0, 1) ∧ mc_cd 237 25 = some (.getfield 36, 3) := by decide +kernel
theorem c237_14 : mc_cd 237 14 = some (.aload_n 0, 1) := cg237_14.1
theorem c237_15 : mc_cd 237 15 = some (.iload_n 1, 1) := cg237_14.2.1
theorem c237_16 : mc_cd 237 16 = some (.invokevirtual 54, 3) := cg237_14.2.2.1
theorem c237_19 : mc_cd 237 19 = some (.goto 23, 3) := cg237_14.2.2.2.1
theorem c237_22 : mc_cd 237 22 = some (.aload_n 0, 1) := cg237_14.2.2.2.2.1
theorem c237_23 : mc_cd 237 23 = some (.aload_n 0, 1) := cg237_14.2.2.2.2.2.1
theorem c237_24 : mc_cd 237 24 = some (.aload_n 0, 1) := cg237_14.2.2.2.2.2.2.1
theorem c237_25 : mc_cd 237 25 = some (.getfield 36, 3) := cg237_14.2.2.2.2.2.2.2
theorem cg237_28 : mc_cd 237 28 = some (.invokevirtual 418, 3) ∧ mc_cd 237 31 = some (.ifCond .eq 7, 3) ∧ mc_cd 237 34 = some (.iconst 1, 1) ∧ mc_cd 237 35 = some (.goto 4, 3) ∧ mc_cd 237 38 = some (.iconst 0, 1) ∧ mc_cd 237 39 = some (.invokevirtual 58, 3) ∧ mc_cd 237 42 = some (.ireturn, 1) := by decide +kernel
theorem c237_28 : mc_cd 237 28 = some (.invokevirtual 418, 3) := cg237_28.1
theorem c237_31 : mc_cd 237 31 = some (.ifCond .eq 7, 3) := cg237_28.2.1
theorem c237_34 : mc_cd 237 34 = some (.iconst 1, 1) := cg237_28.2.2.1
theorem c237_35 : mc_cd 237 35 = some (.goto 4, 3) := cg237_28.2.2.2.1
theorem c237_38 : mc_cd 237 38 = some (.iconst 0, 1) := cg237_28.2.2.2.2.1
theorem c237_39 : mc_cd 237 39 = some (.invokevirtual 58, 3) := cg237_28.2.2.2.2.2.1
theorem c237_42 : mc_cd 237 42 = some (.ireturn, 1) := cg237_28.2.2.2.2.2.2
/-! StrikeAwakeModel.takes(I)V -/
theorem e243 : wq_en 243 = some (9, 4, false, none) := rfl
theorem cg243_0 : mc_cd 243 0 = some (.iload_n 1, 1) ∧ mc_cd 243 1 = some (.istore_n 2, 1) ∧ mc_cd 243 2 = some (.aload_n 0, 1) ∧ mc_cd 243 3 = some (.getfield 337, 3) ∧ mc_cd 243 6 = some (.getfield 188, 3) ∧ mc_cd 243 9 = some (.iconst 1, 1) ∧ mc_cd 243 10 = some (.isub, 1) ∧ mc_cd 243 11 = some (.istore_n 3, 1) := by decide +kernel
theorem c243_0 : mc_cd 243 0 = some (.iload_n 1, 1) := cg243_0.1
theorem c243_1 : mc_cd 243 1 = some (.istore_n 2, 1) := cg243_0.2.1
theorem c243_2 : mc_cd 243 2 = some (.aload_n 0, 1) := cg243_0.2.2.1
theorem c243_3 : mc_cd 243 3 = some (.getfield 337, 3) := cg243_0.2.2.2.1
theorem c243_6 : mc_cd 243 6 = some (.getfield 188, 3) := cg243_0.2.2.2.2.1
theorem c243_9 : mc_cd 243 9 = some (.iconst 1, 1) := cg243_0.2.2.2.2.2.1
theorem c243_10 : mc_cd 243 10 = some (.isub, 1) := cg243_0.2.2.2.2.2.2.1
theorem c243_11 : mc_cd 243 11 = some (.istore_n 3, 1) := cg243_0.2.2.2.2.2.2.2
theorem cg243_12 : mc_cd 243 12 = some (.iload_n 3, 1) ∧ mc_cd 243 13 = some (.ifCond .lt 32, 3) ∧ mc_cd 243 16 = some (.aload_n 0, 1) ∧ mc_cd 243 17 = some (.getfield 39, 3) ∧ mc_cd 243 20 = some (.iload_n 3, 1) ∧ mc_cd 243 21 = some (.iload_n 2, 1) ∧ mc_cd 243 22 = some (.aload_n 0, 1) ∧ mc_cd 243 23 = some (.getfield 21, 3) := by decide +kernel
theorem c243_12 : mc_cd 243 12 = some (.iload_n 3, 1) := cg243_12.1
theorem c243_13 : mc_cd 243 13 = some (.ifCond .lt 32, 3) := cg243_12.2.1
theorem c243_16 : mc_cd 243 16 = some (.aload_n 0, 1) := cg243_12.2.2.1
theorem c243_17 : mc_cd 243 17 = some (.getfield 39, 3) := cg243_12.2.2.2.1
theorem c243_20 : mc_cd 243 20 = some (.iload_n 3, 1) := cg243_12.2.2.2.2.1
theorem c243_21 : mc_cd 243 21 = some (.iload_n 2, 1) := cg243_12.2.2.2.2.2.1
theorem c243_22 : mc_cd 243 22 = some (.aload_n 0, 1) := cg243_12.2.2.2.2.2.2.1
theorem c243_23 : mc_cd 243 23 = some (.getfield 21, 3) := cg243_12.2.2.2.2.2.2.2
theorem cg243_26 : mc_cd 243 26 = some (.iload_n 3, 1) ∧ mc_cd 243 27 = some (.iaload, 1) ∧ mc_cd 243 28 = some (.irem, 1) ∧ mc_cd 243 29 = some (.iastore, 1) ∧ mc_cd 243 30 = some (.iload_n 2, 1) ∧ mc_cd 243 31 = some (.aload_n 0, 1) ∧ mc_cd 243 32 = some (.getfield 21, 3) ∧ mc_cd 243 35 = some (.iload_n 3, 1) := by decide +kernel
theorem c243_26 : mc_cd 243 26 = some (.iload_n 3, 1) := cg243_26.1
theorem c243_27 : mc_cd 243 27 = some (.iaload, 1) := cg243_26.2.1
theorem c243_28 : mc_cd 243 28 = some (.irem, 1) := cg243_26.2.2.1
theorem c243_29 : mc_cd 243 29 = some (.iastore, 1) := cg243_26.2.2.2.1
theorem c243_30 : mc_cd 243 30 = some (.iload_n 2, 1) := cg243_26.2.2.2.2.1
theorem c243_31 : mc_cd 243 31 = some (.aload_n 0, 1) := cg243_26.2.2.2.2.2.1
theorem c243_32 : mc_cd 243 32 = some (.getfield 21, 3) := cg243_26.2.2.2.2.2.2.1
theorem c243_35 : mc_cd 243 35 = some (.iload_n 3, 1) := cg243_26.2.2.2.2.2.2.2
theorem cg243_36 : mc_cd 243 36 = some (.iaload, 1) ∧ mc_cd 243 37 = some (.idiv, 1) ∧ mc_cd 243 38 = some (.istore_n 2, 1) ∧ mc_cd 243 39 = some (.iinc 3 (-1), 3) ∧ mc_cd 243 42 = some (.goto (-30), 3) ∧ mc_cd 243 45 = some (.return_, 1) := by decide +kernel
theorem c243_36 : mc_cd 243 36 = some (.iaload, 1) := cg243_36.1
theorem c243_37 : mc_cd 243 37 = some (.idiv, 1) := cg243_36.2.1
theorem c243_38 : mc_cd 243 38 = some (.istore_n 2, 1) := cg243_36.2.2.1
theorem c243_39 : mc_cd 243 39 = some (.iinc 3 (-1), 3) := cg243_36.2.2.2.1
theorem c243_42 : mc_cd 243 42 = some (.goto (-30), 3) := cg243_36.2.2.2.2.1
theorem c243_45 : mc_cd 243 45 = some (.return_, 1) := cg243_36.2.2.2.2.2
abbrev q_243 (r0 : Nat) (a1 : Int) (pp : Nat) (T : wq_T) (H : wq_H) : Option Value → wq_T → wq_H → Prop := fun r T' H' => T = T' ∧ WT T H' ∧ wfr [(51, 999)] T H H' ∧ none = r
set_option maxHeartbeats 4000000 in
theorem s_243 {kt : Nat → Option mc_E} {T : wq_T} {H : wq_H} {r0 : Nat} {a1 : Int} {pp : Nat} (hW : WT T H) (g0 : T.2.2.2 r0 = some 42) (i1 : 0 ≤ a1 ∧ a1 ≤ 2147483647) (qpp : H r0 3 = (pp : Int)) (gpp : T.2.2.2 pp = some 54) (p0 : 0 < wLM H r0) : wpc kt 1 243 [.ref r0, vI a1] T H (q_243 r0 a1 pp T H) := by
  refine wp_enter e243 (Nat.le_of_ble_eq_true rfl) rfl ?_
  have f0 : wfr [(51, 999)] T H H := wfr.rf
  show wp _ _ 243 0 [(0, .ref r0), (1, vI a1)] [] _ H _
  refine wp_of e243 c243_0 (rw_iload_n (pc' := 1) (z := a1) rfl rfl ?_)
  refine wp_of e243 c243_1 (rw_istore_n (pc' := 2) (z := a1) (L' := [(2, vI a1), (0, .ref r0), (1, vI a1)]) rfl rfl rfl ?_)
  refine wp_of e243 c243_2 (rw_aload_n (pc' := 3) (v := .ref r0) rfl rfl rfl ?_)
  refine wp_of e243 c243_3 (xg_K (pc' := 6) lf_9_337 hW g0 sh_42 (by decide) (by decide) rfl qpp rfl ?_)
  refine wp_of e243 c243_6 (xg_I (pc' := 9) lf_9_188 hW gpp sh_54 (by decide) (by decide) ty_54_3 rfl rfl (fun b134670 b134671 => ?_))
  refine wp_of e243 c243_9 (rw_iconst (pc' := 10) rfl ?_)
  refine wp_of e243 c243_10 (rw_isub (pc' := 11) rfl ?_)
  refine wp_of e243 c243_11 (rw_istore_n (pc' := 12) (z := (H pp 3) - 1) (L' := [(3, vI ((H pp 3) - 1)), (2, vI a1), (0, .ref r0), (1, vI a1)]) rfl rfl rfl ?_)
  have lp134716 : ∀ (n134717 : Nat) (v134719 : Int) (v134720 : Int) (H134721 : wq_H), WT T H134721 → wfr [(51, 999)] T H H134721 → ((-1) ≤ v134719 ∧ v134719 ≤ 5) → (0 ≤ v134720 ∧ v134720 ≤ 2147483647) → (v134719 ≤ H134721 pp 3 - 1) → (v134719 - (-1)).toNat = n134717 → wp kt 0 243 12 [(3, vI v134719), (2, vI v134720), (0, .ref r0)] [] T H134721 (q_243 r0 a1 pp T H) := by
    intro n134717
    induction n134717 using Nat.strongRecOn with
    | _ n134717 ih134718 =>
      intro v134719 v134720 H134721 w134722 f134723 b134724 b134725 x134726 m134727
      have f134728 := f0.tr f134723 rfl
      have k134729 : H134721 pp 3 = H pp 3 := (f134723 pp 3 _ gpp rfl)
      have k134730 : wLM H134721 r0 = wLM H r0 := (wLM_fr hW g0 f134723 rfl)
      obtain ⟨r134731, q134732, g134733⟩ := w134722.ref g0 (t' := 45) (n := 33) (j := 21) (p := 0) (q := 0) rfl (by decide) rfl
      have k134734 : H134721 r0 3 = H r0 3 := (f134723 r0 3 _ g0 rfl)
      have q134735 : H134721 r0 3 = (pp : Int) := k134734.trans qpp
      have hx : 0 ≤ v134719 → 0 < H134721 r134731 (v134719).toNat := fun q => wLM_sp w134722 gpp g134733 q134735 q134732 (by omega) (by omega)
      refine wp_of e243 c243_12 (rw_iload_n (pc' := 13) (z := v134719) rfl rfl ?_)
      refine wp_of e243 c243_13 (rw_if_lt (p1 := 45) (p2 := 16) (by decide) rfl ⟨by omega, by omega⟩ (fun c134736 => ?_) (fun c134736 => ?_))
      · exact wp_return e243 c243_45 rfl ⟨rfl, w134722, f134728, rfl⟩
      · refine wp_of e243 c243_16 (rw_aload_n (pc' := 17) (v := .ref r0) rfl rfl rfl ?_)
        refine wp_of e243 c243_17 (xg_R (pc' := 20) lf_9_39 w134722 g0 sh_42 (by decide) (by decide) ty_42_27 rfl rfl (fun r134737 q134738 g134739 => ?_))
        refine wp_of e243 c243_20 (rw_iload_n (pc' := 21) (z := v134719) rfl rfl ?_)
        refine wp_of e243 c243_21 (rw_iload_n (pc' := 22) (z := v134720) rfl rfl ?_)
        refine wp_of e243 c243_22 (rw_aload_n (pc' := 23) (v := .ref r0) rfl rfl rfl ?_)
        refine wp_of e243 c243_23 (xg_K (pc' := 26) lf_9_21 w134722 g0 sh_42 (by decide) (by decide) rfl q134732 rfl ?_)
        refine wp_of e243 c243_26 (rw_iload_n (pc' := 27) (z := v134719) rfl rfl ?_)
        refine wp_of e243 c243_27 (xa_I (so := 0) (pc' := 28) w134722 g134733 sh_45 (by decide) (ty_45 _) (by omega) (by omega) rfl (fun b134740 b134741 => ?_))
        refine wp_of e243 c243_28 (rw_irem (pc' := 29) rfl ⟨by omega, by omega⟩ (by omega) ?_)
        obtain ⟨v134742, e134743⟩ : ∃ x : Int, x = wq_rem v134720 (H134721 r134731 (v134719.toNat)) := ⟨_, rfl⟩
        rw [← e134743]
        have b134744 : 0 ≤ v134742 ∧ v134742 < (H134721 r134731 (v134719.toNat)) := by
          rw [e134743]
          rw [wq_rem_e ⟨by omega, by omega⟩ ⟨by omega, by omega⟩]; exact ⟨Int.emod_nonneg _ (by omega), Int.emod_lt_of_pos _ (by omega)⟩
        refine wp_of e243 c243_29 (xs_I (pc' := 30) w134722 g134739 (by decide) sh_51 (by decide) (ty_51 _) (by omega) (by omega) ⟨by omega, by omega⟩ (by omega) (by omega) rfl (fun H134745 e134746 w134747 => ?_))
        have f134748 := f134728.put' e134746 g134739 rfl
        have f134749 := f134723.put' e134746 g134739 rfl
        refine wp_of e243 c243_30 (rw_iload_n (pc' := 31) (z := v134720) rfl rfl ?_)
        refine wp_of e243 c243_31 (rw_aload_n (pc' := 32) (v := .ref r0) rfl rfl rfl ?_)
        have k134750 : H134745 r0 21 = H134721 r0 21 := (wq_u_t e134746 g134739 g0 rfl 21)
        have q134751 : H134745 r0 21 = (r134731 : Int) := k134750.trans q134732
        refine wp_of e243 c243_32 (xg_K (pc' := 35) lf_9_21 w134747 g0 sh_42 (by decide) (by decide) rfl q134751 rfl ?_)
        refine wp_of e243 c243_35 (rw_iload_n (pc' := 36) (z := v134719) rfl rfl ?_)
        have k134752 : H134745 r134731 (v134719.toNat) = H134721 r134731 (v134719.toNat) := (wq_u_t e134746 g134739 g134733 rfl (v134719.toNat))
        refine wp_of e243 c243_36 (xa_I (so := 0) (pc' := 37) w134747 g134733 sh_45 (by decide) (ty_45 _) (by omega) (by omega) rfl (fun b134753 b134754 => ?_))
        refine wp_of e243 c243_37 (rw_idiv (pc' := 38) rfl ⟨by omega, by omega⟩ (by omega) ?_)
        obtain ⟨v134755, e134756⟩ : ∃ x : Int, x = wq_div v134720 (H134745 r134731 (v134719.toNat)) := ⟨_, rfl⟩
        rw [← e134756]
        have b134757 : 0 ≤ v134755 ∧ v134755 ≤ v134720 := by
          rw [e134756]
          rw [wq_div_e ⟨by omega, by omega⟩ ⟨by omega, by omega⟩]; exact ⟨Int.ediv_nonneg (by omega) (by omega), Int.ediv_le_self _ (by omega)⟩
        refine wp_of e243 c243_38 (rw_istore_n (pc' := 39) (z := v134755) (L' := [(2, vI v134755), (3, vI v134719), (0, .ref r0)]) rfl rfl rfl ?_)
        refine wp_of e243 c243_39 (rw_iinc (pc' := 42) (z := v134719) (L' := [(3, vI (v134719 + (-1))), (2, vI v134755), (0, .ref r0)]) rfl rfl rfl rfl ?_)
        refine wp_of e243 c243_42 (rw_goto (p1 := 12) (by decide) ?_)
        have k134758 : H134745 pp 3 = H134721 pp 3 := (wq_u_t e134746 g134739 gpp rfl 3)
        have k134759 : wLM H134745 r0 = wLM H134721 r0 := (wLM_fr w134722 g0 ((wfr.rf (l := [(51, 999)])).put' e134746 g134739 rfl) rfl)
        exact wp_lc (ks := [3, 2, 0]) (wl_c rfl (wl_c rfl (wl_c rfl wl_n))) rfl (by decide) (ih134718 _ (by omega) (v134719 + (-1)) v134755 H134745 w134747 f134749 ⟨by omega, by omega⟩ ⟨by omega, by omega⟩ (by omega) rfl)
  exact wp_lc (ks := [3, 2, 0, 1]) (wl_c rfl (wl_c rfl (wl_c rfl wl_n))) rfl (by decide) (lp134716 _ ((H pp 3) - 1) a1 H hW wfr.rf ⟨by omega, by omega⟩ ⟨by omega, by omega⟩ (by omega) rfl)
/-! StrikeAwakeModel.knows()V -/
theorem e242 : wq_en 242 = some (9, 2, false, none) := rfl
theorem cg242_0 : mc_cd 242 0 = some (.aload_n 0, 1) ∧ mc_cd 242 1 = some (.getfield 353, 3) ∧ mc_cd 242 4 = some (.ifCond .eq 4, 3) ∧ mc_cd 242 7 = some (.return_, 1) ∧ mc_cd 242 8 = some (.aload_n 0, 1) ∧ mc_cd 242 9 = some (.iconst 0, 1) ∧ mc_cd 242 10 = some (.putfield 422, 3) ∧ mc_cd 242 13 = some (.iconst 0, 1) := by decide +kernel
theorem c242_0 : mc_cd 242 0 = some (.aload_n 0, 1) := cg242_0.1
theorem c242_1 : mc_cd 242 1 = some (.getfield 353, 3) := cg242_0.2.1
theorem c242_4 : mc_cd 242 4 = some (.ifCond .eq 4, 3) := cg242_0.2.2.1
theorem c242_7 : mc_cd 242 7 = some (.return_, 1) := cg242_0.2.2.2.1
theorem c242_8 : mc_cd 242 8 = some (.aload_n 0, 1) := cg242_0.2.2.2.2.1
theorem c242_9 : mc_cd 242 9 = some (.iconst 0, 1) := cg242_0.2.2.2.2.2.1
theorem c242_10 : mc_cd 242 10 = some (.putfield 422, 3) := cg242_0.2.2.2.2.2.2.1
theorem c242_13 : mc_cd 242 13 = some (.iconst 0, 1) := cg242_0.2.2.2.2.2.2.2
theorem cg242_14 : mc_cd 242 14 = some (.istore_n 1, 1) ∧ mc_cd 242 15 = some (.iload_n 1, 1) ∧ mc_cd 242 16 = some (.i2l, 1) ∧ mc_cd 242 17 = some (.aload_n 0, 1) ∧ mc_cd 242 18 = some (.invokevirtual 376, 3) ∧ mc_cd 242 21 = some (.lcmp, 1) ∧ mc_cd 242 22 = some (.ifCond .ge 48, 3) ∧ mc_cd 242 25 = some (.aload_n 0, 1) := by decide +kernel
theorem c242_14 : mc_cd 242 14 = some (.istore_n 1, 1) := cg242_14.1
theorem c242_15 : mc_cd 242 15 = some (.iload_n 1, 1) := cg242_14.2.1
theorem c242_16 : mc_cd 242 16 = some (.i2l, 1) := cg242_14.2.2.1
theorem c242_17 : mc_cd 242 17 = some (.aload_n 0, 1) := cg242_14.2.2.2.1
theorem c242_18 : mc_cd 242 18 = some (.invokevirtual 376, 3) := cg242_14.2.2.2.2.1
theorem c242_21 : mc_cd 242 21 = some (.lcmp, 1) := cg242_14.2.2.2.2.2.1
theorem c242_22 : mc_cd 242 22 = some (.ifCond .ge 48, 3) := cg242_14.2.2.2.2.2.2.1
theorem c242_25 : mc_cd 242 25 = some (.aload_n 0, 1) := cg242_14.2.2.2.2.2.2.2
theorem cg242_26 : mc_cd 242 26 = some (.iload_n 1, 1) ∧ mc_cd 242 27 = some (.invokevirtual 425, 3) ∧ mc_cd 242 30 = some (.aload_n 0, 1) ∧ mc_cd 242 31 = some (.aload_n 0, 1) ∧ mc_cd 242 32 = some (.getfield 39, 3) ∧ mc_cd 242 35 = some (.invokevirtual 418, 3) ∧ mc_cd 242 38 = some (.ifCond .ne 6, 3) ∧ mc_cd 242 41 = some (.goto 23, 3) := by decide +kernel
theorem c242_26 : mc_cd 242 26 = some (.iload_n 1, 1) := cg242_26.1
theorem c242_27 : mc_cd 242 27 = some (.invokevirtual 425, 3) := cg242_26.2.1
theorem c242_30 : mc_cd 242 30 = some (.aload_n 0, 1) := cg242_26.2.2.1
theorem c242_31 : mc_cd 242 31 = some (.aload_n 0, 1) := cg242_26.2.2.2.1
theorem c242_32 : mc_cd 242 32 = some (.getfield 39, 3) := cg242_26.2.2.2.2.1
theorem c242_35 : mc_cd 242 35 = some (.invokevirtual 418, 3) := cg242_26.2.2.2.2.2.1
theorem c242_38 : mc_cd 242 38 = some (.ifCond .ne 6, 3) := cg242_26.2.2.2.2.2.2.1
theorem c242_41 : mc_cd 242 41 = some (.goto 23, 3) := cg242_26.2.2.2.2.2.2.2
theorem cg242_44 : mc_cd 242 44 = some (.aload_n 0, 1) ∧ mc_cd 242 45 = some (.getfield 42, 3) ∧ mc_cd 242 48 = some (.aload_n 0, 1) ∧ mc_cd 242 49 = some (.getfield 422, 3) ∧ mc_cd 242 52 = some (.iload_n 1, 1) ∧ mc_cd 242 53 = some (.iastore, 1) ∧ mc_cd 242 54 = some (.aload_n 0, 1) ∧ mc_cd 242 55 = some (.dup, 1) := by decide +kernel
theorem c242_44 : mc_cd 242 44 = some (.aload_n 0, 1) := cg242_44.1
theorem c242_45 : mc_cd 242 45 = some (.getfield 42, 3) := cg242_44.2.1
theorem c242_48 : mc_cd 242 48 = some (.aload_n 0, 1) := cg242_44.2.2.1
theorem c242_49 : mc_cd 242 49 = some (.getfield 422, 3) := cg242_44.2.2.2.1
theorem c242_52 : mc_cd 242 52 = some (.iload_n 1, 1) := cg242_44.2.2.2.2.1
theorem c242_53 : mc_cd 242 53 = some (.iastore, 1) := cg242_44.2.2.2.2.2.1
theorem c242_54 : mc_cd 242 54 = some (.aload_n 0, 1) := cg242_44.2.2.2.2.2.2.1
theorem c242_55 : mc_cd 242 55 = some (.dup, 1) := cg242_44.2.2.2.2.2.2.2
theorem cg242_56 : mc_cd 242 56 = some (.getfield 422, 3) ∧ mc_cd 242 59 = some (.iconst 1, 1) ∧ mc_cd 242 60 = some (.iadd, 1) ∧ mc_cd 242 61 = some (.putfield 422, 3) ∧ mc_cd 242 64 = some (.iinc 1 1, 3) ∧ mc_cd 242 67 = some (.goto (-52), 3) ∧ mc_cd 242 70 = some (.aload_n 0, 1) ∧ mc_cd 242 71 = some (.iconst 1, 1) := by decide +kernel
theorem c242_56 : mc_cd 242 56 = some (.getfield 422, 3) := cg242_56.1
theorem c242_59 : mc_cd 242 59 = some (.iconst 1, 1) := cg242_56.2.1
theorem c242_60 : mc_cd 242 60 = some (.iadd, 1) := cg242_56.2.2.1
theorem c242_61 : mc_cd 242 61 = some (.putfield 422, 3) := cg242_56.2.2.2.1
theorem c242_64 : mc_cd 242 64 = some (.iinc 1 1, 3) := cg242_56.2.2.2.2.1
theorem c242_67 : mc_cd 242 67 = some (.goto (-52), 3) := cg242_56.2.2.2.2.2.1
theorem c242_70 : mc_cd 242 70 = some (.aload_n 0, 1) := cg242_56.2.2.2.2.2.2.1
theorem c242_71 : mc_cd 242 71 = some (.iconst 1, 1) := cg242_56.2.2.2.2.2.2.2
theorem cg242_72 : mc_cd 242 72 = some (.putfield 353, 3) ∧ mc_cd 242 75 = some (.return_, 1) := by decide +kernel
theorem c242_72 : mc_cd 242 72 = some (.putfield 353, 3) := cg242_72.1
theorem c242_75 : mc_cd 242 75 = some (.return_, 1) := cg242_72.2
abbrev q_242 (r0 : Nat) (pp : Nat) (T : wq_T) (H : wq_H) : Option Value → wq_T → wq_H → Prop := fun r T' H' => T = T' ∧ WT T H' ∧ wfr [(42, 28), (42, 29), (51, 999), (52, 999)] T H H' ∧ none = r ∧ (wKI H' r0 = 1) ∧ (H' r0 29 = 0 ∨ 0 < wLM H' r0) ∧ (wLM H' r0 = wLM H r0)
set_option maxHeartbeats 4000000 in
theorem s_242 {kt : Nat → Option mc_E} {T : wq_T} {H : wq_H} {r0 : Nat} {pp : Nat} (hW : WT T H) (g0 : T.2.2.2 r0 = some 42) (qpp : H r0 3 = (pp : Int)) (gpp : T.2.2.2 pp = some 54) (p0 : wKI H r0 = 1) (p1 : wLM H r0 ≤ 20000) : wpc kt 6 242 [.ref r0] T H (q_242 r0 pp T H) := by
  refine wp_enter e242 (Nat.le_of_ble_eq_true rfl) rfl ?_
  have f0 : wfr [(42, 28), (42, 29), (51, 999), (52, 999)] T H H := wfr.rf
  show wp _ _ 242 0 [(0, .ref r0)] [] _ H _
  have b135281 : 0 ≤ H r0 29 ∧ H r0 29 ≤ 20000 := hW.box g0 (n := 33) rfl (by decide) rfl
  have hk := wKI_1.mp p0
  refine wp_of e242 c242_0 (rw_aload_n (pc' := 1) (v := .ref r0) rfl rfl rfl ?_)
  refine wp_of e242 c242_1 (xg_I (pc' := 4) lf_9_353 hW g0 sh_42 (by decide) (by decide) ty_42_28 rfl rfl (fun b135282 b135283 => ?_))
  refine wp_of e242 c242_4 (rw_if_eq (p1 := 8) (p2 := 7) (by decide) rfl ⟨by omega, by omega⟩ (fun c135284 => ?_) (fun c135284 => ?_))
  · refine wp_of e242 c242_8 (rw_aload_n (pc' := 9) (v := .ref r0) rfl rfl rfl ?_)
    refine wp_of e242 c242_9 (rw_iconst (pc' := 10) rfl ?_)
    refine wp_of e242 c242_10 (xp_I (pc' := 13) lf_9_422 hW g0 sh_42 (by decide) (by decide) ty_42_29 rfl rfl (by omega) (by omega) ⟨by omega, by omega⟩ rfl (fun H135285 e135286 w135287 => ?_))
    have f135288 := f0.put' e135286 g0 rfl
    have k135289 : H135285 r0 29 = 0 := wq_u_s e135286
    refine wp_of e242 c242_13 (rw_iconst (pc' := 14) rfl ?_)
    refine wp_of e242 c242_14 (rw_istore_n (pc' := 15) (z := 0) (L' := [(1, vI 0), (0, .ref r0)]) rfl rfl rfl ?_)
    have k135744 : wLM H135285 r0 = wLM H r0 := (wLM_fr hW g0 ((wfr.rf (l := [(42, 29)])).put' e135286 g0 rfl) rfl)
    have lp135739 : ∀ (n135740 : Nat) (v135742 : Int) (H135743 : wq_H), WT T H135743 → wfr [(42, 29), (51, 999), (52, 999)] T H135285 H135743 → (0 ≤ v135742 ∧ v135742 ≤ 20000) → (H135743 r0 29 ≤ v135742) → (H135743 r0 29 = 0 ∨ 0 < wLM H135743 r0) → (20000 - v135742).toNat = n135740 → wp kt 5 242 15 [(1, vI v135742), (0, .ref r0)] [] T H135743 (q_242 r0 pp T H) := by
      intro n135740
      induction n135740 using Nat.strongRecOn with
      | _ n135740 ih135741 =>
        intro v135742 H135743 w135745 f135746 b135747 x135748 x135749 m135750
        have f135751 := f135288.tr f135746 rfl
        have k135752 : wLM H135743 r0 = wLM H135285 r0 := (wLM_fr w135287 g0 f135746 rfl)
        refine wp_of e242 c242_15 (rw_iload_n (pc' := 16) (z := v135742) rfl rfl ?_)
        refine wp_of e242 c242_16 (rw_i2l (pc' := 17) rfl ⟨by omega, by omega⟩ ?_)
        refine wp_of e242 c242_17 (rw_aload_n (pc' := 18) (v := .ref r0) rfl rfl rfl ?_)
        have k135753 : H135743 r0 3 = H r0 3 := ((f135746 r0 3 _ g0 rfl).trans (wq_u_j e135286 rfl))
        have q135754 : H135743 r0 3 = (pp : Int) := k135753.trans qpp
        refine wp_of e242 c242_18 (xc_V (pc' := 21) (r := r0) (as := []) (st := [vL v135742]) (lm_9_376) rfl rfl (Nat.le_of_ble_eq_true rfl) w135745 g0 sh_42 (by decide) rfl (by decide) (s_220 w135745 g0 q135754 gpp) (fun R135755 T135756 H135757 p135758 => ?_))
        obtain ⟨e135759, e135761, z135763, e135760, b135764, p135762⟩ := p135758
        subst e135759
        subst e135760
        subst e135761
        show wp _ _ 242 21 [(1, vI v135742), (0, .ref r0)] [vL z135763, vL v135742] _ H135743 _
        refine wp_of e242 c242_21 (rw_lcmp (pc' := 22) rfl ⟨by omega, by omega⟩ ⟨by omega, by omega⟩ ?_)
        have b135765 := wq_cmp_b v135742 z135763
        refine wp_of e242 c242_22 (rw_if_ge (p1 := 70) (p2 := 25) (by decide) rfl ⟨by omega, by omega⟩ (fun c135766 => ?_) (fun c135766 => ?_))
        · refine wp_of e242 c242_70 (rw_aload_n (pc' := 71) (v := .ref r0) rfl rfl rfl ?_)
          refine wp_of e242 c242_71 (rw_iconst (pc' := 72) rfl ?_)
          refine wp_of e242 c242_72 (xp_Z (pc' := 75) lf_9_353 w135745 g0 sh_42 (by decide) (by decide) ty_42_28 rfl rfl (by omega) (by omega) rfl (fun H135767 e135768 w135769 => ?_))
          have f135770 := f135751.put' e135768 g0 rfl
          have k135771 : H135767 r0 28 = 1 := wq_u_s e135768
          have k135772 : H135767 r0 29 = H135743 r0 29 := (wq_u_j e135768 rfl)
          have k135773 : wLM H135767 r0 = wLM H135743 r0 := (wLM_fr w135745 g0 ((wfr.rf (l := [(42, 28)])).put' e135768 g0 rfl) rfl)
          have k135774 : wKI H135767 r0 = 1 := wKI_1.mpr (by omega)
          exact wp_return e242 c242_75 rfl ⟨rfl, w135769, f135770, rfl, by omega, by omega, by omega⟩
        · refine wp_of e242 c242_25 (rw_aload_n (pc' := 26) (v := .ref r0) rfl rfl rfl ?_)
          refine wp_of e242 c242_26 (rw_iload_n (pc' := 27) (z := v135742) rfl rfl ?_)
          refine wp_of e242 c242_27 (xc_V (pc' := 30) (r := r0) (as := [vI v135742]) (st := []) (lm_9_425) rfl rfl (Nat.le_of_ble_eq_true rfl) w135745 g0 sh_42 (by decide) rfl (by decide) (s_243 w135745 g0 ⟨by omega, by omega⟩ q135754 gpp (by omega)) (fun R135775 T135776 H135777 p135778 => ?_))
          obtain ⟨e135779, w135781, f135782, e135780⟩ := p135778
          subst e135779
          subst e135780
          have f135783 := f135751.tr f135782 rfl
          have f135784 := f135746.tr f135782 rfl
          show wp _ _ 242 30 [(1, vI v135742), (0, .ref r0)] [] _ H135777 _
          refine wp_of e242 c242_30 (rw_aload_n (pc' := 31) (v := .ref r0) rfl rfl rfl ?_)
          refine wp_of e242 c242_31 (rw_aload_n (pc' := 32) (v := .ref r0) rfl rfl rfl ?_)
          refine wp_of e242 c242_32 (xg_R (pc' := 35) lf_9_39 w135781 g0 sh_42 (by decide) (by decide) ty_42_27 rfl rfl (fun r135785 q135786 g135787 => ?_))
          have k135788 : H135777 r0 3 = H135743 r0 3 := (f135782 r0 3 _ g0 rfl)
          have q135789 : H135777 r0 3 = (pp : Int) := k135788.trans q135754
          refine wp_of e242 c242_35 (xc_V (pc' := 38) (r := r0) (as := [.ref r135785]) (st := []) (lm_9_418) rfl rfl (Nat.le_of_ble_eq_true rfl) w135781 g0 sh_42 (by decide) rfl (by decide) (s_238_m_lot w135781 g0 g135787 q135789 gpp) (fun R135790 T135791 H135792 p135793 => ?_))
          obtain ⟨e135794, e135796, z135797, e135795, b135798⟩ := p135793
          subst e135794
          subst e135795
          subst e135796
          show wp _ _ 242 38 [(1, vI v135742), (0, .ref r0)] [vI z135797] _ H135777 _
          refine wp_of e242 c242_38 (rw_if_ne (p1 := 44) (p2 := 41) (by decide) rfl ⟨by omega, by omega⟩ (fun c135799 => ?_) (fun c135799 => ?_))
          · refine wp_of e242 c242_44 (rw_aload_n (pc' := 45) (v := .ref r0) rfl rfl rfl ?_)
            refine wp_of e242 c242_45 (xg_R (pc' := 48) lf_9_42 w135781 g0 sh_42 (by decide) (by decide) ty_42_30 rfl rfl (fun r135800 q135801 g135802 => ?_))
            refine wp_of e242 c242_48 (rw_aload_n (pc' := 49) (v := .ref r0) rfl rfl rfl ?_)
            have k135803 : H135777 r0 29 = H135743 r0 29 := (f135782 r0 29 _ g0 rfl)
            refine wp_of e242 c242_49 (xg_I (pc' := 52) lf_9_422 w135781 g0 sh_42 (by decide) (by decide) ty_42_29 rfl rfl (fun b135804 b135805 => ?_))
            refine wp_of e242 c242_52 (rw_iload_n (pc' := 53) (z := v135742) rfl rfl ?_)
            refine wp_of e242 c242_53 (xs_I (pc' := 54) w135781 g135802 (by decide) sh_52 (by decide) (ty_52 _) (by omega) (by omega) ⟨by omega, by omega⟩ (by omega) (by omega) rfl (fun H135806 e135807 w135808 => ?_))
            have f135809 := f135783.put' e135807 g135802 rfl
            have f135810 := f135784.put' e135807 g135802 rfl
            refine wp_of e242 c242_54 (rw_aload_n (pc' := 55) (v := .ref r0) rfl rfl rfl ?_)
            refine wp_of e242 c242_55 (rw_dup (pc' := 56) rfl rfl ?_)
            have k135811 : H135806 r0 29 = H135777 r0 29 := (wq_u_t e135807 g135802 g0 rfl 29)
            refine wp_of e242 c242_56 (xg_I (pc' := 59) lf_9_422 w135808 g0 sh_42 (by decide) (by decide) ty_42_29 rfl rfl (fun b135812 b135813 => ?_))
            refine wp_of e242 c242_59 (rw_iconst (pc' := 60) rfl ?_)
            refine wp_of e242 c242_60 (rw_iadd (pc' := 61) rfl ?_)
            refine wp_of e242 c242_61 (xp_I (pc' := 64) lf_9_422 w135808 g0 sh_42 (by decide) (by decide) ty_42_29 rfl rfl (by omega) (by omega) ⟨by omega, by omega⟩ rfl (fun H135814 e135815 w135816 => ?_))
            have f135817 := f135809.put' e135815 g0 rfl
            have f135818 := f135810.put' e135815 g0 rfl
            have k135819 : H135814 r0 29 = (H135806 r0 29) + 1 := wq_u_s e135815
            refine wp_of e242 c242_64 (rw_iinc (pc' := 67) (z := v135742) (L' := [(1, vI (v135742 + 1)), (0, .ref r0)]) rfl rfl rfl rfl ?_)
            refine wp_of e242 c242_67 (rw_goto (p1 := 15) (by decide) ?_)
            have k135820 : wLM H135814 r0 = wLM H135743 r0 := ((wLM_fr w135808 g0 ((wfr.rf (l := [(42, 29)])).put' e135815 g0 rfl) rfl).trans ((wLM_fr w135781 g0 ((wfr.rf (l := [(52, 999)])).put' e135807 g135802 rfl) rfl).trans (wLM_fr w135745 g0 f135782 rfl)))
            exact wp_lc (ks := [1, 0]) (wl_c rfl (wl_c rfl wl_n)) rfl (by decide) (ih135741 _ (by omega) (v135742 + 1) H135814 w135816 f135818 ⟨by omega, by omega⟩ (by omega) (by omega) rfl)
          · refine wp_of e242 c242_41 (rw_goto (p1 := 64) (by decide) ?_)
            refine wp_of e242 c242_64 (rw_iinc (pc' := 67) (z := v135742) (L' := [(1, vI (v135742 + 1)), (0, .ref r0)]) rfl rfl rfl rfl ?_)
            refine wp_of e242 c242_67 (rw_goto (p1 := 15) (by decide) ?_)
            have k135821 : H135777 r0 29 = H135743 r0 29 := (f135782 r0 29 _ g0 rfl)
            have k135822 : wLM H135777 r0 = wLM H135743 r0 := (wLM_fr w135745 g0 f135782 rfl)
            exact wp_lc (ks := [1, 0]) (wl_c rfl (wl_c rfl wl_n)) rfl (by decide) (ih135741 _ (by omega) (v135742 + 1) H135777 w135781 f135784 ⟨by omega, by omega⟩ (by omega) (by omega) rfl)
    exact wp_lc (ks := [1, 0]) (wl_c rfl (wl_c rfl wl_n)) rfl (by decide) (lp135739 _ 0 H135285 w135287 wfr.rf ⟨by omega, by omega⟩ (by omega) (by omega) rfl)
  · exact wp_return e242 c242_7 rfl ⟨rfl, hW, f0, rfl, by omega, by omega, by omega⟩
/-! StrikeAwakeModel.refusesWorlds(Z)I -/
theorem e241 : wq_en 241 = some (9, 2, false, some FieldType.int) := rfl
theorem cg241_0 : mc_cd 241 0 = some (.iload_n 1, 1) ∧ mc_cd 241 1 = some (.ifCond .ne 5, 3) ∧ mc_cd 241 4 = some (.iconst 1, 1) ∧ mc_cd 241 5 = some (.ireturn, 1) ∧ mc_cd 241 6 = some (.aload_n 0, 1) ∧ mc_cd 241 7 = some (.invokevirtual 376, 3) ∧ mc_cd 241 10 = some (.ldc2_w 428, 3) ∧ mc_cd 241 13 = some (.lcmp, 1) := by decide +kernel
theorem c241_0 : mc_cd 241 0 = some (.iload_n 1, 1) := cg241_0.1
theorem c241_1 : mc_cd 241 1 = some (.ifCond .ne 5, 3) := cg241_0.2.1
theorem c241_4 : mc_cd 241 4 = some (.iconst 1, 1) := cg241_0.2.2.1
theorem c241_5 : mc_cd 241 5 = some (.ireturn, 1) := cg241_0.2.2.2.1
theorem c241_6 : mc_cd 241 6 = some (.aload_n 0, 1) := cg241_0.2.2.2.2.1
theorem c241_7 : mc_cd 241 7 = some (.invokevirtual 376, 3) := cg241_0.2.2.2.2.2.1
theorem c241_10 : mc_cd 241 10 = some (.ldc2_w 428, 3) := cg241_0.2.2.2.2.2.2.1
theorem c241_13 : mc_cd 241 13 = some (.lcmp, 1) := cg241_0.2.2.2.2.2.2.2
theorem cg241_14 : mc_cd 241 14 = some (.ifCond .le 5, 3) ∧ mc_cd 241 17 = some (.iconst 3, 1) ∧ mc_cd 241 18 = some (.ireturn, 1) ∧ mc_cd 241 19 = some (.aload_n 0, 1) ∧ mc_cd 241 20 = some (.invokevirtual 430, 3) ∧ mc_cd 241 23 = some (.iconst 0, 1) ∧ mc_cd 241 24 = some (.ireturn, 1) := by decide +kernel
theorem c241_14 : mc_cd 241 14 = some (.ifCond .le 5, 3) := cg241_14.1
theorem c241_17 : mc_cd 241 17 = some (.iconst 3, 1) := cg241_14.2.1
theorem c241_18 : mc_cd 241 18 = some (.ireturn, 1) := cg241_14.2.2.1
theorem c241_19 : mc_cd 241 19 = some (.aload_n 0, 1) := cg241_14.2.2.2.1
theorem c241_20 : mc_cd 241 20 = some (.invokevirtual 430, 3) := cg241_14.2.2.2.2.1
theorem c241_23 : mc_cd 241 23 = some (.iconst 0, 1) := cg241_14.2.2.2.2.2.1
theorem c241_24 : mc_cd 241 24 = some (.ireturn, 1) := cg241_14.2.2.2.2.2.2
abbrev q_241 (r0 : Nat) (a1 : Int) (T : wq_T) (H : wq_H) : Option Value → wq_T → wq_H → Prop := fun r T' H' => T = T' ∧ WT T H' ∧ wfr [(42, 28), (42, 29), (51, 999), (52, 999)] T H H' ∧ ∃ z : Int, some (vI z) = r ∧ (0 ≤ z ∧ z ≤ 6) ∧ (z ≠ 0 ∨ a1 = 1) ∧ (z ≠ 0 ∨ wLM H' r0 ≤ 20000) ∧ (wKI H' r0 = 1) ∧ (z ≠ 0 ∨ H' r0 29 = 0 ∨ 0 < wLM H' r0)
set_option maxHeartbeats 4000000 in
theorem s_241 {kt : Nat → Option mc_E} {T : wq_T} {H : wq_H} {r0 : Nat} {a1 : Int} (hW : WT T H) (g0 : T.2.2.2 r0 = some 42) (i1 : 0 ≤ a1 ∧ a1 ≤ 1) (p0 : a1 = 0 ∨ H r0 3 ≠ -1) (p1 : wKI H r0 = 1) : wpc kt 7 241 [.ref r0, vI a1] T H (q_241 r0 a1 T H) := by
  refine wp_enter e241 (Nat.le_of_ble_eq_true rfl) rfl ?_
  have f0 : wfr [(42, 28), (42, 29), (51, 999), (52, 999)] T H H := wfr.rf
  show wp _ _ 241 0 [(0, .ref r0), (1, vI a1)] [] _ H _
  refine wp_of e241 c241_0 (rw_iload_n (pc' := 1) (z := a1) rfl rfl ?_)
  refine wp_of e241 c241_1 (rw_if_ne (p1 := 6) (p2 := 4) (by decide) rfl ⟨by omega, by omega⟩ (fun c135851 => ?_) (fun c135851 => ?_))
  · refine wp_of e241 c241_6 (rw_aload_n (pc' := 7) (v := .ref r0) rfl rfl rfl ?_)
    obtain ⟨r135852, q135853, g135854⟩ := (hW.opt g0 (t' := 54) (n := 33) (j := 3) (p := 0) (q := 0) rfl (by decide) rfl).resolve_left (by omega)
    refine wp_of e241 c241_7 (xc_V (pc' := 10) (r := r0) (as := []) (st := []) (lm_9_376) rfl rfl (Nat.le_of_ble_eq_true rfl) hW g0 sh_42 (by decide) rfl (by decide) (s_220 hW g0 q135853 g135854) (fun R135855 T135856 H135857 p135858 => ?_))
    obtain ⟨e135859, e135861, z135863, e135860, b135864, p135862⟩ := p135858
    subst e135859
    subst e135860
    subst e135861
    show wp _ _ 241 10 [(0, .ref r0), (1, vI a1)] [vL z135863] _ H _
    refine wp_of e241 c241_10 (rw_ldc2 (pc' := 13) (z := 20000) rfl rfl rfl ?_)
    refine wp_of e241 c241_13 (rw_lcmp (pc' := 14) rfl ⟨by omega, by omega⟩ ⟨by omega, by omega⟩ ?_)
    have b135865 := wq_cmp_b z135863 20000
    refine wp_of e241 c241_14 (rw_if_le (p1 := 19) (p2 := 17) (by decide) rfl ⟨by omega, by omega⟩ (fun c135866 => ?_) (fun c135866 => ?_))
    · refine wp_of e241 c241_19 (rw_aload_n (pc' := 20) (v := .ref r0) rfl rfl rfl ?_)
      refine wp_of e241 c241_20 (xc_V (pc' := 23) (r := r0) (as := []) (st := []) (lm_9_430) rfl rfl (Nat.le_of_ble_eq_true rfl) hW g0 sh_42 (by decide) rfl (by decide) (s_242 hW g0 q135853 g135854 (by omega) (by omega)) (fun R135867 T135868 H135869 p135870 => ?_))
      obtain ⟨e135871, w135873, f135874, e135872, p135875, p135876, p135877⟩ := p135870
      subst e135871
      subst e135872
      have f135878 := f0.tr f135874 rfl
      show wp _ _ 241 23 [(0, .ref r0), (1, vI a1)] [] _ H135869 _
      refine wp_of e241 c241_23 (rw_iconst (pc' := 24) rfl ?_)
      exact wp_ireturn e241 c241_24 rfl ⟨rfl, w135873, f135878, 0, rfl, ⟨by omega, by omega⟩, by omega, by omega, by omega, by omega⟩
    · refine wp_of e241 c241_17 (rw_iconst (pc' := 18) rfl ?_)
      exact wp_ireturn e241 c241_18 rfl ⟨rfl, hW, f0, 3, rfl, ⟨by omega, by omega⟩, by omega, by omega, by omega, by omega⟩
  · refine wp_of e241 c241_4 (rw_iconst (pc' := 5) rfl ?_)
    exact wp_ireturn e241 c241_5 rfl ⟨rfl, hW, f0, 1, rfl, ⟨by omega, by omega⟩, by omega, by omega, by omega, by omega⟩
/-! StrikeAwakeModel.worlds()I -/
theorem e240 : wq_en 240 = some (9, 2, false, some FieldType.int) := rfl
theorem cg240_0 : mc_cd 240 0 = some (.aload_n 0, 1) ∧ mc_cd 240 1 = some (.iconst 0, 1) ∧ mc_cd 240 2 = some (.putfield 48, 3) ∧ mc_cd 240 5 = some (.aload_n 0, 1) ∧ mc_cd 240 6 = some (.aload_n 0, 1) ∧ mc_cd 240 7 = some (.getfield 337, 3) ∧ mc_cd 240 10 = some (.ifnull 7, 3) ∧ mc_cd 240 13 = some (.iconst 1, 1) := by decide +kernel
theorem c240_0 : mc_cd 240 0 = some (.aload_n 0, 1) := cg240_0.1
theorem c240_1 : mc_cd 240 1 = some (.iconst 0, 1) := cg240_0.2.1
theorem c240_2 : mc_cd 240 2 = some (.putfield 48, 3) := cg240_0.2.2.1
theorem c240_5 : mc_cd 240 5 = some (.aload_n 0, 1) := cg240_0.2.2.2.1
theorem c240_6 : mc_cd 240 6 = some (.aload_n 0, 1) := cg240_0.2.2.2.2.1
theorem c240_7 : mc_cd 240 7 = some (.getfield 337, 3) := cg240_0.2.2.2.2.2.1
theorem c240_10 : mc_cd 240 10 = some (.ifnull 7, 3) := cg240_0.2.2.2.2.2.2.1
theorem c240_13 : mc_cd 240 13 = some (.iconst 1, 1) := cg240_0.2.2.2.2.2.2.2
theorem cg240_14 : mc_cd 240 14 = some (.goto 4, 3) ∧ mc_cd 240 17 = some (.iconst 0, 1) ∧ mc_cd 240 18 = some (.invokevirtual 433, 3) ∧ mc_cd 240 21 = some (.istore_n 1, 1) ∧ mc_cd 240 22 = some (.iload_n 1, 1) ∧ mc_cd 240 23 = some (.ifCond .le 11, 3) ∧ mc_cd 240 26 = some (.aload_n 0, 1) ∧ mc_cd 240 27 = some (.iload_n 1, 1) := by decide +kernel
theorem c240_14 : mc_cd 240 14 = some (.goto 4, 3) := cg240_14.1
theorem c240_17 : mc_cd 240 17 = some (.iconst 0, 1) := cg240_14.2.1
theorem c240_18 : mc_cd 240 18 = some (.invokevirtual 433, 3) := cg240_14.2.2.1
theorem c240_21 : mc_cd 240 21 = some (.istore_n 1, 1) := cg240_14.2.2.2.1
theorem c240_22 : mc_cd 240 22 = some (.iload_n 1, 1) := cg240_14.2.2.2.2.1
theorem c240_23 : mc_cd 240 23 = some (.ifCond .le 11, 3) := cg240_14.2.2.2.2.2.1
theorem c240_26 : mc_cd 240 26 = some (.aload_n 0, 1) := cg240_14.2.2.2.2.2.2.1
theorem c240_27 : mc_cd 240 27 = some (.iload_n 1, 1) := cg240_14.2.2.2.2.2.2.2
theorem cg240_28 : mc_cd 240 28 = some (.invokevirtual 54, 3) ∧ mc_cd 240 31 = some (.goto 11, 3) ∧ mc_cd 240 34 = some (.aload_n 0, 1) ∧ mc_cd 240 35 = some (.aload_n 0, 1) ∧ mc_cd 240 36 = some (.getfield 422, 3) ∧ mc_cd 240 39 = some (.invokevirtual 58, 3) ∧ mc_cd 240 42 = some (.ireturn, 1) := by decide +kernel
theorem c240_28 : mc_cd 240 28 = some (.invokevirtual 54, 3) := cg240_28.1
theorem c240_31 : mc_cd 240 31 = some (.goto 11, 3) := cg240_28.2.1
theorem c240_34 : mc_cd 240 34 = some (.aload_n 0, 1) := cg240_28.2.2.1
theorem c240_35 : mc_cd 240 35 = some (.aload_n 0, 1) := cg240_28.2.2.2.1
theorem c240_36 : mc_cd 240 36 = some (.getfield 422, 3) := cg240_28.2.2.2.2.1
theorem c240_39 : mc_cd 240 39 = some (.invokevirtual 58, 3) := cg240_28.2.2.2.2.2.1
theorem c240_42 : mc_cd 240 42 = some (.ireturn, 1) := cg240_28.2.2.2.2.2.2
abbrev q_240 (r0 : Nat) (T : wq_T) (H : wq_H) : Option Value → wq_T → wq_H → Prop := fun r T' H' => T = T' ∧ WT T H' ∧ wfr [(42, 0), (42, 1), (42, 2), (42, 28), (42, 29), (51, 999), (52, 999)] T H H' ∧ ∃ z : Int, some (vI z) = r ∧ ((-2147483648) ≤ z ∧ z ≤ 2147483647) ∧ (wKI H' r0 = 1)
set_option maxHeartbeats 4000000 in
theorem s_240 {kt : Nat → Option mc_E} {T : wq_T} {H : wq_H} {r0 : Nat} (hW : WT T H) (g0 : T.2.2.2 r0 = some 42) (p0 : wKI H r0 = 1) : wpc kt 8 240 [.ref r0] T H (q_240 r0 T H) := by
  refine wp_enter e240 (Nat.le_of_ble_eq_true rfl) rfl ?_
  have f0 : wfr [(42, 0), (42, 1), (42, 2), (42, 28), (42, 29), (51, 999), (52, 999)] T H H := wfr.rf
  show wp _ _ 240 0 [(0, .ref r0)] [] _ H _
  refine wp_of e240 c240_0 (rw_aload_n (pc' := 1) (v := .ref r0) rfl rfl rfl ?_)
  refine wp_of e240 c240_1 (rw_iconst (pc' := 2) rfl ?_)
  refine wp_of e240 c240_2 (xp_I (pc' := 5) lf_9_48 hW g0 sh_42 (by decide) (by decide) ty_42_0 rfl rfl (by omega) (by omega) ⟨by omega, by omega⟩ rfl (fun H135959 e135960 w135961 => ?_))
  have f135962 := f0.put' e135960 g0 rfl
  have k135963 : H135959 r0 0 = 0 := wq_u_s e135960
  refine wp_of e240 c240_5 (rw_aload_n (pc' := 6) (v := .ref r0) rfl rfl rfl ?_)
  refine wp_of e240 c240_6 (rw_aload_n (pc' := 7) (v := .ref r0) rfl rfl rfl ?_)
  refine wp_of e240 c240_7 (xg_O (pc' := 10) lf_9_337 w135961 g0 sh_42 (by decide) (by decide) ty_42_3 rfl rfl (fun q135965 => ?_) (fun r135964 q135965 g135966 => ?_))
  · refine wp_of e240 c240_10 (rw_ifnull_n (p1 := 17) (p2 := 13) (by decide) rfl ?_)
    refine wp_of e240 c240_17 (rw_iconst (pc' := 18) rfl ?_)
    have k135967 : wKI H135959 r0 = wKI H r0 := (wKI_fr hW g0 ((wfr.rf (l := [(42, 0)])).put' e135960 g0 rfl) rfl)
    refine wp_of e240 c240_18 (xc_V (pc' := 21) (r := r0) (as := [vI 0]) (st := []) (lm_9_433) rfl rfl (Nat.le_of_ble_eq_true rfl) w135961 g0 sh_42 (by decide) rfl (by decide) (s_241 w135961 g0 ⟨by omega, by omega⟩ (by omega) (by omega)) (fun R135968 T135969 H135970 p135971 => ?_))
    obtain ⟨e135972, w135974, f135975, z135980, e135973, b135981, p135976, p135977, p135978, p135979⟩ := p135971
    subst e135972
    subst e135973
    have f135982 := f135962.tr f135975 rfl
    show wp _ _ 240 21 [(0, .ref r0)] [vI z135980] _ H135970 _
    refine wp_of e240 c240_21 (rw_istore_n (pc' := 22) (z := z135980) (L' := [(1, vI z135980), (0, .ref r0)]) rfl rfl rfl ?_)
    refine wp_of e240 c240_22 (rw_iload_n (pc' := 23) (z := z135980) rfl rfl ?_)
    refine wp_of e240 c240_23 (rw_if_le (p1 := 34) (p2 := 26) (by decide) rfl ⟨by omega, by omega⟩ (fun c135983 => ?_) (fun c135983 => ?_))
    · exfalso
      omega
    · refine wp_of e240 c240_26 (rw_aload_n (pc' := 27) (v := .ref r0) rfl rfl rfl ?_)
      refine wp_of e240 c240_27 (rw_iload_n (pc' := 28) (z := z135980) rfl rfl ?_)
      refine wp_of e240 c240_28 (xc_V (pc' := 31) (r := r0) (as := [vI z135980]) (st := []) (lm_9_54) rfl rfl (Nat.le_of_ble_eq_true rfl) w135974 g0 sh_42 (by decide) rfl (by decide) (s_170 w135974 g0 ⟨by omega, by omega⟩) (fun R135984 T135985 H135986 p135987 => ?_))
      obtain ⟨e135988, w135990, f135991, z135992, e135989, b135993⟩ := p135987
      subst e135988
      subst e135989
      have f135994 := f135982.tr f135991 rfl
      show wp _ _ 240 31 [(1, vI z135980), (0, .ref r0)] [vI z135992] _ H135986 _
      refine wp_of e240 c240_31 (rw_goto (p1 := 42) (by decide) ?_)
      have k135995 : wKI H135986 r0 = wKI H135970 r0 := (wKI_fr w135974 g0 f135991 rfl)
      exact wp_ireturn e240 c240_42 rfl ⟨rfl, w135990, f135994, z135992, rfl, ⟨by omega, by omega⟩, by omega⟩
  · refine wp_of e240 c240_10 (rw_ifnull_r (p1 := 17) (p2 := 13) (by decide) rfl ?_)
    refine wp_of e240 c240_13 (rw_iconst (pc' := 14) rfl ?_)
    refine wp_of e240 c240_14 (rw_goto (p1 := 18) (by decide) ?_)
    have k135996 : wKI H135959 r0 = wKI H r0 := (wKI_fr hW g0 ((wfr.rf (l := [(42, 0)])).put' e135960 g0 rfl) rfl)
    refine wp_of e240 c240_18 (xc_V (pc' := 21) (r := r0) (as := [vI 1]) (st := []) (lm_9_433) rfl rfl (Nat.le_of_ble_eq_true rfl) w135961 g0 sh_42 (by decide) rfl (by decide) (s_241 w135961 g0 ⟨by omega, by omega⟩ (by omega) (by omega)) (fun R135997 T135998 H135999 p136000 => ?_))
    obtain ⟨e136001, w136003, f136004, z136009, e136002, b136010, p136005, p136006, p136007, p136008⟩ := p136000
    subst e136001
    subst e136002
    have f136011 := f135962.tr f136004 rfl
    show wp _ _ 240 21 [(0, .ref r0)] [vI z136009] _ H135999 _
    refine wp_of e240 c240_21 (rw_istore_n (pc' := 22) (z := z136009) (L' := [(1, vI z136009), (0, .ref r0)]) rfl rfl rfl ?_)
    refine wp_of e240 c240_22 (rw_iload_n (pc' := 23) (z := z136009) rfl rfl ?_)
    refine wp_of e240 c240_23 (rw_if_le (p1 := 34) (p2 := 26) (by decide) rfl ⟨by omega, by omega⟩ (fun c136012 => ?_) (fun c136012 => ?_))
    · refine wp_of e240 c240_34 (rw_aload_n (pc' := 35) (v := .ref r0) rfl rfl rfl ?_)
      refine wp_of e240 c240_35 (rw_aload_n (pc' := 36) (v := .ref r0) rfl rfl rfl ?_)
      refine wp_of e240 c240_36 (xg_I (pc' := 39) lf_9_422 w136003 g0 sh_42 (by decide) (by decide) ty_42_29 rfl rfl (fun b136013 b136014 => ?_))
      refine wp_of e240 c240_39 (xc_V (pc' := 42) (r := r0) (as := [vI (H135999 r0 29)]) (st := []) (lm_9_58) rfl rfl (Nat.le_of_ble_eq_true rfl) w136003 g0 sh_42 (by decide) rfl (by decide) (s_209 w136003 g0 ⟨by omega, by omega⟩) (fun R136015 T136016 H136017 p136018 => ?_))
      obtain ⟨e136019, w136021, f136022, z136023, e136020, b136024⟩ := p136018
      subst e136019
      subst e136020
      have f136025 := f136011.tr f136022 rfl
      show wp _ _ 240 42 [(1, vI z136009), (0, .ref r0)] [vI z136023] _ H136017 _
      have k136026 : wKI H136017 r0 = wKI H135999 r0 := (wKI_fr w136003 g0 f136022 rfl)
      exact wp_ireturn e240 c240_42 rfl ⟨rfl, w136021, f136025, z136023, rfl, ⟨by omega, by omega⟩, by omega⟩
    · refine wp_of e240 c240_26 (rw_aload_n (pc' := 27) (v := .ref r0) rfl rfl rfl ?_)
      refine wp_of e240 c240_27 (rw_iload_n (pc' := 28) (z := z136009) rfl rfl ?_)
      refine wp_of e240 c240_28 (xc_V (pc' := 31) (r := r0) (as := [vI z136009]) (st := []) (lm_9_54) rfl rfl (Nat.le_of_ble_eq_true rfl) w136003 g0 sh_42 (by decide) rfl (by decide) (s_170 w136003 g0 ⟨by omega, by omega⟩) (fun R136027 T136028 H136029 p136030 => ?_))
      obtain ⟨e136031, w136033, f136034, z136035, e136032, b136036⟩ := p136030
      subst e136031
      subst e136032
      have f136037 := f136011.tr f136034 rfl
      show wp _ _ 240 31 [(1, vI z136009), (0, .ref r0)] [vI z136035] _ H136029 _
      refine wp_of e240 c240_31 (rw_goto (p1 := 42) (by decide) ?_)
      have k136038 : wKI H136029 r0 = wKI H135999 r0 := (wKI_fr w136003 g0 f136034 rfl)
      exact wp_ireturn e240 c240_42 rfl ⟨rfl, w136033, f136037, z136035, rfl, ⟨by omega, by omega⟩, by omega⟩
/-! StrikeAwakeModel.can()I -/
theorem e244 : wq_en 244 = some (9, 2, false, some FieldType.int) := rfl
theorem cg244_0 : mc_cd 244 0 = some (.aload_n 0, 1) ∧ mc_cd 244 1 = some (.iconst 0, 1) ∧ mc_cd 244 2 = some (.putfield 48, 3) ∧ mc_cd 244 5 = some (.aload_n 0, 1) ∧ mc_cd 244 6 = some (.aload_n 0, 1) ∧ mc_cd 244 7 = some (.getfield 337, 3) ∧ mc_cd 244 10 = some (.ifnull 7, 3) ∧ mc_cd 244 13 = some (.iconst 1, 1) := by decide +kernel
theorem c244_0 : mc_cd 244 0 = some (.aload_n 0, 1) := cg244_0.1
theorem c244_1 : mc_cd 244 1 = some (.iconst 0, 1) := cg244_0.2.1
theorem c244_2 : mc_cd 244 2 = some (.putfield 48, 3) := cg244_0.2.2.1
theorem c244_5 : mc_cd 244 5 = some (.aload_n 0, 1) := cg244_0.2.2.2.1
theorem c244_6 : mc_cd 244 6 = some (.aload_n 0, 1) := cg244_0.2.2.2.2.1
theorem c244_7 : mc_cd 244 7 = some (.getfield 337, 3) := cg244_0.2.2.2.2.2.1
theorem c244_10 : mc_cd 244 10 = some (.ifnull 7, 3) := cg244_0.2.2.2.2.2.2.1
theorem c244_13 : mc_cd 244 13 = some (.iconst 1, 1) := cg244_0.2.2.2.2.2.2.2
theorem cg244_14 : mc_cd 244 14 = some (.goto 4, 3) ∧ mc_cd 244 17 = some (.iconst 0, 1) ∧ mc_cd 244 18 = some (.invokevirtual 433, 3) ∧ mc_cd 244 21 = some (.istore_n 1, 1) ∧ mc_cd 244 22 = some (.iload_n 1, 1) ∧ mc_cd 244 23 = some (.ifCond .le 11, 3) ∧ mc_cd 244 26 = some (.aload_n 0, 1) ∧ mc_cd 244 27 = some (.iload_n 1, 1) := by decide +kernel
theorem c244_14 : mc_cd 244 14 = some (.goto 4, 3) := cg244_14.1
theorem c244_17 : mc_cd 244 17 = some (.iconst 0, 1) := cg244_14.2.1
theorem c244_18 : mc_cd 244 18 = some (.invokevirtual 433, 3) := cg244_14.2.2.1
theorem c244_21 : mc_cd 244 21 = some (.istore_n 1, 1) := cg244_14.2.2.2.1
theorem c244_22 : mc_cd 244 22 = some (.iload_n 1, 1) := cg244_14.2.2.2.2.1
theorem c244_23 : mc_cd 244 23 = some (.ifCond .le 11, 3) := cg244_14.2.2.2.2.2.1
theorem c244_26 : mc_cd 244 26 = some (.aload_n 0, 1) := cg244_14.2.2.2.2.2.2.1
theorem c244_27 : mc_cd 244 27 = some (.iload_n 1, 1) := cg244_14.2.2.2.2.2.2.2
theorem cg244_28 : mc_cd 244 28 = some (.invokevirtual 54, 3) ∧ mc_cd 244 31 = some (.goto 19, 3) ∧ mc_cd 244 34 = some (.aload_n 0, 1) ∧ mc_cd 244 35 = some (.aload_n 0, 1) ∧ mc_cd 244 36 = some (.getfield 422, 3) ∧ mc_cd 244 39 = some (.ifCond .le 7, 3) ∧ mc_cd 244 42 = some (.iconst 1, 1) ∧ mc_cd 244 43 = some (.goto 4, 3) := by decide +kernel
theorem c244_28 : mc_cd 244 28 = some (.invokevirtual 54, 3) := cg244_28.1
theorem c244_31 : mc_cd 244 31 = some (.goto 19, 3) := cg244_28.2.1
theorem c244_34 : mc_cd 244 34 = some (.aload_n 0, 1) := cg244_28.2.2.1
theorem c244_35 : mc_cd 244 35 = some (.aload_n 0, 1) := cg244_28.2.2.2.1
theorem c244_36 : mc_cd 244 36 = some (.getfield 422, 3) := cg244_28.2.2.2.2.1
theorem c244_39 : mc_cd 244 39 = some (.ifCond .le 7, 3) := cg244_28.2.2.2.2.2.1
theorem c244_42 : mc_cd 244 42 = some (.iconst 1, 1) := cg244_28.2.2.2.2.2.2.1
theorem c244_43 : mc_cd 244 43 = some (.goto 4, 3) := cg244_28.2.2.2.2.2.2.2
theorem cg244_46 : mc_cd 244 46 = some (.iconst 0, 1) ∧ mc_cd 244 47 = some (.invokevirtual 58, 3) ∧ mc_cd 244 50 = some (.ireturn, 1) := by decide +kernel
theorem c244_46 : mc_cd 244 46 = some (.iconst 0, 1) := cg244_46.1
theorem c244_47 : mc_cd 244 47 = some (.invokevirtual 58, 3) := cg244_46.2.1
theorem c244_50 : mc_cd 244 50 = some (.ireturn, 1) := cg244_46.2.2
abbrev q_244 (r0 : Nat) (T : wq_T) (H : wq_H) : Option Value → wq_T → wq_H → Prop := fun r T' H' => T = T' ∧ WT T H' ∧ wfr [(42, 0), (42, 1), (42, 2), (42, 28), (42, 29), (51, 999), (52, 999)] T H H' ∧ ∃ z : Int, some (vI z) = r ∧ ((-2147483648) ≤ z ∧ z ≤ 2147483647) ∧ (wKI H' r0 = 1)
set_option maxHeartbeats 4000000 in
theorem s_244 {kt : Nat → Option mc_E} {T : wq_T} {H : wq_H} {r0 : Nat} (hW : WT T H) (g0 : T.2.2.2 r0 = some 42) (p0 : wKI H r0 = 1) : wpc kt 8 244 [.ref r0] T H (q_244 r0 T H) := by
  refine wp_enter e244 (Nat.le_of_ble_eq_true rfl) rfl ?_
  have f0 : wfr [(42, 0), (42, 1), (42, 2), (42, 28), (42, 29), (51, 999), (52, 999)] T H H := wfr.rf
  show wp _ _ 244 0 [(0, .ref r0)] [] _ H _
  refine wp_of e244 c244_0 (rw_aload_n (pc' := 1) (v := .ref r0) rfl rfl rfl ?_)
  refine wp_of e244 c244_1 (rw_iconst (pc' := 2) rfl ?_)
  refine wp_of e244 c244_2 (xp_I (pc' := 5) lf_9_48 hW g0 sh_42 (by decide) (by decide) ty_42_0 rfl rfl (by omega) (by omega) ⟨by omega, by omega⟩ rfl (fun H136132 e136133 w136134 => ?_))
  have f136135 := f0.put' e136133 g0 rfl
  have k136136 : H136132 r0 0 = 0 := wq_u_s e136133
  refine wp_of e244 c244_5 (rw_aload_n (pc' := 6) (v := .ref r0) rfl rfl rfl ?_)
  refine wp_of e244 c244_6 (rw_aload_n (pc' := 7) (v := .ref r0) rfl rfl rfl ?_)
  refine wp_of e244 c244_7 (xg_O (pc' := 10) lf_9_337 w136134 g0 sh_42 (by decide) (by decide) ty_42_3 rfl rfl (fun q136138 => ?_) (fun r136137 q136138 g136139 => ?_))
  · refine wp_of e244 c244_10 (rw_ifnull_n (p1 := 17) (p2 := 13) (by decide) rfl ?_)
    refine wp_of e244 c244_17 (rw_iconst (pc' := 18) rfl ?_)
    have k136140 : wKI H136132 r0 = wKI H r0 := (wKI_fr hW g0 ((wfr.rf (l := [(42, 0)])).put' e136133 g0 rfl) rfl)
    refine wp_of e244 c244_18 (xc_V (pc' := 21) (r := r0) (as := [vI 0]) (st := []) (lm_9_433) rfl rfl (Nat.le_of_ble_eq_true rfl) w136134 g0 sh_42 (by decide) rfl (by decide) (s_241 w136134 g0 ⟨by omega, by omega⟩ (by omega) (by omega)) (fun R136141 T136142 H136143 p136144 => ?_))
    obtain ⟨e136145, w136147, f136148, z136153, e136146, b136154, p136149, p136150, p136151, p136152⟩ := p136144
    subst e136145
    subst e136146
    have f136155 := f136135.tr f136148 rfl
    show wp _ _ 244 21 [(0, .ref r0)] [vI z136153] _ H136143 _
    refine wp_of e244 c244_21 (rw_istore_n (pc' := 22) (z := z136153) (L' := [(1, vI z136153), (0, .ref r0)]) rfl rfl rfl ?_)
    refine wp_of e244 c244_22 (rw_iload_n (pc' := 23) (z := z136153) rfl rfl ?_)
    refine wp_of e244 c244_23 (rw_if_le (p1 := 34) (p2 := 26) (by decide) rfl ⟨by omega, by omega⟩ (fun c136156 => ?_) (fun c136156 => ?_))
    · exfalso
      omega
    · refine wp_of e244 c244_26 (rw_aload_n (pc' := 27) (v := .ref r0) rfl rfl rfl ?_)
      refine wp_of e244 c244_27 (rw_iload_n (pc' := 28) (z := z136153) rfl rfl ?_)
      refine wp_of e244 c244_28 (xc_V (pc' := 31) (r := r0) (as := [vI z136153]) (st := []) (lm_9_54) rfl rfl (Nat.le_of_ble_eq_true rfl) w136147 g0 sh_42 (by decide) rfl (by decide) (s_170 w136147 g0 ⟨by omega, by omega⟩) (fun R136157 T136158 H136159 p136160 => ?_))
      obtain ⟨e136161, w136163, f136164, z136165, e136162, b136166⟩ := p136160
      subst e136161
      subst e136162
      have f136167 := f136155.tr f136164 rfl
      show wp _ _ 244 31 [(1, vI z136153), (0, .ref r0)] [vI z136165] _ H136159 _
      refine wp_of e244 c244_31 (rw_goto (p1 := 50) (by decide) ?_)
      have k136168 : wKI H136159 r0 = wKI H136143 r0 := (wKI_fr w136147 g0 f136164 rfl)
      exact wp_ireturn e244 c244_50 rfl ⟨rfl, w136163, f136167, z136165, rfl, ⟨by omega, by omega⟩, by omega⟩
  · refine wp_of e244 c244_10 (rw_ifnull_r (p1 := 17) (p2 := 13) (by decide) rfl ?_)
    refine wp_of e244 c244_13 (rw_iconst (pc' := 14) rfl ?_)
    refine wp_of e244 c244_14 (rw_goto (p1 := 18) (by decide) ?_)
    have k136169 : wKI H136132 r0 = wKI H r0 := (wKI_fr hW g0 ((wfr.rf (l := [(42, 0)])).put' e136133 g0 rfl) rfl)
    refine wp_of e244 c244_18 (xc_V (pc' := 21) (r := r0) (as := [vI 1]) (st := []) (lm_9_433) rfl rfl (Nat.le_of_ble_eq_true rfl) w136134 g0 sh_42 (by decide) rfl (by decide) (s_241 w136134 g0 ⟨by omega, by omega⟩ (by omega) (by omega)) (fun R136170 T136171 H136172 p136173 => ?_))
    obtain ⟨e136174, w136176, f136177, z136182, e136175, b136183, p136178, p136179, p136180, p136181⟩ := p136173
    subst e136174
    subst e136175
    have f136184 := f136135.tr f136177 rfl
    show wp _ _ 244 21 [(0, .ref r0)] [vI z136182] _ H136172 _
    refine wp_of e244 c244_21 (rw_istore_n (pc' := 22) (z := z136182) (L' := [(1, vI z136182), (0, .ref r0)]) rfl rfl rfl ?_)
    refine wp_of e244 c244_22 (rw_iload_n (pc' := 23) (z := z136182) rfl rfl ?_)
    refine wp_of e244 c244_23 (rw_if_le (p1 := 34) (p2 := 26) (by decide) rfl ⟨by omega, by omega⟩ (fun c136185 => ?_) (fun c136185 => ?_))
    · refine wp_of e244 c244_34 (rw_aload_n (pc' := 35) (v := .ref r0) rfl rfl rfl ?_)
      refine wp_of e244 c244_35 (rw_aload_n (pc' := 36) (v := .ref r0) rfl rfl rfl ?_)
      refine wp_of e244 c244_36 (xg_I (pc' := 39) lf_9_422 w136176 g0 sh_42 (by decide) (by decide) ty_42_29 rfl rfl (fun b136186 b136187 => ?_))
      refine wp_of e244 c244_39 (rw_if_le (p1 := 46) (p2 := 42) (by decide) rfl ⟨by omega, by omega⟩ (fun c136188 => ?_) (fun c136188 => ?_))
      · refine wp_of e244 c244_46 (rw_iconst (pc' := 47) rfl ?_)
        refine wp_of e244 c244_47 (xc_V (pc' := 50) (r := r0) (as := [vI 0]) (st := []) (lm_9_58) rfl rfl (Nat.le_of_ble_eq_true rfl) w136176 g0 sh_42 (by decide) rfl (by decide) (s_209 w136176 g0 ⟨by omega, by omega⟩) (fun R136189 T136190 H136191 p136192 => ?_))
        obtain ⟨e136193, w136195, f136196, z136197, e136194, b136198⟩ := p136192
        subst e136193
        subst e136194
        have f136199 := f136184.tr f136196 rfl
        show wp _ _ 244 50 [(1, vI z136182), (0, .ref r0)] [vI z136197] _ H136191 _
        have k136200 : wKI H136191 r0 = wKI H136172 r0 := (wKI_fr w136176 g0 f136196 rfl)
        exact wp_ireturn e244 c244_50 rfl ⟨rfl, w136195, f136199, z136197, rfl, ⟨by omega, by omega⟩, by omega⟩
      · refine wp_of e244 c244_42 (rw_iconst (pc' := 43) rfl ?_)
        refine wp_of e244 c244_43 (rw_goto (p1 := 47) (by decide) ?_)
        refine wp_of e244 c244_47 (xc_V (pc' := 50) (r := r0) (as := [vI 1]) (st := []) (lm_9_58) rfl rfl (Nat.le_of_ble_eq_true rfl) w136176 g0 sh_42 (by decide) rfl (by decide) (s_209 w136176 g0 ⟨by omega, by omega⟩) (fun R136201 T136202 H136203 p136204 => ?_))
        obtain ⟨e136205, w136207, f136208, z136209, e136206, b136210⟩ := p136204
        subst e136205
        subst e136206
        have f136211 := f136184.tr f136208 rfl
        show wp _ _ 244 50 [(1, vI z136182), (0, .ref r0)] [vI z136209] _ H136203 _
        have k136212 : wKI H136203 r0 = wKI H136172 r0 := (wKI_fr w136176 g0 f136208 rfl)
        exact wp_ireturn e244 c244_50 rfl ⟨rfl, w136207, f136211, z136209, rfl, ⟨by omega, by omega⟩, by omega⟩
    · refine wp_of e244 c244_26 (rw_aload_n (pc' := 27) (v := .ref r0) rfl rfl rfl ?_)
      refine wp_of e244 c244_27 (rw_iload_n (pc' := 28) (z := z136182) rfl rfl ?_)
      refine wp_of e244 c244_28 (xc_V (pc' := 31) (r := r0) (as := [vI z136182]) (st := []) (lm_9_54) rfl rfl (Nat.le_of_ble_eq_true rfl) w136176 g0 sh_42 (by decide) rfl (by decide) (s_170 w136176 g0 ⟨by omega, by omega⟩) (fun R136213 T136214 H136215 p136216 => ?_))
      obtain ⟨e136217, w136219, f136220, z136221, e136218, b136222⟩ := p136216
      subst e136217
      subst e136218
      have f136223 := f136184.tr f136220 rfl
      show wp _ _ 244 31 [(1, vI z136182), (0, .ref r0)] [vI z136221] _ H136215 _
      refine wp_of e244 c244_31 (rw_goto (p1 := 50) (by decide) ?_)
      have k136224 : wKI H136215 r0 = wKI H136172 r0 := (wKI_fr w136176 g0 f136220 rfl)
      exact wp_ireturn e244 c244_50 rfl ⟨rfl, w136219, f136223, z136221, rfl, ⟨by omega, by omega⟩, by omega⟩
/-! StrikeAwakeModel.world(II)I -/
theorem e245 : wq_en 245 = some (9, 4, false, some FieldType.int) := rfl
theorem cg245_0 : mc_cd 245 0 = some (.aload_n 0, 1) ∧ mc_cd 245 1 = some (.iconst 0, 1) ∧ mc_cd 245 2 = some (.putfield 48, 3) ∧ mc_cd 245 5 = some (.aload_n 0, 1) ∧ mc_cd 245 6 = some (.aload_n 0, 1) ∧ mc_cd 245 7 = some (.iload_n 2, 1) ∧ mc_cd 245 8 = some (.invokevirtual 364, 3) ∧ mc_cd 245 11 = some (.ifCond .eq 11, 3) := by decide +kernel
theorem c245_0 : mc_cd 245 0 = some (.aload_n 0, 1) := cg245_0.1
theorem c245_1 : mc_cd 245 1 = some (.iconst 0, 1) := cg245_0.2.1
theorem c245_2 : mc_cd 245 2 = some (.putfield 48, 3) := cg245_0.2.2.1
theorem c245_5 : mc_cd 245 5 = some (.aload_n 0, 1) := cg245_0.2.2.2.1
theorem c245_6 : mc_cd 245 6 = some (.aload_n 0, 1) := cg245_0.2.2.2.2.1
theorem c245_7 : mc_cd 245 7 = some (.iload_n 2, 1) := cg245_0.2.2.2.2.2.1
theorem c245_8 : mc_cd 245 8 = some (.invokevirtual 364, 3) := cg245_0.2.2.2.2.2.2.1
theorem c245_11 : mc_cd 245 11 = some (.ifCond .eq 11, 3) := cg245_0.2.2.2.2.2.2.2
theorem cg245_14 : mc_cd 245 14 = some (.iload_n 1, 1) ∧ mc_cd 245 15 = some (.ifCond .lt 7, 3) ∧ mc_cd 245 18 = some (.iconst 1, 1) ∧ mc_cd 245 19 = some (.goto 4, 3) ∧ mc_cd 245 22 = some (.iconst 0, 1) ∧ mc_cd 245 23 = some (.invokevirtual 433, 3) ∧ mc_cd 245 26 = some (.istore_n 3, 1) ∧ mc_cd 245 27 = some (.iload_n 3, 1) := by decide +kernel
theorem c245_14 : mc_cd 245 14 = some (.iload_n 1, 1) := cg245_14.1
theorem c245_15 : mc_cd 245 15 = some (.ifCond .lt 7, 3) := cg245_14.2.1
theorem c245_18 : mc_cd 245 18 = some (.iconst 1, 1) := cg245_14.2.2.1
theorem c245_19 : mc_cd 245 19 = some (.goto 4, 3) := cg245_14.2.2.2.1
theorem c245_22 : mc_cd 245 22 = some (.iconst 0, 1) := cg245_14.2.2.2.2.1
theorem c245_23 : mc_cd 245 23 = some (.invokevirtual 433, 3) := cg245_14.2.2.2.2.2.1
theorem c245_26 : mc_cd 245 26 = some (.istore_n 3, 1) := cg245_14.2.2.2.2.2.2.1
theorem c245_27 : mc_cd 245 27 = some (.iload_n 3, 1) := cg245_14.2.2.2.2.2.2.2
theorem cg245_28 : mc_cd 245 28 = some (.ifCond .ne 13, 3) ∧ mc_cd 245 31 = some (.iload_n 1, 1) ∧ mc_cd 245 32 = some (.aload_n 0, 1) ∧ mc_cd 245 33 = some (.getfield 422, 3) ∧ mc_cd 245 36 = some (.if_icmp .lt 5, 3) ∧ mc_cd 245 39 = some (.iconst 1, 1) ∧ mc_cd 245 40 = some (.istore_n 3, 1) ∧ mc_cd 245 41 = some (.iload_n 3, 1) := by decide +kernel
theorem c245_28 : mc_cd 245 28 = some (.ifCond .ne 13, 3) := cg245_28.1
theorem c245_31 : mc_cd 245 31 = some (.iload_n 1, 1) := cg245_28.2.1
theorem c245_32 : mc_cd 245 32 = some (.aload_n 0, 1) := cg245_28.2.2.1
theorem c245_33 : mc_cd 245 33 = some (.getfield 422, 3) := cg245_28.2.2.2.1
theorem c245_36 : mc_cd 245 36 = some (.if_icmp .lt 5, 3) := cg245_28.2.2.2.2.1
theorem c245_39 : mc_cd 245 39 = some (.iconst 1, 1) := cg245_28.2.2.2.2.2.1
theorem c245_40 : mc_cd 245 40 = some (.istore_n 3, 1) := cg245_28.2.2.2.2.2.2.1
theorem c245_41 : mc_cd 245 41 = some (.iload_n 3, 1) := cg245_28.2.2.2.2.2.2.2
theorem cg245_42 : mc_cd 245 42 = some (.ifCond .le 9, 3) ∧ mc_cd 245 45 = some (.aload_n 0, 1) ∧ mc_cd 245 46 = some (.iload_n 3, 1) ∧ mc_cd 245 47 = some (.invokevirtual 54, 3) ∧ mc_cd 245 50 = some (.ireturn, 1) ∧ mc_cd 245 51 = some (.aload_n 0, 1) ∧ mc_cd 245 52 = some (.aload_n 0, 1) ∧ mc_cd 245 53 = some (.getfield 42, 3) := by decide +kernel
theorem c245_42 : mc_cd 245 42 = some (.ifCond .le 9, 3) := cg245_42.1
theorem c245_45 : mc_cd 245 45 = some (.aload_n 0, 1) := cg245_42.2.1
theorem c245_46 : mc_cd 245 46 = some (.iload_n 3, 1) := cg245_42.2.2.1
theorem c245_47 : mc_cd 245 47 = some (.invokevirtual 54, 3) := cg245_42.2.2.2.1
theorem c245_50 : mc_cd 245 50 = some (.ireturn, 1) := cg245_42.2.2.2.2.1
theorem c245_51 : mc_cd 245 51 = some (.aload_n 0, 1) := cg245_42.2.2.2.2.2.1
theorem c245_52 : mc_cd 245 52 = some (.aload_n 0, 1) := cg245_42.2.2.2.2.2.2.1
theorem c245_53 : mc_cd 245 53 = some (.getfield 42, 3) := cg245_42.2.2.2.2.2.2.2
theorem cg245_56 : mc_cd 245 56 = some (.iload_n 1, 1) ∧ mc_cd 245 57 = some (.iaload, 1) ∧ mc_cd 245 58 = some (.invokevirtual 425, 3) ∧ mc_cd 245 61 = some (.aload_n 0, 1) ∧ mc_cd 245 62 = some (.aload_n 0, 1) ∧ mc_cd 245 63 = some (.getfield 39, 3) ∧ mc_cd 245 66 = some (.iload_n 2, 1) ∧ mc_cd 245 67 = some (.iaload, 1) := by decide +kernel
theorem c245_56 : mc_cd 245 56 = some (.iload_n 1, 1) := cg245_56.1
theorem c245_57 : mc_cd 245 57 = some (.iaload, 1) := cg245_56.2.1
theorem c245_58 : mc_cd 245 58 = some (.invokevirtual 425, 3) := cg245_56.2.2.1
theorem c245_61 : mc_cd 245 61 = some (.aload_n 0, 1) := cg245_56.2.2.2.1
theorem c245_62 : mc_cd 245 62 = some (.aload_n 0, 1) := cg245_56.2.2.2.2.1
theorem c245_63 : mc_cd 245 63 = some (.getfield 39, 3) := cg245_56.2.2.2.2.2.1
theorem c245_66 : mc_cd 245 66 = some (.iload_n 2, 1) := cg245_56.2.2.2.2.2.2.1
theorem c245_67 : mc_cd 245 67 = some (.iaload, 1) := cg245_56.2.2.2.2.2.2.2
theorem cg245_68 : mc_cd 245 68 = some (.invokevirtual 58, 3) ∧ mc_cd 245 71 = some (.ireturn, 1) := by decide +kernel
theorem c245_68 : mc_cd 245 68 = some (.invokevirtual 58, 3) := cg245_68.1
theorem c245_71 : mc_cd 245 71 = some (.ireturn, 1) := cg245_68.2
abbrev q_245 (r0 : Nat) (a1 : Int) (a2 : Int) (T : wq_T) (H : wq_H) : Option Value → wq_T → wq_H → Prop := fun r T' H' => T = T' ∧ WT T H' ∧ wfr [(42, 0), (42, 1), (42, 2), (42, 28), (42, 29), (51, 999), (52, 999)] T H H' ∧ ∃ z : Int, some (vI z) = r ∧ ((-2147483648) ≤ z ∧ z ≤ 2147483647) ∧ (wKI H' r0 = 1)
set_option maxHeartbeats 4000000 in
theorem s_245 {kt : Nat → Option mc_E} {T : wq_T} {H : wq_H} {r0 : Nat} {a1 : Int} {a2 : Int} (hW : WT T H) (g0 : T.2.2.2 r0 = some 42) (i1 : (-2147483648) ≤ a1 ∧ a1 ≤ 2147483647) (i2 : (-2147483648) ≤ a2 ∧ a2 ≤ 2147483647) (p0 : wKI H r0 = 1) : wpc kt 8 245 [.ref r0, vI a1, vI a2] T H (q_245 r0 a1 a2 T H) := by
  refine wp_enter e245 (Nat.le_of_ble_eq_true rfl) rfl ?_
  have f0 : wfr [(42, 0), (42, 1), (42, 2), (42, 28), (42, 29), (51, 999), (52, 999)] T H H := wfr.rf
  show wp _ _ 245 0 [(0, .ref r0), (1, vI a1), (2, vI a2)] [] _ H _
  refine wp_of e245 c245_0 (rw_aload_n (pc' := 1) (v := .ref r0) rfl rfl rfl ?_)
  refine wp_of e245 c245_1 (rw_iconst (pc' := 2) rfl ?_)
  refine wp_of e245 c245_2 (xp_I (pc' := 5) lf_9_48 hW g0 sh_42 (by decide) (by decide) ty_42_0 rfl rfl (by omega) (by omega) ⟨by omega, by omega⟩ rfl (fun H136384 e136385 w136386 => ?_))
  have f136387 := f0.put' e136385 g0 rfl
  have k136388 : H136384 r0 0 = 0 := wq_u_s e136385
  refine wp_of e245 c245_5 (rw_aload_n (pc' := 6) (v := .ref r0) rfl rfl rfl ?_)
  refine wp_of e245 c245_6 (rw_aload_n (pc' := 7) (v := .ref r0) rfl rfl rfl ?_)
  refine wp_of e245 c245_7 (rw_iload_n (pc' := 8) (z := a2) rfl rfl ?_)
  refine wp_of e245 c245_8 (xc_V (pc' := 11) (r := r0) (as := [vI a2]) (st := [.ref r0]) (lm_9_364) rfl rfl (Nat.le_of_ble_eq_true rfl) w136386 g0 sh_42 (by decide) rfl (by decide) (s_213 w136386 g0 ⟨by omega, by omega⟩) (fun R136389 T136390 H136391 p136392 => ?_))
  obtain ⟨e136393, e136395, z136397, e136394, b136398, p136396⟩ := p136392
  subst e136393
  subst e136394
  subst e136395
  show wp _ _ 245 11 [(0, .ref r0), (1, vI a1), (2, vI a2)] [vI z136397, .ref r0] _ H136384 _
  refine wp_of e245 c245_11 (rw_if_eq (p1 := 22) (p2 := 14) (by decide) rfl ⟨by omega, by omega⟩ (fun c136399 => ?_) (fun c136399 => ?_))
  · refine wp_of e245 c245_22 (rw_iconst (pc' := 23) rfl ?_)
    have k136400 : wKI H136384 r0 = wKI H r0 := (wKI_fr hW g0 ((wfr.rf (l := [(42, 0)])).put' e136385 g0 rfl) rfl)
    refine wp_of e245 c245_23 (xc_V (pc' := 26) (r := r0) (as := [vI 0]) (st := []) (lm_9_433) rfl rfl (Nat.le_of_ble_eq_true rfl) w136386 g0 sh_42 (by decide) rfl (by decide) (s_241 w136386 g0 ⟨by omega, by omega⟩ (by omega) (by omega)) (fun R136401 T136402 H136403 p136404 => ?_))
    obtain ⟨e136405, w136407, f136408, z136413, e136406, b136414, p136409, p136410, p136411, p136412⟩ := p136404
    subst e136405
    subst e136406
    have f136415 := f136387.tr f136408 rfl
    show wp _ _ 245 26 [(0, .ref r0), (1, vI a1), (2, vI a2)] [vI z136413] _ H136403 _
    refine wp_of e245 c245_26 (rw_istore_n (pc' := 27) (z := z136413) (L' := [(3, vI z136413), (0, .ref r0), (1, vI a1), (2, vI a2)]) rfl rfl rfl ?_)
    refine wp_of e245 c245_27 (rw_iload_n (pc' := 28) (z := z136413) rfl rfl ?_)
    refine wp_of e245 c245_28 (rw_if_ne (p1 := 41) (p2 := 31) (by decide) rfl ⟨by omega, by omega⟩ (fun c136416 => ?_) (fun c136416 => ?_))
    · refine wp_of e245 c245_41 (rw_iload_n (pc' := 42) (z := z136413) rfl rfl ?_)
      refine wp_of e245 c245_42 (rw_if_le (p1 := 51) (p2 := 45) (by decide) rfl ⟨by omega, by omega⟩ (fun c136417 => ?_) (fun c136417 => ?_))
      · exfalso
        omega
      · refine wp_of e245 c245_45 (rw_aload_n (pc' := 46) (v := .ref r0) rfl rfl rfl ?_)
        refine wp_of e245 c245_46 (rw_iload_n (pc' := 47) (z := z136413) rfl rfl ?_)
        refine wp_of e245 c245_47 (xc_V (pc' := 50) (r := r0) (as := [vI z136413]) (st := []) (lm_9_54) rfl rfl (Nat.le_of_ble_eq_true rfl) w136407 g0 sh_42 (by decide) rfl (by decide) (s_170 w136407 g0 ⟨by omega, by omega⟩) (fun R136418 T136419 H136420 p136421 => ?_))
        obtain ⟨e136422, w136424, f136425, z136426, e136423, b136427⟩ := p136421
        subst e136422
        subst e136423
        have f136428 := f136415.tr f136425 rfl
        show wp _ _ 245 50 [(3, vI z136413), (0, .ref r0), (1, vI a1), (2, vI a2)] [vI z136426] _ H136420 _
        have k136429 : wKI H136420 r0 = wKI H136403 r0 := (wKI_fr w136407 g0 f136425 rfl)
        exact wp_ireturn e245 c245_50 rfl ⟨rfl, w136424, f136428, z136426, rfl, ⟨by omega, by omega⟩, by omega⟩
    · exfalso
      omega
  · refine wp_of e245 c245_14 (rw_iload_n (pc' := 15) (z := a1) rfl rfl ?_)
    refine wp_of e245 c245_15 (rw_if_lt (p1 := 22) (p2 := 18) (by decide) rfl ⟨by omega, by omega⟩ (fun c136430 => ?_) (fun c136430 => ?_))
    · refine wp_of e245 c245_22 (rw_iconst (pc' := 23) rfl ?_)
      have k136431 : wKI H136384 r0 = wKI H r0 := (wKI_fr hW g0 ((wfr.rf (l := [(42, 0)])).put' e136385 g0 rfl) rfl)
      refine wp_of e245 c245_23 (xc_V (pc' := 26) (r := r0) (as := [vI 0]) (st := []) (lm_9_433) rfl rfl (Nat.le_of_ble_eq_true rfl) w136386 g0 sh_42 (by decide) rfl (by decide) (s_241 w136386 g0 ⟨by omega, by omega⟩ (by omega) (by omega)) (fun R136432 T136433 H136434 p136435 => ?_))
      obtain ⟨e136436, w136438, f136439, z136444, e136437, b136445, p136440, p136441, p136442, p136443⟩ := p136435
      subst e136436
      subst e136437
      have f136446 := f136387.tr f136439 rfl
      show wp _ _ 245 26 [(0, .ref r0), (1, vI a1), (2, vI a2)] [vI z136444] _ H136434 _
      refine wp_of e245 c245_26 (rw_istore_n (pc' := 27) (z := z136444) (L' := [(3, vI z136444), (0, .ref r0), (1, vI a1), (2, vI a2)]) rfl rfl rfl ?_)
      refine wp_of e245 c245_27 (rw_iload_n (pc' := 28) (z := z136444) rfl rfl ?_)
      refine wp_of e245 c245_28 (rw_if_ne (p1 := 41) (p2 := 31) (by decide) rfl ⟨by omega, by omega⟩ (fun c136447 => ?_) (fun c136447 => ?_))
      · refine wp_of e245 c245_41 (rw_iload_n (pc' := 42) (z := z136444) rfl rfl ?_)
        refine wp_of e245 c245_42 (rw_if_le (p1 := 51) (p2 := 45) (by decide) rfl ⟨by omega, by omega⟩ (fun c136448 => ?_) (fun c136448 => ?_))
        · exfalso
          omega
        · refine wp_of e245 c245_45 (rw_aload_n (pc' := 46) (v := .ref r0) rfl rfl rfl ?_)
          refine wp_of e245 c245_46 (rw_iload_n (pc' := 47) (z := z136444) rfl rfl ?_)
          refine wp_of e245 c245_47 (xc_V (pc' := 50) (r := r0) (as := [vI z136444]) (st := []) (lm_9_54) rfl rfl (Nat.le_of_ble_eq_true rfl) w136438 g0 sh_42 (by decide) rfl (by decide) (s_170 w136438 g0 ⟨by omega, by omega⟩) (fun R136449 T136450 H136451 p136452 => ?_))
          obtain ⟨e136453, w136455, f136456, z136457, e136454, b136458⟩ := p136452
          subst e136453
          subst e136454
          have f136459 := f136446.tr f136456 rfl
          show wp _ _ 245 50 [(3, vI z136444), (0, .ref r0), (1, vI a1), (2, vI a2)] [vI z136457] _ H136451 _
          have k136460 : wKI H136451 r0 = wKI H136434 r0 := (wKI_fr w136438 g0 f136456 rfl)
          exact wp_ireturn e245 c245_50 rfl ⟨rfl, w136455, f136459, z136457, rfl, ⟨by omega, by omega⟩, by omega⟩
      · exfalso
        omega
    · refine wp_of e245 c245_18 (rw_iconst (pc' := 19) rfl ?_)
      refine wp_of e245 c245_19 (rw_goto (p1 := 23) (by decide) ?_)
      have k136461 : wKI H136384 r0 = wKI H r0 := (wKI_fr hW g0 ((wfr.rf (l := [(42, 0)])).put' e136385 g0 rfl) rfl)
      refine wp_of e245 c245_23 (xc_V (pc' := 26) (r := r0) (as := [vI 1]) (st := []) (lm_9_433) rfl rfl (Nat.le_of_ble_eq_true rfl) w136386 g0 sh_42 (by decide) rfl (by decide) (s_241 w136386 g0 ⟨by omega, by omega⟩ (by omega) (by omega)) (fun R136462 T136463 H136464 p136465 => ?_))
      obtain ⟨e136466, w136468, f136469, z136474, e136467, b136475, p136470, p136471, p136472, p136473⟩ := p136465
      subst e136466
      subst e136467
      have f136476 := f136387.tr f136469 rfl
      show wp _ _ 245 26 [(0, .ref r0), (1, vI a1), (2, vI a2)] [vI z136474] _ H136464 _
      refine wp_of e245 c245_26 (rw_istore_n (pc' := 27) (z := z136474) (L' := [(3, vI z136474), (0, .ref r0), (1, vI a1), (2, vI a2)]) rfl rfl rfl ?_)
      refine wp_of e245 c245_27 (rw_iload_n (pc' := 28) (z := z136474) rfl rfl ?_)
      refine wp_of e245 c245_28 (rw_if_ne (p1 := 41) (p2 := 31) (by decide) rfl ⟨by omega, by omega⟩ (fun c136477 => ?_) (fun c136477 => ?_))
      · refine wp_of e245 c245_41 (rw_iload_n (pc' := 42) (z := z136474) rfl rfl ?_)
        refine wp_of e245 c245_42 (rw_if_le (p1 := 51) (p2 := 45) (by decide) rfl ⟨by omega, by omega⟩ (fun c136478 => ?_) (fun c136478 => ?_))
        · exfalso
          omega
        · refine wp_of e245 c245_45 (rw_aload_n (pc' := 46) (v := .ref r0) rfl rfl rfl ?_)
          refine wp_of e245 c245_46 (rw_iload_n (pc' := 47) (z := z136474) rfl rfl ?_)
          refine wp_of e245 c245_47 (xc_V (pc' := 50) (r := r0) (as := [vI z136474]) (st := []) (lm_9_54) rfl rfl (Nat.le_of_ble_eq_true rfl) w136468 g0 sh_42 (by decide) rfl (by decide) (s_170 w136468 g0 ⟨by omega, by omega⟩) (fun R136479 T136480 H136481 p136482 => ?_))
          obtain ⟨e136483, w136485, f136486, z136487, e136484, b136488⟩ := p136482
          subst e136483
          subst e136484
          have f136489 := f136476.tr f136486 rfl
          show wp _ _ 245 50 [(3, vI z136474), (0, .ref r0), (1, vI a1), (2, vI a2)] [vI z136487] _ H136481 _
          have k136490 : wKI H136481 r0 = wKI H136464 r0 := (wKI_fr w136468 g0 f136486 rfl)
          exact wp_ireturn e245 c245_50 rfl ⟨rfl, w136485, f136489, z136487, rfl, ⟨by omega, by omega⟩, by omega⟩
      · refine wp_of e245 c245_31 (rw_iload_n (pc' := 32) (z := a1) rfl rfl ?_)
        refine wp_of e245 c245_32 (rw_aload_n (pc' := 33) (v := .ref r0) rfl rfl rfl ?_)
        refine wp_of e245 c245_33 (xg_I (pc' := 36) lf_9_422 w136468 g0 sh_42 (by decide) (by decide) ty_42_29 rfl rfl (fun b136491 b136492 => ?_))
        refine wp_of e245 c245_36 (rw_icmp_lt (p1 := 41) (p2 := 39) (by decide) rfl ⟨by omega, by omega⟩ ⟨by omega, by omega⟩ (fun c136493 => ?_) (fun c136493 => ?_))
        · refine wp_of e245 c245_41 (rw_iload_n (pc' := 42) (z := z136474) rfl rfl ?_)
          refine wp_of e245 c245_42 (rw_if_le (p1 := 51) (p2 := 45) (by decide) rfl ⟨by omega, by omega⟩ (fun c136494 => ?_) (fun c136494 => ?_))
          · refine wp_of e245 c245_51 (rw_aload_n (pc' := 52) (v := .ref r0) rfl rfl rfl ?_)
            refine wp_of e245 c245_52 (rw_aload_n (pc' := 53) (v := .ref r0) rfl rfl rfl ?_)
            refine wp_of e245 c245_53 (xg_R (pc' := 56) lf_9_42 w136468 g0 sh_42 (by decide) (by decide) ty_42_30 rfl rfl (fun r136495 q136496 g136497 => ?_))
            refine wp_of e245 c245_56 (rw_iload_n (pc' := 57) (z := a1) rfl rfl ?_)
            refine wp_of e245 c245_57 (xa_I (so := 0) (pc' := 58) w136468 g136497 sh_52 (by decide) (ty_52 _) (by omega) (by omega) rfl (fun b136498 b136499 => ?_))
            have k136500 : H136464 r0 3 = H136384 r0 3 := (f136469 r0 3 _ g0 rfl)
            obtain ⟨r136501, q136502, g136503⟩ := (w136468.opt g0 (t' := 54) (n := 33) (j := 3) (p := 0) (q := 0) rfl (by decide) rfl).resolve_left (by omega)
            refine wp_of e245 c245_58 (xc_V (pc' := 61) (r := r0) (as := [vI (H136464 r136495 (a1.toNat))]) (st := []) (lm_9_425) rfl rfl (Nat.le_of_ble_eq_true rfl) w136468 g0 sh_42 (by decide) rfl (by decide) (s_243 w136468 g0 ⟨by omega, by omega⟩ q136502 g136503 (by omega)) (fun R136504 T136505 H136506 p136507 => ?_))
            obtain ⟨e136508, w136510, f136511, e136509⟩ := p136507
            subst e136508
            subst e136509
            have f136512 := f136476.tr f136511 rfl
            show wp _ _ 245 61 [(3, vI z136474), (0, .ref r0), (1, vI a1), (2, vI a2)] [] _ H136506 _
            refine wp_of e245 c245_61 (rw_aload_n (pc' := 62) (v := .ref r0) rfl rfl rfl ?_)
            refine wp_of e245 c245_62 (rw_aload_n (pc' := 63) (v := .ref r0) rfl rfl rfl ?_)
            refine wp_of e245 c245_63 (xg_R (pc' := 66) lf_9_39 w136510 g0 sh_42 (by decide) (by decide) ty_42_27 rfl rfl (fun r136513 q136514 g136515 => ?_))
            refine wp_of e245 c245_66 (rw_iload_n (pc' := 67) (z := a2) rfl rfl ?_)
            refine wp_of e245 c245_67 (xa_I (so := 0) (pc' := 68) w136510 g136515 sh_51 (by decide) (ty_51 _) (by omega) (by omega) rfl (fun b136516 b136517 => ?_))
            refine wp_of e245 c245_68 (xc_V (pc' := 71) (r := r0) (as := [vI (H136506 r136513 (a2.toNat))]) (st := []) (lm_9_58) rfl rfl (Nat.le_of_ble_eq_true rfl) w136510 g0 sh_42 (by decide) rfl (by decide) (s_209 w136510 g0 ⟨by omega, by omega⟩) (fun R136518 T136519 H136520 p136521 => ?_))
            obtain ⟨e136522, w136524, f136525, z136526, e136523, b136527⟩ := p136521
            subst e136522
            subst e136523
            have f136528 := f136512.tr f136525 rfl
            show wp _ _ 245 71 [(3, vI z136474), (0, .ref r0), (1, vI a1), (2, vI a2)] [vI z136526] _ H136520 _
            have k136529 : wKI H136520 r0 = wKI H136464 r0 := ((wKI_fr w136510 g0 f136525 rfl).trans (wKI_fr w136468 g0 f136511 rfl))
            exact wp_ireturn e245 c245_71 rfl ⟨rfl, w136524, f136528, z136526, rfl, ⟨by omega, by omega⟩, by omega⟩
          · exfalso
            omega
        · refine wp_of e245 c245_39 (rw_iconst (pc' := 40) rfl ?_)
          refine wp_of e245 c245_40 (rw_istore_n (pc' := 41) (z := 1) (L' := [(3, vI 1), (0, .ref r0), (1, vI a1), (2, vI a2)]) rfl rfl rfl ?_)
          refine wp_of e245 c245_41 (rw_iload_n (pc' := 42) (z := 1) rfl rfl ?_)
          refine wp_of e245 c245_42 (rw_if_le (p1 := 51) (p2 := 45) (by decide) rfl ⟨by omega, by omega⟩ (fun c136530 => ?_) (fun c136530 => ?_))
          · exfalso
            omega
          · refine wp_of e245 c245_45 (rw_aload_n (pc' := 46) (v := .ref r0) rfl rfl rfl ?_)
            refine wp_of e245 c245_46 (rw_iload_n (pc' := 47) (z := 1) rfl rfl ?_)
            refine wp_of e245 c245_47 (xc_V (pc' := 50) (r := r0) (as := [vI 1]) (st := []) (lm_9_54) rfl rfl (Nat.le_of_ble_eq_true rfl) w136468 g0 sh_42 (by decide) rfl (by decide) (s_170 w136468 g0 ⟨by omega, by omega⟩) (fun R136531 T136532 H136533 p136534 => ?_))
            obtain ⟨e136535, w136537, f136538, z136539, e136536, b136540⟩ := p136534
            subst e136535
            subst e136536
            have f136541 := f136476.tr f136538 rfl
            show wp _ _ 245 50 [(3, vI 1), (0, .ref r0), (1, vI a1), (2, vI a2)] [vI z136539] _ H136533 _
            have k136542 : wKI H136533 r0 = wKI H136464 r0 := (wKI_fr w136468 g0 f136538 rfl)
            exact wp_ireturn e245 c245_50 rfl ⟨rfl, w136537, f136541, z136539, rfl, ⟨by omega, by omega⟩, by omega⟩
/-! StrikeAwakeModel.lotWeight()J -/
theorem e248 : wq_en 248 = some (9, 4, false, some FieldType.long) := rfl
theorem cg248_0 : mc_cd 248 0 = some (.lconst 1, 1) ∧ mc_cd 248 1 = some (.lstore_n 1, 1) ∧ mc_cd 248 2 = some (.iconst 0, 1) ∧ mc_cd 248 3 = some (.istore_n 3, 1) ∧ mc_cd 248 4 = some (.iload_n 3, 1) ∧ mc_cd 248 5 = some (.aload_n 0, 1) ∧ mc_cd 248 6 = some (.getfield 337, 3) ∧ mc_cd 248 9 = some (.getfield 188, 3) := by decide +kernel
theorem c248_0 : mc_cd 248 0 = some (.lconst 1, 1) := cg248_0.1
theorem c248_1 : mc_cd 248 1 = some (.lstore_n 1, 1) := cg248_0.2.1
theorem c248_2 : mc_cd 248 2 = some (.iconst 0, 1) := cg248_0.2.2.1
theorem c248_3 : mc_cd 248 3 = some (.istore_n 3, 1) := cg248_0.2.2.2.1
theorem c248_4 : mc_cd 248 4 = some (.iload_n 3, 1) := cg248_0.2.2.2.2.1
theorem c248_5 : mc_cd 248 5 = some (.aload_n 0, 1) := cg248_0.2.2.2.2.2.1
theorem c248_6 : mc_cd 248 6 = some (.getfield 337, 3) := cg248_0.2.2.2.2.2.2.1
theorem c248_9 : mc_cd 248 9 = some (.getfield 188, 3) := cg248_0.2.2.2.2.2.2.2
theorem cg248_12 : mc_cd 248 12 = some (.if_icmp .ge 24, 3) ∧ mc_cd 248 15 = some (.lload_n 1, 1) ∧ mc_cd 248 16 = some (.aload_n 0, 1) ∧ mc_cd 248 17 = some (.iload_n 3, 1) ∧ mc_cd 248 18 = some (.aload_n 0, 1) ∧ mc_cd 248 19 = some (.getfield 39, 3) ∧ mc_cd 248 22 = some (.iload_n 3, 1) ∧ mc_cd 248 23 = some (.iaload, 1) := by decide +kernel
theorem c248_12 : mc_cd 248 12 = some (.if_icmp .ge 24, 3) := cg248_12.1
theorem c248_15 : mc_cd 248 15 = some (.lload_n 1, 1) := cg248_12.2.1
theorem c248_16 : mc_cd 248 16 = some (.aload_n 0, 1) := cg248_12.2.2.1
theorem c248_17 : mc_cd 248 17 = some (.iload_n 3, 1) := cg248_12.2.2.2.1
theorem c248_18 : mc_cd 248 18 = some (.aload_n 0, 1) := cg248_12.2.2.2.2.1
theorem c248_19 : mc_cd 248 19 = some (.getfield 39, 3) := cg248_12.2.2.2.2.2.1
theorem c248_22 : mc_cd 248 22 = some (.iload_n 3, 1) := cg248_12.2.2.2.2.2.2.1
theorem c248_23 : mc_cd 248 23 = some (.iaload, 1) := cg248_12.2.2.2.2.2.2.2
theorem cg248_24 : mc_cd 248 24 = some (.invokevirtual 370, 3) ∧ mc_cd 248 27 = some (.i2l, 1) ∧ mc_cd 248 28 = some (.lmul, 1) ∧ mc_cd 248 29 = some (.lstore_n 1, 1) ∧ mc_cd 248 30 = some (.iinc 3 1, 3) ∧ mc_cd 248 33 = some (.goto (-29), 3) ∧ mc_cd 248 36 = some (.lload_n 1, 1) ∧ mc_cd 248 37 = some (.lreturn, 1) := by decide +kernel
theorem c248_24 : mc_cd 248 24 = some (.invokevirtual 370, 3) := cg248_24.1
theorem c248_27 : mc_cd 248 27 = some (.i2l, 1) := cg248_24.2.1
theorem c248_28 : mc_cd 248 28 = some (.lmul, 1) := cg248_24.2.2.1
theorem c248_29 : mc_cd 248 29 = some (.lstore_n 1, 1) := cg248_24.2.2.2.1
theorem c248_30 : mc_cd 248 30 = some (.iinc 3 1, 3) := cg248_24.2.2.2.2.1
theorem c248_33 : mc_cd 248 33 = some (.goto (-29), 3) := cg248_24.2.2.2.2.2.1
theorem c248_36 : mc_cd 248 36 = some (.lload_n 1, 1) := cg248_24.2.2.2.2.2.2.1
theorem c248_37 : mc_cd 248 37 = some (.lreturn, 1) := cg248_24.2.2.2.2.2.2.2
abbrev q_248 (r0 : Nat) (pp : Nat) (T : wq_T) (H : wq_H) : Option Value → wq_T → wq_H → Prop := fun r T' H' => T = T' ∧ H = H' ∧ ∃ z : Int, some (vL z) = r ∧ (1 ≤ z ∧ z ≤ 1000000)
set_option maxHeartbeats 4000000 in
theorem s_248 {kt : Nat → Option mc_E} {T : wq_T} {H : wq_H} {r0 : Nat} {pp : Nat} (hW : WT T H) (g0 : T.2.2.2 r0 = some 42) (qpp : H r0 3 = (pp : Int)) (gpp : T.2.2.2 pp = some 54) : wpc kt 2 248 [.ref r0] T H (q_248 r0 pp T H) := by
  refine wp_enter e248 (Nat.le_of_ble_eq_true rfl) rfl ?_
  show wp _ _ 248 0 [(0, .ref r0)] [] _ H _
  refine wp_of e248 c248_0 (rw_lconst (pc' := 1) (z := 1) rfl rfl ?_)
  refine wp_of e248 c248_1 (rw_lstore_n (pc' := 2) (z := 1) (L' := [(1, vL 1), (0, .ref r0)]) rfl rfl rfl ?_)
  refine wp_of e248 c248_2 (rw_iconst (pc' := 3) rfl ?_)
  refine wp_of e248 c248_3 (rw_istore_n (pc' := 4) (z := 0) (L' := [(3, vI 0), (1, vL 1), (0, .ref r0)]) rfl rfl rfl ?_)
  have b136858 : 0 ≤ H pp 3 ∧ H pp 3 ≤ 6 := hW.box gpp (n := 27) rfl (by decide) rfl
  have lp136853 : ∀ (n136854 : Nat) (v136856 : Int) (v136857 : Int), (0 ≤ v136856 ∧ v136856 ≤ 6) → (1 ≤ v136857 ∧ v136857 ≤ 1000000) → (v136856 ≤ H pp 3) → (1 ≤ v136857 ∧ v136857 ≤ w10 (v136856).toNat) → (6 - v136856).toNat = n136854 → wp kt 1 248 4 [(3, vI v136856), (1, vL v136857), (0, .ref r0)] [] T H (q_248 r0 pp T H) := by
    intro n136854
    induction n136854 using Nat.strongRecOn with
    | _ n136854 ih136855 =>
      intro v136856 v136857 b136861 b136862 x136863 x136864 m136865
      have hb := w10_b (n := (v136856).toNat) (by omega)
      refine wp_of e248 c248_4 (rw_iload_n (pc' := 5) (z := v136856) rfl rfl ?_)
      refine wp_of e248 c248_5 (rw_aload_n (pc' := 6) (v := .ref r0) rfl rfl rfl ?_)
      refine wp_of e248 c248_6 (xg_K (pc' := 9) lf_9_337 hW g0 sh_42 (by decide) (by decide) rfl qpp rfl ?_)
      refine wp_of e248 c248_9 (xg_I (pc' := 12) lf_9_188 hW gpp sh_54 (by decide) (by decide) ty_54_3 rfl rfl (fun b136866 b136867 => ?_))
      refine wp_of e248 c248_12 (rw_icmp_ge (p1 := 36) (p2 := 15) (by decide) rfl ⟨by omega, by omega⟩ ⟨by omega, by omega⟩ (fun c136868 => ?_) (fun c136868 => ?_))
      · refine wp_of e248 c248_36 (rw_lload_n (pc' := 37) (z := v136857) rfl rfl ?_)
        exact wp_lreturn e248 c248_37 rfl ⟨rfl, rfl, v136857, rfl, ⟨by omega, by omega⟩⟩
      · refine wp_of e248 c248_15 (rw_lload_n (pc' := 16) (z := v136857) rfl rfl ?_)
        refine wp_of e248 c248_16 (rw_aload_n (pc' := 17) (v := .ref r0) rfl rfl rfl ?_)
        refine wp_of e248 c248_17 (rw_iload_n (pc' := 18) (z := v136856) rfl rfl ?_)
        refine wp_of e248 c248_18 (rw_aload_n (pc' := 19) (v := .ref r0) rfl rfl rfl ?_)
        refine wp_of e248 c248_19 (xg_R (pc' := 22) lf_9_39 hW g0 sh_42 (by decide) (by decide) ty_42_27 rfl rfl (fun r136869 q136870 g136871 => ?_))
        refine wp_of e248 c248_22 (rw_iload_n (pc' := 23) (z := v136856) rfl rfl ?_)
        refine wp_of e248 c248_23 (xa_I (so := 0) (pc' := 24) hW g136871 sh_51 (by decide) (ty_51 _) (by omega) (by omega) rfl (fun b136872 b136873 => ?_))
        refine wp_of e248 c248_24 (xc_V (pc' := 27) (r := r0) (as := [vI v136856, vI (H r136869 (v136856.toNat))]) (st := [vL v136857]) (lm_9_370) rfl rfl (Nat.le_of_ble_eq_true rfl) hW g0 sh_42 (by decide) rfl (by decide) (s_216 hW g0 ⟨by omega, by omega⟩ ⟨by omega, by omega⟩ qpp gpp) (fun R136874 T136875 H136876 p136877 => ?_))
        obtain ⟨e136878, e136880, z136881, e136879, b136882⟩ := p136877
        subst e136878
        subst e136879
        subst e136880
        show wp _ _ 248 27 [(3, vI v136856), (1, vL v136857), (0, .ref r0)] [vI z136881, vL v136857] _ H _
        refine wp_of e248 c248_27 (rw_i2l (pc' := 28) rfl ⟨by omega, by omega⟩ ?_)
        refine wp_of e248 c248_28 (rw_lmul (pc' := 29) rfl ?_)
        obtain ⟨v136883, e136884⟩ : ∃ x : Int, x = v136857 * z136881 := ⟨_, rfl⟩
        rw [← e136884]
        have b136885 : 0 ≤ v136883 ∧ v136883 ≤ 10000000 := by
          rw [e136884]
          exact wl_mul_b (a := 1000000) (b := 10) ⟨by omega, by omega⟩ ⟨by omega, by omega⟩
        refine wp_of e248 c248_29 (rw_lstore_n (pc' := 30) (z := v136883) (L' := [(1, vL v136883), (3, vI v136856), (0, .ref r0)]) rfl rfl rfl ?_)
        refine wp_of e248 c248_30 (rw_iinc (pc' := 33) (z := v136856) (L' := [(3, vI (v136856 + 1)), (1, vL v136883), (0, .ref r0)]) rfl rfl rfl rfl ?_)
        refine wp_of e248 c248_33 (rw_goto (p1 := 4) (by decide) ?_)
        have hy : 1 ≤ v136883 ∧ v136883 ≤ w10 ((v136856 + 1)).toNat := by
          refine w10_s (by assumption) ?_ (by assumption) (by omega)
          exact ⟨by omega, by omega⟩
        have hz := w10_b (n := ((v136856 + 1)).toNat) (by omega)
        exact wp_lc (ks := [3, 1, 0]) (wl_c rfl (wl_c rfl (wl_c rfl wl_n))) rfl (by decide) (ih136855 _ (by omega) (v136856 + 1) v136883 ⟨by omega, by omega⟩ ⟨by omega, by omega⟩ (by omega) (by assumption) rfl)
  exact wp_lc (ks := [3, 1, 0]) (wl_c rfl (wl_c rfl (wl_c rfl wl_n))) rfl (by decide) (lp136853 _ 0 1 ⟨by omega, by omega⟩ ⟨by omega, by omega⟩ (by omega) (by decide) rfl)
/-! StrikeAwakeModel.weighs(II)J -/
theorem e247 : wq_en 247 = some (9, 6, false, some FieldType.long) := rfl
theorem cg247_0 : mc_cd 247 0 = some (.lconst 0, 1) ∧ mc_cd 247 1 = some (.lstore_n 3, 1) ∧ mc_cd 247 2 = some (.iconst 0, 1) ∧ mc_cd 247 3 = some (.istore 5, 2) ∧ mc_cd 247 5 = some (.iload 5, 2) ∧ mc_cd 247 7 = some (.aload_n 0, 1) ∧ mc_cd 247 8 = some (.getfield 422, 3) ∧ mc_cd 247 11 = some (.if_icmp .ge 55, 3) := by decide +kernel
theorem c247_0 : mc_cd 247 0 = some (.lconst 0, 1) := cg247_0.1
theorem c247_1 : mc_cd 247 1 = some (.lstore_n 3, 1) := cg247_0.2.1
theorem c247_2 : mc_cd 247 2 = some (.iconst 0, 1) := cg247_0.2.2.1
theorem c247_3 : mc_cd 247 3 = some (.istore 5, 2) := cg247_0.2.2.2.1
theorem c247_5 : mc_cd 247 5 = some (.iload 5, 2) := cg247_0.2.2.2.2.1
theorem c247_7 : mc_cd 247 7 = some (.aload_n 0, 1) := cg247_0.2.2.2.2.2.1
theorem c247_8 : mc_cd 247 8 = some (.getfield 422, 3) := cg247_0.2.2.2.2.2.2.1
theorem c247_11 : mc_cd 247 11 = some (.if_icmp .ge 55, 3) := cg247_0.2.2.2.2.2.2.2
theorem cg247_14 : mc_cd 247 14 = some (.aload_n 0, 1) ∧ mc_cd 247 15 = some (.aload_n 0, 1) ∧ mc_cd 247 16 = some (.getfield 42, 3) ∧ mc_cd 247 19 = some (.iload 5, 2) ∧ mc_cd 247 21 = some (.iaload, 1) ∧ mc_cd 247 22 = some (.invokevirtual 425, 3) ∧ mc_cd 247 25 = some (.iload_n 1, 1) ∧ mc_cd 247 26 = some (.iconst (-1), 1) := by decide +kernel
theorem c247_14 : mc_cd 247 14 = some (.aload_n 0, 1) := cg247_14.1
theorem c247_15 : mc_cd 247 15 = some (.aload_n 0, 1) := cg247_14.2.1
theorem c247_16 : mc_cd 247 16 = some (.getfield 42, 3) := cg247_14.2.2.1
theorem c247_19 : mc_cd 247 19 = some (.iload 5, 2) := cg247_14.2.2.2.1
theorem c247_21 : mc_cd 247 21 = some (.iaload, 1) := cg247_14.2.2.2.2.1
theorem c247_22 : mc_cd 247 22 = some (.invokevirtual 425, 3) := cg247_14.2.2.2.2.2.1
theorem c247_25 : mc_cd 247 25 = some (.iload_n 1, 1) := cg247_14.2.2.2.2.2.2.1
theorem c247_26 : mc_cd 247 26 = some (.iconst (-1), 1) := cg247_14.2.2.2.2.2.2.2
theorem cg247_27 : mc_cd 247 27 = some (.if_icmp .eq 26, 3) ∧ mc_cd 247 30 = some (.aload_n 0, 1) ∧ mc_cd 247 31 = some (.getfield 33, 3) ∧ mc_cd 247 34 = some (.bipush 40, 2) ∧ mc_cd 247 36 = some (.iload_n 1, 1) ∧ mc_cd 247 37 = some (.imul, 1) ∧ mc_cd 247 38 = some (.aload_n 0, 1) ∧ mc_cd 247 39 = some (.getfield 39, 3) := by decide +kernel
theorem c247_27 : mc_cd 247 27 = some (.if_icmp .eq 26, 3) := cg247_27.1
theorem c247_30 : mc_cd 247 30 = some (.aload_n 0, 1) := cg247_27.2.1
theorem c247_31 : mc_cd 247 31 = some (.getfield 33, 3) := cg247_27.2.2.1
theorem c247_34 : mc_cd 247 34 = some (.bipush 40, 2) := cg247_27.2.2.2.1
theorem c247_36 : mc_cd 247 36 = some (.iload_n 1, 1) := cg247_27.2.2.2.2.1
theorem c247_37 : mc_cd 247 37 = some (.imul, 1) := cg247_27.2.2.2.2.2.1
theorem c247_38 : mc_cd 247 38 = some (.aload_n 0, 1) := cg247_27.2.2.2.2.2.2.1
theorem c247_39 : mc_cd 247 39 = some (.getfield 39, 3) := cg247_27.2.2.2.2.2.2.2
theorem cg247_42 : mc_cd 247 42 = some (.iload_n 1, 1) ∧ mc_cd 247 43 = some (.iaload, 1) ∧ mc_cd 247 44 = some (.iadd, 1) ∧ mc_cd 247 45 = some (.iaload, 1) ∧ mc_cd 247 46 = some (.iload_n 2, 1) ∧ mc_cd 247 47 = some (.invokestatic 346, 3) ∧ mc_cd 247 50 = some (.ifCond .eq 10, 3) ∧ mc_cd 247 53 = some (.lload_n 3, 1) := by decide +kernel
theorem c247_42 : mc_cd 247 42 = some (.iload_n 1, 1) := cg247_42.1
theorem c247_43 : mc_cd 247 43 = some (.iaload, 1) := cg247_42.2.1
theorem c247_44 : mc_cd 247 44 = some (.iadd, 1) := cg247_42.2.2.1
theorem c247_45 : mc_cd 247 45 = some (.iaload, 1) := cg247_42.2.2.2.1
theorem c247_46 : mc_cd 247 46 = some (.iload_n 2, 1) := cg247_42.2.2.2.2.1
theorem c247_47 : mc_cd 247 47 = some (.invokestatic 346, 3) := cg247_42.2.2.2.2.2.1
theorem c247_50 : mc_cd 247 50 = some (.ifCond .eq 10, 3) := cg247_42.2.2.2.2.2.2.1
theorem c247_53 : mc_cd 247 53 = some (.lload_n 3, 1) := cg247_42.2.2.2.2.2.2.2
theorem cg247_54 : mc_cd 247 54 = some (.aload_n 0, 1) ∧ mc_cd 247 55 = some (.invokevirtual 437, 3) ∧ mc_cd 247 58 = some (.ladd, 1) ∧ mc_cd 247 59 = some (.lstore_n 3, 1) ∧ mc_cd 247 60 = some (.iinc 5 1, 3) ∧ mc_cd 247 63 = some (.goto (-58), 3) ∧ mc_cd 247 66 = some (.lload_n 3, 1) ∧ mc_cd 247 67 = some (.lreturn, 1) := by decide +kernel
theorem c247_54 : mc_cd 247 54 = some (.aload_n 0, 1) := cg247_54.1
theorem c247_55 : mc_cd 247 55 = some (.invokevirtual 437, 3) := cg247_54.2.1
theorem c247_58 : mc_cd 247 58 = some (.ladd, 1) := cg247_54.2.2.1
theorem c247_59 : mc_cd 247 59 = some (.lstore_n 3, 1) := cg247_54.2.2.2.1
theorem c247_60 : mc_cd 247 60 = some (.iinc 5 1, 3) := cg247_54.2.2.2.2.1
theorem c247_63 : mc_cd 247 63 = some (.goto (-58), 3) := cg247_54.2.2.2.2.2.1
theorem c247_66 : mc_cd 247 66 = some (.lload_n 3, 1) := cg247_54.2.2.2.2.2.2.1
theorem c247_67 : mc_cd 247 67 = some (.lreturn, 1) := cg247_54.2.2.2.2.2.2.2
abbrev q_247 (r0 : Nat) (a1 : Int) (a2 : Int) (pp : Nat) (T : wq_T) (H : wq_H) : Option Value → wq_T → wq_H → Prop := fun r T' H' => T = T' ∧ WT T H' ∧ wfr [(51, 999)] T H H' ∧ ∃ z : Int, some (vL z) = r ∧ (0 ≤ z ∧ z ≤ 20000000000) ∧ (a1 ≠ -1 ∨ H r0 29 ≤ z)
set_option maxHeartbeats 4000000 in
theorem s_247 {kt : Nat → Option mc_E} {T : wq_T} {H : wq_H} {r0 : Nat} {a1 : Int} {a2 : Int} {pp : Nat} (hW : WT T H) (g0 : T.2.2.2 r0 = some 42) (i1 : (-1) ≤ a1 ∧ a1 ≤ 5) (i2 : (-2147483648) ≤ a2 ∧ a2 ≤ 2147483647) (qpp : H r0 3 = (pp : Int)) (gpp : T.2.2.2 pp = some 54) (p0 : H r0 29 = 0 ∨ 0 < wLM H r0) : wpc kt 3 247 [.ref r0, vI a1, vI a2] T H (q_247 r0 a1 a2 pp T H) := by
  refine wp_enter e247 (Nat.le_of_ble_eq_true rfl) rfl ?_
  have f0 : wfr [(51, 999)] T H H := wfr.rf
  show wp _ _ 247 0 [(0, .ref r0), (1, vI a1), (2, vI a2)] [] _ H _
  have b137463 : 0 ≤ H r0 29 ∧ H r0 29 ≤ 20000 := hW.box g0 (n := 33) rfl (by decide) rfl
  refine wp_of e247 c247_0 (rw_lconst (pc' := 1) (z := 0) rfl rfl ?_)
  refine wp_of e247 c247_1 (rw_lstore_n (pc' := 2) (z := 0) (L' := [(3, vL 0), (0, .ref r0), (1, vI a1), (2, vI a2)]) rfl rfl rfl ?_)
  refine wp_of e247 c247_2 (rw_iconst (pc' := 3) rfl ?_)
  refine wp_of e247 c247_3 (rw_istore (pc' := 5) (z := 0) (L' := [(5, vI 0), (3, vL 0), (0, .ref r0), (1, vI a1), (2, vI a2)]) rfl rfl rfl ?_)
  have lp137976 : ∀ (n137977 : Nat) (v137979 : Int) (v137980 : Int) (H137981 : wq_H), WT T H137981 → wfr [(51, 999)] T H H137981 → (0 ≤ v137979 ∧ v137979 ≤ 20000) → (0 ≤ v137980 ∧ v137980 ≤ 20000000000) → (v137979 ≤ H137981 r0 29) → (v137980 ≤ 1000000 * v137979) → (a1 ≠ -1 ∨ v137979 ≤ v137980) → (20000 - v137979).toNat = n137977 → wp kt 2 247 5 [(5, vI v137979), (3, vL v137980), (0, .ref r0), (1, vI a1), (2, vI a2)] [] T H137981 (q_247 r0 a1 a2 pp T H) := by
    intro n137977
    induction n137977 using Nat.strongRecOn with
    | _ n137977 ih137978 =>
      intro v137979 v137980 H137981 w137982 f137983 b137984 b137985 x137986 x137987 x137988 m137989
      have f137990 := f0.tr f137983 rfl
      have k137991 : H137981 r0 29 = H r0 29 := (f137983 r0 29 _ g0 rfl)
      refine wp_of e247 c247_5 (rw_iload (pc' := 7) (z := v137979) rfl rfl ?_)
      refine wp_of e247 c247_7 (rw_aload_n (pc' := 8) (v := .ref r0) rfl rfl rfl ?_)
      refine wp_of e247 c247_8 (xg_I (pc' := 11) lf_9_422 w137982 g0 sh_42 (by decide) (by decide) ty_42_29 rfl rfl (fun b137992 b137993 => ?_))
      refine wp_of e247 c247_11 (rw_icmp_ge (p1 := 66) (p2 := 14) (by decide) rfl ⟨by omega, by omega⟩ ⟨by omega, by omega⟩ (fun c137994 => ?_) (fun c137994 => ?_))
      · refine wp_of e247 c247_66 (rw_lload_n (pc' := 67) (z := v137980) rfl rfl ?_)
        exact wp_lreturn e247 c247_67 rfl ⟨rfl, w137982, f137990, v137980, rfl, ⟨by omega, by omega⟩, by omega⟩
      · refine wp_of e247 c247_14 (rw_aload_n (pc' := 15) (v := .ref r0) rfl rfl rfl ?_)
        refine wp_of e247 c247_15 (rw_aload_n (pc' := 16) (v := .ref r0) rfl rfl rfl ?_)
        refine wp_of e247 c247_16 (xg_R (pc' := 19) lf_9_42 w137982 g0 sh_42 (by decide) (by decide) ty_42_30 rfl rfl (fun r137995 q137996 g137997 => ?_))
        refine wp_of e247 c247_19 (rw_iload (pc' := 21) (z := v137979) rfl rfl ?_)
        refine wp_of e247 c247_21 (xa_I (so := 0) (pc' := 22) w137982 g137997 sh_52 (by decide) (ty_52 _) (by omega) (by omega) rfl (fun b137998 b137999 => ?_))
        have k138000 : wLM H137981 r0 = wLM H r0 := (wLM_fr hW g0 f137983 rfl)
        have k138001 : H137981 r0 3 = H r0 3 := (f137983 r0 3 _ g0 rfl)
        have q138002 : H137981 r0 3 = (pp : Int) := k138001.trans qpp
        refine wp_of e247 c247_22 (xc_V (pc' := 25) (r := r0) (as := [vI (H137981 r137995 (v137979.toNat))]) (st := []) (lm_9_425) rfl rfl (Nat.le_of_ble_eq_true rfl) w137982 g0 sh_42 (by decide) rfl (by decide) (s_243 w137982 g0 ⟨by omega, by omega⟩ q138002 gpp (by omega)) (fun R138003 T138004 H138005 p138006 => ?_))
        obtain ⟨e138007, w138009, f138010, e138008⟩ := p138006
        subst e138007
        subst e138008
        have f138011 := f137990.tr f138010 rfl
        have f138012 := f137983.tr f138010 rfl
        show wp _ _ 247 25 [(5, vI v137979), (3, vL v137980), (0, .ref r0), (1, vI a1), (2, vI a2)] [] _ H138005 _
        refine wp_of e247 c247_25 (rw_iload_n (pc' := 26) (z := a1) rfl rfl ?_)
        refine wp_of e247 c247_26 (rw_iconst (pc' := 27) rfl ?_)
        refine wp_of e247 c247_27 (rw_icmp_eq (p1 := 53) (p2 := 30) (by decide) rfl ⟨by omega, by omega⟩ ⟨by omega, by omega⟩ (fun c138013 => ?_) (fun c138013 => ?_))
        · refine wp_of e247 c247_53 (rw_lload_n (pc' := 54) (z := v137980) rfl rfl ?_)
          refine wp_of e247 c247_54 (rw_aload_n (pc' := 55) (v := .ref r0) rfl rfl rfl ?_)
          have k138014 : H138005 r0 3 = H137981 r0 3 := (f138010 r0 3 _ g0 rfl)
          have q138015 : H138005 r0 3 = (pp : Int) := k138014.trans q138002
          refine wp_of e247 c247_55 (xc_V (pc' := 58) (r := r0) (as := []) (st := [vL v137980]) (lm_9_437) rfl rfl (Nat.le_of_ble_eq_true rfl) w138009 g0 sh_42 (by decide) rfl (by decide) (s_248 w138009 g0 q138015 gpp) (fun R138016 T138017 H138018 p138019 => ?_))
          obtain ⟨e138020, e138022, z138023, e138021, b138024⟩ := p138019
          subst e138020
          subst e138021
          subst e138022
          show wp _ _ 247 58 [(5, vI v137979), (3, vL v137980), (0, .ref r0), (1, vI a1), (2, vI a2)] [vL z138023, vL v137980] _ H138005 _
          refine wp_of e247 c247_58 (rw_ladd (pc' := 59) rfl ?_)
          refine wp_of e247 c247_59 (rw_lstore_n (pc' := 60) (z := v137980 + z138023) (L' := [(3, vL (v137980 + z138023)), (5, vI v137979), (0, .ref r0), (1, vI a1), (2, vI a2)]) rfl rfl rfl ?_)
          refine wp_of e247 c247_60 (rw_iinc (pc' := 63) (z := v137979) (L' := [(5, vI (v137979 + 1)), (3, vL (v137980 + z138023)), (0, .ref r0), (1, vI a1), (2, vI a2)]) rfl rfl rfl rfl ?_)
          refine wp_of e247 c247_63 (rw_goto (p1 := 5) (by decide) ?_)
          have k138025 : H138005 r0 29 = H137981 r0 29 := (f138010 r0 29 _ g0 rfl)
          exact wp_lc (ks := [5, 3, 0, 1, 2]) (wl_c rfl (wl_c rfl (wl_c rfl (wl_c rfl (wl_c rfl wl_n))))) rfl (by decide) (ih137978 _ (by omega) (v137979 + 1) (v137980 + z138023) H138005 w138009 f138012 ⟨by omega, by omega⟩ ⟨by omega, by omega⟩ (by omega) (by omega) (by omega) rfl)
        · refine wp_of e247 c247_30 (rw_aload_n (pc' := 31) (v := .ref r0) rfl rfl rfl ?_)
          refine wp_of e247 c247_31 (xg_R (pc' := 34) lf_9_33 w138009 g0 sh_42 (by decide) (by decide) ty_42_25 rfl rfl (fun r138026 q138027 g138028 => ?_))
          refine wp_of e247 c247_34 (rw_bipush (pc' := 36) (z := 40) rfl (by decide) ?_)
          refine wp_of e247 c247_36 (rw_iload_n (pc' := 37) (z := a1) rfl rfl ?_)
          refine wp_of e247 c247_37 (rw_imul (pc' := 38) rfl ?_)
          refine wp_of e247 c247_38 (rw_aload_n (pc' := 39) (v := .ref r0) rfl rfl rfl ?_)
          refine wp_of e247 c247_39 (xg_R (pc' := 42) lf_9_39 w138009 g0 sh_42 (by decide) (by decide) ty_42_27 rfl rfl (fun r138029 q138030 g138031 => ?_))
          refine wp_of e247 c247_42 (rw_iload_n (pc' := 43) (z := a1) rfl rfl ?_)
          refine wp_of e247 c247_43 (xa_I (so := 0) (pc' := 44) w138009 g138031 sh_51 (by decide) (ty_51 _) (by omega) (by omega) rfl (fun b138032 b138033 => ?_))
          refine wp_of e247 c247_44 (rw_iadd (pc' := 45) rfl ?_)
          refine wp_of e247 c247_45 (xa_I (so := 0) (pc' := 46) w138009 g138028 sh_49 (by decide) (ty_49 _) (by omega) (by omega) rfl (fun b138034 b138035 => ?_))
          refine wp_of e247 c247_46 (rw_iload_n (pc' := 47) (z := a2) rfl rfl ?_)
          refine wp_of e247 c247_47 (xc_S (pc' := 50) (as := [vI (H138005 r138026 (((40 * a1) + (H138005 r138029 (a1.toNat))).toNat)), vI a2]) (st := []) (lm_9_346) rfl rfl (Nat.le_of_ble_eq_true rfl) rfl (by decide) (s_205 w138009 ⟨by omega, by omega⟩ ⟨by omega, by omega⟩) (fun R138036 T138037 H138038 p138039 => ?_))
          obtain ⟨e138040, e138042, z138043, e138041, b138044⟩ := p138039
          subst e138040
          subst e138041
          subst e138042
          show wp _ _ 247 50 [(5, vI v137979), (3, vL v137980), (0, .ref r0), (1, vI a1), (2, vI a2)] [vI z138043] _ H138005 _
          refine wp_of e247 c247_50 (rw_if_eq (p1 := 60) (p2 := 53) (by decide) rfl ⟨by omega, by omega⟩ (fun c138045 => ?_) (fun c138045 => ?_))
          · refine wp_of e247 c247_60 (rw_iinc (pc' := 63) (z := v137979) (L' := [(5, vI (v137979 + 1)), (3, vL v137980), (0, .ref r0), (1, vI a1), (2, vI a2)]) rfl rfl rfl rfl ?_)
            refine wp_of e247 c247_63 (rw_goto (p1 := 5) (by decide) ?_)
            have k138046 : H138005 r0 29 = H137981 r0 29 := (f138010 r0 29 _ g0 rfl)
            exact wp_lc (ks := [5, 3, 0, 1, 2]) (wl_c rfl (wl_c rfl (wl_c rfl (wl_c rfl (wl_c rfl wl_n))))) rfl (by decide) (ih137978 _ (by omega) (v137979 + 1) v137980 H138005 w138009 f138012 ⟨by omega, by omega⟩ ⟨by omega, by omega⟩ (by omega) (by omega) (by omega) rfl)
          · refine wp_of e247 c247_53 (rw_lload_n (pc' := 54) (z := v137980) rfl rfl ?_)
            refine wp_of e247 c247_54 (rw_aload_n (pc' := 55) (v := .ref r0) rfl rfl rfl ?_)
            have k138047 : H138005 r0 3 = H137981 r0 3 := (f138010 r0 3 _ g0 rfl)
            have q138048 : H138005 r0 3 = (pp : Int) := k138047.trans q138002
            refine wp_of e247 c247_55 (xc_V (pc' := 58) (r := r0) (as := []) (st := [vL v137980]) (lm_9_437) rfl rfl (Nat.le_of_ble_eq_true rfl) w138009 g0 sh_42 (by decide) rfl (by decide) (s_248 w138009 g0 q138048 gpp) (fun R138049 T138050 H138051 p138052 => ?_))
            obtain ⟨e138053, e138055, z138056, e138054, b138057⟩ := p138052
            subst e138053
            subst e138054
            subst e138055
            show wp _ _ 247 58 [(5, vI v137979), (3, vL v137980), (0, .ref r0), (1, vI a1), (2, vI a2)] [vL z138056, vL v137980] _ H138005 _
            refine wp_of e247 c247_58 (rw_ladd (pc' := 59) rfl ?_)
            refine wp_of e247 c247_59 (rw_lstore_n (pc' := 60) (z := v137980 + z138056) (L' := [(3, vL (v137980 + z138056)), (5, vI v137979), (0, .ref r0), (1, vI a1), (2, vI a2)]) rfl rfl rfl ?_)
            refine wp_of e247 c247_60 (rw_iinc (pc' := 63) (z := v137979) (L' := [(5, vI (v137979 + 1)), (3, vL (v137980 + z138056)), (0, .ref r0), (1, vI a1), (2, vI a2)]) rfl rfl rfl rfl ?_)
            refine wp_of e247 c247_63 (rw_goto (p1 := 5) (by decide) ?_)
            have k138058 : H138005 r0 29 = H137981 r0 29 := (f138010 r0 29 _ g0 rfl)
            exact wp_lc (ks := [5, 3, 0, 1, 2]) (wl_c rfl (wl_c rfl (wl_c rfl (wl_c rfl (wl_c rfl wl_n))))) rfl (by decide) (ih137978 _ (by omega) (v137979 + 1) (v137980 + z138056) H138005 w138009 f138012 ⟨by omega, by omega⟩ ⟨by omega, by omega⟩ (by omega) (by omega) (by omega) rfl)
  exact wp_lc (ks := [5, 3, 0, 1, 2]) (wl_c rfl (wl_c rfl (wl_c rfl (wl_c rfl (wl_c rfl wl_n))))) rfl (by decide) (lp137976 _ 0 0 H hW wfr.rf ⟨by omega, by omega⟩ ⟨by omega, by omega⟩ (by omega) (by omega) (by omega) rfl)
/-! StrikeAwakeModel.weights()J -/
theorem e246 : wq_en 246 = some (9, 2, false, some FieldType.long) := rfl
theorem cg246_0 : mc_cd 246 0 = some (.aload_n 0, 1) ∧ mc_cd 246 1 = some (.iconst 0, 1) ∧ mc_cd 246 2 = some (.putfield 48, 3) ∧ mc_cd 246 5 = some (.aload_n 0, 1) ∧ mc_cd 246 6 = some (.aload_n 0, 1) ∧ mc_cd 246 7 = some (.getfield 337, 3) ∧ mc_cd 246 10 = some (.ifnull 7, 3) ∧ mc_cd 246 13 = some (.iconst 1, 1) := by decide +kernel
theorem c246_0 : mc_cd 246 0 = some (.aload_n 0, 1) := cg246_0.1
theorem c246_1 : mc_cd 246 1 = some (.iconst 0, 1) := cg246_0.2.1
theorem c246_2 : mc_cd 246 2 = some (.putfield 48, 3) := cg246_0.2.2.1
theorem c246_5 : mc_cd 246 5 = some (.aload_n 0, 1) := cg246_0.2.2.2.1
theorem c246_6 : mc_cd 246 6 = some (.aload_n 0, 1) := cg246_0.2.2.2.2.1
theorem c246_7 : mc_cd 246 7 = some (.getfield 337, 3) := cg246_0.2.2.2.2.2.1
theorem c246_10 : mc_cd 246 10 = some (.ifnull 7, 3) := cg246_0.2.2.2.2.2.2.1
theorem c246_13 : mc_cd 246 13 = some (.iconst 1, 1) := cg246_0.2.2.2.2.2.2.2
theorem cg246_14 : mc_cd 246 14 = some (.goto 4, 3) ∧ mc_cd 246 17 = some (.iconst 0, 1) ∧ mc_cd 246 18 = some (.invokevirtual 433, 3) ∧ mc_cd 246 21 = some (.istore_n 1, 1) ∧ mc_cd 246 22 = some (.iload_n 1, 1) ∧ mc_cd 246 23 = some (.ifCond .le 12, 3) ∧ mc_cd 246 26 = some (.aload_n 0, 1) ∧ mc_cd 246 27 = some (.iload_n 1, 1) := by decide +kernel
theorem c246_14 : mc_cd 246 14 = some (.goto 4, 3) := cg246_14.1
theorem c246_17 : mc_cd 246 17 = some (.iconst 0, 1) := cg246_14.2.1
theorem c246_18 : mc_cd 246 18 = some (.invokevirtual 433, 3) := cg246_14.2.2.1
theorem c246_21 : mc_cd 246 21 = some (.istore_n 1, 1) := cg246_14.2.2.2.1
theorem c246_22 : mc_cd 246 22 = some (.iload_n 1, 1) := cg246_14.2.2.2.2.1
theorem c246_23 : mc_cd 246 23 = some (.ifCond .le 12, 3) := cg246_14.2.2.2.2.2.1
theorem c246_26 : mc_cd 246 26 = some (.aload_n 0, 1) := cg246_14.2.2.2.2.2.2.1
theorem c246_27 : mc_cd 246 27 = some (.iload_n 1, 1) := cg246_14.2.2.2.2.2.2.2
theorem cg246_28 : mc_cd 246 28 = some (.invokevirtual 54, 3) ∧ mc_cd 246 31 = some (.i2l, 1) ∧ mc_cd 246 32 = some (.goto 13, 3) ∧ mc_cd 246 35 = some (.aload_n 0, 1) ∧ mc_cd 246 36 = some (.aload_n 0, 1) ∧ mc_cd 246 37 = some (.iconst (-1), 1) ∧ mc_cd 246 38 = some (.iconst 0, 1) ∧ mc_cd 246 39 = some (.invokevirtual 440, 3) := by decide +kernel
theorem c246_28 : mc_cd 246 28 = some (.invokevirtual 54, 3) := cg246_28.1
theorem c246_31 : mc_cd 246 31 = some (.i2l, 1) := cg246_28.2.1
theorem c246_32 : mc_cd 246 32 = some (.goto 13, 3) := cg246_28.2.2.1
theorem c246_35 : mc_cd 246 35 = some (.aload_n 0, 1) := cg246_28.2.2.2.1
theorem c246_36 : mc_cd 246 36 = some (.aload_n 0, 1) := cg246_28.2.2.2.2.1
theorem c246_37 : mc_cd 246 37 = some (.iconst (-1), 1) := cg246_28.2.2.2.2.2.1
theorem c246_38 : mc_cd 246 38 = some (.iconst 0, 1) := cg246_28.2.2.2.2.2.2.1
theorem c246_39 : mc_cd 246 39 = some (.invokevirtual 440, 3) := cg246_28.2.2.2.2.2.2.2
theorem cg246_42 : mc_cd 246 42 = some (.invokevirtual 380, 3) ∧ mc_cd 246 45 = some (.lreturn, 1) := by decide +kernel
theorem c246_42 : mc_cd 246 42 = some (.invokevirtual 380, 3) := cg246_42.1
theorem c246_45 : mc_cd 246 45 = some (.lreturn, 1) := cg246_42.2
abbrev q_246 (r0 : Nat) (T : wq_T) (H : wq_H) : Option Value → wq_T → wq_H → Prop := fun r T' H' => T = T' ∧ WT T H' ∧ wfr [(42, 0), (42, 1), (42, 2), (42, 28), (42, 29), (51, 999), (52, 999)] T H H' ∧ ∃ z : Int, some (vL z) = r ∧ ((-9223372036854775808) ≤ z ∧ z ≤ 9223372036854775807) ∧ (wKI H' r0 = 1)
set_option maxHeartbeats 4000000 in
theorem s_246 {kt : Nat → Option mc_E} {T : wq_T} {H : wq_H} {r0 : Nat} (hW : WT T H) (g0 : T.2.2.2 r0 = some 42) (p0 : wKI H r0 = 1) : wpc kt 8 246 [.ref r0] T H (q_246 r0 T H) := by
  refine wp_enter e246 (Nat.le_of_ble_eq_true rfl) rfl ?_
  have f0 : wfr [(42, 0), (42, 1), (42, 2), (42, 28), (42, 29), (51, 999), (52, 999)] T H H := wfr.rf
  show wp _ _ 246 0 [(0, .ref r0)] [] _ H _
  refine wp_of e246 c246_0 (rw_aload_n (pc' := 1) (v := .ref r0) rfl rfl rfl ?_)
  refine wp_of e246 c246_1 (rw_iconst (pc' := 2) rfl ?_)
  refine wp_of e246 c246_2 (xp_I (pc' := 5) lf_9_48 hW g0 sh_42 (by decide) (by decide) ty_42_0 rfl rfl (by omega) (by omega) ⟨by omega, by omega⟩ rfl (fun H138151 e138152 w138153 => ?_))
  have f138154 := f0.put' e138152 g0 rfl
  have k138155 : H138151 r0 0 = 0 := wq_u_s e138152
  refine wp_of e246 c246_5 (rw_aload_n (pc' := 6) (v := .ref r0) rfl rfl rfl ?_)
  refine wp_of e246 c246_6 (rw_aload_n (pc' := 7) (v := .ref r0) rfl rfl rfl ?_)
  refine wp_of e246 c246_7 (xg_O (pc' := 10) lf_9_337 w138153 g0 sh_42 (by decide) (by decide) ty_42_3 rfl rfl (fun q138157 => ?_) (fun r138156 q138157 g138158 => ?_))
  · refine wp_of e246 c246_10 (rw_ifnull_n (p1 := 17) (p2 := 13) (by decide) rfl ?_)
    refine wp_of e246 c246_17 (rw_iconst (pc' := 18) rfl ?_)
    have k138159 : wKI H138151 r0 = wKI H r0 := (wKI_fr hW g0 ((wfr.rf (l := [(42, 0)])).put' e138152 g0 rfl) rfl)
    refine wp_of e246 c246_18 (xc_V (pc' := 21) (r := r0) (as := [vI 0]) (st := []) (lm_9_433) rfl rfl (Nat.le_of_ble_eq_true rfl) w138153 g0 sh_42 (by decide) rfl (by decide) (s_241 w138153 g0 ⟨by omega, by omega⟩ (by omega) (by omega)) (fun R138160 T138161 H138162 p138163 => ?_))
    obtain ⟨e138164, w138166, f138167, z138172, e138165, b138173, p138168, p138169, p138170, p138171⟩ := p138163
    subst e138164
    subst e138165
    have f138174 := f138154.tr f138167 rfl
    show wp _ _ 246 21 [(0, .ref r0)] [vI z138172] _ H138162 _
    refine wp_of e246 c246_21 (rw_istore_n (pc' := 22) (z := z138172) (L' := [(1, vI z138172), (0, .ref r0)]) rfl rfl rfl ?_)
    refine wp_of e246 c246_22 (rw_iload_n (pc' := 23) (z := z138172) rfl rfl ?_)
    refine wp_of e246 c246_23 (rw_if_le (p1 := 35) (p2 := 26) (by decide) rfl ⟨by omega, by omega⟩ (fun c138175 => ?_) (fun c138175 => ?_))
    · exfalso
      omega
    · refine wp_of e246 c246_26 (rw_aload_n (pc' := 27) (v := .ref r0) rfl rfl rfl ?_)
      refine wp_of e246 c246_27 (rw_iload_n (pc' := 28) (z := z138172) rfl rfl ?_)
      refine wp_of e246 c246_28 (xc_V (pc' := 31) (r := r0) (as := [vI z138172]) (st := []) (lm_9_54) rfl rfl (Nat.le_of_ble_eq_true rfl) w138166 g0 sh_42 (by decide) rfl (by decide) (s_170 w138166 g0 ⟨by omega, by omega⟩) (fun R138176 T138177 H138178 p138179 => ?_))
      obtain ⟨e138180, w138182, f138183, z138184, e138181, b138185⟩ := p138179
      subst e138180
      subst e138181
      have f138186 := f138174.tr f138183 rfl
      show wp _ _ 246 31 [(1, vI z138172), (0, .ref r0)] [vI z138184] _ H138178 _
      refine wp_of e246 c246_31 (rw_i2l (pc' := 32) rfl ⟨by omega, by omega⟩ ?_)
      refine wp_of e246 c246_32 (rw_goto (p1 := 45) (by decide) ?_)
      have k138187 : wKI H138178 r0 = wKI H138162 r0 := (wKI_fr w138166 g0 f138183 rfl)
      exact wp_lreturn e246 c246_45 rfl ⟨rfl, w138182, f138186, z138184, rfl, ⟨by omega, by omega⟩, by omega⟩
  · refine wp_of e246 c246_10 (rw_ifnull_r (p1 := 17) (p2 := 13) (by decide) rfl ?_)
    refine wp_of e246 c246_13 (rw_iconst (pc' := 14) rfl ?_)
    refine wp_of e246 c246_14 (rw_goto (p1 := 18) (by decide) ?_)
    have k138188 : wKI H138151 r0 = wKI H r0 := (wKI_fr hW g0 ((wfr.rf (l := [(42, 0)])).put' e138152 g0 rfl) rfl)
    refine wp_of e246 c246_18 (xc_V (pc' := 21) (r := r0) (as := [vI 1]) (st := []) (lm_9_433) rfl rfl (Nat.le_of_ble_eq_true rfl) w138153 g0 sh_42 (by decide) rfl (by decide) (s_241 w138153 g0 ⟨by omega, by omega⟩ (by omega) (by omega)) (fun R138189 T138190 H138191 p138192 => ?_))
    obtain ⟨e138193, w138195, f138196, z138201, e138194, b138202, p138197, p138198, p138199, p138200⟩ := p138192
    subst e138193
    subst e138194
    have f138203 := f138154.tr f138196 rfl
    show wp _ _ 246 21 [(0, .ref r0)] [vI z138201] _ H138191 _
    refine wp_of e246 c246_21 (rw_istore_n (pc' := 22) (z := z138201) (L' := [(1, vI z138201), (0, .ref r0)]) rfl rfl rfl ?_)
    refine wp_of e246 c246_22 (rw_iload_n (pc' := 23) (z := z138201) rfl rfl ?_)
    refine wp_of e246 c246_23 (rw_if_le (p1 := 35) (p2 := 26) (by decide) rfl ⟨by omega, by omega⟩ (fun c138204 => ?_) (fun c138204 => ?_))
    · refine wp_of e246 c246_35 (rw_aload_n (pc' := 36) (v := .ref r0) rfl rfl rfl ?_)
      refine wp_of e246 c246_36 (rw_aload_n (pc' := 37) (v := .ref r0) rfl rfl rfl ?_)
      refine wp_of e246 c246_37 (rw_iconst (pc' := 38) rfl ?_)
      refine wp_of e246 c246_38 (rw_iconst (pc' := 39) rfl ?_)
      have k138205 : H138191 r0 3 = H138151 r0 3 := (f138196 r0 3 _ g0 rfl)
      have q138206 : H138191 r0 3 = (r138156 : Int) := k138205.trans q138157
      refine wp_of e246 c246_39 (xc_V (pc' := 42) (r := r0) (as := [vI (-1), vI 0]) (st := [.ref r0]) (lm_9_440) rfl rfl (Nat.le_of_ble_eq_true rfl) w138195 g0 sh_42 (by decide) rfl (by decide) (s_247 w138195 g0 ⟨by omega, by omega⟩ ⟨by omega, by omega⟩ q138206 g138158 (by omega)) (fun R138207 T138208 H138209 p138210 => ?_))
      obtain ⟨e138211, w138213, f138214, z138216, e138212, b138217, p138215⟩ := p138210
      subst e138211
      subst e138212
      have f138218 := f138203.tr f138214 rfl
      show wp _ _ 246 42 [(1, vI z138201), (0, .ref r0)] [vL z138216, .ref r0] _ H138209 _
      refine wp_of e246 c246_42 (xc_V (pc' := 45) (r := r0) (as := [vL z138216]) (st := []) (lm_9_380) rfl rfl (Nat.le_of_ble_eq_true rfl) w138213 g0 sh_42 (by decide) rfl (by decide) (s_221 w138213 g0 ⟨by omega, by omega⟩) (fun R138219 T138220 H138221 p138222 => ?_))
      obtain ⟨e138223, w138225, f138226, z138227, e138224, b138228⟩ := p138222
      subst e138223
      subst e138224
      have f138229 := f138218.tr f138226 rfl
      show wp _ _ 246 45 [(1, vI z138201), (0, .ref r0)] [vL z138227] _ H138221 _
      have k138230 : wKI H138221 r0 = wKI H138191 r0 := ((wKI_fr w138213 g0 f138226 rfl).trans (wKI_fr w138195 g0 f138214 rfl))
      exact wp_lreturn e246 c246_45 rfl ⟨rfl, w138225, f138229, z138227, rfl, ⟨by omega, by omega⟩, by omega⟩
    · refine wp_of e246 c246_26 (rw_aload_n (pc' := 27) (v := .ref r0) rfl rfl rfl ?_)
      refine wp_of e246 c246_27 (rw_iload_n (pc' := 28) (z := z138201) rfl rfl ?_)
      refine wp_of e246 c246_28 (xc_V (pc' := 31) (r := r0) (as := [vI z138201]) (st := []) (lm_9_54) rfl rfl (Nat.le_of_ble_eq_true rfl) w138195 g0 sh_42 (by decide) rfl (by decide) (s_170 w138195 g0 ⟨by omega, by omega⟩) (fun R138231 T138232 H138233 p138234 => ?_))
      obtain ⟨e138235, w138237, f138238, z138239, e138236, b138240⟩ := p138234
      subst e138235
      subst e138236
      have f138241 := f138203.tr f138238 rfl
      show wp _ _ 246 31 [(1, vI z138201), (0, .ref r0)] [vI z138239] _ H138233 _
      refine wp_of e246 c246_31 (rw_i2l (pc' := 32) rfl ⟨by omega, by omega⟩ ?_)
      refine wp_of e246 c246_32 (rw_goto (p1 := 45) (by decide) ?_)
      have k138242 : wKI H138233 r0 = wKI H138191 r0 := (wKI_fr w138195 g0 f138238 rfl)
      exact wp_lreturn e246 c246_45 rfl ⟨rfl, w138237, f138241, z138239, rfl, ⟨by omega, by omega⟩, by omega⟩
