/-! what methods do (own work, written by wip/gen3/sx3.py) -/
/-! StrikeAwakeModel.feed(IIIII)I  -/
abbrev uq_168 (r0 : Nat) (a1 : Int) (a2 : Int) (a3 : Int) (a4 : Int) (a5 : Int) (rb : Nat) (B : Nat → Int) (t : Int) (b1 : Int) (b2 : Int) (b3 : Int) (b4 : Int) (b5 : Int) (T : wq_T) (H : wq_H) : Option Value → wq_T → wq_H → Prop := fun r T' H' => T = T' ∧ WT T H' ∧ wfr [(42, 0), (42, 6), (43, 999)] T H H' ∧ ∃ z : Int, some (vI z) = r ∧ ((-2147483648) ≤ z ∧ z ≤ 2147483647) ∧ (((z = -1) ∧ (880 < t) ∧ (H' r0 6 = t) ∧ TM T H' rb B) ∨ ((0 ≤ z ∧ z ≤ 900) ∧ (t ≤ 880) ∧ (z = t + 20) ∧ (H' r0 6 = t + 20) ∧ TM T H' rb (xfk B t b1 b2 b3 b4 b5 20)))
set_option maxHeartbeats 4000000 in
theorem u_168 {kt : Nat → Option mc_E} {T : wq_T} {H : wq_H} {r0 : Nat} {a1 : Int} {a2 : Int} {a3 : Int} {a4 : Int} {a5 : Int} {rb : Nat} {B : Nat → Int} {t : Int} {b1 : Int} {b2 : Int} {b3 : Int} {b4 : Int} {b5 : Int} (hW : WT T H) (g0 : T.2.2.2 r0 = some 42) (i1 : (-2147483648) ≤ a1 ∧ a1 ≤ 2147483647) (i2 : (-2147483648) ≤ a2 ∧ a2 ≤ 2147483647) (i3 : (-2147483648) ≤ a3 ∧ a3 ≤ 2147483647) (i4 : (-2147483648) ≤ a4 ∧ a4 ≤ 2147483647) (i5 : (-2147483648) ≤ a5 ∧ a5 ≤ 2147483647) (qrb : H r0 5 = (rb : Int)) (grb : T.2.2.2 rb = some 43) (p0 : H r0 6 = t) (p1 : a1 = b1) (p2 : a2 = b2) (p3 : a3 = b3) (p4 : a4 = b4) (p5 : a5 = b5) (hTM_rb : TM T H rb B) : wpc kt 1 168 [.ref r0, vI a1, vI a2, vI a3, vI a4, vI a5] T H (uq_168 r0 a1 a2 a3 a4 a5 rb B t b1 b2 b3 b4 b5 T H) := by
  refine wp_enter e168 (Nat.le_of_ble_eq_true rfl) rfl ?_
  have f0 : wfr [(42, 0), (42, 6), (43, 999)] T H H := wfr.rf
  show wp _ _ 168 0 [(0, .ref r0), (1, vI a1), (2, vI a2), (3, vI a3), (4, vI a4), (5, vI a5)] [] _ H _
  have b269307 : 0 ≤ H r0 6 ∧ H r0 6 ≤ 900 := hW.box g0 (n := 33) rfl (by decide) rfl
  refine wp_of e168 c168_0 (rw_aload_n (pc' := 1) (v := .ref r0) rfl rfl rfl ?_)
  refine wp_of e168 c168_1 (rw_iconst (pc' := 2) rfl ?_)
  refine wp_of e168 c168_2 (xp_I (pc' := 5) lf_9_48 hW g0 sh_42 (by decide) (by decide) ty_42_0 rfl rfl (by omega) (by omega) ⟨by omega, by omega⟩ rfl (fun H269308 e269309 w269310 => ?_))
  have f269311 := f0.put' e269309 g0 rfl
  have k269312 : H269308 r0 0 = 0 := wq_u_s e269309
  refine wp_of e168 c168_5 (rw_aload_n (pc' := 6) (v := .ref r0) rfl rfl rfl ?_)
  have k269313 : H269308 r0 6 = H r0 6 := (wq_u_j e269309 rfl)
  refine wp_of e168 c168_6 (xg_I (pc' := 9) lf_9_330 w269310 g0 sh_42 (by decide) (by decide) ty_42_6 rfl rfl (fun b269314 b269315 => ?_))
  refine wp_of e168 c168_9 (rw_bipush (pc' := 11) (z := 20) rfl (by decide) ?_)
  refine wp_of e168 c168_11 (rw_iadd (pc' := 12) rfl ?_)
  refine wp_of e168 c168_12 (rw_sipush (pc' := 15) (z := 900) rfl (by decide) ?_)
  refine wp_of e168 c168_15 (rw_icmp_le (p1 := 20) (p2 := 18) (by decide) rfl ⟨by omega, by omega⟩ ⟨by omega, by omega⟩ (fun c269316 => ?_) (fun c269316 => ?_))
  · refine wp_of e168 c168_20 (rw_iconst (pc' := 21) rfl ?_)
    refine wp_of e168 c168_21 (rw_istore (pc' := 23) (z := 0) (L' := [(6, vI 0), (0, .ref r0), (1, vI a1), (2, vI a2), (3, vI a3), (4, vI a4), (5, vI a5)]) rfl rfl rfl ?_)
    have lp269670 : ∀ (n269671 : Nat) (v269673 : Int) (H269674 : wq_H) (ii269675 : Nat), WT T H269674 → wfr [(42, 6), (43, 999)] T H269308 H269674 → (0 ≤ v269673 ∧ v269673 ≤ 20) → TM T H269674 rb (xfk B t a1 a2 a3 a4 a5 ii269675) → (v269673 = (ii269675 : Int)) → (ii269675 ≤ 20) → (H269674 r0 6 = t + (ii269675 : Int)) → (20 - v269673).toNat = n269671 → wp kt 0 168 23 [(6, vI v269673), (0, .ref r0), (1, vI a1), (2, vI a2), (3, vI a3), (4, vI a4), (5, vI a5)] [] T H269674 (uq_168 r0 a1 a2 a3 a4 a5 rb B t b1 b2 b3 b4 b5 T H) := by
      intro n269671
      induction n269671 using Nat.strongRecOn with
      | _ n269671 ih269672 =>
        intro v269673 H269674 ii269675 w269676 f269677 b269678 h269680 x269681 x269682 x269683 m269679
        have f269684 := f269311.tr f269677 rfl
        refine wp_of e168 c168_23 (rw_iload (pc' := 25) (z := v269673) rfl rfl ?_)
        refine wp_of e168 c168_25 (rw_bipush (pc' := 27) (z := 20) rfl (by decide) ?_)
        refine wp_of e168 c168_27 (rw_icmp_ge (p1 := 117) (p2 := 30) (by decide) rfl ⟨by omega, by omega⟩ ⟨by omega, by omega⟩ (fun c269685 => ?_) (fun c269685 => ?_))
        · refine wp_of e168 c168_117 (rw_aload_n (pc' := 118) (v := .ref r0) rfl rfl rfl ?_)
          refine wp_of e168 c168_118 (xg_I (pc' := 121) lf_9_330 w269676 g0 sh_42 (by decide) (by decide) ty_42_6 rfl rfl (fun b269686 b269687 => ?_))
          exact wp_ireturn e168 c168_121 rfl ⟨rfl, w269676, f269684, H269674 r0 6, rfl, ⟨by omega, by omega⟩, (Or.inr ⟨by omega, by omega, by omega, by omega, by
            rw [← p1, ← p2, ← p3, ← p4, ← p5]
            have e4 : ii269675 = 20 := by omega
            rw [← e4]
            exact h269680⟩)⟩
        · refine wp_of e168 c168_30 (rw_iload (pc' := 32) (z := v269673) rfl rfl ?_)
          refine wp_of e168 c168_32 (rw_iconst (pc' := 33) rfl ?_)
          refine wp_of e168 c168_33 (rw_icmp_ge (p1 := 40) (p2 := 36) (by decide) rfl ⟨by omega, by omega⟩ ⟨by omega, by omega⟩ (fun c269688 => ?_) (fun c269688 => ?_))
          · refine wp_of e168 c168_40 (rw_iload (pc' := 42) (z := v269673) rfl rfl ?_)
            refine wp_of e168 c168_42 (rw_bipush (pc' := 44) (z := 8) rfl (by decide) ?_)
            refine wp_of e168 c168_44 (rw_icmp_ge (p1 := 51) (p2 := 47) (by decide) rfl ⟨by omega, by omega⟩ ⟨by omega, by omega⟩ (fun c269689 => ?_) (fun c269689 => ?_))
            · refine wp_of e168 c168_51 (rw_iload (pc' := 53) (z := v269673) rfl rfl ?_)
              refine wp_of e168 c168_53 (rw_bipush (pc' := 55) (z := 12) rfl (by decide) ?_)
              refine wp_of e168 c168_55 (rw_icmp_ge (p1 := 62) (p2 := 58) (by decide) rfl ⟨by omega, by omega⟩ ⟨by omega, by omega⟩ (fun c269690 => ?_) (fun c269690 => ?_))
              · refine wp_of e168 c168_62 (rw_iload (pc' := 64) (z := v269673) rfl rfl ?_)
                refine wp_of e168 c168_64 (rw_bipush (pc' := 66) (z := 16) rfl (by decide) ?_)
                refine wp_of e168 c168_66 (rw_icmp_ge (p1 := 74) (p2 := 69) (by decide) rfl ⟨by omega, by omega⟩ ⟨by omega, by omega⟩ (fun c269691 => ?_) (fun c269691 => ?_))
                · refine wp_of e168 c168_74 (rw_iload (pc' := 76) (z := a5) rfl rfl ?_)
                  refine wp_of e168 c168_76 (rw_istore (pc' := 78) (z := a5) (L' := [(7, vI a5), (6, vI v269673), (0, .ref r0), (1, vI a1), (2, vI a2), (3, vI a3), (4, vI a4), (5, vI a5)]) rfl rfl rfl ?_)
                  have _w := @xw5_e ii269675 a1 a2 a3 a4 a5
                  refine wp_of e168 c168_78 (rw_aload_n (pc' := 79) (v := .ref r0) rfl rfl rfl ?_)
                  have k269692 : H269674 r0 5 = H r0 5 := ((f269677 r0 5 _ g0 rfl).trans (wq_u_j e269309 rfl))
                  have q269693 : H269674 r0 5 = (rb : Int) := k269692.trans qrb
                  refine wp_of e168 c168_79 (xg_K (pc' := 82) lf_9_13 w269676 g0 sh_42 (by decide) (by decide) rfl q269693 rfl ?_)
                  refine wp_of e168 c168_82 (rw_aload_n (pc' := 83) (v := .ref r0) rfl rfl rfl ?_)
                  refine wp_of e168 c168_83 (xg_I (pc' := 86) lf_9_330 w269676 g0 sh_42 (by decide) (by decide) ty_42_6 rfl rfl (fun b269694 b269695 => ?_))
                  refine wp_of e168 c168_86 (rw_iload (pc' := 88) (z := a5) rfl rfl ?_)
                  refine wp_of e168 c168_88 (rw_bipush (pc' := 90) (z := 24) rfl (by decide) ?_)
                  refine wp_of e168 c168_90 (rw_bipush (pc' := 92) (z := 8) rfl (by decide) ?_)
                  refine wp_of e168 c168_92 (rw_iload (pc' := 94) (z := v269673) rfl rfl ?_)
                  refine wp_of e168 c168_94 (rw_iconst (pc' := 95) rfl ?_)
                  refine wp_of e168 c168_95 (rw_irem (pc' := 96) rfl ⟨by omega, by omega⟩ (by omega) ?_)
                  obtain ⟨v269696, e269697⟩ : ∃ x : Int, x = wq_rem v269673 4 := ⟨_, rfl⟩
                  rw [← e269697]
                  have b269698 : v269696 = v269673 % 4 := by
                    rw [e269697]
                    exact wq_rem_e ⟨by omega, by omega⟩ ⟨by omega, by omega⟩
                  refine wp_of e168 c168_96 (rw_imul (pc' := 97) rfl ?_)
                  refine wp_of e168 c168_97 (rw_isub (pc' := 98) rfl ?_)
                  refine wp_of e168 c168_98 (rw_ishr (pc' := 99) rfl ?_)
                  obtain ⟨v269699, e269700⟩ : ∃ x : Int, x = wq_shr a5 (24 - (8 * v269696)) := ⟨_, rfl⟩
                  rw [← e269700]
                  have b269701 : -2147483648 ≤ v269699 ∧ v269699 ≤ 2147483647 := by
                    rw [e269700]
                    exact wI_shr _ _
                  refine wp_of e168 c168_99 (rw_i2b (pc' := 100) rfl ?_)
                  obtain ⟨v269702, e269703⟩ : ∃ x : Int, x = wq_i2b v269699 := ⟨_, rfl⟩
                  rw [← e269703]
                  have b269704 : -128 ≤ v269702 ∧ v269702 ≤ 127 := by
                    rw [e269703]
                    exact wq_i2b_b _
                  have o269705 : v269702 = wq_i2b (wq_shr a5 (24 - (8 * v269696))) := by
                    subst_vars
                    rfl
                  refine wp_of e168 c168_100 (xs_B (pc' := 101) w269676 grb (by decide) sh_43 (by decide) (ty_43 _) (by omega) (by omega) ⟨by omega, by omega⟩ (by omega) (by omega) rfl (fun H269706 e269707 w269708 => ?_))
                  have f269709 := f269684.put' e269707 grb rfl
                  have f269710 := f269677.put' e269707 grb rfl
                  have h269711 : TM T H269706 rb (xfk B t a1 a2 a3 a4 a5 (ii269675 + 1)) := TM_fk h269680 e269707 (by omega) o269705 (by omega) (by omega)
                  refine wp_of e168 c168_101 (rw_aload_n (pc' := 102) (v := .ref r0) rfl rfl rfl ?_)
                  refine wp_of e168 c168_102 (rw_dup (pc' := 103) rfl rfl ?_)
                  have k269712 : H269706 r0 6 = H269674 r0 6 := (wq_u_t e269707 grb g0 rfl 6)
                  refine wp_of e168 c168_103 (xg_I (pc' := 106) lf_9_330 w269708 g0 sh_42 (by decide) (by decide) ty_42_6 rfl rfl (fun b269713 b269714 => ?_))
                  refine wp_of e168 c168_106 (rw_iconst (pc' := 107) rfl ?_)
                  refine wp_of e168 c168_107 (rw_iadd (pc' := 108) rfl ?_)
                  refine wp_of e168 c168_108 (xp_I (pc' := 111) lf_9_330 w269708 g0 sh_42 (by decide) (by decide) ty_42_6 rfl rfl (by omega) (by omega) ⟨by omega, by omega⟩ rfl (fun H269715 e269716 w269717 => ?_))
                  have f269718 := f269709.put' e269716 g0 rfl
                  have f269719 := f269710.put' e269716 g0 rfl
                  have k269720 : H269715 r0 6 = (H269706 r0 6) + 1 := wq_u_s e269716
                  refine wp_of e168 c168_111 (rw_iinc (pc' := 114) (z := v269673) (L' := [(6, vI (v269673 + 1)), (7, vI a5), (0, .ref r0), (1, vI a1), (2, vI a2), (3, vI a3), (4, vI a4), (5, vI a5)]) rfl rfl rfl rfl ?_)
                  refine wp_of e168 c168_114 (rw_goto (p1 := 23) (by decide) ?_)
                  have h269721 : TM T H269715 rb (xfk B t a1 a2 a3 a4 a5 (ii269675 + 1)) := (TM_fr w269708 grb ((wfr.rf (l := [(42, 6)])).put' e269716 g0 rfl) rfl h269711)
                  exact wp_lc (ks := [6, 7, 0, 1, 2, 3, 4, 5]) (wl_c rfl (wl_c rfl (wl_c rfl (wl_c rfl (wl_c rfl (wl_c rfl (wl_c rfl wl_n))))))) rfl (by decide) (ih269672 _ (by omega) (v269673 + 1) H269715 ((ii269675 + 1)) w269717 f269719 ⟨by omega, by omega⟩ h269721 (by omega) (by omega) (by omega) rfl)
                · refine wp_of e168 c168_69 (rw_iload (pc' := 71) (z := a4) rfl rfl ?_)
                  refine wp_of e168 c168_71 (rw_goto (p1 := 76) (by decide) ?_)
                  refine wp_of e168 c168_76 (rw_istore (pc' := 78) (z := a4) (L' := [(7, vI a4), (6, vI v269673), (0, .ref r0), (1, vI a1), (2, vI a2), (3, vI a3), (4, vI a4), (5, vI a5)]) rfl rfl rfl ?_)
                  have _w := @xw5_e ii269675 a1 a2 a3 a4 a5
                  refine wp_of e168 c168_78 (rw_aload_n (pc' := 79) (v := .ref r0) rfl rfl rfl ?_)
                  have k269722 : H269674 r0 5 = H r0 5 := ((f269677 r0 5 _ g0 rfl).trans (wq_u_j e269309 rfl))
                  have q269723 : H269674 r0 5 = (rb : Int) := k269722.trans qrb
                  refine wp_of e168 c168_79 (xg_K (pc' := 82) lf_9_13 w269676 g0 sh_42 (by decide) (by decide) rfl q269723 rfl ?_)
                  refine wp_of e168 c168_82 (rw_aload_n (pc' := 83) (v := .ref r0) rfl rfl rfl ?_)
                  refine wp_of e168 c168_83 (xg_I (pc' := 86) lf_9_330 w269676 g0 sh_42 (by decide) (by decide) ty_42_6 rfl rfl (fun b269724 b269725 => ?_))
                  refine wp_of e168 c168_86 (rw_iload (pc' := 88) (z := a4) rfl rfl ?_)
                  refine wp_of e168 c168_88 (rw_bipush (pc' := 90) (z := 24) rfl (by decide) ?_)
                  refine wp_of e168 c168_90 (rw_bipush (pc' := 92) (z := 8) rfl (by decide) ?_)
                  refine wp_of e168 c168_92 (rw_iload (pc' := 94) (z := v269673) rfl rfl ?_)
                  refine wp_of e168 c168_94 (rw_iconst (pc' := 95) rfl ?_)
                  refine wp_of e168 c168_95 (rw_irem (pc' := 96) rfl ⟨by omega, by omega⟩ (by omega) ?_)
                  obtain ⟨v269726, e269727⟩ : ∃ x : Int, x = wq_rem v269673 4 := ⟨_, rfl⟩
                  rw [← e269727]
                  have b269728 : v269726 = v269673 % 4 := by
                    rw [e269727]
                    exact wq_rem_e ⟨by omega, by omega⟩ ⟨by omega, by omega⟩
                  refine wp_of e168 c168_96 (rw_imul (pc' := 97) rfl ?_)
                  refine wp_of e168 c168_97 (rw_isub (pc' := 98) rfl ?_)
                  refine wp_of e168 c168_98 (rw_ishr (pc' := 99) rfl ?_)
                  obtain ⟨v269729, e269730⟩ : ∃ x : Int, x = wq_shr a4 (24 - (8 * v269726)) := ⟨_, rfl⟩
                  rw [← e269730]
                  have b269731 : -2147483648 ≤ v269729 ∧ v269729 ≤ 2147483647 := by
                    rw [e269730]
                    exact wI_shr _ _
                  refine wp_of e168 c168_99 (rw_i2b (pc' := 100) rfl ?_)
                  obtain ⟨v269732, e269733⟩ : ∃ x : Int, x = wq_i2b v269729 := ⟨_, rfl⟩
                  rw [← e269733]
                  have b269734 : -128 ≤ v269732 ∧ v269732 ≤ 127 := by
                    rw [e269733]
                    exact wq_i2b_b _
                  have o269735 : v269732 = wq_i2b (wq_shr a4 (24 - (8 * v269726))) := by
                    subst_vars
                    rfl
                  refine wp_of e168 c168_100 (xs_B (pc' := 101) w269676 grb (by decide) sh_43 (by decide) (ty_43 _) (by omega) (by omega) ⟨by omega, by omega⟩ (by omega) (by omega) rfl (fun H269736 e269737 w269738 => ?_))
                  have f269739 := f269684.put' e269737 grb rfl
                  have f269740 := f269677.put' e269737 grb rfl
                  have h269741 : TM T H269736 rb (xfk B t a1 a2 a3 a4 a5 (ii269675 + 1)) := TM_fk h269680 e269737 (by omega) o269735 (by omega) (by omega)
                  refine wp_of e168 c168_101 (rw_aload_n (pc' := 102) (v := .ref r0) rfl rfl rfl ?_)
                  refine wp_of e168 c168_102 (rw_dup (pc' := 103) rfl rfl ?_)
                  have k269742 : H269736 r0 6 = H269674 r0 6 := (wq_u_t e269737 grb g0 rfl 6)
                  refine wp_of e168 c168_103 (xg_I (pc' := 106) lf_9_330 w269738 g0 sh_42 (by decide) (by decide) ty_42_6 rfl rfl (fun b269743 b269744 => ?_))
                  refine wp_of e168 c168_106 (rw_iconst (pc' := 107) rfl ?_)
                  refine wp_of e168 c168_107 (rw_iadd (pc' := 108) rfl ?_)
                  refine wp_of e168 c168_108 (xp_I (pc' := 111) lf_9_330 w269738 g0 sh_42 (by decide) (by decide) ty_42_6 rfl rfl (by omega) (by omega) ⟨by omega, by omega⟩ rfl (fun H269745 e269746 w269747 => ?_))
                  have f269748 := f269739.put' e269746 g0 rfl
                  have f269749 := f269740.put' e269746 g0 rfl
                  have k269750 : H269745 r0 6 = (H269736 r0 6) + 1 := wq_u_s e269746
                  refine wp_of e168 c168_111 (rw_iinc (pc' := 114) (z := v269673) (L' := [(6, vI (v269673 + 1)), (7, vI a4), (0, .ref r0), (1, vI a1), (2, vI a2), (3, vI a3), (4, vI a4), (5, vI a5)]) rfl rfl rfl rfl ?_)
                  refine wp_of e168 c168_114 (rw_goto (p1 := 23) (by decide) ?_)
                  have h269751 : TM T H269745 rb (xfk B t a1 a2 a3 a4 a5 (ii269675 + 1)) := (TM_fr w269738 grb ((wfr.rf (l := [(42, 6)])).put' e269746 g0 rfl) rfl h269741)
                  exact wp_lc (ks := [6, 7, 0, 1, 2, 3, 4, 5]) (wl_c rfl (wl_c rfl (wl_c rfl (wl_c rfl (wl_c rfl (wl_c rfl (wl_c rfl wl_n))))))) rfl (by decide) (ih269672 _ (by omega) (v269673 + 1) H269745 ((ii269675 + 1)) w269747 f269749 ⟨by omega, by omega⟩ h269751 (by omega) (by omega) (by omega) rfl)
              · refine wp_of e168 c168_58 (rw_iload_n (pc' := 59) (z := a3) rfl rfl ?_)
                refine wp_of e168 c168_59 (rw_goto (p1 := 76) (by decide) ?_)
                refine wp_of e168 c168_76 (rw_istore (pc' := 78) (z := a3) (L' := [(7, vI a3), (6, vI v269673), (0, .ref r0), (1, vI a1), (2, vI a2), (3, vI a3), (4, vI a4), (5, vI a5)]) rfl rfl rfl ?_)
                have _w := @xw5_e ii269675 a1 a2 a3 a4 a5
                refine wp_of e168 c168_78 (rw_aload_n (pc' := 79) (v := .ref r0) rfl rfl rfl ?_)
                have k269752 : H269674 r0 5 = H r0 5 := ((f269677 r0 5 _ g0 rfl).trans (wq_u_j e269309 rfl))
                have q269753 : H269674 r0 5 = (rb : Int) := k269752.trans qrb
                refine wp_of e168 c168_79 (xg_K (pc' := 82) lf_9_13 w269676 g0 sh_42 (by decide) (by decide) rfl q269753 rfl ?_)
                refine wp_of e168 c168_82 (rw_aload_n (pc' := 83) (v := .ref r0) rfl rfl rfl ?_)
                refine wp_of e168 c168_83 (xg_I (pc' := 86) lf_9_330 w269676 g0 sh_42 (by decide) (by decide) ty_42_6 rfl rfl (fun b269754 b269755 => ?_))
                refine wp_of e168 c168_86 (rw_iload (pc' := 88) (z := a3) rfl rfl ?_)
                refine wp_of e168 c168_88 (rw_bipush (pc' := 90) (z := 24) rfl (by decide) ?_)
                refine wp_of e168 c168_90 (rw_bipush (pc' := 92) (z := 8) rfl (by decide) ?_)
                refine wp_of e168 c168_92 (rw_iload (pc' := 94) (z := v269673) rfl rfl ?_)
                refine wp_of e168 c168_94 (rw_iconst (pc' := 95) rfl ?_)
                refine wp_of e168 c168_95 (rw_irem (pc' := 96) rfl ⟨by omega, by omega⟩ (by omega) ?_)
                obtain ⟨v269756, e269757⟩ : ∃ x : Int, x = wq_rem v269673 4 := ⟨_, rfl⟩
                rw [← e269757]
                have b269758 : v269756 = v269673 % 4 := by
                  rw [e269757]
                  exact wq_rem_e ⟨by omega, by omega⟩ ⟨by omega, by omega⟩
                refine wp_of e168 c168_96 (rw_imul (pc' := 97) rfl ?_)
                refine wp_of e168 c168_97 (rw_isub (pc' := 98) rfl ?_)
                refine wp_of e168 c168_98 (rw_ishr (pc' := 99) rfl ?_)
                obtain ⟨v269759, e269760⟩ : ∃ x : Int, x = wq_shr a3 (24 - (8 * v269756)) := ⟨_, rfl⟩
                rw [← e269760]
                have b269761 : -2147483648 ≤ v269759 ∧ v269759 ≤ 2147483647 := by
                  rw [e269760]
                  exact wI_shr _ _
                refine wp_of e168 c168_99 (rw_i2b (pc' := 100) rfl ?_)
                obtain ⟨v269762, e269763⟩ : ∃ x : Int, x = wq_i2b v269759 := ⟨_, rfl⟩
                rw [← e269763]
                have b269764 : -128 ≤ v269762 ∧ v269762 ≤ 127 := by
                  rw [e269763]
                  exact wq_i2b_b _
                have o269765 : v269762 = wq_i2b (wq_shr a3 (24 - (8 * v269756))) := by
                  subst_vars
                  rfl
                refine wp_of e168 c168_100 (xs_B (pc' := 101) w269676 grb (by decide) sh_43 (by decide) (ty_43 _) (by omega) (by omega) ⟨by omega, by omega⟩ (by omega) (by omega) rfl (fun H269766 e269767 w269768 => ?_))
                have f269769 := f269684.put' e269767 grb rfl
                have f269770 := f269677.put' e269767 grb rfl
                have h269771 : TM T H269766 rb (xfk B t a1 a2 a3 a4 a5 (ii269675 + 1)) := TM_fk h269680 e269767 (by omega) o269765 (by omega) (by omega)
                refine wp_of e168 c168_101 (rw_aload_n (pc' := 102) (v := .ref r0) rfl rfl rfl ?_)
                refine wp_of e168 c168_102 (rw_dup (pc' := 103) rfl rfl ?_)
                have k269772 : H269766 r0 6 = H269674 r0 6 := (wq_u_t e269767 grb g0 rfl 6)
                refine wp_of e168 c168_103 (xg_I (pc' := 106) lf_9_330 w269768 g0 sh_42 (by decide) (by decide) ty_42_6 rfl rfl (fun b269773 b269774 => ?_))
                refine wp_of e168 c168_106 (rw_iconst (pc' := 107) rfl ?_)
                refine wp_of e168 c168_107 (rw_iadd (pc' := 108) rfl ?_)
                refine wp_of e168 c168_108 (xp_I (pc' := 111) lf_9_330 w269768 g0 sh_42 (by decide) (by decide) ty_42_6 rfl rfl (by omega) (by omega) ⟨by omega, by omega⟩ rfl (fun H269775 e269776 w269777 => ?_))
                have f269778 := f269769.put' e269776 g0 rfl
                have f269779 := f269770.put' e269776 g0 rfl
                have k269780 : H269775 r0 6 = (H269766 r0 6) + 1 := wq_u_s e269776
                refine wp_of e168 c168_111 (rw_iinc (pc' := 114) (z := v269673) (L' := [(6, vI (v269673 + 1)), (7, vI a3), (0, .ref r0), (1, vI a1), (2, vI a2), (3, vI a3), (4, vI a4), (5, vI a5)]) rfl rfl rfl rfl ?_)
                refine wp_of e168 c168_114 (rw_goto (p1 := 23) (by decide) ?_)
                have h269781 : TM T H269775 rb (xfk B t a1 a2 a3 a4 a5 (ii269675 + 1)) := (TM_fr w269768 grb ((wfr.rf (l := [(42, 6)])).put' e269776 g0 rfl) rfl h269771)
                exact wp_lc (ks := [6, 7, 0, 1, 2, 3, 4, 5]) (wl_c rfl (wl_c rfl (wl_c rfl (wl_c rfl (wl_c rfl (wl_c rfl (wl_c rfl wl_n))))))) rfl (by decide) (ih269672 _ (by omega) (v269673 + 1) H269775 ((ii269675 + 1)) w269777 f269779 ⟨by omega, by omega⟩ h269781 (by omega) (by omega) (by omega) rfl)
            · refine wp_of e168 c168_47 (rw_iload_n (pc' := 48) (z := a2) rfl rfl ?_)
              refine wp_of e168 c168_48 (rw_goto (p1 := 76) (by decide) ?_)
              refine wp_of e168 c168_76 (rw_istore (pc' := 78) (z := a2) (L' := [(7, vI a2), (6, vI v269673), (0, .ref r0), (1, vI a1), (2, vI a2), (3, vI a3), (4, vI a4), (5, vI a5)]) rfl rfl rfl ?_)
              have _w := @xw5_e ii269675 a1 a2 a3 a4 a5
              refine wp_of e168 c168_78 (rw_aload_n (pc' := 79) (v := .ref r0) rfl rfl rfl ?_)
              have k269782 : H269674 r0 5 = H r0 5 := ((f269677 r0 5 _ g0 rfl).trans (wq_u_j e269309 rfl))
              have q269783 : H269674 r0 5 = (rb : Int) := k269782.trans qrb
              refine wp_of e168 c168_79 (xg_K (pc' := 82) lf_9_13 w269676 g0 sh_42 (by decide) (by decide) rfl q269783 rfl ?_)
              refine wp_of e168 c168_82 (rw_aload_n (pc' := 83) (v := .ref r0) rfl rfl rfl ?_)
              refine wp_of e168 c168_83 (xg_I (pc' := 86) lf_9_330 w269676 g0 sh_42 (by decide) (by decide) ty_42_6 rfl rfl (fun b269784 b269785 => ?_))
              refine wp_of e168 c168_86 (rw_iload (pc' := 88) (z := a2) rfl rfl ?_)
              refine wp_of e168 c168_88 (rw_bipush (pc' := 90) (z := 24) rfl (by decide) ?_)
              refine wp_of e168 c168_90 (rw_bipush (pc' := 92) (z := 8) rfl (by decide) ?_)
              refine wp_of e168 c168_92 (rw_iload (pc' := 94) (z := v269673) rfl rfl ?_)
              refine wp_of e168 c168_94 (rw_iconst (pc' := 95) rfl ?_)
              refine wp_of e168 c168_95 (rw_irem (pc' := 96) rfl ⟨by omega, by omega⟩ (by omega) ?_)
              obtain ⟨v269786, e269787⟩ : ∃ x : Int, x = wq_rem v269673 4 := ⟨_, rfl⟩
              rw [← e269787]
              have b269788 : v269786 = v269673 % 4 := by
                rw [e269787]
                exact wq_rem_e ⟨by omega, by omega⟩ ⟨by omega, by omega⟩
              refine wp_of e168 c168_96 (rw_imul (pc' := 97) rfl ?_)
              refine wp_of e168 c168_97 (rw_isub (pc' := 98) rfl ?_)
              refine wp_of e168 c168_98 (rw_ishr (pc' := 99) rfl ?_)
              obtain ⟨v269789, e269790⟩ : ∃ x : Int, x = wq_shr a2 (24 - (8 * v269786)) := ⟨_, rfl⟩
              rw [← e269790]
              have b269791 : -2147483648 ≤ v269789 ∧ v269789 ≤ 2147483647 := by
                rw [e269790]
                exact wI_shr _ _
              refine wp_of e168 c168_99 (rw_i2b (pc' := 100) rfl ?_)
              obtain ⟨v269792, e269793⟩ : ∃ x : Int, x = wq_i2b v269789 := ⟨_, rfl⟩
              rw [← e269793]
              have b269794 : -128 ≤ v269792 ∧ v269792 ≤ 127 := by
                rw [e269793]
                exact wq_i2b_b _
              have o269795 : v269792 = wq_i2b (wq_shr a2 (24 - (8 * v269786))) := by
                subst_vars
                rfl
              refine wp_of e168 c168_100 (xs_B (pc' := 101) w269676 grb (by decide) sh_43 (by decide) (ty_43 _) (by omega) (by omega) ⟨by omega, by omega⟩ (by omega) (by omega) rfl (fun H269796 e269797 w269798 => ?_))
              have f269799 := f269684.put' e269797 grb rfl
              have f269800 := f269677.put' e269797 grb rfl
              have h269801 : TM T H269796 rb (xfk B t a1 a2 a3 a4 a5 (ii269675 + 1)) := TM_fk h269680 e269797 (by omega) o269795 (by omega) (by omega)
              refine wp_of e168 c168_101 (rw_aload_n (pc' := 102) (v := .ref r0) rfl rfl rfl ?_)
              refine wp_of e168 c168_102 (rw_dup (pc' := 103) rfl rfl ?_)
              have k269802 : H269796 r0 6 = H269674 r0 6 := (wq_u_t e269797 grb g0 rfl 6)
              refine wp_of e168 c168_103 (xg_I (pc' := 106) lf_9_330 w269798 g0 sh_42 (by decide) (by decide) ty_42_6 rfl rfl (fun b269803 b269804 => ?_))
              refine wp_of e168 c168_106 (rw_iconst (pc' := 107) rfl ?_)
              refine wp_of e168 c168_107 (rw_iadd (pc' := 108) rfl ?_)
              refine wp_of e168 c168_108 (xp_I (pc' := 111) lf_9_330 w269798 g0 sh_42 (by decide) (by decide) ty_42_6 rfl rfl (by omega) (by omega) ⟨by omega, by omega⟩ rfl (fun H269805 e269806 w269807 => ?_))
              have f269808 := f269799.put' e269806 g0 rfl
              have f269809 := f269800.put' e269806 g0 rfl
              have k269810 : H269805 r0 6 = (H269796 r0 6) + 1 := wq_u_s e269806
              refine wp_of e168 c168_111 (rw_iinc (pc' := 114) (z := v269673) (L' := [(6, vI (v269673 + 1)), (7, vI a2), (0, .ref r0), (1, vI a1), (2, vI a2), (3, vI a3), (4, vI a4), (5, vI a5)]) rfl rfl rfl rfl ?_)
              refine wp_of e168 c168_114 (rw_goto (p1 := 23) (by decide) ?_)
              have h269811 : TM T H269805 rb (xfk B t a1 a2 a3 a4 a5 (ii269675 + 1)) := (TM_fr w269798 grb ((wfr.rf (l := [(42, 6)])).put' e269806 g0 rfl) rfl h269801)
              exact wp_lc (ks := [6, 7, 0, 1, 2, 3, 4, 5]) (wl_c rfl (wl_c rfl (wl_c rfl (wl_c rfl (wl_c rfl (wl_c rfl (wl_c rfl wl_n))))))) rfl (by decide) (ih269672 _ (by omega) (v269673 + 1) H269805 ((ii269675 + 1)) w269807 f269809 ⟨by omega, by omega⟩ h269811 (by omega) (by omega) (by omega) rfl)
          · refine wp_of e168 c168_36 (rw_iload_n (pc' := 37) (z := a1) rfl rfl ?_)
            refine wp_of e168 c168_37 (rw_goto (p1 := 76) (by decide) ?_)
            refine wp_of e168 c168_76 (rw_istore (pc' := 78) (z := a1) (L' := [(7, vI a1), (6, vI v269673), (0, .ref r0), (1, vI a1), (2, vI a2), (3, vI a3), (4, vI a4), (5, vI a5)]) rfl rfl rfl ?_)
            have _w := @xw5_e ii269675 a1 a2 a3 a4 a5
            refine wp_of e168 c168_78 (rw_aload_n (pc' := 79) (v := .ref r0) rfl rfl rfl ?_)
            have k269812 : H269674 r0 5 = H r0 5 := ((f269677 r0 5 _ g0 rfl).trans (wq_u_j e269309 rfl))
            have q269813 : H269674 r0 5 = (rb : Int) := k269812.trans qrb
            refine wp_of e168 c168_79 (xg_K (pc' := 82) lf_9_13 w269676 g0 sh_42 (by decide) (by decide) rfl q269813 rfl ?_)
            refine wp_of e168 c168_82 (rw_aload_n (pc' := 83) (v := .ref r0) rfl rfl rfl ?_)
            refine wp_of e168 c168_83 (xg_I (pc' := 86) lf_9_330 w269676 g0 sh_42 (by decide) (by decide) ty_42_6 rfl rfl (fun b269814 b269815 => ?_))
            refine wp_of e168 c168_86 (rw_iload (pc' := 88) (z := a1) rfl rfl ?_)
            refine wp_of e168 c168_88 (rw_bipush (pc' := 90) (z := 24) rfl (by decide) ?_)
            refine wp_of e168 c168_90 (rw_bipush (pc' := 92) (z := 8) rfl (by decide) ?_)
            refine wp_of e168 c168_92 (rw_iload (pc' := 94) (z := v269673) rfl rfl ?_)
            refine wp_of e168 c168_94 (rw_iconst (pc' := 95) rfl ?_)
            refine wp_of e168 c168_95 (rw_irem (pc' := 96) rfl ⟨by omega, by omega⟩ (by omega) ?_)
            obtain ⟨v269816, e269817⟩ : ∃ x : Int, x = wq_rem v269673 4 := ⟨_, rfl⟩
            rw [← e269817]
            have b269818 : v269816 = v269673 % 4 := by
              rw [e269817]
              exact wq_rem_e ⟨by omega, by omega⟩ ⟨by omega, by omega⟩
            refine wp_of e168 c168_96 (rw_imul (pc' := 97) rfl ?_)
            refine wp_of e168 c168_97 (rw_isub (pc' := 98) rfl ?_)
            refine wp_of e168 c168_98 (rw_ishr (pc' := 99) rfl ?_)
            obtain ⟨v269819, e269820⟩ : ∃ x : Int, x = wq_shr a1 (24 - (8 * v269816)) := ⟨_, rfl⟩
            rw [← e269820]
            have b269821 : -2147483648 ≤ v269819 ∧ v269819 ≤ 2147483647 := by
              rw [e269820]
              exact wI_shr _ _
            refine wp_of e168 c168_99 (rw_i2b (pc' := 100) rfl ?_)
            obtain ⟨v269822, e269823⟩ : ∃ x : Int, x = wq_i2b v269819 := ⟨_, rfl⟩
            rw [← e269823]
            have b269824 : -128 ≤ v269822 ∧ v269822 ≤ 127 := by
              rw [e269823]
              exact wq_i2b_b _
            have o269825 : v269822 = wq_i2b (wq_shr a1 (24 - (8 * v269816))) := by
              subst_vars
              rfl
            refine wp_of e168 c168_100 (xs_B (pc' := 101) w269676 grb (by decide) sh_43 (by decide) (ty_43 _) (by omega) (by omega) ⟨by omega, by omega⟩ (by omega) (by omega) rfl (fun H269826 e269827 w269828 => ?_))
            have f269829 := f269684.put' e269827 grb rfl
            have f269830 := f269677.put' e269827 grb rfl
            have h269831 : TM T H269826 rb (xfk B t a1 a2 a3 a4 a5 (ii269675 + 1)) := TM_fk h269680 e269827 (by omega) o269825 (by omega) (by omega)
            refine wp_of e168 c168_101 (rw_aload_n (pc' := 102) (v := .ref r0) rfl rfl rfl ?_)
            refine wp_of e168 c168_102 (rw_dup (pc' := 103) rfl rfl ?_)
            have k269832 : H269826 r0 6 = H269674 r0 6 := (wq_u_t e269827 grb g0 rfl 6)
            refine wp_of e168 c168_103 (xg_I (pc' := 106) lf_9_330 w269828 g0 sh_42 (by decide) (by decide) ty_42_6 rfl rfl (fun b269833 b269834 => ?_))
            refine wp_of e168 c168_106 (rw_iconst (pc' := 107) rfl ?_)
            refine wp_of e168 c168_107 (rw_iadd (pc' := 108) rfl ?_)
            refine wp_of e168 c168_108 (xp_I (pc' := 111) lf_9_330 w269828 g0 sh_42 (by decide) (by decide) ty_42_6 rfl rfl (by omega) (by omega) ⟨by omega, by omega⟩ rfl (fun H269835 e269836 w269837 => ?_))
            have f269838 := f269829.put' e269836 g0 rfl
            have f269839 := f269830.put' e269836 g0 rfl
            have k269840 : H269835 r0 6 = (H269826 r0 6) + 1 := wq_u_s e269836
            refine wp_of e168 c168_111 (rw_iinc (pc' := 114) (z := v269673) (L' := [(6, vI (v269673 + 1)), (7, vI a1), (0, .ref r0), (1, vI a1), (2, vI a2), (3, vI a3), (4, vI a4), (5, vI a5)]) rfl rfl rfl rfl ?_)
            refine wp_of e168 c168_114 (rw_goto (p1 := 23) (by decide) ?_)
            have h269841 : TM T H269835 rb (xfk B t a1 a2 a3 a4 a5 (ii269675 + 1)) := (TM_fr w269828 grb ((wfr.rf (l := [(42, 6)])).put' e269836 g0 rfl) rfl h269831)
            exact wp_lc (ks := [6, 7, 0, 1, 2, 3, 4, 5]) (wl_c rfl (wl_c rfl (wl_c rfl (wl_c rfl (wl_c rfl (wl_c rfl (wl_c rfl wl_n))))))) rfl (by decide) (ih269672 _ (by omega) (v269673 + 1) H269835 ((ii269675 + 1)) w269837 f269839 ⟨by omega, by omega⟩ h269841 (by omega) (by omega) (by omega) rfl)
    have h269842 : TM T H269308 rb B := (TM_fr hW grb ((wfr.rf (l := [(42, 0)])).put' e269309 g0 rfl) rfl hTM_rb)
    have h269843 : TM T H269308 rb (xfk B t a1 a2 a3 a4 a5 0) := h269842
    exact wp_lc (ks := [6, 0, 1, 2, 3, 4, 5]) (wl_c rfl (wl_c rfl (wl_c rfl (wl_c rfl (wl_c rfl (wl_c rfl (wl_c rfl wl_n))))))) rfl (by decide) (lp269670 _ 0 H269308 0 w269310 wfr.rf ⟨by omega, by omega⟩ h269843 (by omega) (by omega) (by omega) rfl)
  · refine wp_of e168 c168_18 (rw_iconst (pc' := 19) rfl ?_)
    have h269844 : TM T H269308 rb B := (TM_fr hW grb ((wfr.rf (l := [(42, 0)])).put' e269309 g0 rfl) rfl hTM_rb)
    exact wp_ireturn e168 c168_19 rfl ⟨rfl, w269310, f269311, -1, rfl, ⟨by omega, by omega⟩, (Or.inl ⟨by omega, by omega, by omega, h269844⟩)⟩
/-! StrikeAwakeModel.refused(I)I  -/
abbrev uq_170 (r0 : Nat) (a1 : Int) (T : wq_T) (H : wq_H) : Option Value → wq_T → wq_H → Prop := fun r T' H' => T = T' ∧ WT T H' ∧ wfr [(42, 1), (42, 2)] T H H' ∧ ∃ z : Int, some (vI z) = r ∧ ((-2147483648) ≤ z ∧ z ≤ 2147483647) ∧ (((z = -1) ∧ (H' r0 1 = a1) ∧ (H' r0 2 = -1)))
set_option maxHeartbeats 4000000 in
theorem u_170 {kt : Nat → Option mc_E} {T : wq_T} {H : wq_H} {r0 : Nat} {a1 : Int} (hW : WT T H) (g0 : T.2.2.2 r0 = some 42) (i1 : (-2147483648) ≤ a1 ∧ a1 ≤ 2147483647) : wpc kt 1 170 [.ref r0, vI a1] T H (uq_170 r0 a1 T H) := by
  refine wp_enter e170 (Nat.le_of_ble_eq_true rfl) rfl ?_
  have f0 : wfr [(42, 1), (42, 2)] T H H := wfr.rf
  show wp _ _ 170 0 [(0, .ref r0), (1, vI a1)] [] _ H _
  refine wp_of e170 c170_0 (rw_aload_n (pc' := 1) (v := .ref r0) rfl rfl rfl ?_)
  refine wp_of e170 c170_1 (rw_iload_n (pc' := 2) (z := a1) rfl rfl ?_)
  refine wp_of e170 c170_2 (xp_I (pc' := 5) lf_9_51 hW g0 sh_42 (by decide) (by decide) ty_42_1 rfl rfl (by omega) (by omega) ⟨by omega, by omega⟩ rfl (fun H270268 e270269 w270270 => ?_))
  have f270271 := f0.put' e270269 g0 rfl
  have k270272 : H270268 r0 1 = a1 := wq_u_s e270269
  refine wp_of e170 c170_5 (rw_aload_n (pc' := 6) (v := .ref r0) rfl rfl rfl ?_)
  refine wp_of e170 c170_6 (rw_iconst (pc' := 7) rfl ?_)
  refine wp_of e170 c170_7 (xp_I (pc' := 10) lf_9_9 w270270 g0 sh_42 (by decide) (by decide) ty_42_2 rfl rfl (by omega) (by omega) ⟨by omega, by omega⟩ rfl (fun H270273 e270274 w270275 => ?_))
  have f270276 := f270271.put' e270274 g0 rfl
  have k270277 : H270273 r0 2 = -1 := wq_u_s e270274
  refine wp_of e170 c170_10 (rw_iconst (pc' := 11) rfl ?_)
  have k270278 : H270273 r0 1 = H270268 r0 1 := (wq_u_j e270274 rfl)
  exact wp_ireturn e170 c170_11 rfl ⟨rfl, w270275, f270276, -1, rfl, ⟨by omega, by omega⟩, ⟨by omega, by omega, by omega⟩⟩
/-! StrikeAwakeModel.done(I)I  -/
abbrev uq_209 (r0 : Nat) (a1 : Int) (T : wq_T) (H : wq_H) : Option Value → wq_T → wq_H → Prop := fun r T' H' => T = T' ∧ WT T H' ∧ wfr [(42, 1), (42, 2)] T H H' ∧ ∃ z : Int, some (vI z) = r ∧ ((-2147483648) ≤ z ∧ z ≤ 2147483647) ∧ (((z = a1) ∧ (H' r0 1 = 0) ∧ (H' r0 2 = -1)))
set_option maxHeartbeats 4000000 in
theorem u_209 {kt : Nat → Option mc_E} {T : wq_T} {H : wq_H} {r0 : Nat} {a1 : Int} (hW : WT T H) (g0 : T.2.2.2 r0 = some 42) (i1 : (-2147483648) ≤ a1 ∧ a1 ≤ 2147483647) : wpc kt 1 209 [.ref r0, vI a1] T H (uq_209 r0 a1 T H) := by
  refine wp_enter e209 (Nat.le_of_ble_eq_true rfl) rfl ?_
  have f0 : wfr [(42, 1), (42, 2)] T H H := wfr.rf
  show wp _ _ 209 0 [(0, .ref r0), (1, vI a1)] [] _ H _
  refine wp_of e209 c209_0 (rw_aload_n (pc' := 1) (v := .ref r0) rfl rfl rfl ?_)
  refine wp_of e209 c209_1 (rw_iconst (pc' := 2) rfl ?_)
  refine wp_of e209 c209_2 (xp_I (pc' := 5) lf_9_51 hW g0 sh_42 (by decide) (by decide) ty_42_1 rfl rfl (by omega) (by omega) ⟨by omega, by omega⟩ rfl (fun H270289 e270290 w270291 => ?_))
  have f270292 := f0.put' e270290 g0 rfl
  have k270293 : H270289 r0 1 = 0 := wq_u_s e270290
  refine wp_of e209 c209_5 (rw_aload_n (pc' := 6) (v := .ref r0) rfl rfl rfl ?_)
  refine wp_of e209 c209_6 (rw_iconst (pc' := 7) rfl ?_)
  refine wp_of e209 c209_7 (xp_I (pc' := 10) lf_9_9 w270291 g0 sh_42 (by decide) (by decide) ty_42_2 rfl rfl (by omega) (by omega) ⟨by omega, by omega⟩ rfl (fun H270294 e270295 w270296 => ?_))
  have f270297 := f270292.put' e270295 g0 rfl
  have k270298 : H270294 r0 2 = -1 := wq_u_s e270295
  refine wp_of e209 c209_10 (rw_iload_n (pc' := 11) (z := a1) rfl rfl ?_)
  have k270299 : H270294 r0 1 = H270289 r0 1 := (wq_u_j e270295 rfl)
  exact wp_ireturn e209 c209_11 rfl ⟨rfl, w270296, f270297, a1, rfl, ⟨by omega, by omega⟩, ⟨by omega, by omega, by omega⟩⟩
/-! StrikeAwakeModel.parish(I)I c -/
abbrev uq_169_c (r0 : Nat) (a1 : Int) (rp : Nat) (rb : Nat) (B : Nat → Int) (T : wq_T) (H : wq_H) : Option Value → wq_T → wq_H → Prop := fun r T' H' => T = T' ∧ WT T H' ∧ wfr [(54, 0), (54, 1), (54, 2), (54, 3), (54, 4), (54, 5), (54, 6), (54, 7), (54, 8), (42, 1), (42, 2), (42, 3), (42, 4), (42, 8), (42, 9), (42, 10), (42, 11), (42, 12), (42, 13), (42, 14), (42, 15), (42, 16), (42, 17), (42, 18), (42, 19), (42, 28), (42, 32), (48, 999), (49, 999), (46, 999), (47, 999), (50, 999), (45, 999), (44, 999), (64, 999), (65, 999), (56, 999), (57, 999), (66, 999), (60, 999), (63, 999), (58, 999), (59, 999), (55, 999), (61, 999), (62, 999), (72, 999), (71, 999), (67, 999), (68, 999), (69, 999)] T H H' ∧ ∃ z : Int, some (vI z) = r ∧ ((-2147483648) ≤ z ∧ z ≤ 2147483647) ∧ (((z = -1) ∧ ((xparse B a1).1.1 ≠ 0) ∧ (H' r0 1 = 4) ∧ (H' r0 2 = (xparse B a1).1.2.1) ∧ (H' r0 13 = (xparse B a1).1.1) ∧ (wKI H' r0 = 1) ∧ (H' r0 6 = H r0 6) ∧ (H' r0 3 = H r0 3)) ∨ ((0 ≤ z ∧ z ≤ 6) ∧ ((xparse B a1).1.1 = 0) ∧ (z = (xparse B a1).2 0 3) ∧ (H' r0 1 = 0) ∧ (H' r0 2 = -1) ∧ (H' r0 13 = 0) ∧ (wKI H' r0 = 1) ∧ (H' r0 6 = H r0 6) ∧ (H' r0 3 = (rp : Int))))
set_option maxHeartbeats 4000000 in
theorem u_169_c {kt : Nat → Option mc_E} {T : wq_T} {H : wq_H} {r0 : Nat} {a1 : Int} {rp : Nat} {rb : Nat} {B : Nat → Int} (hW : WT T H) (g0 : T.2.2.2 r0 = some 42) (i1 : 0 ≤ a1 ∧ a1 ≤ 900) (grp : T.2.2.2 rp = some 54) (qrb : H r0 5 = (rb : Int)) (grb : T.2.2.2 rb = some 43) (p0 : wKI H r0 = 1) (p1 : H r0 3 ≠ (rp : Int)) (p2 : H r0 8 = 0) (p3 : H r0 7 = a1) (p4 : H r0 13 = 0) (hTM_rb : TM T H rb B) (hDM_rp : DM T H rp r0 xD0) : wp kt 9 169 56 [(0, .ref r0), (1, vI a1)] [.ref rp, .ref r0] T H (uq_169_c r0 a1 rp rb B T H) := by
  have f0 : wfr [(54, 0), (54, 1), (54, 2), (54, 3), (54, 4), (54, 5), (54, 6), (54, 7), (54, 8), (42, 1), (42, 2), (42, 3), (42, 4), (42, 8), (42, 9), (42, 10), (42, 11), (42, 12), (42, 13), (42, 14), (42, 15), (42, 16), (42, 17), (42, 18), (42, 19), (42, 28), (42, 32), (48, 999), (49, 999), (46, 999), (47, 999), (50, 999), (45, 999), (44, 999), (64, 999), (65, 999), (56, 999), (57, 999), (66, 999), (60, 999), (63, 999), (58, 999), (59, 999), (55, 999), (61, 999), (62, 999), (72, 999), (71, 999), (67, 999), (68, 999), (69, 999)] T H H := wfr.rf
  show wp _ _ 169 56 [(0, .ref r0), (1, vI a1)] [.ref rp, .ref r0] _ H _
  have u270783 := DM_k hDM_rp
  have b270784 : 0 ≤ H r0 8 ∧ H r0 8 ≤ 900 := hW.box g0 (n := 33) rfl (by decide) rfl
  have b270785 : 0 ≤ H r0 6 ∧ H r0 6 ≤ 900 := hW.box g0 (n := 33) rfl (by decide) rfl
  have b270786 : 0 ≤ H r0 28 ∧ H r0 28 ≤ 1 := hW.box g0 (n := 33) rfl (by decide) rfl
  have b270787 : 0 ≤ H r0 29 ∧ H r0 29 ≤ 20000 := hW.box g0 (n := 33) rfl (by decide) rfl
  have b270788 : 0 ≤ H r0 7 ∧ H r0 7 ≤ 900 := hW.box g0 (n := 33) rfl (by decide) rfl
  have b270789 : (-2147483648) ≤ H r0 13 ∧ H r0 13 ≤ 2147483647 := hW.box g0 (n := 33) rfl (by decide) rfl
  have hk := wKI_1.mp p0
  have hne := p1
  have _f1 : (xpf B a1 902 (xG 32 32 B a1 0) xD0).1.1 = (xparse B a1).1.1 := rfl
  have _f2 : (xpf B a1 902 (xG 32 32 B a1 0) xD0).1.2.1 = (xparse B a1).1.2.1 := rfl
  have _f3 : (xpf B a1 902 (xG 32 32 B a1 0) xD0).2 0 3 = (xparse B a1).2 0 3 := rfl
  refine wp_of e169 c169_56 (xp_R (pc' := 59) lf_9_166 hW g0 sh_42 (by decide) (by decide) rfl rfl (wok_3 ty_42_4 grp) rfl (fun H270790 e270791 w270792 => ?_))
  have f270793 := f0.put' e270791 g0 rfl
  have q270794 : H270790 r0 4 = (rp : Int) := wq_u_s e270791
  refine wp_of e169 c169_59 (rw_aload_n (pc' := 60) (v := .ref r0) rfl rfl rfl ?_)
  refine wp_of e169 c169_60 (rw_iconst (pc' := 61) rfl ?_)
  refine wp_of e169 c169_61 (xp_I (pc' := 64) lf_9_75 w270792 g0 sh_42 (by decide) (by decide) ty_42_9 rfl rfl (by omega) (by omega) ⟨by omega, by omega⟩ rfl (fun H270795 e270796 w270797 => ?_))
  have f270798 := f270793.put' e270796 g0 rfl
  have k270799 : H270795 r0 9 = 0 := wq_u_s e270796
  refine wp_of e169 c169_64 (rw_aload_n (pc' := 65) (v := .ref r0) rfl rfl rfl ?_)
  have k270800 : H270795 r0 5 = H r0 5 := ((wq_u_j e270796 rfl).trans (wq_u_j e270791 rfl))
  have q270801 : H270795 r0 5 = (rb : Int) := k270800.trans qrb
  have k270802 : H270795 r0 8 = H r0 8 := ((wq_u_j e270796 rfl).trans (wq_u_j e270791 rfl))
  have k270803 : H270795 r0 7 = H r0 7 := ((wq_u_j e270796 rfl).trans (wq_u_j e270791 rfl))
  have k270804 : H270795 r0 13 = H r0 13 := ((wq_u_j e270796 rfl).trans (wq_u_j e270791 rfl))
  have h270805 : TM T H270795 rb B := (TM_fr w270792 grb ((wfr.rf (l := [(42, 9)])).put' e270796 g0 rfl) rfl (TM_fr hW grb ((wfr.rf (l := [(42, 4)])).put' e270791 g0 rfl) rfl hTM_rb))
  refine wp_of e169 c169_65 (xc_V (pc' := 68) (r := r0) (as := []) (st := []) (lm_9_118) rfl rfl (Nat.le_of_ble_eq_true rfl) w270797 g0 sh_42 (by decide) rfl (by decide) (u_172_k (B := B) (n := a1) (a := 0) (q := (xG 32 32 B a1 0)) w270797 g0 q270801 grb (by omega) (by omega) (by omega) (by omega) (by omega) (rfl) h270805) (fun R270806 T270807 H270808 p270809 => ?_))
  obtain ⟨e270810, w270812, f270813, e270811, p270814⟩ := p270809
  subst e270810
  subst e270811
  have f270816 := f270798.tr f270813 rfl
  show wp _ _ 169 68 [(0, .ref r0), (1, vI a1)] [] _ H270808 _
  have u270817 := RC_k p270814
  refine wp_of e169 c169_68 (rw_aload_n (pc' := 69) (v := .ref r0) rfl rfl rfl ?_)
  have k270818 : H270808 r0 4 = H270790 r0 4 := ((f270813 r0 4 _ g0 rfl).trans (wq_u_j e270796 rfl))
  have q270819 : H270808 r0 4 = (rp : Int) := k270818.trans q270794
  have k270820 : H270808 r0 5 = H270795 r0 5 := (f270813 r0 5 _ g0 rfl)
  have q270821 : H270808 r0 5 = (rb : Int) := k270820.trans q270801
  have h270822 : DM T H270808 rp r0 xD0 := (DM_fr w270797 grp f270813 rfl (DM_fr w270792 grp ((wfr.rf (l := [(42, 9)])).put' e270796 g0 rfl) rfl (DM_fr hW grp ((wfr.rf (l := [(42, 4)])).put' e270791 g0 rfl) rfl hDM_rp)))
  refine wp_of e169 c169_69 (xc_V (pc' := 72) (r := r0) (as := []) (st := []) (lm_9_334) rfl rfl (Nat.le_of_ble_eq_true rfl) w270812 g0 sh_42 (by decide) rfl (by decide) (u_176_k (B := B) (n := a1) (q := ((xG 32 32 B a1 0))) (d := xD0) (f := 902) w270812 g0 q270819 grp q270821 grb (by omega) p270814 h270822) (fun R270823 T270824 H270825 p270826 => ?_))
  obtain ⟨e270827, w270829, f270830, e270828, p270831⟩ := p270826
  subst e270827
  subst e270828
  rcases p270831 with ⟨a270832, a270833, a270834, a270835⟩ | ⟨a270836, a270837, a270838⟩
  · have f270839 := f270816.tr f270830 rfl
    show wp _ _ 169 72 [(0, .ref r0), (1, vI a1)] [] _ H270825 _
    have u270840 := DM_k a270835
    refine wp_of e169 c169_72 (rw_aload_n (pc' := 73) (v := .ref r0) rfl rfl rfl ?_)
    refine wp_of e169 c169_73 (xg_I (pc' := 76) lf_9_104 w270829 g0 sh_42 (by decide) (by decide) ty_42_13 rfl rfl (fun b270841 b270842 => ?_))
    refine wp_of e169 c169_76 (rw_if_le (p1 := 94) (p2 := 79) (by decide) rfl ⟨by omega, by omega⟩ (fun c270843 => ?_) (fun c270843 => ?_))
    · refine wp_of e169 c169_94 (rw_aload_n (pc' := 95) (v := .ref r0) rfl rfl rfl ?_)
      refine wp_of e169 c169_95 (rw_aload_n (pc' := 96) (v := .ref r0) rfl rfl rfl ?_)
      have k270844 : H270825 r0 4 = H270808 r0 4 := (f270830 r0 4 _ g0 rfl)
      have q270845 : H270825 r0 4 = (rp : Int) := k270844.trans q270819
      refine wp_of e169 c169_96 (xg_K (pc' := 99) lf_9_166 w270829 g0 sh_42 (by decide) (by decide) rfl q270845 rfl ?_)
      refine wp_of e169 c169_99 (xp_R (pc' := 102) lf_9_337 w270829 g0 sh_42 (by decide) (by decide) rfl rfl (wok_3 ty_42_3 grp) rfl (fun H270846 e270847 w270848 => ?_))
      have f270849 := f270839.put' e270847 g0 rfl
      have q270850 : H270846 r0 3 = (rp : Int) := wq_u_s e270847
      refine wp_of e169 c169_102 (rw_aload_n (pc' := 103) (v := .ref r0) rfl rfl rfl ?_)
      refine wp_of e169 c169_103 (rw_iconst (pc' := 104) rfl ?_)
      refine wp_of e169 c169_104 (xp_I (pc' := 107) lf_9_340 w270848 g0 sh_42 (by decide) (by decide) ty_42_32 rfl rfl (by omega) (by omega) ⟨by omega, by omega⟩ rfl (fun H270851 e270852 w270853 => ?_))
      have f270854 := f270849.put' e270852 g0 rfl
      have k270855 : H270851 r0 32 = 0 := wq_u_s e270852
      refine wp_of e169 c169_107 (rw_aload_n (pc' := 108) (v := .ref r0) rfl rfl rfl ?_)
      refine wp_of e169 c169_108 (rw_iconst (pc' := 109) rfl ?_)
      refine wp_of e169 c169_109 (rw_aload_n (pc' := 110) (v := .ref r0) rfl rfl rfl ?_)
      have k270856 : H270851 r0 3 = H270846 r0 3 := (wq_u_j e270852 rfl)
      have q270857 : H270851 r0 3 = (rp : Int) := k270856.trans q270850
      refine wp_of e169 c169_110 (xg_K (pc' := 113) lf_9_337 w270853 g0 sh_42 (by decide) (by decide) rfl q270857 rfl ?_)
      have k270858 : H270851 rp 0 = H270825 rp 0 := ((wq_u_t e270852 g0 grp rfl 0).trans (wq_u_t e270847 g0 grp rfl 0))
      refine wp_of e169 c169_113 (xg_I (pc' := 116) lf_9_185 w270853 grp sh_54 (by decide) (by decide) ty_54_0 rfl rfl (fun b270859 b270860 => ?_))
      refine wp_of e169 c169_116 (rw_ishl (pc' := 117) rfl ?_)
      obtain ⟨v270861, e270862⟩ : ∃ x : Int, x = wq_shl 1 (H270851 rp 0) := ⟨_, rfl⟩
      rw [← e270862]
      have b270863 : -2147483648 ≤ v270861 ∧ v270861 ≤ 2147483647 := by
        rw [e270862]
        exact wI_shl _ _
      refine wp_of e169 c169_117 (rw_iconst (pc' := 118) rfl ?_)
      refine wp_of e169 c169_118 (rw_isubw (pc' := 119) rfl ?_)
      obtain ⟨v270864, e270865⟩ : ∃ x : Int, x = wq_w (v270861 - 1) := ⟨_, rfl⟩
      rw [← e270865]
      have b270866 : -2147483648 ≤ v270864 ∧ v270864 ≤ 2147483647 := by
        rw [e270865]
        exact wI_w _
      have b270867 : (-2147483648 ≤ v270861 - 1 ∧ v270861 - 1 ≤ 2147483647) → v270864 = v270861 - 1 := fun h => by rw [e270865]; exact wq_w_id h
      refine wp_of e169 c169_119 (xp_I (pc' := 122) lf_9_343 w270853 g0 sh_42 (by decide) (by decide) ty_42_19 rfl rfl (by omega) (by omega) ⟨by omega, by omega⟩ rfl (fun H270868 e270869 w270870 => ?_))
      have f270871 := f270854.put' e270869 g0 rfl
      have k270872 : H270868 r0 19 = v270864 := wq_u_s e270869
      refine wp_of e169 c169_122 (rw_iconst (pc' := 123) rfl ?_)
      refine wp_of e169 c169_123 (rw_istore_n (pc' := 124) (z := 0) (L' := [(2, vI 0), (0, .ref r0), (1, vI a1)]) rfl rfl rfl ?_)
      have lp271129 : ∀ (n271130 : Nat) (v271132 : Int) (H271133 : wq_H), WT T H271133 → wfr [(44, 999)] T H270868 H271133 → (0 ≤ v271132 ∧ v271132 ≤ 24) → (24 - v271132).toNat = n271130 → wp kt 9 169 124 [(2, vI v271132), (0, .ref r0)] [] T H271133 (uq_169_c r0 a1 rp rb B T H) := by
        intro n271130
        induction n271130 using Nat.strongRecOn with
        | _ n271130 ih271131 =>
          intro v271132 H271133 w271134 f271135 b271136 m271137
          have f271138 := f270871.tr f271135 rfl
          refine wp_of e169 c169_124 (rw_iload_n (pc' := 125) (z := v271132) rfl rfl ?_)
          refine wp_of e169 c169_125 (rw_bipush (pc' := 127) (z := 24) rfl (by decide) ?_)
          refine wp_of e169 c169_127 (rw_icmp_ge (p1 := 166) (p2 := 130) (by decide) rfl ⟨by omega, by omega⟩ ⟨by omega, by omega⟩ (fun c271139 => ?_) (fun c271139 => ?_))
          · refine wp_of e169 c169_166 (rw_iconst (pc' := 167) rfl ?_)
            refine wp_of e169 c169_167 (rw_istore_n (pc' := 168) (z := 0) (L' := [(2, vI 0), (0, .ref r0)]) rfl rfl rfl ?_)
            have lp271196 : ∀ (n271197 : Nat) (v271199 : Int) (H271200 : wq_H), WT T H271200 → wfr [(50, 999)] T H271133 H271200 → (0 ≤ v271199 ∧ v271199 ≤ 6) → (6 - v271199).toNat = n271197 → wp kt 9 169 168 [(2, vI v271199), (0, .ref r0)] [] T H271200 (uq_169_c r0 a1 rp rb B T H) := by
              intro n271197
              induction n271197 using Nat.strongRecOn with
              | _ n271197 ih271198 =>
                intro v271199 H271200 w271201 f271202 b271203 m271204
                have f271205 := f271138.tr f271202 rfl
                refine wp_of e169 c169_168 (rw_iload_n (pc' := 169) (z := v271199) rfl rfl ?_)
                refine wp_of e169 c169_169 (rw_bipush (pc' := 171) (z := 6) rfl (by decide) ?_)
                refine wp_of e169 c169_171 (rw_icmp_ge (p1 := 187) (p2 := 174) (by decide) rfl ⟨by omega, by omega⟩ ⟨by omega, by omega⟩ (fun c271206 => ?_) (fun c271206 => ?_))
                · have h271208 : DM T H271200 rp r0 ((xpf B a1 902 ((xG 32 32 B a1 0)) xD0).2) := (DM_fr w271134 grp f271202 rfl (DM_fr w270870 grp f271135 rfl (DM_fr w270853 grp ((wfr.rf (l := [(42, 19)])).put' e270869 g0 rfl) rfl (DM_fr w270848 grp ((wfr.rf (l := [(42, 32)])).put' e270852 g0 rfl) rfl (DM_fr w270829 grp ((wfr.rf (l := [(42, 3)])).put' e270847 g0 rfl) rfl a270835)))))
                  have k271207 : wPI H271200 rp = 1 := wPI_dm h271208
                  refine wp_of e169 c169_187 (rw_aload_n (pc' := 188) (v := .ref r0) rfl rfl rfl ?_)
                  have k271209 : H271200 r0 3 = H270851 r0 3 := ((f271202 r0 3 _ g0 rfl).trans ((f271135 r0 3 _ g0 rfl).trans (wq_u_j e270869 rfl)))
                  have q271210 : H271200 r0 3 = (rp : Int) := k271209.trans q270857
                  refine wp_of e169 c169_188 (xc_V (pc' := 191) (r := r0) (as := []) (st := []) (lm_9_350) rfl rfl (Nat.le_of_ble_eq_true rfl) w271201 g0 sh_42 (by decide) rfl (by decide) (s_206 w271201 g0 q271210 grp (by omega)) (fun R271211 T271212 H271213 p271214 => ?_))
                  obtain ⟨e271215, w271217, f271218, e271216⟩ := p271214
                  subst e271215
                  subst e271216
                  have f271219 := f271205.tr f271218 rfl
                  show wp _ _ 169 191 [(2, vI v271199), (0, .ref r0)] [] _ H271213 _
                  refine wp_of e169 c169_191 (rw_aload_n (pc' := 192) (v := .ref r0) rfl rfl rfl ?_)
                  refine wp_of e169 c169_192 (rw_iconst (pc' := 193) rfl ?_)
                  refine wp_of e169 c169_193 (xp_Z (pc' := 196) lf_9_353 w271217 g0 sh_42 (by decide) (by decide) ty_42_28 rfl rfl (by omega) (by omega) rfl (fun H271220 e271221 w271222 => ?_))
                  have f271223 := f271219.put' e271221 g0 rfl
                  have k271224 : H271220 r0 28 = 0 := wq_u_s e271221
                  refine wp_of e169 c169_196 (rw_aload_n (pc' := 197) (v := .ref r0) rfl rfl rfl ?_)
                  refine wp_of e169 c169_197 (rw_aload_n (pc' := 198) (v := .ref r0) rfl rfl rfl ?_)
                  have k271225 : H271220 r0 3 = H271200 r0 3 := ((wq_u_j e271221 rfl).trans (f271218 r0 3 _ g0 rfl))
                  have q271226 : H271220 r0 3 = (rp : Int) := k271225.trans q271210
                  refine wp_of e169 c169_198 (xg_K (pc' := 201) lf_9_337 w271222 g0 sh_42 (by decide) (by decide) rfl q271226 rfl ?_)
                  have k271227 : H271220 rp 3 = H270825 rp 3 := ((wq_u_t e271221 g0 grp rfl 3).trans ((f271218 rp 3 _ grp rfl).trans ((f271202 rp 3 _ grp rfl).trans ((f271135 rp 3 _ grp rfl).trans ((wq_u_t e270869 g0 grp rfl 3).trans ((wq_u_t e270852 g0 grp rfl 3).trans (wq_u_t e270847 g0 grp rfl 3)))))))
                  refine wp_of e169 c169_201 (xg_I (pc' := 204) lf_9_188 w271222 grp sh_54 (by decide) (by decide) ty_54_3 rfl rfl (fun b271228 b271229 => ?_))
                  refine wp_of e169 c169_204 (xc_V (pc' := 207) (r := r0) (as := [vI (H271220 rp 3)]) (st := []) (lm_9_58) rfl rfl (Nat.le_of_ble_eq_true rfl) w271222 g0 sh_42 (by decide) rfl (by decide) (u_209  w271222 g0 ⟨by omega, by omega⟩) (fun R271230 T271231 H271232 p271233 => ?_))
                  obtain ⟨e271234, w271236, f271237, z271238, e271235, b271239, p271240⟩ := p271233
                  subst e271234
                  subst e271235
                  obtain ⟨a271241, a271242, a271243⟩ := p271240
                  have f271244 := f271223.tr f271237 rfl
                  show wp _ _ 169 207 [(2, vI v271199), (0, .ref r0)] [vI z271238] _ H271232 _
                  have k271245 : H271232 r0 28 = H271220 r0 28 := (f271237 r0 28 _ g0 rfl)
                  have k271246 : H271232 r0 29 = H r0 29 := ((f271237 r0 29 _ g0 rfl).trans ((wq_u_j e271221 rfl).trans ((f271218 r0 29 _ g0 rfl).trans ((f271202 r0 29 _ g0 rfl).trans ((f271135 r0 29 _ g0 rfl).trans ((wq_u_j e270869 rfl).trans ((wq_u_j e270852 rfl).trans ((wq_u_j e270847 rfl).trans ((f270830 r0 29 _ g0 rfl).trans ((f270813 r0 29 _ g0 rfl).trans ((wq_u_j e270796 rfl).trans (wq_u_j e270791 rfl))))))))))))
                  have k271247 : wKI H271232 r0 = 1 := wKI_1.mpr (by omega)
                  have k271248 : H271232 r0 6 = H r0 6 := ((f271237 r0 6 _ g0 rfl).trans ((wq_u_j e271221 rfl).trans ((f271218 r0 6 _ g0 rfl).trans ((f271202 r0 6 _ g0 rfl).trans ((f271135 r0 6 _ g0 rfl).trans ((wq_u_j e270869 rfl).trans ((wq_u_j e270852 rfl).trans ((wq_u_j e270847 rfl).trans ((f270830 r0 6 _ g0 rfl).trans ((f270813 r0 6 _ g0 rfl).trans ((wq_u_j e270796 rfl).trans (wq_u_j e270791 rfl))))))))))))
                  have k271249 : H271232 r0 13 = H270825 r0 13 := ((f271237 r0 13 _ g0 rfl).trans ((wq_u_j e271221 rfl).trans ((f271218 r0 13 _ g0 rfl).trans ((f271202 r0 13 _ g0 rfl).trans ((f271135 r0 13 _ g0 rfl).trans ((wq_u_j e270869 rfl).trans ((wq_u_j e270852 rfl).trans (wq_u_j e270847 rfl))))))))
                  have k271250 : H271232 r0 3 = H271220 r0 3 := (f271237 r0 3 _ g0 rfl)
                  have q271251 : H271232 r0 3 = (rp : Int) := k271250.trans q271226
                  exact wp_ireturn e169 c169_207 rfl ⟨rfl, w271236, f271244, z271238, rfl, ⟨by omega, by omega⟩, (Or.inr ⟨by omega, by omega, by omega, by omega, by omega, by omega, by omega, by omega, by omega⟩)⟩
                · refine wp_of e169 c169_174 (rw_aload_n (pc' := 175) (v := .ref r0) rfl rfl rfl ?_)
                  refine wp_of e169 c169_175 (xg_R (pc' := 178) lf_9_36 w271201 g0 sh_42 (by decide) (by decide) ty_42_26 rfl rfl (fun r271252 q271253 g271254 => ?_))
                  refine wp_of e169 c169_178 (rw_iload_n (pc' := 179) (z := v271199) rfl rfl ?_)
                  refine wp_of e169 c169_179 (rw_iconst (pc' := 180) rfl ?_)
                  refine wp_of e169 c169_180 (xs_I (pc' := 181) w271201 g271254 (by decide) sh_50 (by decide) (ty_50 _) (by omega) (by omega) ⟨by omega, by omega⟩ (by omega) (by omega) rfl (fun H271255 e271256 w271257 => ?_))
                  have f271258 := f271205.put' e271256 g271254 rfl
                  have f271259 := f271202.put' e271256 g271254 rfl
                  refine wp_of e169 c169_181 (rw_iinc (pc' := 184) (z := v271199) (L' := [(2, vI (v271199 + 1)), (0, .ref r0)]) rfl rfl rfl rfl ?_)
                  refine wp_of e169 c169_184 (rw_goto (p1 := 168) (by decide) ?_)
                  exact wp_lc (ks := [2, 0]) (wl_c rfl (wl_c rfl wl_n)) rfl (by decide) (ih271198 _ (by omega) (v271199 + 1) H271255 w271257 f271259 ⟨by omega, by omega⟩ rfl)
            exact wp_lc (ks := [2, 0]) (wl_c rfl (wl_c rfl wl_n)) rfl (by decide) (lp271196 _ 0 H271133 w271134 wfr.rf ⟨by omega, by omega⟩ rfl)
          · refine wp_of e169 c169_130 (rw_aload_n (pc' := 131) (v := .ref r0) rfl rfl rfl ?_)
            refine wp_of e169 c169_131 (xg_R (pc' := 134) lf_9_17 w271134 g0 sh_42 (by decide) (by decide) ty_42_20 rfl rfl (fun r271260 q271261 g271262 => ?_))
            refine wp_of e169 c169_134 (rw_iload_n (pc' := 135) (z := v271132) rfl rfl ?_)
            refine wp_of e169 c169_135 (rw_aload_n (pc' := 136) (v := .ref r0) rfl rfl rfl ?_)
            have k271263 : H271133 r0 19 = H270868 r0 19 := (f271135 r0 19 _ g0 rfl)
            refine wp_of e169 c169_136 (xg_I (pc' := 139) lf_9_343 w271134 g0 sh_42 (by decide) (by decide) ty_42_19 rfl rfl (fun b271264 b271265 => ?_))
            refine wp_of e169 c169_139 (rw_iload_n (pc' := 140) (z := v271132) rfl rfl ?_)
            refine wp_of e169 c169_140 (xc_S (pc' := 143) (as := [vI (H271133 r0 19), vI v271132]) (st := [vI v271132, .ref r271260]) (lm_9_346) rfl rfl (Nat.le_of_ble_eq_true rfl) rfl (by decide) (s_205 w271134 ⟨by omega, by omega⟩ ⟨by omega, by omega⟩) (fun R271266 T271267 H271268 p271269 => ?_))
            obtain ⟨e271270, e271272, z271273, e271271, b271274⟩ := p271269
            subst e271270
            subst e271271
            subst e271272
            show wp _ _ 169 143 [(2, vI v271132), (0, .ref r0)] [vI z271273, vI v271132, .ref r271260] _ H271133 _
            refine wp_of e169 c169_143 (rw_if_eq (p1 := 158) (p2 := 146) (by decide) rfl ⟨by omega, by omega⟩ (fun c271275 => ?_) (fun c271275 => ?_))
            · refine wp_of e169 c169_158 (rw_iconst (pc' := 159) rfl ?_)
              refine wp_of e169 c169_159 (xs_I (pc' := 160) w271134 g271262 (by decide) sh_44 (by decide) (ty_44 _) (by omega) (by omega) ⟨by omega, by omega⟩ (by omega) (by omega) rfl (fun H271276 e271277 w271278 => ?_))
              have f271279 := f271138.put' e271277 g271262 rfl
              have f271280 := f271135.put' e271277 g271262 rfl
              refine wp_of e169 c169_160 (rw_iinc (pc' := 163) (z := v271132) (L' := [(2, vI (v271132 + 1)), (0, .ref r0)]) rfl rfl rfl rfl ?_)
              refine wp_of e169 c169_163 (rw_goto (p1 := 124) (by decide) ?_)
              exact wp_lc (ks := [2, 0]) (wl_c rfl (wl_c rfl wl_n)) rfl (by decide) (ih271131 _ (by omega) (v271132 + 1) H271276 w271278 f271280 ⟨by omega, by omega⟩ rfl)
            · refine wp_of e169 c169_146 (rw_aload_n (pc' := 147) (v := .ref r0) rfl rfl rfl ?_)
              have k271281 : H271133 r0 3 = H270851 r0 3 := ((f271135 r0 3 _ g0 rfl).trans (wq_u_j e270869 rfl))
              have q271282 : H271133 r0 3 = (rp : Int) := k271281.trans q270857
              refine wp_of e169 c169_147 (xg_K (pc' := 150) lf_9_337 w271134 g0 sh_42 (by decide) (by decide) rfl q271282 rfl ?_)
              refine wp_of e169 c169_150 (xg_R (pc' := 153) lf_9_296 w271134 grp sh_54 (by decide) (by decide) ty_54_21 rfl rfl (fun r271283 q271284 g271285 => ?_))
              refine wp_of e169 c169_153 (rw_iload_n (pc' := 154) (z := v271132) rfl rfl ?_)
              refine wp_of e169 c169_154 (xa_I (so := 0) (pc' := 155) w271134 g271285 sh_67 (by decide) (ty_67 _) (by omega) (by omega) rfl (fun b271286 b271287 => ?_))
              refine wp_of e169 c169_155 (rw_goto (p1 := 159) (by decide) ?_)
              refine wp_of e169 c169_159 (xs_I (pc' := 160) w271134 g271262 (by decide) sh_44 (by decide) (ty_44 _) (by omega) (by omega) ⟨by omega, by omega⟩ (by omega) (by omega) rfl (fun H271288 e271289 w271290 => ?_))
              have f271291 := f271138.put' e271289 g271262 rfl
              have f271292 := f271135.put' e271289 g271262 rfl
              refine wp_of e169 c169_160 (rw_iinc (pc' := 163) (z := v271132) (L' := [(2, vI (v271132 + 1)), (0, .ref r0)]) rfl rfl rfl rfl ?_)
              refine wp_of e169 c169_163 (rw_goto (p1 := 124) (by decide) ?_)
              exact wp_lc (ks := [2, 0]) (wl_c rfl (wl_c rfl wl_n)) rfl (by decide) (ih271131 _ (by omega) (v271132 + 1) H271288 w271290 f271292 ⟨by omega, by omega⟩ rfl)
      exact wp_lc (ks := [2, 0, 1]) (wl_c rfl (wl_c rfl wl_n)) rfl (by decide) (lp271129 _ 0 H270868 w270870 wfr.rf ⟨by omega, by omega⟩ rfl)
    · exfalso
      omega
  · have f271293 := f270816.tr f270830 rfl
    show wp _ _ 169 72 [(0, .ref r0), (1, vI a1)] [] _ H270825 _
    have u271294 := RO_k a270838
    refine wp_of e169 c169_72 (rw_aload_n (pc' := 73) (v := .ref r0) rfl rfl rfl ?_)
    refine wp_of e169 c169_73 (xg_I (pc' := 76) lf_9_104 w270829 g0 sh_42 (by decide) (by decide) ty_42_13 rfl rfl (fun b271295 b271296 => ?_))
    refine wp_of e169 c169_76 (rw_if_le (p1 := 94) (p2 := 79) (by decide) rfl ⟨by omega, by omega⟩ (fun c271297 => ?_) (fun c271297 => ?_))
    · exfalso
      omega
    · refine wp_of e169 c169_79 (rw_aload_n (pc' := 80) (v := .ref r0) rfl rfl rfl ?_)
      refine wp_of e169 c169_80 (rw_iconst (pc' := 81) rfl ?_)
      refine wp_of e169 c169_81 (xp_I (pc' := 84) lf_9_51 w270829 g0 sh_42 (by decide) (by decide) ty_42_1 rfl rfl (by omega) (by omega) ⟨by omega, by omega⟩ rfl (fun H271298 e271299 w271300 => ?_))
      have f271301 := f271293.put' e271299 g0 rfl
      have k271302 : H271298 r0 1 = 4 := wq_u_s e271299
      refine wp_of e169 c169_84 (rw_aload_n (pc' := 85) (v := .ref r0) rfl rfl rfl ?_)
      refine wp_of e169 c169_85 (rw_aload_n (pc' := 86) (v := .ref r0) rfl rfl rfl ?_)
      have k271303 : H271298 r0 14 = H270825 r0 14 := (wq_u_j e271299 rfl)
      refine wp_of e169 c169_86 (xg_I (pc' := 89) lf_9_107 w271300 g0 sh_42 (by decide) (by decide) ty_42_14 rfl rfl (fun b271304 b271305 => ?_))
      refine wp_of e169 c169_89 (xp_I (pc' := 92) lf_9_9 w271300 g0 sh_42 (by decide) (by decide) ty_42_2 rfl rfl (by omega) (by omega) ⟨by omega, by omega⟩ rfl (fun H271306 e271307 w271308 => ?_))
      have f271309 := f271301.put' e271307 g0 rfl
      have k271310 : H271306 r0 2 = H271298 r0 14 := wq_u_s e271307
      refine wp_of e169 c169_92 (rw_iconst (pc' := 93) rfl ?_)
      have k271311 : H271306 r0 28 = H r0 28 := ((wq_u_j e271307 rfl).trans ((wq_u_j e271299 rfl).trans ((f270830 r0 28 _ g0 rfl).trans ((f270813 r0 28 _ g0 rfl).trans ((wq_u_j e270796 rfl).trans (wq_u_j e270791 rfl))))))
      have k271312 : H271306 r0 29 = H r0 29 := ((wq_u_j e271307 rfl).trans ((wq_u_j e271299 rfl).trans ((f270830 r0 29 _ g0 rfl).trans ((f270813 r0 29 _ g0 rfl).trans ((wq_u_j e270796 rfl).trans (wq_u_j e270791 rfl))))))
      have k271313 : wLM H271306 r0 = wLM H r0 := wLM_ot hW g0 (((wq_u_j e271307 rfl).trans ((wq_u_j e271299 rfl).trans ((f270830 r0 3 _ g0 rfl).trans ((f270813 r0 3 _ g0 rfl).trans ((wq_u_j e270796 rfl).trans (wq_u_j e270791 rfl))))))) (((wq_u_j e271307 rfl).trans ((wq_u_j e271299 rfl).trans ((f270830 r0 21 _ g0 rfl).trans ((f270813 r0 21 _ g0 rfl).trans ((wq_u_j e270796 rfl).trans (wq_u_j e270791 rfl))))))) (fun sp gs => funext (fun j => ((wq_u_t e271307 g0 gs rfl j).trans ((wq_u_t e271299 g0 gs rfl j).trans ((f270830 sp j _ gs rfl).trans ((f270813 sp j _ gs rfl).trans ((wq_u_t e270796 g0 gs rfl j).trans (wq_u_t e270791 g0 gs rfl j)))))))) (fun a ha ga => ((wq_u_t e271307 g0 ga rfl 3).trans ((wq_u_t e271299 g0 ga rfl 3).trans ((a270837 a ha ga).trans ((f270813 a 3 _ ga rfl).trans ((wq_u_t e270796 g0 ga rfl 3).trans (wq_u_t e270791 g0 ga rfl 3))))))) hne
      have k271314 : wKI H271306 r0 = 1 := wKI_1.mpr (by omega)
      have k271315 : H271306 r0 6 = H r0 6 := ((wq_u_j e271307 rfl).trans ((wq_u_j e271299 rfl).trans ((f270830 r0 6 _ g0 rfl).trans ((f270813 r0 6 _ g0 rfl).trans ((wq_u_j e270796 rfl).trans (wq_u_j e270791 rfl))))))
      have k271316 : H271306 r0 1 = H271298 r0 1 := (wq_u_j e271307 rfl)
      have k271317 : H271306 r0 13 = H270825 r0 13 := ((wq_u_j e271307 rfl).trans (wq_u_j e271299 rfl))
      have k271318 : H271306 r0 3 = H r0 3 := ((wq_u_j e271307 rfl).trans ((wq_u_j e271299 rfl).trans ((f270830 r0 3 _ g0 rfl).trans ((f270813 r0 3 _ g0 rfl).trans ((wq_u_j e270796 rfl).trans (wq_u_j e270791 rfl))))))
      exact wp_ireturn e169 c169_93 rfl ⟨rfl, w271308, f271309, -1, rfl, ⟨by omega, by omega⟩, (Or.inl ⟨by omega, by omega, by omega, by omega, by omega, by omega, by omega, by omega⟩)⟩
/-! StrikeAwakeModel.parish(I)I  -/
abbrev uq_169 (r0 : Nat) (a1 : Int) (rb : Nat) (B : Nat → Int) (y : Int) (T : wq_T) (H : wq_H) : Option Value → wq_T → wq_H → Prop := fun r T' H' => (∀ a t, T.2.2.2 a = some t → T'.2.2.2 a = some t) ∧ T'.2.1 ≤ T.2.1 + 19 ∧ T'.2.2.1 ≤ T.2.2.1 + 459 ∧ WT T' H' ∧ wfr [(54, 0), (54, 1), (54, 2), (54, 3), (54, 4), (54, 5), (54, 6), (54, 7), (54, 8), (42, 0), (42, 1), (42, 2), (42, 3), (42, 4), (42, 6), (42, 7), (42, 8), (42, 9), (42, 10), (42, 11), (42, 12), (42, 13), (42, 14), (42, 15), (42, 16), (42, 17), (42, 18), (42, 19), (42, 28), (42, 32), (48, 999), (49, 999), (46, 999), (47, 999), (50, 999), (45, 999), (44, 999), (64, 999), (65, 999), (56, 999), (57, 999), (66, 999), (60, 999), (63, 999), (58, 999), (59, 999), (55, 999), (61, 999), (62, 999), (72, 999), (71, 999), (67, 999), (68, 999), (69, 999)] T H H' ∧ ∃ z : Int, some (vI z) = r ∧ ((-2147483648) ≤ z ∧ z ≤ 2147483647) ∧ (((z = -1) ∧ (a1 < 0 ∨ H r0 6 < a1) ∧ (H' r0 6 = H r0 6) ∧ (H' r0 1 = 2) ∧ (H' r0 2 = -1) ∧ (H' r0 13 = H r0 13) ∧ (H' r0 3 = H r0 3) ∧ (wKI H' r0 = 1)) ∨ ((z = -1) ∧ (0 ≤ a1 ∧ a1 ≤ H r0 6) ∧ (H' r0 6 = 0) ∧ ((xparse B y).1.1 ≠ 0) ∧ (H' r0 1 = 4) ∧ (H' r0 2 = (xparse B y).1.2.1) ∧ (H' r0 13 = (xparse B y).1.1) ∧ (H' r0 3 = H r0 3) ∧ (wKI H' r0 = 1)) ∨ ((0 ≤ z ∧ z ≤ 6) ∧ (0 ≤ a1 ∧ a1 ≤ H r0 6) ∧ (H' r0 6 = 0) ∧ ((xparse B y).1.1 = 0) ∧ (z = (xparse B y).2 0 3) ∧ (H' r0 1 = 0) ∧ (H' r0 2 = -1) ∧ (H' r0 13 = 0) ∧ (H' r0 3 ≠ -1) ∧ (wKI H' r0 = 1)))
set_option maxHeartbeats 4000000 in
theorem u_169 {kt : Nat → Option mc_E} {T : wq_T} {H : wq_H} {r0 : Nat} {a1 : Int} {rb : Nat} {B : Nat → Int} {y : Int} (hW : WT T H) (g0 : T.2.2.2 r0 = some 42) (i1 : (-2147483648) ≤ a1 ∧ a1 ≤ 2147483647) (qrb : H r0 5 = (rb : Int)) (grb : T.2.2.2 rb = some 43) (p0 : wKI H r0 = 1) (p1 : a1 = y) (hTM_rb : TM T H rb B) : wpc kt 10 169 [.ref r0, vI a1] T H (uq_169 r0 a1 rb B y T H) := by
  refine wp_enter e169 (Nat.le_of_ble_eq_true rfl) rfl ?_
  have f0 : wfr [(54, 0), (54, 1), (54, 2), (54, 3), (54, 4), (54, 5), (54, 6), (54, 7), (54, 8), (42, 0), (42, 1), (42, 2), (42, 3), (42, 4), (42, 6), (42, 7), (42, 8), (42, 9), (42, 10), (42, 11), (42, 12), (42, 13), (42, 14), (42, 15), (42, 16), (42, 17), (42, 18), (42, 19), (42, 28), (42, 32), (48, 999), (49, 999), (46, 999), (47, 999), (50, 999), (45, 999), (44, 999), (64, 999), (65, 999), (56, 999), (57, 999), (66, 999), (60, 999), (63, 999), (58, 999), (59, 999), (55, 999), (61, 999), (62, 999), (72, 999), (71, 999), (67, 999), (68, 999), (69, 999)] T H H := wfr.rf
  show wp _ _ 169 0 [(0, .ref r0), (1, vI a1)] [] _ H _
  have b271384 : 0 ≤ H r0 6 ∧ H r0 6 ≤ 900 := hW.box g0 (n := 33) rfl (by decide) rfl
  have b271385 : (-2147483648) ≤ H r0 13 ∧ H r0 13 ≤ 2147483647 := hW.box g0 (n := 33) rfl (by decide) rfl
  have _y1 : (xparse B a1).1.1 = (xparse B y).1.1 := by rw [p1]
  have _y2 : (xparse B a1).1.2.1 = (xparse B y).1.2.1 := by rw [p1]
  have _y3 : (xparse B a1).2 0 3 = (xparse B y).2 0 3 := by rw [p1]
  refine wp_of e169 c169_0 (rw_aload_n (pc' := 1) (v := .ref r0) rfl rfl rfl ?_)
  refine wp_of e169 c169_1 (rw_iconst (pc' := 2) rfl ?_)
  refine wp_of e169 c169_2 (xp_I (pc' := 5) lf_9_48 hW g0 sh_42 (by decide) (by decide) ty_42_0 rfl rfl (by omega) (by omega) ⟨by omega, by omega⟩ rfl (fun H271386 e271387 w271388 => ?_))
  have f271389 := f0.put' e271387 g0 rfl
  have k271390 : H271386 r0 0 = 0 := wq_u_s e271387
  refine wp_of e169 c169_5 (rw_iload_n (pc' := 6) (z := a1) rfl rfl ?_)
  refine wp_of e169 c169_6 (rw_if_lt (p1 := 17) (p2 := 9) (by decide) rfl ⟨by omega, by omega⟩ (fun c271391 => ?_) (fun c271391 => ?_))
  · refine wp_of e169 c169_17 (rw_aload_n (pc' := 18) (v := .ref r0) rfl rfl rfl ?_)
    refine wp_of e169 c169_18 (rw_iconst (pc' := 19) rfl ?_)
    refine wp_of e169 c169_19 (xc_V (pc' := 22) (r := r0) (as := [vI 2]) (st := []) (lm_9_54) rfl rfl (Nat.le_of_ble_eq_true rfl) w271388 g0 sh_42 (by decide) rfl (by decide) (u_170  w271388 g0 ⟨by omega, by omega⟩) (fun R271392 T271393 H271394 p271395 => ?_))
    obtain ⟨e271396, w271398, f271399, z271400, e271397, b271401, p271402⟩ := p271395
    subst e271396
    subst e271397
    obtain ⟨a271403, a271404, a271405⟩ := p271402
    have f271406 := f271389.tr f271399 rfl
    show wp _ _ 169 22 [(0, .ref r0), (1, vI a1)] [vI z271400] _ H271394 _
    have k271407 : wKI H271394 r0 = wKI H r0 := ((wKI_fr w271388 g0 f271399 rfl).trans (wKI_fr hW g0 ((wfr.rf (l := [(42, 0)])).put' e271387 g0 rfl) rfl))
    have k271408 : H271394 r0 6 = H r0 6 := ((f271399 r0 6 _ g0 rfl).trans (wq_u_j e271387 rfl))
    have k271409 : H271394 r0 13 = H r0 13 := ((f271399 r0 13 _ g0 rfl).trans (wq_u_j e271387 rfl))
    have k271410 : H271394 r0 3 = H r0 3 := ((f271399 r0 3 _ g0 rfl).trans (wq_u_j e271387 rfl))
    exact wp_ireturn e169 c169_22 rfl ⟨fun _ _ h => h, by omega, by omega, w271398, f271406, z271400, rfl, ⟨by omega, by omega⟩, (Or.inl ⟨by omega, by omega, by omega, by omega, by omega, by omega, by omega, by omega⟩)⟩
  · refine wp_of e169 c169_9 (rw_iload_n (pc' := 10) (z := a1) rfl rfl ?_)
    refine wp_of e169 c169_10 (rw_aload_n (pc' := 11) (v := .ref r0) rfl rfl rfl ?_)
    have k271411 : H271386 r0 6 = H r0 6 := (wq_u_j e271387 rfl)
    refine wp_of e169 c169_11 (xg_I (pc' := 14) lf_9_330 w271388 g0 sh_42 (by decide) (by decide) ty_42_6 rfl rfl (fun b271412 b271413 => ?_))
    refine wp_of e169 c169_14 (rw_icmp_le (p1 := 23) (p2 := 17) (by decide) rfl ⟨by omega, by omega⟩ ⟨by omega, by omega⟩ (fun c271414 => ?_) (fun c271414 => ?_))
    · refine wp_of e169 c169_23 (rw_aload_n (pc' := 24) (v := .ref r0) rfl rfl rfl ?_)
      refine wp_of e169 c169_24 (rw_iload_n (pc' := 25) (z := a1) rfl rfl ?_)
      refine wp_of e169 c169_25 (xp_I (pc' := 28) lf_9_61 w271388 g0 sh_42 (by decide) (by decide) ty_42_7 rfl rfl (by omega) (by omega) ⟨by omega, by omega⟩ rfl (fun H271415 e271416 w271417 => ?_))
      have f271418 := f271389.put' e271416 g0 rfl
      have k271419 : H271415 r0 7 = a1 := wq_u_s e271416
      refine wp_of e169 c169_28 (rw_aload_n (pc' := 29) (v := .ref r0) rfl rfl rfl ?_)
      refine wp_of e169 c169_29 (rw_iconst (pc' := 30) rfl ?_)
      refine wp_of e169 c169_30 (xp_I (pc' := 33) lf_9_330 w271417 g0 sh_42 (by decide) (by decide) ty_42_6 rfl rfl (by omega) (by omega) ⟨by omega, by omega⟩ rfl (fun H271420 e271421 w271422 => ?_))
      have f271423 := f271418.put' e271421 g0 rfl
      have k271424 : H271420 r0 6 = 0 := wq_u_s e271421
      refine wp_of e169 c169_33 (rw_aload_n (pc' := 34) (v := .ref r0) rfl rfl rfl ?_)
      refine wp_of e169 c169_34 (rw_iconst (pc' := 35) rfl ?_)
      refine wp_of e169 c169_35 (xp_I (pc' := 38) lf_9_78 w271422 g0 sh_42 (by decide) (by decide) ty_42_8 rfl rfl (by omega) (by omega) ⟨by omega, by omega⟩ rfl (fun H271425 e271426 w271427 => ?_))
      have f271428 := f271423.put' e271426 g0 rfl
      have k271429 : H271425 r0 8 = 0 := wq_u_s e271426
      refine wp_of e169 c169_38 (rw_aload_n (pc' := 39) (v := .ref r0) rfl rfl rfl ?_)
      refine wp_of e169 c169_39 (rw_iconst (pc' := 40) rfl ?_)
      refine wp_of e169 c169_40 (xp_I (pc' := 43) lf_9_104 w271427 g0 sh_42 (by decide) (by decide) ty_42_13 rfl rfl (by omega) (by omega) ⟨by omega, by omega⟩ rfl (fun H271430 e271431 w271432 => ?_))
      have f271433 := f271428.put' e271431 g0 rfl
      have k271434 : H271430 r0 13 = 0 := wq_u_s e271431
      refine wp_of e169 c169_43 (rw_aload_n (pc' := 44) (v := .ref r0) rfl rfl rfl ?_)
      refine wp_of e169 c169_44 (rw_iconst (pc' := 45) rfl ?_)
      refine wp_of e169 c169_45 (xp_I (pc' := 48) lf_9_293 w271432 g0 sh_42 (by decide) (by decide) ty_42_16 rfl rfl (by omega) (by omega) ⟨by omega, by omega⟩ rfl (fun H271435 e271436 w271437 => ?_))
      have f271438 := f271433.put' e271436 g0 rfl
      have k271439 : H271435 r0 16 = 0 := wq_u_s e271436
      refine wp_of e169 c169_48 (rw_aload_n (pc' := 49) (v := .ref r0) rfl rfl rfl ?_)
      have k271440 : wKI H271435 r0 = wKI H r0 := ((wKI_fr w271432 g0 ((wfr.rf (l := [(42, 16)])).put' e271436 g0 rfl) rfl).trans ((wKI_fr w271427 g0 ((wfr.rf (l := [(42, 13)])).put' e271431 g0 rfl) rfl).trans ((wKI_fr w271422 g0 ((wfr.rf (l := [(42, 8)])).put' e271426 g0 rfl) rfl).trans ((wKI_fr w271417 g0 ((wfr.rf (l := [(42, 6)])).put' e271421 g0 rfl) rfl).trans ((wKI_fr w271388 g0 ((wfr.rf (l := [(42, 7)])).put' e271416 g0 rfl) rfl).trans (wKI_fr hW g0 ((wfr.rf (l := [(42, 0)])).put' e271387 g0 rfl) rfl))))))
      have k271441 : H271435 r0 6 = H271420 r0 6 := ((wq_u_j e271436 rfl).trans ((wq_u_j e271431 rfl).trans (wq_u_j e271426 rfl)))
      have k271442 : H271435 r0 8 = H271425 r0 8 := ((wq_u_j e271436 rfl).trans (wq_u_j e271431 rfl))
      have k271443 : H271435 r0 7 = H271415 r0 7 := ((wq_u_j e271436 rfl).trans ((wq_u_j e271431 rfl).trans ((wq_u_j e271426 rfl).trans (wq_u_j e271421 rfl))))
      have k271444 : H271435 r0 13 = H271430 r0 13 := (wq_u_j e271436 rfl)
      have k271445 : H271435 r0 3 = H r0 3 := ((wq_u_j e271436 rfl).trans ((wq_u_j e271431 rfl).trans ((wq_u_j e271426 rfl).trans ((wq_u_j e271421 rfl).trans ((wq_u_j e271416 rfl).trans (wq_u_j e271387 rfl))))))
      have h271446 : TM T H271435 rb B := (TM_fr w271432 grb ((wfr.rf (l := [(42, 16)])).put' e271436 g0 rfl) rfl (TM_fr w271427 grb ((wfr.rf (l := [(42, 13)])).put' e271431 g0 rfl) rfl (TM_fr w271422 grb ((wfr.rf (l := [(42, 8)])).put' e271426 g0 rfl) rfl (TM_fr w271417 grb ((wfr.rf (l := [(42, 6)])).put' e271421 g0 rfl) rfl (TM_fr w271388 grb ((wfr.rf (l := [(42, 7)])).put' e271416 g0 rfl) rfl (TM_fr hW grb ((wfr.rf (l := [(42, 0)])).put' e271387 g0 rfl) rfl hTM_rb))))))
      have k271447 : H271435 r0 5 = H r0 5 := ((wq_u_j e271436 rfl).trans ((wq_u_j e271431 rfl).trans ((wq_u_j e271426 rfl).trans ((wq_u_j e271421 rfl).trans ((wq_u_j e271416 rfl).trans (wq_u_j e271387 rfl))))))
      have q271448 : H271435 r0 5 = (rb : Int) := k271447.trans qrb
      refine wp_of e169 c169_49 (rw_new10 (pc' := 52) (e := _) rfl rfl rfl (fun hfr => ?_))
      refine wp_of e169 c169_52 (rw_dup (pc' := 53) rfl rfl ?_)
      refine wp_of e169 c169_53 (rw_calI (pc' := 56) (nn := 27) (as := []) (st := [.ref (256 + T.2.1), .ref r0]) lm_9_333 rfl rfl (Nat.le_of_ble_eq_true rfl) (by omega) (if_pos rfl) rfl (((u_171 w271437 hfr).deep (by decide)).imp (fun R9 T9 H9 p9 => ?_)))
      obtain ⟨⟨w9, m9, g9, o9, pi9, n9, z9, e9⟩, dm9⟩ := p9
      subst e9
      show wp _ _ 169 56 [(0, .ref r0), (1, vI a1)] [.ref (256 + T.2.1), .ref r0] T9 H9 _
      have hb : ∀ a t, T.2.2.2 a = some t → a < 256 + T.2.1 := fun a t h => by
        by_cases q : a < 256 + T.2.1
        · exact q
        · have h1 := (hW.2 a t h).1
          rw [hfr a (by omega)] at h1
          cases h1
      have k9 : H9 r0 = H271435 r0 := o9 r0 (hb _ _ g0)
      have k96 : H9 r0 6 = H271435 r0 6 := congrFun k9 6
      have k98 : H9 r0 8 = H271435 r0 8 := congrFun k9 8
      have k93 : H9 r0 3 = H271435 r0 3 := congrFun k9 3
      have k97 : H9 r0 7 = H271435 r0 7 := congrFun k9 7
      have k913 : H9 r0 13 = H271435 r0 13 := congrFun k9 13
      have k916 : H9 r0 16 = H271435 r0 16 := congrFun k9 16
      have k95 : H9 r0 5 = H271435 r0 5 := congrFun k9 5
      have kki : wKI H9 r0 = wKI H271435 r0 := wKI_old w271437 g0 (fun a t h => o9 a (hb a t h))
      have hne : H9 r0 3 ≠ ((256 + T.2.1 : Nat) : Int) := by
        rcases w271437.opt g0 (t' := 54) (n := 33) (j := 3) (p := 0) (q := 0) rfl (by decide) rfl with h5 | ⟨pp, h5, h6⟩
        · omega
        · have := hb pp _ h6
          omega
      have tm9 : TM T9 H9 rb B := fun j hj => by
        rw [o9 rb (hb _ _ grb)]
        exact h271446 j hj
      refine (u_169_c (B := B) w9 (m9 _ _ g0) ⟨by omega, by omega⟩ g9 (k95.trans q271448) (m9 _ _ grb) (by omega) hne (by omega) (by omega) (by omega) tm9 (dm9 r0 g0 (by omega))).imp (fun r T2 H2 q => ?_)
      obtain ⟨eT, w2, f2, z2, er, bz, pa⟩ := q
      subst eT
      subst er
      have fr9 : wfr [(54, 0), (54, 1), (54, 2), (54, 3), (54, 4), (54, 5), (54, 6), (54, 7), (54, 8), (42, 0), (42, 1), (42, 2), (42, 3), (42, 4), (42, 6), (42, 7), (42, 8), (42, 9), (42, 10), (42, 11), (42, 12), (42, 13), (42, 14), (42, 15), (42, 16), (42, 17), (42, 18), (42, 19), (42, 28), (42, 32), (48, 999), (49, 999), (46, 999), (47, 999), (50, 999), (45, 999), (44, 999), (64, 999), (65, 999), (56, 999), (57, 999), (66, 999), (60, 999), (63, 999), (58, 999), (59, 999), (55, 999), (61, 999), (62, 999), (72, 999), (71, 999), (67, 999), (68, 999), (69, 999)] T H H2 := fun a j t ht hm => (f2 a j t (m9 _ _ ht) (wsub_of (l := [(54, 0), (54, 1), (54, 2), (54, 3), (54, 4), (54, 5), (54, 6), (54, 7), (54, 8), (42, 1), (42, 2), (42, 3), (42, 4), (42, 8), (42, 9), (42, 10), (42, 11), (42, 12), (42, 13), (42, 14), (42, 15), (42, 16), (42, 17), (42, 18), (42, 19), (42, 28), (42, 32), (48, 999), (49, 999), (46, 999), (47, 999), (50, 999), (45, 999), (44, 999), (64, 999), (65, 999), (56, 999), (57, 999), (66, 999), (60, 999), (63, 999), (58, 999), (59, 999), (55, 999), (61, 999), (62, 999), (72, 999), (71, 999), (67, 999), (68, 999), (69, 999)]) (l' := [(54, 0), (54, 1), (54, 2), (54, 3), (54, 4), (54, 5), (54, 6), (54, 7), (54, 8), (42, 0), (42, 1), (42, 2), (42, 3), (42, 4), (42, 6), (42, 7), (42, 8), (42, 9), (42, 10), (42, 11), (42, 12), (42, 13), (42, 14), (42, 15), (42, 16), (42, 17), (42, 18), (42, 19), (42, 28), (42, 32), (48, 999), (49, 999), (46, 999), (47, 999), (50, 999), (45, 999), (44, 999), (64, 999), (65, 999), (56, 999), (57, 999), (66, 999), (60, 999), (63, 999), (58, 999), (59, 999), (55, 999), (61, 999), (62, 999), (72, 999), (71, 999), (67, 999), (68, 999), (69, 999)]) rfl hm)).trans ((congrFun (o9 a (hb a t ht)) j).trans (f271438 a j t ht hm))
      rcases pa with ⟨y0, y1, y2, y3, y4, y5, y6, y7⟩ | ⟨y0, y1, y2, y3, y4, y5, y6, y7, y8⟩
      · exact ⟨m9, by omega, by omega, w2, fr9, z2, rfl, bz, Or.inr (Or.inl ⟨by omega, by omega, by omega, by omega, by omega, by omega, by omega, by omega, by omega⟩)⟩
      · exact ⟨m9, by omega, by omega, w2, fr9, z2, rfl, bz, Or.inr (Or.inr ⟨by omega, by omega, by omega, by omega, by omega, by omega, by omega, by omega, by omega, by omega⟩)⟩
    · refine wp_of e169 c169_17 (rw_aload_n (pc' := 18) (v := .ref r0) rfl rfl rfl ?_)
      refine wp_of e169 c169_18 (rw_iconst (pc' := 19) rfl ?_)
      refine wp_of e169 c169_19 (xc_V (pc' := 22) (r := r0) (as := [vI 2]) (st := []) (lm_9_54) rfl rfl (Nat.le_of_ble_eq_true rfl) w271388 g0 sh_42 (by decide) rfl (by decide) (u_170  w271388 g0 ⟨by omega, by omega⟩) (fun R271449 T271450 H271451 p271452 => ?_))
      obtain ⟨e271453, w271455, f271456, z271457, e271454, b271458, p271459⟩ := p271452
      subst e271453
      subst e271454
      obtain ⟨a271460, a271461, a271462⟩ := p271459
      have f271463 := f271389.tr f271456 rfl
      show wp _ _ 169 22 [(0, .ref r0), (1, vI a1)] [vI z271457] _ H271451 _
      have k271464 : wKI H271451 r0 = wKI H r0 := ((wKI_fr w271388 g0 f271456 rfl).trans (wKI_fr hW g0 ((wfr.rf (l := [(42, 0)])).put' e271387 g0 rfl) rfl))
      have k271465 : H271451 r0 6 = H271386 r0 6 := (f271456 r0 6 _ g0 rfl)
      have k271466 : H271451 r0 13 = H r0 13 := ((f271456 r0 13 _ g0 rfl).trans (wq_u_j e271387 rfl))
      have k271467 : H271451 r0 3 = H r0 3 := ((f271456 r0 3 _ g0 rfl).trans (wq_u_j e271387 rfl))
      exact wp_ireturn e169 c169_22 rfl ⟨fun _ _ h => h, by omega, by omega, w271455, f271463, z271457, rfl, ⟨by omega, by omega⟩, (Or.inl ⟨by omega, by omega, by omega, by omega, by omega, by omega, by omega, by omega⟩)⟩
