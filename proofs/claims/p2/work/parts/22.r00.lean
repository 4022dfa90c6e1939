/-! methods of the reference (own work, written by wip/gen2/sx.py) -/
/-! StrikeAwakeModel.feed(IIIII)I -/
theorem e168 : wq_en 168 = some (9, 8, false, some FieldType.int) := rfl
theorem c168_0 : mc_cd 168 0 = some (.aload_n 0, 1) := by decide +kernel
theorem c168_1 : mc_cd 168 1 = some (.iconst 0, 1) := by decide +kernel
theorem c168_2 : mc_cd 168 2 = some (.putfield 48, 3) := by decide +kernel
theorem c168_5 : mc_cd 168 5 = some (.aload_n 0, 1) := by decide +kernel
theorem c168_6 : mc_cd 168 6 = some (.getfield 330, 3) := by decide +kernel
theorem c168_9 : mc_cd 168 9 = some (.bipush 20, 2) := by decide +kernel
theorem c168_11 : mc_cd 168 11 = some (.iadd, 1) := by decide +kernel
theorem c168_12 : mc_cd 168 12 = some (.sipush 900, 3) := by decide +kernel
theorem c168_15 : mc_cd 168 15 = some (.if_icmp .le 5, 3) := by decide +kernel
theorem c168_18 : mc_cd 168 18 = some (.iconst (-1), 1) := by decide +kernel
theorem c168_19 : mc_cd 168 19 = some (.ireturn, 1) := by decide +kernel
theorem c168_20 : mc_cd 168 20 = some (.iconst 0, 1) := by decide +kernel
theorem c168_21 : mc_cd 168 21 = some (.istore 6, 2) := by decide +kernel
theorem c168_23 : mc_cd 168 23 = some (.iload 6, 2) := by decide +kernel
theorem c168_25 : mc_cd 168 25 = some (.bipush 20, 2) := by decide +kernel
theorem c168_27 : mc_cd 168 27 = some (.if_icmp .ge 90, 3) := by decide +kernel
theorem c168_30 : mc_cd 168 30 = some (.iload 6, 2) := by decide +kernel
theorem c168_32 : mc_cd 168 32 = some (.iconst 4, 1) := by decide +kernel
theorem c168_33 : mc_cd 168 33 = some (.if_icmp .ge 7, 3) := by decide +kernel
theorem c168_36 : mc_cd 168 36 = some (.iload_n 1, 1) := by decide +kernel
theorem c168_37 : mc_cd 168 37 = some (.goto 39, 3) := by decide +kernel
theorem c168_40 : mc_cd 168 40 = some (.iload 6, 2) := by decide +kernel
theorem c168_42 : mc_cd 168 42 = some (.bipush 8, 2) := by decide +kernel
theorem c168_44 : mc_cd 168 44 = some (.if_icmp .ge 7, 3) := by decide +kernel
theorem c168_47 : mc_cd 168 47 = some (.iload_n 2, 1) := by decide +kernel
theorem c168_48 : mc_cd 168 48 = some (.goto 28, 3) := by decide +kernel
theorem c168_51 : mc_cd 168 51 = some (.iload 6, 2) := by decide +kernel
theorem c168_53 : mc_cd 168 53 = some (.bipush 12, 2) := by decide +kernel
theorem c168_55 : mc_cd 168 55 = some (.if_icmp .ge 7, 3) := by decide +kernel
theorem c168_58 : mc_cd 168 58 = some (.iload_n 3, 1) := by decide +kernel
theorem c168_59 : mc_cd 168 59 = some (.goto 17, 3) := by decide +kernel
theorem c168_62 : mc_cd 168 62 = some (.iload 6, 2) := by decide +kernel
theorem c168_64 : mc_cd 168 64 = some (.bipush 16, 2) := by decide +kernel
theorem c168_66 : mc_cd 168 66 = some (.if_icmp .ge 8, 3) := by decide +kernel
theorem c168_69 : mc_cd 168 69 = some (.iload 4, 2) := by decide +kernel
theorem c168_71 : mc_cd 168 71 = some (.goto 5, 3) := by decide +kernel
theorem c168_74 : mc_cd 168 74 = some (.iload 5, 2) := by decide +kernel
theorem c168_76 : mc_cd 168 76 = some (.istore 7, 2) := by decide +kernel
theorem c168_78 : mc_cd 168 78 = some (.aload_n 0, 1) := by decide +kernel
theorem c168_79 : mc_cd 168 79 = some (.getfield 13, 3) := by decide +kernel
theorem c168_82 : mc_cd 168 82 = some (.aload_n 0, 1) := by decide +kernel
theorem c168_83 : mc_cd 168 83 = some (.getfield 330, 3) := by decide +kernel
theorem c168_86 : mc_cd 168 86 = some (.iload 7, 2) := by decide +kernel
theorem c168_88 : mc_cd 168 88 = some (.bipush 24, 2) := by decide +kernel
theorem c168_90 : mc_cd 168 90 = some (.bipush 8, 2) := by decide +kernel
theorem c168_92 : mc_cd 168 92 = some (.iload 6, 2) := by decide +kernel
theorem c168_94 : mc_cd 168 94 = some (.iconst 4, 1) := by decide +kernel
theorem c168_95 : mc_cd 168 95 = some (.irem, 1) := by decide +kernel
theorem c168_96 : mc_cd 168 96 = some (.imul, 1) := by decide +kernel
theorem c168_97 : mc_cd 168 97 = some (.isub, 1) := by decide +kernel
theorem c168_98 : mc_cd 168 98 = some (.ishr, 1) := by decide +kernel
theorem c168_99 : mc_cd 168 99 = some (.i2b, 1) := by decide +kernel
theorem c168_100 : mc_cd 168 100 = some (.bastore, 1) := by decide +kernel
theorem c168_101 : mc_cd 168 101 = some (.aload_n 0, 1) := by decide +kernel
theorem c168_102 : mc_cd 168 102 = some (.dup, 1) := by decide +kernel
theorem c168_103 : mc_cd 168 103 = some (.getfield 330, 3) := by decide +kernel
theorem c168_106 : mc_cd 168 106 = some (.iconst 1, 1) := by decide +kernel
theorem c168_107 : mc_cd 168 107 = some (.iadd, 1) := by decide +kernel
theorem c168_108 : mc_cd 168 108 = some (.putfield 330, 3) := by decide +kernel
theorem c168_111 : mc_cd 168 111 = some (.iinc 6 1, 3) := by decide +kernel
theorem c168_114 : mc_cd 168 114 = some (.goto (-91), 3) := by decide +kernel
theorem c168_117 : mc_cd 168 117 = some (.aload_n 0, 1) := by decide +kernel
theorem c168_118 : mc_cd 168 118 = some (.getfield 330, 3) := by decide +kernel
theorem c168_121 : mc_cd 168 121 = some (.ireturn, 1) := by decide +kernel
abbrev q_168 (r0 : Nat) (a1 : Int) (a2 : Int) (a3 : Int) (a4 : Int) (a5 : Int) (T : wq_T) (H : wq_H) : Option Value → wq_T → wq_H → Prop := fun r T' H' => T = T' ∧ WT T H' ∧ wfr [(42, 0), (42, 6), (43, 999)] T H H' ∧ ∃ z : Int, some (vI z) = r ∧ ((-2147483648) ≤ z ∧ z ≤ 2147483647) ∧ (wKI H' r0 = 1) ∧ ((880 < H r0 6 ∧ z = -1 ∧ H' r0 6 = H r0 6) ∨ (H r0 6 ≤ 880 ∧ z = H r0 6 + 20 ∧ H' r0 6 = z))
set_option maxHeartbeats 4000000 in
theorem s_168 {kt : Nat → Option mc_E} {T : wq_T} {H : wq_H} {r0 : Nat} {a1 : Int} {a2 : Int} {a3 : Int} {a4 : Int} {a5 : Int} (hW : WT T H) (g0 : T.2.2.2 r0 = some 42) (i1 : (-2147483648) ≤ a1 ∧ a1 ≤ 2147483647) (i2 : (-2147483648) ≤ a2 ∧ a2 ≤ 2147483647) (i3 : (-2147483648) ≤ a3 ∧ a3 ≤ 2147483647) (i4 : (-2147483648) ≤ a4 ∧ a4 ≤ 2147483647) (i5 : (-2147483648) ≤ a5 ∧ a5 ≤ 2147483647) (p0 : wKI H r0 = 1) : wpc kt 1 168 [.ref r0, vI a1, vI a2, vI a3, vI a4, vI a5] T H (q_168 r0 a1 a2 a3 a4 a5 T H) := by
  refine wp_enter e168 (Nat.le_of_ble_eq_true rfl) rfl ?_
  have f0 : wfr [(42, 0), (42, 6), (43, 999)] T H H := wfr.rf
  show wp _ _ 168 0 [(0, .ref r0), (1, vI a1), (2, vI a2), (3, vI a3), (4, vI a4), (5, vI a5)] [] _ H _
  have b81673 : 0 ≤ H r0 6 ∧ H r0 6 ≤ 900 := hW.box g0 (n := 33) rfl (by decide) rfl
  refine wp_of e168 c168_0 (rw_aload_n (pc' := 1) (v := .ref r0) rfl rfl rfl ?_)
  refine wp_of e168 c168_1 (rw_iconst (pc' := 2) rfl ?_)
  refine wp_of e168 c168_2 (xp_I (pc' := 5) lf_9_48 hW g0 sh_42 (by decide) (by decide) ty_42_0 rfl rfl (by omega) (by omega) ⟨by omega, by omega⟩ rfl (fun H81674 e81675 w81676 => ?_))
  have f81677 := f0.put' e81675 g0 rfl
  have k81678 : H81674 r0 0 = 0 := wq_u_s e81675
  refine wp_of e168 c168_5 (rw_aload_n (pc' := 6) (v := .ref r0) rfl rfl rfl ?_)
  have k81679 : H81674 r0 6 = H r0 6 := (wq_u_j e81675 rfl)
  refine wp_of e168 c168_6 (xg_I (pc' := 9) lf_9_330 w81676 g0 sh_42 (by decide) (by decide) ty_42_6 rfl rfl (fun b81680 b81681 => ?_))
  refine wp_of e168 c168_9 (rw_bipush (pc' := 11) (z := 20) rfl (by decide) ?_)
  refine wp_of e168 c168_11 (rw_iadd (pc' := 12) rfl ?_)
  refine wp_of e168 c168_12 (rw_sipush (pc' := 15) (z := 900) rfl (by decide) ?_)
  refine wp_of e168 c168_15 (rw_icmp_le (p1 := 20) (p2 := 18) (by decide) rfl ⟨by omega, by omega⟩ ⟨by omega, by omega⟩ (fun c81682 => ?_) (fun c81682 => ?_))
  · refine wp_of e168 c168_20 (rw_iconst (pc' := 21) rfl ?_)
    refine wp_of e168 c168_21 (rw_istore (pc' := 23) (z := 0) (L' := [(6, vI 0), (0, .ref r0), (1, vI a1), (2, vI a2), (3, vI a3), (4, vI a4), (5, vI a5)]) rfl rfl rfl ?_)
    have lp82051 : ∀ (n82052 : Nat) (v82054 : Int) (H82055 : wq_H), WT T H82055 → wfr [(42, 6), (43, 999)] T H81674 H82055 → (0 ≤ v82054 ∧ v82054 ≤ 20) → (H82055 r0 6 = H81674 r0 6 + v82054) → (20 - v82054).toNat = n82052 → wp kt 0 168 23 [(6, vI v82054), (0, .ref r0), (1, vI a1), (2, vI a2), (3, vI a3), (4, vI a4), (5, vI a5)] [] T H82055 (q_168 r0 a1 a2 a3 a4 a5 T H) := by
      intro n82052
      induction n82052 using Nat.strongRecOn with
      | _ n82052 ih82053 =>
        intro v82054 H82055 w82056 f82057 b82058 x82059 m82060
        have f82061 := f81677.tr f82057 rfl
        refine wp_of e168 c168_23 (rw_iload (pc' := 25) (z := v82054) rfl rfl ?_)
        refine wp_of e168 c168_25 (rw_bipush (pc' := 27) (z := 20) rfl (by decide) ?_)
        refine wp_of e168 c168_27 (rw_icmp_ge (p1 := 117) (p2 := 30) (by decide) rfl ⟨by omega, by omega⟩ ⟨by omega, by omega⟩ (fun c82062 => ?_) (fun c82062 => ?_))
        · refine wp_of e168 c168_117 (rw_aload_n (pc' := 118) (v := .ref r0) rfl rfl rfl ?_)
          refine wp_of e168 c168_118 (xg_I (pc' := 121) lf_9_330 w82056 g0 sh_42 (by decide) (by decide) ty_42_6 rfl rfl (fun b82063 b82064 => ?_))
          have k82065 : wKI H82055 r0 = wKI H r0 := ((wKI_fr w81676 g0 f82057 rfl).trans (wKI_fr hW g0 ((wfr.rf (l := [(42, 0)])).put' e81675 g0 rfl) rfl))
          exact wp_ireturn e168 c168_121 rfl ⟨rfl, w82056, f82061, H82055 r0 6, rfl, ⟨by omega, by omega⟩, by omega, by omega⟩
        · refine wp_of e168 c168_30 (rw_iload (pc' := 32) (z := v82054) rfl rfl ?_)
          refine wp_of e168 c168_32 (rw_iconst (pc' := 33) rfl ?_)
          refine wp_of e168 c168_33 (rw_icmp_ge (p1 := 40) (p2 := 36) (by decide) rfl ⟨by omega, by omega⟩ ⟨by omega, by omega⟩ (fun c82066 => ?_) (fun c82066 => ?_))
          · refine wp_of e168 c168_40 (rw_iload (pc' := 42) (z := v82054) rfl rfl ?_)
            refine wp_of e168 c168_42 (rw_bipush (pc' := 44) (z := 8) rfl (by decide) ?_)
            refine wp_of e168 c168_44 (rw_icmp_ge (p1 := 51) (p2 := 47) (by decide) rfl ⟨by omega, by omega⟩ ⟨by omega, by omega⟩ (fun c82067 => ?_) (fun c82067 => ?_))
            · refine wp_of e168 c168_51 (rw_iload (pc' := 53) (z := v82054) rfl rfl ?_)
              refine wp_of e168 c168_53 (rw_bipush (pc' := 55) (z := 12) rfl (by decide) ?_)
              refine wp_of e168 c168_55 (rw_icmp_ge (p1 := 62) (p2 := 58) (by decide) rfl ⟨by omega, by omega⟩ ⟨by omega, by omega⟩ (fun c82068 => ?_) (fun c82068 => ?_))
              · refine wp_of e168 c168_62 (rw_iload (pc' := 64) (z := v82054) rfl rfl ?_)
                refine wp_of e168 c168_64 (rw_bipush (pc' := 66) (z := 16) rfl (by decide) ?_)
                refine wp_of e168 c168_66 (rw_icmp_ge (p1 := 74) (p2 := 69) (by decide) rfl ⟨by omega, by omega⟩ ⟨by omega, by omega⟩ (fun c82069 => ?_) (fun c82069 => ?_))
                · refine wp_of e168 c168_74 (rw_iload (pc' := 76) (z := a5) rfl rfl ?_)
                  refine wp_of e168 c168_76 (rw_istore (pc' := 78) (z := a5) (L' := [(7, vI a5), (6, vI v82054), (0, .ref r0), (1, vI a1), (2, vI a2), (3, vI a3), (4, vI a4), (5, vI a5)]) rfl rfl rfl ?_)
                  refine wp_of e168 c168_78 (rw_aload_n (pc' := 79) (v := .ref r0) rfl rfl rfl ?_)
                  refine wp_of e168 c168_79 (xg_R (pc' := 82) lf_9_13 w82056 g0 sh_42 (by decide) (by decide) ty_42_5 rfl rfl (fun r82070 q82071 g82072 => ?_))
                  refine wp_of e168 c168_82 (rw_aload_n (pc' := 83) (v := .ref r0) rfl rfl rfl ?_)
                  refine wp_of e168 c168_83 (xg_I (pc' := 86) lf_9_330 w82056 g0 sh_42 (by decide) (by decide) ty_42_6 rfl rfl (fun b82073 b82074 => ?_))
                  refine wp_of e168 c168_86 (rw_iload (pc' := 88) (z := a5) rfl rfl ?_)
                  refine wp_of e168 c168_88 (rw_bipush (pc' := 90) (z := 24) rfl (by decide) ?_)
                  refine wp_of e168 c168_90 (rw_bipush (pc' := 92) (z := 8) rfl (by decide) ?_)
                  refine wp_of e168 c168_92 (rw_iload (pc' := 94) (z := v82054) rfl rfl ?_)
                  refine wp_of e168 c168_94 (rw_iconst (pc' := 95) rfl ?_)
                  refine wp_of e168 c168_95 (rw_irem (pc' := 96) rfl ⟨by omega, by omega⟩ (by omega) ?_)
                  obtain ⟨v82075, e82076⟩ : ∃ x : Int, x = wq_rem v82054 4 := ⟨_, rfl⟩
                  rw [← e82076]
                  have b82077 : v82075 = v82054 % 4 := by
                    rw [e82076]
                    exact wq_rem_e ⟨by omega, by omega⟩ ⟨by omega, by omega⟩
                  refine wp_of e168 c168_96 (rw_imul (pc' := 97) rfl ?_)
                  refine wp_of e168 c168_97 (rw_isub (pc' := 98) rfl ?_)
                  refine wp_of e168 c168_98 (rw_ishr (pc' := 99) rfl ?_)
                  obtain ⟨v82078, e82079⟩ : ∃ x : Int, x = wq_shr a5 (24 - (8 * v82075)) := ⟨_, rfl⟩
                  rw [← e82079]
                  have b82080 : -2147483648 ≤ v82078 ∧ v82078 ≤ 2147483647 := by
                    rw [e82079]
                    exact wI_shr _ _
                  refine wp_of e168 c168_99 (rw_i2b (pc' := 100) rfl ?_)
                  obtain ⟨v82081, e82082⟩ : ∃ x : Int, x = wq_i2b v82078 := ⟨_, rfl⟩
                  rw [← e82082]
                  have b82083 : -128 ≤ v82081 ∧ v82081 ≤ 127 := by
                    rw [e82082]
                    exact wq_i2b_b _
                  refine wp_of e168 c168_100 (xs_B (pc' := 101) w82056 g82072 (by decide) sh_43 (by decide) (ty_43 _) (by omega) (by omega) ⟨by omega, by omega⟩ (by omega) (by omega) rfl (fun H82084 e82085 w82086 => ?_))
                  have f82087 := f82061.put' e82085 g82072 rfl
                  have f82088 := f82057.put' e82085 g82072 rfl
                  refine wp_of e168 c168_101 (rw_aload_n (pc' := 102) (v := .ref r0) rfl rfl rfl ?_)
                  refine wp_of e168 c168_102 (rw_dup (pc' := 103) rfl rfl ?_)
                  have k82089 : H82084 r0 6 = H82055 r0 6 := (wq_u_t e82085 g82072 g0 rfl 6)
                  refine wp_of e168 c168_103 (xg_I (pc' := 106) lf_9_330 w82086 g0 sh_42 (by decide) (by decide) ty_42_6 rfl rfl (fun b82090 b82091 => ?_))
                  refine wp_of e168 c168_106 (rw_iconst (pc' := 107) rfl ?_)
                  refine wp_of e168 c168_107 (rw_iadd (pc' := 108) rfl ?_)
                  refine wp_of e168 c168_108 (xp_I (pc' := 111) lf_9_330 w82086 g0 sh_42 (by decide) (by decide) ty_42_6 rfl rfl (by omega) (by omega) ⟨by omega, by omega⟩ rfl (fun H82092 e82093 w82094 => ?_))
                  have f82095 := f82087.put' e82093 g0 rfl
                  have f82096 := f82088.put' e82093 g0 rfl
                  have k82097 : H82092 r0 6 = (H82084 r0 6) + 1 := wq_u_s e82093
                  refine wp_of e168 c168_111 (rw_iinc (pc' := 114) (z := v82054) (L' := [(6, vI (v82054 + 1)), (7, vI a5), (0, .ref r0), (1, vI a1), (2, vI a2), (3, vI a3), (4, vI a4), (5, vI a5)]) rfl rfl rfl rfl ?_)
                  refine wp_of e168 c168_114 (rw_goto (p1 := 23) (by decide) ?_)
                  exact wp_lc (ks := [6, 7, 0, 1, 2, 3, 4, 5]) (wl_c rfl (wl_c rfl (wl_c rfl (wl_c rfl (wl_c rfl (wl_c rfl (wl_c rfl wl_n))))))) rfl (by decide) (ih82053 _ (by omega) (v82054 + 1) H82092 w82094 f82096 ⟨by omega, by omega⟩ (by omega) rfl)
                · refine wp_of e168 c168_69 (rw_iload (pc' := 71) (z := a4) rfl rfl ?_)
                  refine wp_of e168 c168_71 (rw_goto (p1 := 76) (by decide) ?_)
                  refine wp_of e168 c168_76 (rw_istore (pc' := 78) (z := a4) (L' := [(7, vI a4), (6, vI v82054), (0, .ref r0), (1, vI a1), (2, vI a2), (3, vI a3), (4, vI a4), (5, vI a5)]) rfl rfl rfl ?_)
                  refine wp_of e168 c168_78 (rw_aload_n (pc' := 79) (v := .ref r0) rfl rfl rfl ?_)
                  refine wp_of e168 c168_79 (xg_R (pc' := 82) lf_9_13 w82056 g0 sh_42 (by decide) (by decide) ty_42_5 rfl rfl (fun r82098 q82099 g82100 => ?_))
                  refine wp_of e168 c168_82 (rw_aload_n (pc' := 83) (v := .ref r0) rfl rfl rfl ?_)
                  refine wp_of e168 c168_83 (xg_I (pc' := 86) lf_9_330 w82056 g0 sh_42 (by decide) (by decide) ty_42_6 rfl rfl (fun b82101 b82102 => ?_))
                  refine wp_of e168 c168_86 (rw_iload (pc' := 88) (z := a4) rfl rfl ?_)
                  refine wp_of e168 c168_88 (rw_bipush (pc' := 90) (z := 24) rfl (by decide) ?_)
                  refine wp_of e168 c168_90 (rw_bipush (pc' := 92) (z := 8) rfl (by decide) ?_)
                  refine wp_of e168 c168_92 (rw_iload (pc' := 94) (z := v82054) rfl rfl ?_)
                  refine wp_of e168 c168_94 (rw_iconst (pc' := 95) rfl ?_)
                  refine wp_of e168 c168_95 (rw_irem (pc' := 96) rfl ⟨by omega, by omega⟩ (by omega) ?_)
                  obtain ⟨v82103, e82104⟩ : ∃ x : Int, x = wq_rem v82054 4 := ⟨_, rfl⟩
                  rw [← e82104]
                  have b82105 : v82103 = v82054 % 4 := by
                    rw [e82104]
                    exact wq_rem_e ⟨by omega, by omega⟩ ⟨by omega, by omega⟩
                  refine wp_of e168 c168_96 (rw_imul (pc' := 97) rfl ?_)
                  refine wp_of e168 c168_97 (rw_isub (pc' := 98) rfl ?_)
                  refine wp_of e168 c168_98 (rw_ishr (pc' := 99) rfl ?_)
                  obtain ⟨v82106, e82107⟩ : ∃ x : Int, x = wq_shr a4 (24 - (8 * v82103)) := ⟨_, rfl⟩
                  rw [← e82107]
                  have b82108 : -2147483648 ≤ v82106 ∧ v82106 ≤ 2147483647 := by
                    rw [e82107]
                    exact wI_shr _ _
                  refine wp_of e168 c168_99 (rw_i2b (pc' := 100) rfl ?_)
                  obtain ⟨v82109, e82110⟩ : ∃ x : Int, x = wq_i2b v82106 := ⟨_, rfl⟩
                  rw [← e82110]
                  have b82111 : -128 ≤ v82109 ∧ v82109 ≤ 127 := by
                    rw [e82110]
                    exact wq_i2b_b _
                  refine wp_of e168 c168_100 (xs_B (pc' := 101) w82056 g82100 (by decide) sh_43 (by decide) (ty_43 _) (by omega) (by omega) ⟨by omega, by omega⟩ (by omega) (by omega) rfl (fun H82112 e82113 w82114 => ?_))
                  have f82115 := f82061.put' e82113 g82100 rfl
                  have f82116 := f82057.put' e82113 g82100 rfl
                  refine wp_of e168 c168_101 (rw_aload_n (pc' := 102) (v := .ref r0) rfl rfl rfl ?_)
                  refine wp_of e168 c168_102 (rw_dup (pc' := 103) rfl rfl ?_)
                  have k82117 : H82112 r0 6 = H82055 r0 6 := (wq_u_t e82113 g82100 g0 rfl 6)
                  refine wp_of e168 c168_103 (xg_I (pc' := 106) lf_9_330 w82114 g0 sh_42 (by decide) (by decide) ty_42_6 rfl rfl (fun b82118 b82119 => ?_))
                  refine wp_of e168 c168_106 (rw_iconst (pc' := 107) rfl ?_)
                  refine wp_of e168 c168_107 (rw_iadd (pc' := 108) rfl ?_)
                  refine wp_of e168 c168_108 (xp_I (pc' := 111) lf_9_330 w82114 g0 sh_42 (by decide) (by decide) ty_42_6 rfl rfl (by omega) (by omega) ⟨by omega, by omega⟩ rfl (fun H82120 e82121 w82122 => ?_))
                  have f82123 := f82115.put' e82121 g0 rfl
                  have f82124 := f82116.put' e82121 g0 rfl
                  have k82125 : H82120 r0 6 = (H82112 r0 6) + 1 := wq_u_s e82121
                  refine wp_of e168 c168_111 (rw_iinc (pc' := 114) (z := v82054) (L' := [(6, vI (v82054 + 1)), (7, vI a4), (0, .ref r0), (1, vI a1), (2, vI a2), (3, vI a3), (4, vI a4), (5, vI a5)]) rfl rfl rfl rfl ?_)
                  refine wp_of e168 c168_114 (rw_goto (p1 := 23) (by decide) ?_)
                  exact wp_lc (ks := [6, 7, 0, 1, 2, 3, 4, 5]) (wl_c rfl (wl_c rfl (wl_c rfl (wl_c rfl (wl_c rfl (wl_c rfl (wl_c rfl wl_n))))))) rfl (by decide) (ih82053 _ (by omega) (v82054 + 1) H82120 w82122 f82124 ⟨by omega, by omega⟩ (by omega) rfl)
              · refine wp_of e168 c168_58 (rw_iload_n (pc' := 59) (z := a3) rfl rfl ?_)
                refine wp_of e168 c168_59 (rw_goto (p1 := 76) (by decide) ?_)
                refine wp_of e168 c168_76 (rw_istore (pc' := 78) (z := a3) (L' := [(7, vI a3), (6, vI v82054), (0, .ref r0), (1, vI a1), (2, vI a2), (3, vI a3), (4, vI a4), (5, vI a5)]) rfl rfl rfl ?_)
                refine wp_of e168 c168_78 (rw_aload_n (pc' := 79) (v := .ref r0) rfl rfl rfl ?_)
                refine wp_of e168 c168_79 (xg_R (pc' := 82) lf_9_13 w82056 g0 sh_42 (by decide) (by decide) ty_42_5 rfl rfl (fun r82126 q82127 g82128 => ?_))
                refine wp_of e168 c168_82 (rw_aload_n (pc' := 83) (v := .ref r0) rfl rfl rfl ?_)
                refine wp_of e168 c168_83 (xg_I (pc' := 86) lf_9_330 w82056 g0 sh_42 (by decide) (by decide) ty_42_6 rfl rfl (fun b82129 b82130 => ?_))
                refine wp_of e168 c168_86 (rw_iload (pc' := 88) (z := a3) rfl rfl ?_)
                refine wp_of e168 c168_88 (rw_bipush (pc' := 90) (z := 24) rfl (by decide) ?_)
                refine wp_of e168 c168_90 (rw_bipush (pc' := 92) (z := 8) rfl (by decide) ?_)
                refine wp_of e168 c168_92 (rw_iload (pc' := 94) (z := v82054) rfl rfl ?_)
                refine wp_of e168 c168_94 (rw_iconst (pc' := 95) rfl ?_)
                refine wp_of e168 c168_95 (rw_irem (pc' := 96) rfl ⟨by omega, by omega⟩ (by omega) ?_)
                obtain ⟨v82131, e82132⟩ : ∃ x : Int, x = wq_rem v82054 4 := ⟨_, rfl⟩
                rw [← e82132]
                have b82133 : v82131 = v82054 % 4 := by
                  rw [e82132]
                  exact wq_rem_e ⟨by omega, by omega⟩ ⟨by omega, by omega⟩
                refine wp_of e168 c168_96 (rw_imul (pc' := 97) rfl ?_)
                refine wp_of e168 c168_97 (rw_isub (pc' := 98) rfl ?_)
                refine wp_of e168 c168_98 (rw_ishr (pc' := 99) rfl ?_)
                obtain ⟨v82134, e82135⟩ : ∃ x : Int, x = wq_shr a3 (24 - (8 * v82131)) := ⟨_, rfl⟩
                rw [← e82135]
                have b82136 : -2147483648 ≤ v82134 ∧ v82134 ≤ 2147483647 := by
                  rw [e82135]
                  exact wI_shr _ _
                refine wp_of e168 c168_99 (rw_i2b (pc' := 100) rfl ?_)
                obtain ⟨v82137, e82138⟩ : ∃ x : Int, x = wq_i2b v82134 := ⟨_, rfl⟩
                rw [← e82138]
                have b82139 : -128 ≤ v82137 ∧ v82137 ≤ 127 := by
                  rw [e82138]
                  exact wq_i2b_b _
                refine wp_of e168 c168_100 (xs_B (pc' := 101) w82056 g82128 (by decide) sh_43 (by decide) (ty_43 _) (by omega) (by omega) ⟨by omega, by omega⟩ (by omega) (by omega) rfl (fun H82140 e82141 w82142 => ?_))
                have f82143 := f82061.put' e82141 g82128 rfl
                have f82144 := f82057.put' e82141 g82128 rfl
                refine wp_of e168 c168_101 (rw_aload_n (pc' := 102) (v := .ref r0) rfl rfl rfl ?_)
                refine wp_of e168 c168_102 (rw_dup (pc' := 103) rfl rfl ?_)
                have k82145 : H82140 r0 6 = H82055 r0 6 := (wq_u_t e82141 g82128 g0 rfl 6)
                refine wp_of e168 c168_103 (xg_I (pc' := 106) lf_9_330 w82142 g0 sh_42 (by decide) (by decide) ty_42_6 rfl rfl (fun b82146 b82147 => ?_))
                refine wp_of e168 c168_106 (rw_iconst (pc' := 107) rfl ?_)
                refine wp_of e168 c168_107 (rw_iadd (pc' := 108) rfl ?_)
                refine wp_of e168 c168_108 (xp_I (pc' := 111) lf_9_330 w82142 g0 sh_42 (by decide) (by decide) ty_42_6 rfl rfl (by omega) (by omega) ⟨by omega, by omega⟩ rfl (fun H82148 e82149 w82150 => ?_))
                have f82151 := f82143.put' e82149 g0 rfl
                have f82152 := f82144.put' e82149 g0 rfl
                have k82153 : H82148 r0 6 = (H82140 r0 6) + 1 := wq_u_s e82149
                refine wp_of e168 c168_111 (rw_iinc (pc' := 114) (z := v82054) (L' := [(6, vI (v82054 + 1)), (7, vI a3), (0, .ref r0), (1, vI a1), (2, vI a2), (3, vI a3), (4, vI a4), (5, vI a5)]) rfl rfl rfl rfl ?_)
                refine wp_of e168 c168_114 (rw_goto (p1 := 23) (by decide) ?_)
                exact wp_lc (ks := [6, 7, 0, 1, 2, 3, 4, 5]) (wl_c rfl (wl_c rfl (wl_c rfl (wl_c rfl (wl_c rfl (wl_c rfl (wl_c rfl wl_n))))))) rfl (by decide) (ih82053 _ (by omega) (v82054 + 1) H82148 w82150 f82152 ⟨by omega, by omega⟩ (by omega) rfl)
            · refine wp_of e168 c168_47 (rw_iload_n (pc' := 48) (z := a2) rfl rfl ?_)
              refine wp_of e168 c168_48 (rw_goto (p1 := 76) (by decide) ?_)
              refine wp_of e168 c168_76 (rw_istore (pc' := 78) (z := a2) (L' := [(7, vI a2), (6, vI v82054), (0, .ref r0), (1, vI a1), (2, vI a2), (3, vI a3), (4, vI a4), (5, vI a5)]) rfl rfl rfl ?_)
              refine wp_of e168 c168_78 (rw_aload_n (pc' := 79) (v := .ref r0) rfl rfl rfl ?_)
              refine wp_of e168 c168_79 (xg_R (pc' := 82) lf_9_13 w82056 g0 sh_42 (by decide) (by decide) ty_42_5 rfl rfl (fun r82154 q82155 g82156 => ?_))
              refine wp_of e168 c168_82 (rw_aload_n (pc' := 83) (v := .ref r0) rfl rfl rfl ?_)
              refine wp_of e168 c168_83 (xg_I (pc' := 86) lf_9_330 w82056 g0 sh_42 (by decide) (by decide) ty_42_6 rfl rfl (fun b82157 b82158 => ?_))
              refine wp_of e168 c168_86 (rw_iload (pc' := 88) (z := a2) rfl rfl ?_)
              refine wp_of e168 c168_88 (rw_bipush (pc' := 90) (z := 24) rfl (by decide) ?_)
              refine wp_of e168 c168_90 (rw_bipush (pc' := 92) (z := 8) rfl (by decide) ?_)
              refine wp_of e168 c168_92 (rw_iload (pc' := 94) (z := v82054) rfl rfl ?_)
              refine wp_of e168 c168_94 (rw_iconst (pc' := 95) rfl ?_)
              refine wp_of e168 c168_95 (rw_irem (pc' := 96) rfl ⟨by omega, by omega⟩ (by omega) ?_)
              obtain ⟨v82159, e82160⟩ : ∃ x : Int, x = wq_rem v82054 4 := ⟨_, rfl⟩
              rw [← e82160]
              have b82161 : v82159 = v82054 % 4 := by
                rw [e82160]
                exact wq_rem_e ⟨by omega, by omega⟩ ⟨by omega, by omega⟩
              refine wp_of e168 c168_96 (rw_imul (pc' := 97) rfl ?_)
              refine wp_of e168 c168_97 (rw_isub (pc' := 98) rfl ?_)
              refine wp_of e168 c168_98 (rw_ishr (pc' := 99) rfl ?_)
              obtain ⟨v82162, e82163⟩ : ∃ x : Int, x = wq_shr a2 (24 - (8 * v82159)) := ⟨_, rfl⟩
              rw [← e82163]
              have b82164 : -2147483648 ≤ v82162 ∧ v82162 ≤ 2147483647 := by
                rw [e82163]
                exact wI_shr _ _
              refine wp_of e168 c168_99 (rw_i2b (pc' := 100) rfl ?_)
              obtain ⟨v82165, e82166⟩ : ∃ x : Int, x = wq_i2b v82162 := ⟨_, rfl⟩
              rw [← e82166]
              have b82167 : -128 ≤ v82165 ∧ v82165 ≤ 127 := by
                rw [e82166]
                exact wq_i2b_b _
              refine wp_of e168 c168_100 (xs_B (pc' := 101) w82056 g82156 (by decide) sh_43 (by decide) (ty_43 _) (by omega) (by omega) ⟨by omega, by omega⟩ (by omega) (by omega) rfl (fun H82168 e82169 w82170 => ?_))
              have f82171 := f82061.put' e82169 g82156 rfl
              have f82172 := f82057.put' e82169 g82156 rfl
              refine wp_of e168 c168_101 (rw_aload_n (pc' := 102) (v := .ref r0) rfl rfl rfl ?_)
              refine wp_of e168 c168_102 (rw_dup (pc' := 103) rfl rfl ?_)
              have k82173 : H82168 r0 6 = H82055 r0 6 := (wq_u_t e82169 g82156 g0 rfl 6)
              refine wp_of e168 c168_103 (xg_I (pc' := 106) lf_9_330 w82170 g0 sh_42 (by decide) (by decide) ty_42_6 rfl rfl (fun b82174 b82175 => ?_))
              refine wp_of e168 c168_106 (rw_iconst (pc' := 107) rfl ?_)
              refine wp_of e168 c168_107 (rw_iadd (pc' := 108) rfl ?_)
              refine wp_of e168 c168_108 (xp_I (pc' := 111) lf_9_330 w82170 g0 sh_42 (by decide) (by decide) ty_42_6 rfl rfl (by omega) (by omega) ⟨by omega, by omega⟩ rfl (fun H82176 e82177 w82178 => ?_))
              have f82179 := f82171.put' e82177 g0 rfl
              have f82180 := f82172.put' e82177 g0 rfl
              have k82181 : H82176 r0 6 = (H82168 r0 6) + 1 := wq_u_s e82177
              refine wp_of e168 c168_111 (rw_iinc (pc' := 114) (z := v82054) (L' := [(6, vI (v82054 + 1)), (7, vI a2), (0, .ref r0), (1, vI a1), (2, vI a2), (3, vI a3), (4, vI a4), (5, vI a5)]) rfl rfl rfl rfl ?_)
              refine wp_of e168 c168_114 (rw_goto (p1 := 23) (by decide) ?_)
              exact wp_lc (ks := [6, 7, 0, 1, 2, 3, 4, 5]) (wl_c rfl (wl_c rfl (wl_c rfl (wl_c rfl (wl_c rfl (wl_c rfl (wl_c rfl wl_n))))))) rfl (by decide) (ih82053 _ (by omega) (v82054 + 1) H82176 w82178 f82180 ⟨by omega, by omega⟩ (by omega) rfl)
          · refine wp_of e168 c168_36 (rw_iload_n (pc' := 37) (z := a1) rfl rfl ?_)
            refine wp_of e168 c168_37 (rw_goto (p1 := 76) (by decide) ?_)
            refine wp_of e168 c168_76 (rw_istore (pc' := 78) (z := a1) (L' := [(7, vI a1), (6, vI v82054), (0, .ref r0), (1, vI a1), (2, vI a2), (3, vI a3), (4, vI a4), (5, vI a5)]) rfl rfl rfl ?_)
            refine wp_of e168 c168_78 (rw_aload_n (pc' := 79) (v := .ref r0) rfl rfl rfl ?_)
            refine wp_of e168 c168_79 (xg_R (pc' := 82) lf_9_13 w82056 g0 sh_42 (by decide) (by decide) ty_42_5 rfl rfl (fun r82182 q82183 g82184 => ?_))
            refine wp_of e168 c168_82 (rw_aload_n (pc' := 83) (v := .ref r0) rfl rfl rfl ?_)
            refine wp_of e168 c168_83 (xg_I (pc' := 86) lf_9_330 w82056 g0 sh_42 (by decide) (by decide) ty_42_6 rfl rfl (fun b82185 b82186 => ?_))
            refine wp_of e168 c168_86 (rw_iload (pc' := 88) (z := a1) rfl rfl ?_)
            refine wp_of e168 c168_88 (rw_bipush (pc' := 90) (z := 24) rfl (by decide) ?_)
            refine wp_of e168 c168_90 (rw_bipush (pc' := 92) (z := 8) rfl (by decide) ?_)
            refine wp_of e168 c168_92 (rw_iload (pc' := 94) (z := v82054) rfl rfl ?_)
            refine wp_of e168 c168_94 (rw_iconst (pc' := 95) rfl ?_)
            refine wp_of e168 c168_95 (rw_irem (pc' := 96) rfl ⟨by omega, by omega⟩ (by omega) ?_)
            obtain ⟨v82187, e82188⟩ : ∃ x : Int, x = wq_rem v82054 4 := ⟨_, rfl⟩
            rw [← e82188]
            have b82189 : v82187 = v82054 % 4 := by
              rw [e82188]
              exact wq_rem_e ⟨by omega, by omega⟩ ⟨by omega, by omega⟩
            refine wp_of e168 c168_96 (rw_imul (pc' := 97) rfl ?_)
            refine wp_of e168 c168_97 (rw_isub (pc' := 98) rfl ?_)
            refine wp_of e168 c168_98 (rw_ishr (pc' := 99) rfl ?_)
            obtain ⟨v82190, e82191⟩ : ∃ x : Int, x = wq_shr a1 (24 - (8 * v82187)) := ⟨_, rfl⟩
            rw [← e82191]
            have b82192 : -2147483648 ≤ v82190 ∧ v82190 ≤ 2147483647 := by
              rw [e82191]
              exact wI_shr _ _
            refine wp_of e168 c168_99 (rw_i2b (pc' := 100) rfl ?_)
            obtain ⟨v82193, e82194⟩ : ∃ x : Int, x = wq_i2b v82190 := ⟨_, rfl⟩
            rw [← e82194]
            have b82195 : -128 ≤ v82193 ∧ v82193 ≤ 127 := by
              rw [e82194]
              exact wq_i2b_b _
            refine wp_of e168 c168_100 (xs_B (pc' := 101) w82056 g82184 (by decide) sh_43 (by decide) (ty_43 _) (by omega) (by omega) ⟨by omega, by omega⟩ (by omega) (by omega) rfl (fun H82196 e82197 w82198 => ?_))
            have f82199 := f82061.put' e82197 g82184 rfl
            have f82200 := f82057.put' e82197 g82184 rfl
            refine wp_of e168 c168_101 (rw_aload_n (pc' := 102) (v := .ref r0) rfl rfl rfl ?_)
            refine wp_of e168 c168_102 (rw_dup (pc' := 103) rfl rfl ?_)
            have k82201 : H82196 r0 6 = H82055 r0 6 := (wq_u_t e82197 g82184 g0 rfl 6)
            refine wp_of e168 c168_103 (xg_I (pc' := 106) lf_9_330 w82198 g0 sh_42 (by decide) (by decide) ty_42_6 rfl rfl (fun b82202 b82203 => ?_))
            refine wp_of e168 c168_106 (rw_iconst (pc' := 107) rfl ?_)
            refine wp_of e168 c168_107 (rw_iadd (pc' := 108) rfl ?_)
            refine wp_of e168 c168_108 (xp_I (pc' := 111) lf_9_330 w82198 g0 sh_42 (by decide) (by decide) ty_42_6 rfl rfl (by omega) (by omega) ⟨by omega, by omega⟩ rfl (fun H82204 e82205 w82206 => ?_))
            have f82207 := f82199.put' e82205 g0 rfl
            have f82208 := f82200.put' e82205 g0 rfl
            have k82209 : H82204 r0 6 = (H82196 r0 6) + 1 := wq_u_s e82205
            refine wp_of e168 c168_111 (rw_iinc (pc' := 114) (z := v82054) (L' := [(6, vI (v82054 + 1)), (7, vI a1), (0, .ref r0), (1, vI a1), (2, vI a2), (3, vI a3), (4, vI a4), (5, vI a5)]) rfl rfl rfl rfl ?_)
            refine wp_of e168 c168_114 (rw_goto (p1 := 23) (by decide) ?_)
            exact wp_lc (ks := [6, 7, 0, 1, 2, 3, 4, 5]) (wl_c rfl (wl_c rfl (wl_c rfl (wl_c rfl (wl_c rfl (wl_c rfl (wl_c rfl wl_n))))))) rfl (by decide) (ih82053 _ (by omega) (v82054 + 1) H82204 w82206 f82208 ⟨by omega, by omega⟩ (by omega) rfl)
    exact wp_lc (ks := [6, 0, 1, 2, 3, 4, 5]) (wl_c rfl (wl_c rfl (wl_c rfl (wl_c rfl (wl_c rfl (wl_c rfl (wl_c rfl wl_n))))))) rfl (by decide) (lp82051 _ 0 H81674 w81676 wfr.rf ⟨by omega, by omega⟩ (by omega) rfl)
  · refine wp_of e168 c168_18 (rw_iconst (pc' := 19) rfl ?_)
    have k82210 : wKI H81674 r0 = wKI H r0 := (wKI_fr hW g0 ((wfr.rf (l := [(42, 0)])).put' e81675 g0 rfl) rfl)
    exact wp_ireturn e168 c168_19 rfl ⟨rfl, w81676, f81677, -1, rfl, ⟨by omega, by omega⟩, by omega, by omega⟩
/-! StrikeAwakeModel.refused(I)I -/
theorem e170 : wq_en 170 = some (9, 2, false, some FieldType.int) := rfl
theorem c170_0 : mc_cd 170 0 = some (.aload_n 0, 1) := by decide +kernel
theorem c170_1 : mc_cd 170 1 = some (.iload_n 1, 1) := by decide +kernel
theorem c170_2 : mc_cd 170 2 = some (.putfield 51, 3) := by decide +kernel
theorem c170_5 : mc_cd 170 5 = some (.aload_n 0, 1) := by decide +kernel
theorem c170_6 : mc_cd 170 6 = some (.iconst (-1), 1) := by decide +kernel
theorem c170_7 : mc_cd 170 7 = some (.putfield 9, 3) := by decide +kernel
theorem c170_10 : mc_cd 170 10 = some (.iconst (-1), 1) := by decide +kernel
theorem c170_11 : mc_cd 170 11 = some (.ireturn, 1) := by decide +kernel
abbrev q_170 (r0 : Nat) (a1 : Int) (T : wq_T) (H : wq_H) : Option Value → wq_T → wq_H → Prop := fun r T' H' => T = T' ∧ WT T H' ∧ wfr [(42, 1), (42, 2)] T H H' ∧ ∃ z : Int, some (vI z) = r ∧ ((-2147483648) ≤ z ∧ z ≤ 2147483647)
set_option maxHeartbeats 4000000 in
theorem s_170 {kt : Nat → Option mc_E} {T : wq_T} {H : wq_H} {r0 : Nat} {a1 : Int} (hW : WT T H) (g0 : T.2.2.2 r0 = some 42) (i1 : (-2147483648) ≤ a1 ∧ a1 ≤ 2147483647) : wpc kt 1 170 [.ref r0, vI a1] T H (q_170 r0 a1 T H) := by
  refine wp_enter e170 (Nat.le_of_ble_eq_true rfl) rfl ?_
  have f0 : wfr [(42, 1), (42, 2)] T H H := wfr.rf
  show wp _ _ 170 0 [(0, .ref r0), (1, vI a1)] [] _ H _
  refine wp_of e170 c170_0 (rw_aload_n (pc' := 1) (v := .ref r0) rfl rfl rfl ?_)
  refine wp_of e170 c170_1 (rw_iload_n (pc' := 2) (z := a1) rfl rfl ?_)
  refine wp_of e170 c170_2 (xp_I (pc' := 5) lf_9_51 hW g0 sh_42 (by decide) (by decide) ty_42_1 rfl rfl (by omega) (by omega) ⟨by omega, by omega⟩ rfl (fun H82221 e82222 w82223 => ?_))
  have f82224 := f0.put' e82222 g0 rfl
  have k82225 : H82221 r0 1 = a1 := wq_u_s e82222
  refine wp_of e170 c170_5 (rw_aload_n (pc' := 6) (v := .ref r0) rfl rfl rfl ?_)
  refine wp_of e170 c170_6 (rw_iconst (pc' := 7) rfl ?_)
  refine wp_of e170 c170_7 (xp_I (pc' := 10) lf_9_9 w82223 g0 sh_42 (by decide) (by decide) ty_42_2 rfl rfl (by omega) (by omega) ⟨by omega, by omega⟩ rfl (fun H82226 e82227 w82228 => ?_))
  have f82229 := f82224.put' e82227 g0 rfl
  have k82230 : H82226 r0 2 = -1 := wq_u_s e82227
  refine wp_of e170 c170_10 (rw_iconst (pc' := 11) rfl ?_)
  exact wp_ireturn e170 c170_11 rfl ⟨rfl, w82228, f82229, -1, rfl, ⟨by omega, by omega⟩⟩
/-! StrikeAwakeModel.byteAt(I)I -/
theorem e173 : wq_en 173 = some (9, 2, false, some FieldType.int) := rfl
theorem c173_0 : mc_cd 173 0 = some (.iload_n 1, 1) := by decide +kernel
theorem c173_1 : mc_cd 173 1 = some (.aload_n 0, 1) := by decide +kernel
theorem c173_2 : mc_cd 173 2 = some (.getfield 61, 3) := by decide +kernel
theorem c173_5 : mc_cd 173 5 = some (.if_icmp .ge 16, 3) := by decide +kernel
theorem c173_8 : mc_cd 173 8 = some (.aload_n 0, 1) := by decide +kernel
theorem c173_9 : mc_cd 173 9 = some (.getfield 13, 3) := by decide +kernel
theorem c173_12 : mc_cd 173 12 = some (.iload_n 1, 1) := by decide +kernel
theorem c173_13 : mc_cd 173 13 = some (.baload, 1) := by decide +kernel
theorem c173_14 : mc_cd 173 14 = some (.sipush 255, 3) := by decide +kernel
theorem c173_17 : mc_cd 173 17 = some (.iand, 1) := by decide +kernel
theorem c173_18 : mc_cd 173 18 = some (.goto 4, 3) := by decide +kernel
theorem c173_21 : mc_cd 173 21 = some (.iconst (-1), 1) := by decide +kernel
theorem c173_22 : mc_cd 173 22 = some (.ireturn, 1) := by decide +kernel
abbrev q_173 (r0 : Nat) (a1 : Int) (T : wq_T) (H : wq_H) : Option Value → wq_T → wq_H → Prop := fun r T' H' => T = T' ∧ H = H' ∧ ∃ z : Int, some (vI z) = r ∧ ((-1) ≤ z ∧ z ≤ 255) ∧ (z = -1 ∨ a1 ≤ 899)
set_option maxHeartbeats 4000000 in
theorem s_173 {kt : Nat → Option mc_E} {T : wq_T} {H : wq_H} {r0 : Nat} {a1 : Int} (hW : WT T H) (g0 : T.2.2.2 r0 = some 42) (i1 : 0 ≤ a1 ∧ a1 ≤ 900) : wpc kt 1 173 [.ref r0, vI a1] T H (q_173 r0 a1 T H) := by
  refine wp_enter e173 (Nat.le_of_ble_eq_true rfl) rfl ?_
  show wp _ _ 173 0 [(0, .ref r0), (1, vI a1)] [] _ H _
  refine wp_of e173 c173_0 (rw_iload_n (pc' := 1) (z := a1) rfl rfl ?_)
  refine wp_of e173 c173_1 (rw_aload_n (pc' := 2) (v := .ref r0) rfl rfl rfl ?_)
  refine wp_of e173 c173_2 (xg_I (pc' := 5) lf_9_61 hW g0 sh_42 (by decide) (by decide) ty_42_7 rfl rfl (fun b82241 b82242 => ?_))
  refine wp_of e173 c173_5 (rw_icmp_ge (p1 := 21) (p2 := 8) (by decide) rfl ⟨by omega, by omega⟩ ⟨by omega, by omega⟩ (fun c82243 => ?_) (fun c82243 => ?_))
  · refine wp_of e173 c173_21 (rw_iconst (pc' := 22) rfl ?_)
    exact wp_ireturn e173 c173_22 rfl ⟨rfl, rfl, -1, rfl, ⟨by omega, by omega⟩, by omega⟩
  · refine wp_of e173 c173_8 (rw_aload_n (pc' := 9) (v := .ref r0) rfl rfl rfl ?_)
    refine wp_of e173 c173_9 (xg_R (pc' := 12) lf_9_13 hW g0 sh_42 (by decide) (by decide) ty_42_5 rfl rfl (fun r82244 q82245 g82246 => ?_))
    refine wp_of e173 c173_12 (rw_iload_n (pc' := 13) (z := a1) rfl rfl ?_)
    refine wp_of e173 c173_13 (xa_B (by decide) (pc' := 14) hW g82246 sh_43 (by decide) (ty_43 _) (by omega) (by omega) rfl (fun b82247 b82248 => ?_))
    refine wp_of e173 c173_14 (rw_sipush (pc' := 17) (z := 255) rfl (by decide) ?_)
    refine wp_of e173 c173_17 (rw_iand (pc' := 18) rfl ?_)
    obtain ⟨v82249, e82250⟩ : ∃ x : Int, x = wq_and (H r82244 (a1.toNat)) 255 := ⟨_, rfl⟩
    rw [← e82250]
    have b82251 : 0 ≤ v82249 ∧ v82249 ≤ 255 := by
      rw [e82250]
      exact wq_and_b _ (by omega) (by omega)
    refine wp_of e173 c173_18 (rw_goto (p1 := 22) (by decide) ?_)
    exact wp_ireturn e173 c173_22 rfl ⟨rfl, rfl, v82249, rfl, ⟨by omega, by omega⟩, by omega⟩
/-! StrikeAwakeModel.isLetter(I)Z -/
theorem e174 : wq_en 174 = some (9, 1, false, some FieldType.boolean) := rfl
theorem c174_0 : mc_cd 174 0 = some (.iload_n 0, 1) := by decide +kernel
theorem c174_1 : mc_cd 174 1 = some (.bipush 97, 2) := by decide +kernel
theorem c174_3 : mc_cd 174 3 = some (.if_icmp .lt 13, 3) := by decide +kernel
theorem c174_6 : mc_cd 174 6 = some (.iload_n 0, 1) := by decide +kernel
theorem c174_7 : mc_cd 174 7 = some (.bipush 122, 2) := by decide +kernel
theorem c174_9 : mc_cd 174 9 = some (.if_icmp .gt 7, 3) := by decide +kernel
theorem c174_12 : mc_cd 174 12 = some (.iconst 1, 1) := by decide +kernel
theorem c174_13 : mc_cd 174 13 = some (.goto 4, 3) := by decide +kernel
theorem c174_16 : mc_cd 174 16 = some (.iconst 0, 1) := by decide +kernel
theorem c174_17 : mc_cd 174 17 = some (.ireturn, 1) := by decide +kernel
abbrev q_174 (a0 : Int) (T : wq_T) (H : wq_H) : Option Value → wq_T → wq_H → Prop := fun r T' H' => T = T' ∧ H = H' ∧ ∃ z : Int, some (vI z) = r ∧ (0 ≤ z ∧ z ≤ 1) ∧ (z = 0 ∨ (97 ≤ a0 ∧ a0 ≤ 122))
set_option maxHeartbeats 4000000 in
theorem s_174 {kt : Nat → Option mc_E} {T : wq_T} {H : wq_H} {a0 : Int} (hW : WT T H) (i0 : (-2147483648) ≤ a0 ∧ a0 ≤ 2147483647) : wpc kt 1 174 [vI a0] T H (q_174 a0 T H) := by
  refine wp_enter e174 (Nat.le_of_ble_eq_true rfl) rfl ?_
  show wp _ _ 174 0 [(0, vI a0)] [] _ H _
  refine wp_of e174 c174_0 (rw_iload_n (pc' := 1) (z := a0) rfl rfl ?_)
  refine wp_of e174 c174_1 (rw_bipush (pc' := 3) (z := 97) rfl (by decide) ?_)
  refine wp_of e174 c174_3 (rw_icmp_lt (p1 := 16) (p2 := 6) (by decide) rfl ⟨by omega, by omega⟩ ⟨by omega, by omega⟩ (fun c82254 => ?_) (fun c82254 => ?_))
  · refine wp_of e174 c174_16 (rw_iconst (pc' := 17) rfl ?_)
    exact wp_zreturn e174 c174_17 rfl (by omega) ⟨rfl, rfl, 0, rfl, ⟨by omega, by omega⟩, by omega⟩
  · refine wp_of e174 c174_6 (rw_iload_n (pc' := 7) (z := a0) rfl rfl ?_)
    refine wp_of e174 c174_7 (rw_bipush (pc' := 9) (z := 122) rfl (by decide) ?_)
    refine wp_of e174 c174_9 (rw_icmp_gt (p1 := 16) (p2 := 12) (by decide) rfl ⟨by omega, by omega⟩ ⟨by omega, by omega⟩ (fun c82255 => ?_) (fun c82255 => ?_))
    · refine wp_of e174 c174_16 (rw_iconst (pc' := 17) rfl ?_)
      exact wp_zreturn e174 c174_17 rfl (by omega) ⟨rfl, rfl, 0, rfl, ⟨by omega, by omega⟩, by omega⟩
    · refine wp_of e174 c174_12 (rw_iconst (pc' := 13) rfl ?_)
      refine wp_of e174 c174_13 (rw_goto (p1 := 17) (by decide) ?_)
      exact wp_zreturn e174 c174_17 rfl (by omega) ⟨rfl, rfl, 1, rfl, ⟨by omega, by omega⟩, by omega⟩
/-! StrikeAwakeModel.isDigit(I)Z -/
theorem e175 : wq_en 175 = some (9, 1, false, some FieldType.boolean) := rfl
theorem c175_0 : mc_cd 175 0 = some (.iload_n 0, 1) := by decide +kernel
theorem c175_1 : mc_cd 175 1 = some (.bipush 48, 2) := by decide +kernel
theorem c175_3 : mc_cd 175 3 = some (.if_icmp .lt 13, 3) := by decide +kernel
theorem c175_6 : mc_cd 175 6 = some (.iload_n 0, 1) := by decide +kernel
theorem c175_7 : mc_cd 175 7 = some (.bipush 57, 2) := by decide +kernel
theorem c175_9 : mc_cd 175 9 = some (.if_icmp .gt 7, 3) := by decide +kernel
theorem c175_12 : mc_cd 175 12 = some (.iconst 1, 1) := by decide +kernel
theorem c175_13 : mc_cd 175 13 = some (.goto 4, 3) := by decide +kernel
theorem c175_16 : mc_cd 175 16 = some (.iconst 0, 1) := by decide +kernel
theorem c175_17 : mc_cd 175 17 = some (.ireturn, 1) := by decide +kernel
abbrev q_175 (a0 : Int) (T : wq_T) (H : wq_H) : Option Value → wq_T → wq_H → Prop := fun r T' H' => T = T' ∧ H = H' ∧ ∃ z : Int, some (vI z) = r ∧ (0 ≤ z ∧ z ≤ 1) ∧ (z = 0 ∨ (48 ≤ a0 ∧ a0 ≤ 57))
set_option maxHeartbeats 4000000 in
theorem s_175 {kt : Nat → Option mc_E} {T : wq_T} {H : wq_H} {a0 : Int} (hW : WT T H) (i0 : (-2147483648) ≤ a0 ∧ a0 ≤ 2147483647) : wpc kt 1 175 [vI a0] T H (q_175 a0 T H) := by
  refine wp_enter e175 (Nat.le_of_ble_eq_true rfl) rfl ?_
  show wp _ _ 175 0 [(0, vI a0)] [] _ H _
  refine wp_of e175 c175_0 (rw_iload_n (pc' := 1) (z := a0) rfl rfl ?_)
  refine wp_of e175 c175_1 (rw_bipush (pc' := 3) (z := 48) rfl (by decide) ?_)
  refine wp_of e175 c175_3 (rw_icmp_lt (p1 := 16) (p2 := 6) (by decide) rfl ⟨by omega, by omega⟩ ⟨by omega, by omega⟩ (fun c82258 => ?_) (fun c82258 => ?_))
  · refine wp_of e175 c175_16 (rw_iconst (pc' := 17) rfl ?_)
    exact wp_zreturn e175 c175_17 rfl (by omega) ⟨rfl, rfl, 0, rfl, ⟨by omega, by omega⟩, by omega⟩
  · refine wp_of e175 c175_6 (rw_iload_n (pc' := 7) (z := a0) rfl rfl ?_)
    refine wp_of e175 c175_7 (rw_bipush (pc' := 9) (z := 57) rfl (by decide) ?_)
    refine wp_of e175 c175_9 (rw_icmp_gt (p1 := 16) (p2 := 12) (by decide) rfl ⟨by omega, by omega⟩ ⟨by omega, by omega⟩ (fun c82259 => ?_) (fun c82259 => ?_))
    · refine wp_of e175 c175_16 (rw_iconst (pc' := 17) rfl ?_)
      exact wp_zreturn e175 c175_17 rfl (by omega) ⟨rfl, rfl, 0, rfl, ⟨by omega, by omega⟩, by omega⟩
    · refine wp_of e175 c175_12 (rw_iconst (pc' := 13) rfl ?_)
      refine wp_of e175 c175_13 (rw_goto (p1 := 17) (by decide) ?_)
      exact wp_zreturn e175 c175_17 rfl (by omega) ⟨rfl, rfl, 1, rfl, ⟨by omega, by omega⟩, by omega⟩
/-! StrikeAwakeModel.goesOn()V -/
theorem e172 : wq_en 172 = some (9, 3, false, none) := rfl
theorem c172_0 : mc_cd 172 0 = some (.aload_n 0, 1) := by decide +kernel
theorem c172_1 : mc_cd 172 1 = some (.getfield 75, 3) := by decide +kernel
theorem c172_4 : mc_cd 172 4 = some (.iconst 5, 1) := by decide +kernel
theorem c172_5 : mc_cd 172 5 = some (.if_icmp .ne 4, 3) := by decide +kernel
theorem c172_8 : mc_cd 172 8 = some (.return_, 1) := by decide +kernel
theorem c172_9 : mc_cd 172 9 = some (.aload_n 0, 1) := by decide +kernel
theorem c172_10 : mc_cd 172 10 = some (.aload_n 0, 1) := by decide +kernel
theorem c172_11 : mc_cd 172 11 = some (.getfield 78, 3) := by decide +kernel
theorem c172_14 : mc_cd 172 14 = some (.invokevirtual 81, 3) := by decide +kernel
theorem c172_17 : mc_cd 172 17 = some (.bipush 32, 2) := by decide +kernel
theorem c172_19 : mc_cd 172 19 = some (.if_icmp .ne 16, 3) := by decide +kernel
theorem c172_22 : mc_cd 172 22 = some (.aload_n 0, 1) := by decide +kernel
theorem c172_23 : mc_cd 172 23 = some (.dup, 1) := by decide +kernel
theorem c172_24 : mc_cd 172 24 = some (.getfield 78, 3) := by decide +kernel
theorem c172_27 : mc_cd 172 27 = some (.iconst 1, 1) := by decide +kernel
theorem c172_28 : mc_cd 172 28 = some (.iadd, 1) := by decide +kernel
theorem c172_29 : mc_cd 172 29 = some (.putfield 78, 3) := by decide +kernel
theorem c172_32 : mc_cd 172 32 = some (.goto (-23), 3) := by decide +kernel
theorem c172_35 : mc_cd 172 35 = some (.aload_n 0, 1) := by decide +kernel
theorem c172_36 : mc_cd 172 36 = some (.aload_n 0, 1) := by decide +kernel
theorem c172_37 : mc_cd 172 37 = some (.getfield 78, 3) := by decide +kernel
theorem c172_40 : mc_cd 172 40 = some (.putfield 84, 3) := by decide +kernel
theorem c172_43 : mc_cd 172 43 = some (.aload_n 0, 1) := by decide +kernel
theorem c172_44 : mc_cd 172 44 = some (.iconst 0, 1) := by decide +kernel
theorem c172_45 : mc_cd 172 45 = some (.putfield 75, 3) := by decide +kernel
theorem c172_48 : mc_cd 172 48 = some (.aload_n 0, 1) := by decide +kernel
theorem c172_49 : mc_cd 172 49 = some (.iconst 0, 1) := by decide +kernel
theorem c172_50 : mc_cd 172 50 = some (.putfield 87, 3) := by decide +kernel
theorem c172_53 : mc_cd 172 53 = some (.aload_n 0, 1) := by decide +kernel
theorem c172_54 : mc_cd 172 54 = some (.aload_n 0, 1) := by decide +kernel
theorem c172_55 : mc_cd 172 55 = some (.getfield 78, 3) := by decide +kernel
theorem c172_58 : mc_cd 172 58 = some (.invokevirtual 81, 3) := by decide +kernel
theorem c172_61 : mc_cd 172 61 = some (.istore_n 1, 1) := by decide +kernel
theorem c172_62 : mc_cd 172 62 = some (.iconst 0, 1) := by decide +kernel
theorem c172_63 : mc_cd 172 63 = some (.istore_n 2, 1) := by decide +kernel
theorem c172_64 : mc_cd 172 64 = some (.iload_n 1, 1) := by decide +kernel
theorem c172_65 : mc_cd 172 65 = some (.iconst (-1), 1) := by decide +kernel
theorem c172_66 : mc_cd 172 66 = some (.if_icmp .ne 11, 3) := by decide +kernel
theorem c172_69 : mc_cd 172 69 = some (.aload_n 0, 1) := by decide +kernel
theorem c172_70 : mc_cd 172 70 = some (.iconst 1, 1) := by decide +kernel
theorem c172_71 : mc_cd 172 71 = some (.putfield 75, 3) := by decide +kernel
theorem c172_74 : mc_cd 172 74 = some (.goto 207, 3) := by decide +kernel
theorem c172_77 : mc_cd 172 77 = some (.iload_n 1, 1) := by decide +kernel
theorem c172_78 : mc_cd 172 78 = some (.invokestatic 90, 3) := by decide +kernel
theorem c172_81 : mc_cd 172 81 = some (.ifCond .eq 85, 3) := by decide +kernel
theorem c172_84 : mc_cd 172 84 = some (.aload_n 0, 1) := by decide +kernel
theorem c172_85 : mc_cd 172 85 = some (.lconst 0, 1) := by decide +kernel
theorem c172_86 : mc_cd 172 86 = some (.putfield 94, 3) := by decide +kernel
theorem c172_89 : mc_cd 172 89 = some (.aload_n 0, 1) := by decide +kernel
theorem c172_90 : mc_cd 172 90 = some (.aload_n 0, 1) := by decide +kernel
theorem c172_91 : mc_cd 172 91 = some (.getfield 78, 3) := by decide +kernel
theorem c172_94 : mc_cd 172 94 = some (.invokevirtual 81, 3) := by decide +kernel
theorem c172_97 : mc_cd 172 97 = some (.invokestatic 90, 3) := by decide +kernel
theorem c172_100 : mc_cd 172 100 = some (.ifCond .eq 52, 3) := by decide +kernel
theorem c172_103 : mc_cd 172 103 = some (.iload_n 2, 1) := by decide +kernel
theorem c172_104 : mc_cd 172 104 = some (.bipush 8, 2) := by decide +kernel
theorem c172_106 : mc_cd 172 106 = some (.if_icmp .ge 30, 3) := by decide +kernel
theorem c172_109 : mc_cd 172 109 = some (.aload_n 0, 1) := by decide +kernel
theorem c172_110 : mc_cd 172 110 = some (.ldc2_w 69, 3) := by decide +kernel
theorem c172_113 : mc_cd 172 113 = some (.aload_n 0, 1) := by decide +kernel
theorem c172_114 : mc_cd 172 114 = some (.getfield 94, 3) := by decide +kernel
theorem c172_117 : mc_cd 172 117 = some (.lmul, 1) := by decide +kernel
theorem c172_118 : mc_cd 172 118 = some (.aload_n 0, 1) := by decide +kernel
theorem c172_119 : mc_cd 172 119 = some (.aload_n 0, 1) := by decide +kernel
theorem c172_120 : mc_cd 172 120 = some (.getfield 78, 3) := by decide +kernel
theorem c172_123 : mc_cd 172 123 = some (.invokevirtual 81, 3) := by decide +kernel
theorem c172_126 : mc_cd 172 126 = some (.bipush 97, 2) := by decide +kernel
theorem c172_128 : mc_cd 172 128 = some (.isub, 1) := by decide +kernel
theorem c172_129 : mc_cd 172 129 = some (.iconst 1, 1) := by decide +kernel
theorem c172_130 : mc_cd 172 130 = some (.iadd, 1) := by decide +kernel
theorem c172_131 : mc_cd 172 131 = some (.i2l, 1) := by decide +kernel
theorem c172_132 : mc_cd 172 132 = some (.ladd, 1) := by decide +kernel
theorem c172_133 : mc_cd 172 133 = some (.putfield 94, 3) := by decide +kernel
theorem c172_136 : mc_cd 172 136 = some (.iinc 2 1, 3) := by decide +kernel
theorem c172_139 : mc_cd 172 139 = some (.aload_n 0, 1) := by decide +kernel
theorem c172_140 : mc_cd 172 140 = some (.dup, 1) := by decide +kernel
theorem c172_141 : mc_cd 172 141 = some (.getfield 78, 3) := by decide +kernel
theorem c172_144 : mc_cd 172 144 = some (.iconst 1, 1) := by decide +kernel
theorem c172_145 : mc_cd 172 145 = some (.iadd, 1) := by decide +kernel
theorem c172_146 : mc_cd 172 146 = some (.putfield 78, 3) := by decide +kernel
theorem c172_149 : mc_cd 172 149 = some (.goto (-60), 3) := by decide +kernel
theorem c172_152 : mc_cd 172 152 = some (.iload_n 2, 1) := by decide +kernel
theorem c172_153 : mc_cd 172 153 = some (.bipush 8, 2) := by decide +kernel
theorem c172_155 : mc_cd 172 155 = some (.if_icmp .gt 126, 3) := by decide +kernel
theorem c172_158 : mc_cd 172 158 = some (.aload_n 0, 1) := by decide +kernel
theorem c172_159 : mc_cd 172 159 = some (.iconst 2, 1) := by decide +kernel
theorem c172_160 : mc_cd 172 160 = some (.putfield 75, 3) := by decide +kernel
theorem c172_163 : mc_cd 172 163 = some (.goto 118, 3) := by decide +kernel
theorem c172_166 : mc_cd 172 166 = some (.iload_n 1, 1) := by decide +kernel
theorem c172_167 : mc_cd 172 167 = some (.invokestatic 98, 3) := by decide +kernel
theorem c172_170 : mc_cd 172 170 = some (.ifCond .eq 79, 3) := by decide +kernel
theorem c172_173 : mc_cd 172 173 = some (.aload_n 0, 1) := by decide +kernel
theorem c172_174 : mc_cd 172 174 = some (.iconst 0, 1) := by decide +kernel
theorem c172_175 : mc_cd 172 175 = some (.putfield 101, 3) := by decide +kernel
theorem c172_178 : mc_cd 172 178 = some (.aload_n 0, 1) := by decide +kernel
theorem c172_179 : mc_cd 172 179 = some (.aload_n 0, 1) := by decide +kernel
theorem c172_180 : mc_cd 172 180 = some (.getfield 78, 3) := by decide +kernel
theorem c172_183 : mc_cd 172 183 = some (.invokevirtual 81, 3) := by decide +kernel
theorem c172_186 : mc_cd 172 186 = some (.invokestatic 98, 3) := by decide +kernel
theorem c172_189 : mc_cd 172 189 = some (.ifCond .eq 47, 3) := by decide +kernel
theorem c172_192 : mc_cd 172 192 = some (.iload_n 2, 1) := by decide +kernel
theorem c172_193 : mc_cd 172 193 = some (.iconst 3, 1) := by decide +kernel
theorem c172_194 : mc_cd 172 194 = some (.if_icmp .ge 26, 3) := by decide +kernel
theorem c172_197 : mc_cd 172 197 = some (.aload_n 0, 1) := by decide +kernel
theorem c172_198 : mc_cd 172 198 = some (.bipush 10, 2) := by decide +kernel
theorem c172_200 : mc_cd 172 200 = some (.aload_n 0, 1) := by decide +kernel
theorem c172_201 : mc_cd 172 201 = some (.getfield 101, 3) := by decide +kernel
theorem c172_204 : mc_cd 172 204 = some (.imul, 1) := by decide +kernel
theorem c172_205 : mc_cd 172 205 = some (.aload_n 0, 1) := by decide +kernel
theorem c172_206 : mc_cd 172 206 = some (.aload_n 0, 1) := by decide +kernel
theorem c172_207 : mc_cd 172 207 = some (.getfield 78, 3) := by decide +kernel
theorem c172_210 : mc_cd 172 210 = some (.invokevirtual 81, 3) := by decide +kernel
theorem c172_213 : mc_cd 172 213 = some (.iadd, 1) := by decide +kernel
theorem c172_214 : mc_cd 172 214 = some (.bipush 48, 2) := by decide +kernel
theorem c172_216 : mc_cd 172 216 = some (.isub, 1) := by decide +kernel
theorem c172_217 : mc_cd 172 217 = some (.putfield 101, 3) := by decide +kernel
theorem c172_220 : mc_cd 172 220 = some (.iinc 2 1, 3) := by decide +kernel
theorem c172_223 : mc_cd 172 223 = some (.aload_n 0, 1) := by decide +kernel
theorem c172_224 : mc_cd 172 224 = some (.dup, 1) := by decide +kernel
theorem c172_225 : mc_cd 172 225 = some (.getfield 78, 3) := by decide +kernel
theorem c172_228 : mc_cd 172 228 = some (.iconst 1, 1) := by decide +kernel
theorem c172_229 : mc_cd 172 229 = some (.iadd, 1) := by decide +kernel
theorem c172_230 : mc_cd 172 230 = some (.putfield 78, 3) := by decide +kernel
theorem c172_233 : mc_cd 172 233 = some (.goto (-55), 3) := by decide +kernel
theorem c172_236 : mc_cd 172 236 = some (.iload_n 2, 1) := by decide +kernel
theorem c172_237 : mc_cd 172 237 = some (.iconst 3, 1) := by decide +kernel
theorem c172_238 : mc_cd 172 238 = some (.if_icmp .gt 43, 3) := by decide +kernel
theorem c172_241 : mc_cd 172 241 = some (.aload_n 0, 1) := by decide +kernel
theorem c172_242 : mc_cd 172 242 = some (.iconst 3, 1) := by decide +kernel
theorem c172_243 : mc_cd 172 243 = some (.putfield 75, 3) := by decide +kernel
theorem c172_246 : mc_cd 172 246 = some (.goto 35, 3) := by decide +kernel
theorem c172_249 : mc_cd 172 249 = some (.iload_n 1, 1) := by decide +kernel
theorem c172_250 : mc_cd 172 250 = some (.bipush 59, 2) := by decide +kernel
theorem c172_252 : mc_cd 172 252 = some (.if_icmp .eq 9, 3) := by decide +kernel
theorem c172_255 : mc_cd 172 255 = some (.iload_n 1, 1) := by decide +kernel
theorem c172_256 : mc_cd 172 256 = some (.bipush 44, 2) := by decide +kernel
theorem c172_258 : mc_cd 172 258 = some (.if_icmp .ne 23, 3) := by decide +kernel
theorem c172_261 : mc_cd 172 261 = some (.aload_n 0, 1) := by decide +kernel
theorem c172_262 : mc_cd 172 262 = some (.iconst 4, 1) := by decide +kernel
theorem c172_263 : mc_cd 172 263 = some (.putfield 75, 3) := by decide +kernel
theorem c172_266 : mc_cd 172 266 = some (.aload_n 0, 1) := by decide +kernel
theorem c172_267 : mc_cd 172 267 = some (.iload_n 1, 1) := by decide +kernel
theorem c172_268 : mc_cd 172 268 = some (.putfield 87, 3) := by decide +kernel
theorem c172_271 : mc_cd 172 271 = some (.aload_n 0, 1) := by decide +kernel
theorem c172_272 : mc_cd 172 272 = some (.dup, 1) := by decide +kernel
theorem c172_273 : mc_cd 172 273 = some (.getfield 78, 3) := by decide +kernel
theorem c172_276 : mc_cd 172 276 = some (.iconst 1, 1) := by decide +kernel
theorem c172_277 : mc_cd 172 277 = some (.iadd, 1) := by decide +kernel
theorem c172_278 : mc_cd 172 278 = some (.putfield 78, 3) := by decide +kernel
theorem c172_281 : mc_cd 172 281 = some (.return_, 1) := by decide +kernel
abbrev q_172 (r0 : Nat) (T : wq_T) (H : wq_H) : Option Value → wq_T → wq_H → Prop := fun r T' H' => T = T' ∧ WT T H' ∧ wfr [(42, 8), (42, 9), (42, 10), (42, 11), (42, 12), (42, 15)] T H H' ∧ none = r ∧ (wJ H' r0 = 1) ∧ (H r0 10 ≤ H' r0 10) ∧ (wOV H r0 ≤ wOV H' r0) ∧ (wOV H' r0 ≤ 1) ∧ (H r0 9 = 5 ∨ H r0 8 ≤ H' r0 10) ∧ (H r0 9 = 5 ∨ H' r0 10 ≤ 900)
set_option maxHeartbeats 4000000 in
theorem s_172 {kt : Nat → Option mc_E} {T : wq_T} {H : wq_H} {r0 : Nat} (hW : WT T H) (g0 : T.2.2.2 r0 = some 42) (p0 : wJ H r0 = 1) : wpc kt 2 172 [.ref r0] T H (q_172 r0 T H) := by
  refine wp_enter e172 (Nat.le_of_ble_eq_true rfl) rfl ?_
  have f0 : wfr [(42, 8), (42, 9), (42, 10), (42, 11), (42, 12), (42, 15)] T H H := wfr.rf
  show wp _ _ 172 0 [(0, .ref r0)] [] _ H _
  have b83536 : (-2147483648) ≤ H r0 10 ∧ H r0 10 ≤ 2147483647 := hW.box g0 (n := 33) rfl (by decide) rfl
  have b83537 : 0 ≤ H r0 9 ∧ H r0 9 ≤ 5 := hW.box g0 (n := 33) rfl (by decide) rfl
  have b83538 : 0 ≤ H r0 8 ∧ H r0 8 ≤ 900 := hW.box g0 (n := 33) rfl (by decide) rfl
  have hb0 := wOV_b (H := H) (m := r0)
  have hj := wJ_1.mp p0
  have ho := wOV_e (H := H) (m := r0)
  refine wp_of e172 c172_0 (rw_aload_n (pc' := 1) (v := .ref r0) rfl rfl rfl ?_)
  refine wp_of e172 c172_1 (xg_I (pc' := 4) lf_9_75 hW g0 sh_42 (by decide) (by decide) ty_42_9 rfl rfl (fun b83539 b83540 => ?_))
  have k83541 := wOV_e (H := H) (m := r0)
  refine wp_of e172 c172_4 (rw_iconst (pc' := 5) rfl ?_)
  refine wp_of e172 c172_5 (rw_icmp_ne (p1 := 9) (p2 := 8) (by decide) rfl ⟨by omega, by omega⟩ ⟨by omega, by omega⟩ (fun c83542 => ?_) (fun c83542 => ?_))
  · have lp83584 : ∀ (n83585 : Nat)  (H83587 : wq_H), WT T H83587 → wfr [(42, 8)] T H H83587 → (H r0 8 ≤ H83587 r0 8) → (900 - H83587 r0 8).toNat = n83585 → wp kt 1 172 9 [(0, .ref r0)] [] T H83587 (q_172 r0 T H) := by
      intro n83585
      induction n83585 using Nat.strongRecOn with
      | _ n83585 ih83586 =>
        intro H83587 w83588 f83589 x83590 m83591
        have f83592 := f0.tr f83589 rfl
        refine wp_of e172 c172_9 (rw_aload_n (pc' := 10) (v := .ref r0) rfl rfl rfl ?_)
        refine wp_of e172 c172_10 (rw_aload_n (pc' := 11) (v := .ref r0) rfl rfl rfl ?_)
        refine wp_of e172 c172_11 (xg_I (pc' := 14) lf_9_78 w83588 g0 sh_42 (by decide) (by decide) ty_42_8 rfl rfl (fun b83593 b83594 => ?_))
        refine wp_of e172 c172_14 (xc_V (pc' := 17) (r := r0) (as := [vI (H83587 r0 8)]) (st := []) (lm_9_81) rfl rfl (Nat.le_of_ble_eq_true rfl) w83588 g0 sh_42 (by decide) rfl (by decide) (s_173 w83588 g0 ⟨by omega, by omega⟩) (fun R83595 T83596 H83597 p83598 => ?_))
        obtain ⟨e83599, e83601, z83603, e83600, b83604, p83602⟩ := p83598
        subst e83599
        subst e83600
        subst e83601
        show wp _ _ 172 17 [(0, .ref r0)] [vI z83603] _ H83587 _
        refine wp_of e172 c172_17 (rw_bipush (pc' := 19) (z := 32) rfl (by decide) ?_)
        refine wp_of e172 c172_19 (rw_icmp_ne (p1 := 35) (p2 := 22) (by decide) rfl ⟨by omega, by omega⟩ ⟨by omega, by omega⟩ (fun c83605 => ?_) (fun c83605 => ?_))
        · refine wp_of e172 c172_35 (rw_aload_n (pc' := 36) (v := .ref r0) rfl rfl rfl ?_)
          refine wp_of e172 c172_36 (rw_aload_n (pc' := 37) (v := .ref r0) rfl rfl rfl ?_)
          refine wp_of e172 c172_37 (xg_I (pc' := 40) lf_9_78 w83588 g0 sh_42 (by decide) (by decide) ty_42_8 rfl rfl (fun b83606 b83607 => ?_))
          refine wp_of e172 c172_40 (xp_I (pc' := 43) lf_9_84 w83588 g0 sh_42 (by decide) (by decide) ty_42_10 rfl rfl (by omega) (by omega) ⟨by omega, by omega⟩ rfl (fun H83608 e83609 w83610 => ?_))
          have f83611 := f83592.put' e83609 g0 rfl
          have k83612 : H83608 r0 10 = H83587 r0 8 := wq_u_s e83609
          refine wp_of e172 c172_43 (rw_aload_n (pc' := 44) (v := .ref r0) rfl rfl rfl ?_)
          refine wp_of e172 c172_44 (rw_iconst (pc' := 45) rfl ?_)
          refine wp_of e172 c172_45 (xp_I (pc' := 48) lf_9_75 w83610 g0 sh_42 (by decide) (by decide) ty_42_9 rfl rfl (by omega) (by omega) ⟨by omega, by omega⟩ rfl (fun H83613 e83614 w83615 => ?_))
          have f83616 := f83611.put' e83614 g0 rfl
          have k83617 : H83613 r0 9 = 0 := wq_u_s e83614
          refine wp_of e172 c172_48 (rw_aload_n (pc' := 49) (v := .ref r0) rfl rfl rfl ?_)
          refine wp_of e172 c172_49 (rw_iconst (pc' := 50) rfl ?_)
          refine wp_of e172 c172_50 (xp_I (pc' := 53) lf_9_87 w83615 g0 sh_42 (by decide) (by decide) ty_42_11 rfl rfl (by omega) (by omega) ⟨by omega, by omega⟩ rfl (fun H83618 e83619 w83620 => ?_))
          have f83621 := f83616.put' e83619 g0 rfl
          have k83622 : H83618 r0 11 = 0 := wq_u_s e83619
          refine wp_of e172 c172_53 (rw_aload_n (pc' := 54) (v := .ref r0) rfl rfl rfl ?_)
          refine wp_of e172 c172_54 (rw_aload_n (pc' := 55) (v := .ref r0) rfl rfl rfl ?_)
          have k83623 : H83618 r0 8 = H83587 r0 8 := ((wq_u_j e83619 rfl).trans ((wq_u_j e83614 rfl).trans (wq_u_j e83609 rfl)))
          refine wp_of e172 c172_55 (xg_I (pc' := 58) lf_9_78 w83620 g0 sh_42 (by decide) (by decide) ty_42_8 rfl rfl (fun b83624 b83625 => ?_))
          refine wp_of e172 c172_58 (xc_V (pc' := 61) (r := r0) (as := [vI (H83618 r0 8)]) (st := []) (lm_9_81) rfl rfl (Nat.le_of_ble_eq_true rfl) w83620 g0 sh_42 (by decide) rfl (by decide) (s_173 w83620 g0 ⟨by omega, by omega⟩) (fun R83626 T83627 H83628 p83629 => ?_))
          obtain ⟨e83630, e83632, z83634, e83631, b83635, p83633⟩ := p83629
          subst e83630
          subst e83631
          subst e83632
          show wp _ _ 172 61 [(0, .ref r0)] [vI z83634] _ H83618 _
          refine wp_of e172 c172_61 (rw_istore_n (pc' := 62) (z := z83634) (L' := [(1, vI z83634), (0, .ref r0)]) rfl rfl rfl ?_)
          refine wp_of e172 c172_62 (rw_iconst (pc' := 63) rfl ?_)
          refine wp_of e172 c172_63 (rw_istore_n (pc' := 64) (z := 0) (L' := [(2, vI 0), (1, vI z83634), (0, .ref r0)]) rfl rfl rfl ?_)
          refine wp_of e172 c172_64 (rw_iload_n (pc' := 65) (z := z83634) rfl rfl ?_)
          refine wp_of e172 c172_65 (rw_iconst (pc' := 66) rfl ?_)
          refine wp_of e172 c172_66 (rw_icmp_ne (p1 := 77) (p2 := 69) (by decide) rfl ⟨by omega, by omega⟩ ⟨by omega, by omega⟩ (fun c83636 => ?_) (fun c83636 => ?_))
          · refine wp_of e172 c172_77 (rw_iload_n (pc' := 78) (z := z83634) rfl rfl ?_)
            refine wp_of e172 c172_78 (xc_S (pc' := 81) (as := [vI z83634]) (st := []) (lm_9_90) rfl rfl (Nat.le_of_ble_eq_true rfl) rfl (by decide) (s_174 w83620 ⟨by omega, by omega⟩) (fun R83637 T83638 H83639 p83640 => ?_))
            obtain ⟨e83641, e83643, z83645, e83642, b83646, p83644⟩ := p83640
            subst e83641
            subst e83642
            subst e83643
            show wp _ _ 172 81 [(2, vI 0), (1, vI z83634), (0, .ref r0)] [vI z83645] _ H83618 _
            refine wp_of e172 c172_81 (rw_if_eq (p1 := 166) (p2 := 84) (by decide) rfl ⟨by omega, by omega⟩ (fun c83647 => ?_) (fun c83647 => ?_))
            · refine wp_of e172 c172_166 (rw_iload_n (pc' := 167) (z := z83634) rfl rfl ?_)
              refine wp_of e172 c172_167 (xc_S (pc' := 170) (as := [vI z83634]) (st := []) (lm_9_98) rfl rfl (Nat.le_of_ble_eq_true rfl) rfl (by decide) (s_175 w83620 ⟨by omega, by omega⟩) (fun R83648 T83649 H83650 p83651 => ?_))
              obtain ⟨e83652, e83654, z83656, e83653, b83657, p83655⟩ := p83651
              subst e83652
              subst e83653
              subst e83654
              show wp _ _ 172 170 [(2, vI 0), (1, vI z83634), (0, .ref r0)] [vI z83656] _ H83618 _
              refine wp_of e172 c172_170 (rw_if_eq (p1 := 249) (p2 := 173) (by decide) rfl ⟨by omega, by omega⟩ (fun c83658 => ?_) (fun c83658 => ?_))
              · refine wp_of e172 c172_249 (rw_iload_n (pc' := 250) (z := z83634) rfl rfl ?_)
                refine wp_of e172 c172_250 (rw_bipush (pc' := 252) (z := 59) rfl (by decide) ?_)
                refine wp_of e172 c172_252 (rw_icmp_eq (p1 := 261) (p2 := 255) (by decide) rfl ⟨by omega, by omega⟩ ⟨by omega, by omega⟩ (fun c83659 => ?_) (fun c83659 => ?_))
                · refine wp_of e172 c172_261 (rw_aload_n (pc' := 262) (v := .ref r0) rfl rfl rfl ?_)
                  refine wp_of e172 c172_262 (rw_iconst (pc' := 263) rfl ?_)
                  refine wp_of e172 c172_263 (xp_I (pc' := 266) lf_9_75 w83620 g0 sh_42 (by decide) (by decide) ty_42_9 rfl rfl (by omega) (by omega) ⟨by omega, by omega⟩ rfl (fun H83660 e83661 w83662 => ?_))
                  have f83663 := f83621.put' e83661 g0 rfl
                  have k83664 : H83660 r0 9 = 4 := wq_u_s e83661
                  refine wp_of e172 c172_266 (rw_aload_n (pc' := 267) (v := .ref r0) rfl rfl rfl ?_)
                  refine wp_of e172 c172_267 (rw_iload_n (pc' := 268) (z := z83634) rfl rfl ?_)
                  refine wp_of e172 c172_268 (xp_I (pc' := 271) lf_9_87 w83662 g0 sh_42 (by decide) (by decide) ty_42_11 rfl rfl (by omega) (by omega) ⟨by omega, by omega⟩ rfl (fun H83665 e83666 w83667 => ?_))
                  have f83668 := f83663.put' e83666 g0 rfl
                  have k83669 : H83665 r0 11 = z83634 := wq_u_s e83666
                  refine wp_of e172 c172_271 (rw_aload_n (pc' := 272) (v := .ref r0) rfl rfl rfl ?_)
                  refine wp_of e172 c172_272 (rw_dup (pc' := 273) rfl rfl ?_)
                  have k83670 : H83665 r0 8 = H83618 r0 8 := ((wq_u_j e83666 rfl).trans (wq_u_j e83661 rfl))
                  refine wp_of e172 c172_273 (xg_I (pc' := 276) lf_9_78 w83667 g0 sh_42 (by decide) (by decide) ty_42_8 rfl rfl (fun b83671 b83672 => ?_))
                  refine wp_of e172 c172_276 (rw_iconst (pc' := 277) rfl ?_)
                  refine wp_of e172 c172_277 (rw_iadd (pc' := 278) rfl ?_)
                  refine wp_of e172 c172_278 (xp_I (pc' := 281) lf_9_78 w83667 g0 sh_42 (by decide) (by decide) ty_42_8 rfl rfl (by omega) (by omega) ⟨by omega, by omega⟩ rfl (fun H83673 e83674 w83675 => ?_))
                  have f83676 := f83668.put' e83674 g0 rfl
                  have k83677 : H83673 r0 8 = (H83665 r0 8) + 1 := wq_u_s e83674
                  have k83678 : H83673 r0 9 = H83660 r0 9 := ((wq_u_j e83674 rfl).trans (wq_u_j e83666 rfl))
                  have k83679 : H83673 r0 10 = H83608 r0 10 := ((wq_u_j e83674 rfl).trans ((wq_u_j e83666 rfl).trans ((wq_u_j e83661 rfl).trans ((wq_u_j e83619 rfl).trans (wq_u_j e83614 rfl)))))
                  have k83680 := wOV_e (H := H83673) (m := r0)
                  have k83681 : wJ H83673 r0 = 1 := wJ_1.mpr ⟨by omega, by omega⟩
                  exact wp_return e172 c172_281 rfl ⟨rfl, w83675, f83676, rfl, by omega, by omega, by omega, by omega, by omega, by omega⟩
                · refine wp_of e172 c172_255 (rw_iload_n (pc' := 256) (z := z83634) rfl rfl ?_)
                  refine wp_of e172 c172_256 (rw_bipush (pc' := 258) (z := 44) rfl (by decide) ?_)
                  refine wp_of e172 c172_258 (rw_icmp_ne (p1 := 281) (p2 := 261) (by decide) rfl ⟨by omega, by omega⟩ ⟨by omega, by omega⟩ (fun c83682 => ?_) (fun c83682 => ?_))
                  · have k83683 : H83618 r0 9 = H83613 r0 9 := (wq_u_j e83619 rfl)
                    have k83684 : H83618 r0 10 = H83608 r0 10 := ((wq_u_j e83619 rfl).trans (wq_u_j e83614 rfl))
                    have k83685 := wOV_e (H := H83618) (m := r0)
                    have k83686 : wJ H83618 r0 = 1 := wJ_1.mpr ⟨by omega, by omega⟩
                    exact wp_return e172 c172_281 rfl ⟨rfl, w83620, f83621, rfl, by omega, by omega, by omega, by omega, by omega, by omega⟩
                  · refine wp_of e172 c172_261 (rw_aload_n (pc' := 262) (v := .ref r0) rfl rfl rfl ?_)
                    refine wp_of e172 c172_262 (rw_iconst (pc' := 263) rfl ?_)
                    refine wp_of e172 c172_263 (xp_I (pc' := 266) lf_9_75 w83620 g0 sh_42 (by decide) (by decide) ty_42_9 rfl rfl (by omega) (by omega) ⟨by omega, by omega⟩ rfl (fun H83687 e83688 w83689 => ?_))
                    have f83690 := f83621.put' e83688 g0 rfl
                    have k83691 : H83687 r0 9 = 4 := wq_u_s e83688
                    refine wp_of e172 c172_266 (rw_aload_n (pc' := 267) (v := .ref r0) rfl rfl rfl ?_)
                    refine wp_of e172 c172_267 (rw_iload_n (pc' := 268) (z := z83634) rfl rfl ?_)
                    refine wp_of e172 c172_268 (xp_I (pc' := 271) lf_9_87 w83689 g0 sh_42 (by decide) (by decide) ty_42_11 rfl rfl (by omega) (by omega) ⟨by omega, by omega⟩ rfl (fun H83692 e83693 w83694 => ?_))
                    have f83695 := f83690.put' e83693 g0 rfl
                    have k83696 : H83692 r0 11 = z83634 := wq_u_s e83693
                    refine wp_of e172 c172_271 (rw_aload_n (pc' := 272) (v := .ref r0) rfl rfl rfl ?_)
                    refine wp_of e172 c172_272 (rw_dup (pc' := 273) rfl rfl ?_)
                    have k83697 : H83692 r0 8 = H83618 r0 8 := ((wq_u_j e83693 rfl).trans (wq_u_j e83688 rfl))
                    refine wp_of e172 c172_273 (xg_I (pc' := 276) lf_9_78 w83694 g0 sh_42 (by decide) (by decide) ty_42_8 rfl rfl (fun b83698 b83699 => ?_))
                    refine wp_of e172 c172_276 (rw_iconst (pc' := 277) rfl ?_)
                    refine wp_of e172 c172_277 (rw_iadd (pc' := 278) rfl ?_)
                    refine wp_of e172 c172_278 (xp_I (pc' := 281) lf_9_78 w83694 g0 sh_42 (by decide) (by decide) ty_42_8 rfl rfl (by omega) (by omega) ⟨by omega, by omega⟩ rfl (fun H83700 e83701 w83702 => ?_))
                    have f83703 := f83695.put' e83701 g0 rfl
                    have k83704 : H83700 r0 8 = (H83692 r0 8) + 1 := wq_u_s e83701
                    have k83705 : H83700 r0 9 = H83687 r0 9 := ((wq_u_j e83701 rfl).trans (wq_u_j e83693 rfl))
                    have k83706 : H83700 r0 10 = H83608 r0 10 := ((wq_u_j e83701 rfl).trans ((wq_u_j e83693 rfl).trans ((wq_u_j e83688 rfl).trans ((wq_u_j e83619 rfl).trans (wq_u_j e83614 rfl)))))
                    have k83707 := wOV_e (H := H83700) (m := r0)
                    have k83708 : wJ H83700 r0 = 1 := wJ_1.mpr ⟨by omega, by omega⟩
                    exact wp_return e172 c172_281 rfl ⟨rfl, w83702, f83703, rfl, by omega, by omega, by omega, by omega, by omega, by omega⟩
              · refine wp_of e172 c172_173 (rw_aload_n (pc' := 174) (v := .ref r0) rfl rfl rfl ?_)
                refine wp_of e172 c172_174 (rw_iconst (pc' := 175) rfl ?_)
                refine wp_of e172 c172_175 (xp_I (pc' := 178) lf_9_101 w83620 g0 sh_42 (by decide) (by decide) ty_42_12 rfl rfl (by omega) (by omega) ⟨by omega, by omega⟩ rfl (fun H83709 e83710 w83711 => ?_))
                have f83712 := f83621.put' e83710 g0 rfl
                have k83713 : H83709 r0 12 = 0 := wq_u_s e83710
                have k84206 : H83709 r0 8 = H83618 r0 8 := (wq_u_j e83710 rfl)
                have lp84201 : ∀ (n84202 : Nat) (v84204 : Int) (H84205 : wq_H), WT T H84205 → wfr [(42, 8), (42, 12)] T H83709 H84205 → (0 ≤ v84204 ∧ v84204 ≤ 900) → (H83709 r0 8 ≤ H84205 r0 8) → (v84204 ≤ H84205 r0 8 - H83709 r0 8) → (900 - H84205 r0 8).toNat = n84202 → wp kt 1 172 178 [(2, vI v84204), (0, .ref r0)] [] T H84205 (q_172 r0 T H) := by
                  intro n84202
                  induction n84202 using Nat.strongRecOn with
                  | _ n84202 ih84203 =>
                    intro v84204 H84205 w84207 f84208 b84209 x84210 x84211 m84212
                    have f84213 := f83712.tr f84208 rfl
                    refine wp_of e172 c172_178 (rw_aload_n (pc' := 179) (v := .ref r0) rfl rfl rfl ?_)
                    refine wp_of e172 c172_179 (rw_aload_n (pc' := 180) (v := .ref r0) rfl rfl rfl ?_)
                    refine wp_of e172 c172_180 (xg_I (pc' := 183) lf_9_78 w84207 g0 sh_42 (by decide) (by decide) ty_42_8 rfl rfl (fun b84214 b84215 => ?_))
                    refine wp_of e172 c172_183 (xc_V (pc' := 186) (r := r0) (as := [vI (H84205 r0 8)]) (st := []) (lm_9_81) rfl rfl (Nat.le_of_ble_eq_true rfl) w84207 g0 sh_42 (by decide) rfl (by decide) (s_173 w84207 g0 ⟨by omega, by omega⟩) (fun R84216 T84217 H84218 p84219 => ?_))
                    obtain ⟨e84220, e84222, z84224, e84221, b84225, p84223⟩ := p84219
                    subst e84220
                    subst e84221
                    subst e84222
                    show wp _ _ 172 186 [(2, vI v84204), (0, .ref r0)] [vI z84224] _ H84205 _
                    refine wp_of e172 c172_186 (xc_S (pc' := 189) (as := [vI z84224]) (st := []) (lm_9_98) rfl rfl (Nat.le_of_ble_eq_true rfl) rfl (by decide) (s_175 w84207 ⟨by omega, by omega⟩) (fun R84226 T84227 H84228 p84229 => ?_))
                    obtain ⟨e84230, e84232, z84234, e84231, b84235, p84233⟩ := p84229
                    subst e84230
                    subst e84231
                    subst e84232
                    show wp _ _ 172 189 [(2, vI v84204), (0, .ref r0)] [vI z84234] _ H84205 _
                    refine wp_of e172 c172_189 (rw_if_eq (p1 := 236) (p2 := 192) (by decide) rfl ⟨by omega, by omega⟩ (fun c84236 => ?_) (fun c84236 => ?_))
                    · refine wp_of e172 c172_236 (rw_iload_n (pc' := 237) (z := v84204) rfl rfl ?_)
                      refine wp_of e172 c172_237 (rw_iconst (pc' := 238) rfl ?_)
                      refine wp_of e172 c172_238 (rw_icmp_gt (p1 := 281) (p2 := 241) (by decide) rfl ⟨by omega, by omega⟩ ⟨by omega, by omega⟩ (fun c84237 => ?_) (fun c84237 => ?_))
                      · have k84238 : H84205 r0 9 = H83613 r0 9 := ((f84208 r0 9 _ g0 rfl).trans ((wq_u_j e83710 rfl).trans (wq_u_j e83619 rfl)))
                        have k84239 : H84205 r0 10 = H83608 r0 10 := ((f84208 r0 10 _ g0 rfl).trans ((wq_u_j e83710 rfl).trans ((wq_u_j e83619 rfl).trans (wq_u_j e83614 rfl))))
                        have k84240 := wOV_e (H := H84205) (m := r0)
                        have k84241 : wJ H84205 r0 = 1 := wJ_1.mpr ⟨by omega, by omega⟩
                        exact wp_return e172 c172_281 rfl ⟨rfl, w84207, f84213, rfl, by omega, by omega, by omega, by omega, by omega, by omega⟩
                      · refine wp_of e172 c172_241 (rw_aload_n (pc' := 242) (v := .ref r0) rfl rfl rfl ?_)
                        refine wp_of e172 c172_242 (rw_iconst (pc' := 243) rfl ?_)
                        refine wp_of e172 c172_243 (xp_I (pc' := 246) lf_9_75 w84207 g0 sh_42 (by decide) (by decide) ty_42_9 rfl rfl (by omega) (by omega) ⟨by omega, by omega⟩ rfl (fun H84242 e84243 w84244 => ?_))
                        have f84245 := f84213.put' e84243 g0 rfl
                        have k84246 : H84242 r0 9 = 3 := wq_u_s e84243
                        refine wp_of e172 c172_246 (rw_goto (p1 := 281) (by decide) ?_)
                        have k84247 : H84242 r0 8 = H84205 r0 8 := (wq_u_j e84243 rfl)
                        have k84248 : H84242 r0 10 = H83608 r0 10 := ((wq_u_j e84243 rfl).trans ((f84208 r0 10 _ g0 rfl).trans ((wq_u_j e83710 rfl).trans ((wq_u_j e83619 rfl).trans (wq_u_j e83614 rfl)))))
                        have k84249 := wOV_e (H := H84242) (m := r0)
                        have k84250 : wJ H84242 r0 = 1 := wJ_1.mpr ⟨by omega, by omega⟩
                        exact wp_return e172 c172_281 rfl ⟨rfl, w84244, f84245, rfl, by omega, by omega, by omega, by omega, by omega, by omega⟩
                    · refine wp_of e172 c172_192 (rw_iload_n (pc' := 193) (z := v84204) rfl rfl ?_)
                      refine wp_of e172 c172_193 (rw_iconst (pc' := 194) rfl ?_)
                      refine wp_of e172 c172_194 (rw_icmp_ge (p1 := 220) (p2 := 197) (by decide) rfl ⟨by omega, by omega⟩ ⟨by omega, by omega⟩ (fun c84251 => ?_) (fun c84251 => ?_))
                      · refine wp_of e172 c172_220 (rw_iinc (pc' := 223) (z := v84204) (L' := [(2, vI (v84204 + 1)), (0, .ref r0)]) rfl rfl rfl rfl ?_)
                        refine wp_of e172 c172_223 (rw_aload_n (pc' := 224) (v := .ref r0) rfl rfl rfl ?_)
                        refine wp_of e172 c172_224 (rw_dup (pc' := 225) rfl rfl ?_)
                        refine wp_of e172 c172_225 (xg_I (pc' := 228) lf_9_78 w84207 g0 sh_42 (by decide) (by decide) ty_42_8 rfl rfl (fun b84252 b84253 => ?_))
                        refine wp_of e172 c172_228 (rw_iconst (pc' := 229) rfl ?_)
                        refine wp_of e172 c172_229 (rw_iadd (pc' := 230) rfl ?_)
                        refine wp_of e172 c172_230 (xp_I (pc' := 233) lf_9_78 w84207 g0 sh_42 (by decide) (by decide) ty_42_8 rfl rfl (by omega) (by omega) ⟨by omega, by omega⟩ rfl (fun H84254 e84255 w84256 => ?_))
                        have f84257 := f84213.put' e84255 g0 rfl
                        have f84258 := f84208.put' e84255 g0 rfl
                        have k84259 : H84254 r0 8 = (H84205 r0 8) + 1 := wq_u_s e84255
                        refine wp_of e172 c172_233 (rw_goto (p1 := 178) (by decide) ?_)
                        exact wp_lc (ks := [2, 0]) (wl_c rfl (wl_c rfl wl_n)) rfl (by decide) (ih84203 _ (by omega) (v84204 + 1) H84254 w84256 f84258 ⟨by omega, by omega⟩ (by omega) (by omega) rfl)
                      · refine wp_of e172 c172_197 (rw_aload_n (pc' := 198) (v := .ref r0) rfl rfl rfl ?_)
                        refine wp_of e172 c172_198 (rw_bipush (pc' := 200) (z := 10) rfl (by decide) ?_)
                        refine wp_of e172 c172_200 (rw_aload_n (pc' := 201) (v := .ref r0) rfl rfl rfl ?_)
                        refine wp_of e172 c172_201 (xg_I (pc' := 204) lf_9_101 w84207 g0 sh_42 (by decide) (by decide) ty_42_12 rfl rfl (fun b84260 b84261 => ?_))
                        refine wp_of e172 c172_204 (rw_imulw (pc' := 205) rfl ?_)
                        obtain ⟨v84262, e84263⟩ : ∃ x : Int, x = wq_w (10 * (H84205 r0 12)) := ⟨_, rfl⟩
                        rw [← e84263]
                        have b84264 : -2147483648 ≤ v84262 ∧ v84262 ≤ 2147483647 := by
                          rw [e84263]
                          exact wI_w _
                        refine wp_of e172 c172_205 (rw_aload_n (pc' := 206) (v := .ref r0) rfl rfl rfl ?_)
                        refine wp_of e172 c172_206 (rw_aload_n (pc' := 207) (v := .ref r0) rfl rfl rfl ?_)
                        refine wp_of e172 c172_207 (xg_I (pc' := 210) lf_9_78 w84207 g0 sh_42 (by decide) (by decide) ty_42_8 rfl rfl (fun b84265 b84266 => ?_))
                        refine wp_of e172 c172_210 (xc_V (pc' := 213) (r := r0) (as := [vI (H84205 r0 8)]) (st := [vI v84262, .ref r0]) (lm_9_81) rfl rfl (Nat.le_of_ble_eq_true rfl) w84207 g0 sh_42 (by decide) rfl (by decide) (s_173 w84207 g0 ⟨by omega, by omega⟩) (fun R84267 T84268 H84269 p84270 => ?_))
                        obtain ⟨e84271, e84273, z84275, e84272, b84276, p84274⟩ := p84270
                        subst e84271
                        subst e84272
                        subst e84273
                        show wp _ _ 172 213 [(2, vI v84204), (0, .ref r0)] [vI z84275, vI v84262, .ref r0] _ H84205 _
                        refine wp_of e172 c172_213 (rw_iaddw (pc' := 214) rfl ?_)
                        obtain ⟨v84277, e84278⟩ : ∃ x : Int, x = wq_w (v84262 + z84275) := ⟨_, rfl⟩
                        rw [← e84278]
                        have b84279 : -2147483648 ≤ v84277 ∧ v84277 ≤ 2147483647 := by
                          rw [e84278]
                          exact wI_w _
                        refine wp_of e172 c172_214 (rw_bipush (pc' := 216) (z := 48) rfl (by decide) ?_)
                        refine wp_of e172 c172_216 (rw_isubw (pc' := 217) rfl ?_)
                        obtain ⟨v84280, e84281⟩ : ∃ x : Int, x = wq_w (v84277 - 48) := ⟨_, rfl⟩
                        rw [← e84281]
                        have b84282 : -2147483648 ≤ v84280 ∧ v84280 ≤ 2147483647 := by
                          rw [e84281]
                          exact wI_w _
                        refine wp_of e172 c172_217 (xp_I (pc' := 220) lf_9_101 w84207 g0 sh_42 (by decide) (by decide) ty_42_12 rfl rfl (by omega) (by omega) ⟨by omega, by omega⟩ rfl (fun H84283 e84284 w84285 => ?_))
                        have f84286 := f84213.put' e84284 g0 rfl
                        have f84287 := f84208.put' e84284 g0 rfl
                        have k84288 : H84283 r0 12 = v84280 := wq_u_s e84284
                        refine wp_of e172 c172_220 (rw_iinc (pc' := 223) (z := v84204) (L' := [(2, vI (v84204 + 1)), (0, .ref r0)]) rfl rfl rfl rfl ?_)
                        refine wp_of e172 c172_223 (rw_aload_n (pc' := 224) (v := .ref r0) rfl rfl rfl ?_)
                        refine wp_of e172 c172_224 (rw_dup (pc' := 225) rfl rfl ?_)
                        have k84289 : H84283 r0 8 = H84205 r0 8 := (wq_u_j e84284 rfl)
                        refine wp_of e172 c172_225 (xg_I (pc' := 228) lf_9_78 w84285 g0 sh_42 (by decide) (by decide) ty_42_8 rfl rfl (fun b84290 b84291 => ?_))
                        refine wp_of e172 c172_228 (rw_iconst (pc' := 229) rfl ?_)
                        refine wp_of e172 c172_229 (rw_iadd (pc' := 230) rfl ?_)
                        refine wp_of e172 c172_230 (xp_I (pc' := 233) lf_9_78 w84285 g0 sh_42 (by decide) (by decide) ty_42_8 rfl rfl (by omega) (by omega) ⟨by omega, by omega⟩ rfl (fun H84292 e84293 w84294 => ?_))
                        have f84295 := f84286.put' e84293 g0 rfl
                        have f84296 := f84287.put' e84293 g0 rfl
                        have k84297 : H84292 r0 8 = (H84283 r0 8) + 1 := wq_u_s e84293
                        refine wp_of e172 c172_233 (rw_goto (p1 := 178) (by decide) ?_)
                        exact wp_lc (ks := [2, 0]) (wl_c rfl (wl_c rfl wl_n)) rfl (by decide) (ih84203 _ (by omega) (v84204 + 1) H84292 w84294 f84296 ⟨by omega, by omega⟩ (by omega) (by omega) rfl)
                exact wp_lc (ks := [2, 1, 0]) (wl_c rfl (wl_c rfl wl_n)) rfl (by decide) (lp84201 _ 0 H83709 w83711 wfr.rf ⟨by omega, by omega⟩ (by omega) (by omega) rfl)
            · refine wp_of e172 c172_84 (rw_aload_n (pc' := 85) (v := .ref r0) rfl rfl rfl ?_)
              refine wp_of e172 c172_85 (rw_lconst (pc' := 86) (z := 0) rfl rfl ?_)
              refine wp_of e172 c172_86 (xp_L (pc' := 89) lf_9_94 w83620 g0 sh_42 (by decide) (by decide) ty_42_15 rfl rfl (by omega) (by omega) ⟨by omega, by omega⟩ rfl (fun H84298 e84299 w84300 => ?_))
              have f84301 := f83621.put' e84299 g0 rfl
              have k84302 : H84298 r0 15 = 0 := wq_u_s e84299
              have k84753 : H84298 r0 8 = H83618 r0 8 := (wq_u_j e84299 rfl)
              have lp84748 : ∀ (n84749 : Nat) (v84751 : Int) (H84752 : wq_H), WT T H84752 → wfr [(42, 8), (42, 15)] T H84298 H84752 → (0 ≤ v84751 ∧ v84751 ≤ 900) → (H84298 r0 8 ≤ H84752 r0 8) → (v84751 ≤ H84752 r0 8 - H84298 r0 8) → (900 - H84752 r0 8).toNat = n84749 → wp kt 1 172 89 [(2, vI v84751), (0, .ref r0)] [] T H84752 (q_172 r0 T H) := by
                intro n84749
                induction n84749 using Nat.strongRecOn with
                | _ n84749 ih84750 =>
                  intro v84751 H84752 w84754 f84755 b84756 x84757 x84758 m84759
                  have f84760 := f84301.tr f84755 rfl
                  refine wp_of e172 c172_89 (rw_aload_n (pc' := 90) (v := .ref r0) rfl rfl rfl ?_)
                  refine wp_of e172 c172_90 (rw_aload_n (pc' := 91) (v := .ref r0) rfl rfl rfl ?_)
                  refine wp_of e172 c172_91 (xg_I (pc' := 94) lf_9_78 w84754 g0 sh_42 (by decide) (by decide) ty_42_8 rfl rfl (fun b84761 b84762 => ?_))
                  refine wp_of e172 c172_94 (xc_V (pc' := 97) (r := r0) (as := [vI (H84752 r0 8)]) (st := []) (lm_9_81) rfl rfl (Nat.le_of_ble_eq_true rfl) w84754 g0 sh_42 (by decide) rfl (by decide) (s_173 w84754 g0 ⟨by omega, by omega⟩) (fun R84763 T84764 H84765 p84766 => ?_))
                  obtain ⟨e84767, e84769, z84771, e84768, b84772, p84770⟩ := p84766
                  subst e84767
                  subst e84768
                  subst e84769
                  show wp _ _ 172 97 [(2, vI v84751), (0, .ref r0)] [vI z84771] _ H84752 _
                  refine wp_of e172 c172_97 (xc_S (pc' := 100) (as := [vI z84771]) (st := []) (lm_9_90) rfl rfl (Nat.le_of_ble_eq_true rfl) rfl (by decide) (s_174 w84754 ⟨by omega, by omega⟩) (fun R84773 T84774 H84775 p84776 => ?_))
                  obtain ⟨e84777, e84779, z84781, e84778, b84782, p84780⟩ := p84776
                  subst e84777
                  subst e84778
                  subst e84779
                  show wp _ _ 172 100 [(2, vI v84751), (0, .ref r0)] [vI z84781] _ H84752 _
                  refine wp_of e172 c172_100 (rw_if_eq (p1 := 152) (p2 := 103) (by decide) rfl ⟨by omega, by omega⟩ (fun c84783 => ?_) (fun c84783 => ?_))
                  · refine wp_of e172 c172_152 (rw_iload_n (pc' := 153) (z := v84751) rfl rfl ?_)
                    refine wp_of e172 c172_153 (rw_bipush (pc' := 155) (z := 8) rfl (by decide) ?_)
                    refine wp_of e172 c172_155 (rw_icmp_gt (p1 := 281) (p2 := 158) (by decide) rfl ⟨by omega, by omega⟩ ⟨by omega, by omega⟩ (fun c84784 => ?_) (fun c84784 => ?_))
                    · have k84785 : H84752 r0 9 = H83613 r0 9 := ((f84755 r0 9 _ g0 rfl).trans ((wq_u_j e84299 rfl).trans (wq_u_j e83619 rfl)))
                      have k84786 : H84752 r0 10 = H83608 r0 10 := ((f84755 r0 10 _ g0 rfl).trans ((wq_u_j e84299 rfl).trans ((wq_u_j e83619 rfl).trans (wq_u_j e83614 rfl))))
                      have k84787 := wOV_e (H := H84752) (m := r0)
                      have k84788 : wJ H84752 r0 = 1 := wJ_1.mpr ⟨by omega, by omega⟩
                      exact wp_return e172 c172_281 rfl ⟨rfl, w84754, f84760, rfl, by omega, by omega, by omega, by omega, by omega, by omega⟩
                    · refine wp_of e172 c172_158 (rw_aload_n (pc' := 159) (v := .ref r0) rfl rfl rfl ?_)
                      refine wp_of e172 c172_159 (rw_iconst (pc' := 160) rfl ?_)
                      refine wp_of e172 c172_160 (xp_I (pc' := 163) lf_9_75 w84754 g0 sh_42 (by decide) (by decide) ty_42_9 rfl rfl (by omega) (by omega) ⟨by omega, by omega⟩ rfl (fun H84789 e84790 w84791 => ?_))
                      have f84792 := f84760.put' e84790 g0 rfl
                      have k84793 : H84789 r0 9 = 2 := wq_u_s e84790
                      refine wp_of e172 c172_163 (rw_goto (p1 := 281) (by decide) ?_)
                      have k84794 : H84789 r0 8 = H84752 r0 8 := (wq_u_j e84790 rfl)
                      have k84795 : H84789 r0 10 = H83608 r0 10 := ((wq_u_j e84790 rfl).trans ((f84755 r0 10 _ g0 rfl).trans ((wq_u_j e84299 rfl).trans ((wq_u_j e83619 rfl).trans (wq_u_j e83614 rfl)))))
                      have k84796 := wOV_e (H := H84789) (m := r0)
                      have k84797 : wJ H84789 r0 = 1 := wJ_1.mpr ⟨by omega, by omega⟩
                      exact wp_return e172 c172_281 rfl ⟨rfl, w84791, f84792, rfl, by omega, by omega, by omega, by omega, by omega, by omega⟩
                  · refine wp_of e172 c172_103 (rw_iload_n (pc' := 104) (z := v84751) rfl rfl ?_)
                    refine wp_of e172 c172_104 (rw_bipush (pc' := 106) (z := 8) rfl (by decide) ?_)
                    refine wp_of e172 c172_106 (rw_icmp_ge (p1 := 136) (p2 := 109) (by decide) rfl ⟨by omega, by omega⟩ ⟨by omega, by omega⟩ (fun c84798 => ?_) (fun c84798 => ?_))
                    · refine wp_of e172 c172_136 (rw_iinc (pc' := 139) (z := v84751) (L' := [(2, vI (v84751 + 1)), (0, .ref r0)]) rfl rfl rfl rfl ?_)
                      refine wp_of e172 c172_139 (rw_aload_n (pc' := 140) (v := .ref r0) rfl rfl rfl ?_)
                      refine wp_of e172 c172_140 (rw_dup (pc' := 141) rfl rfl ?_)
                      refine wp_of e172 c172_141 (xg_I (pc' := 144) lf_9_78 w84754 g0 sh_42 (by decide) (by decide) ty_42_8 rfl rfl (fun b84799 b84800 => ?_))
                      refine wp_of e172 c172_144 (rw_iconst (pc' := 145) rfl ?_)
                      refine wp_of e172 c172_145 (rw_iadd (pc' := 146) rfl ?_)
                      refine wp_of e172 c172_146 (xp_I (pc' := 149) lf_9_78 w84754 g0 sh_42 (by decide) (by decide) ty_42_8 rfl rfl (by omega) (by omega) ⟨by omega, by omega⟩ rfl (fun H84801 e84802 w84803 => ?_))
                      have f84804 := f84760.put' e84802 g0 rfl
                      have f84805 := f84755.put' e84802 g0 rfl
                      have k84806 : H84801 r0 8 = (H84752 r0 8) + 1 := wq_u_s e84802
                      refine wp_of e172 c172_149 (rw_goto (p1 := 89) (by decide) ?_)
                      exact wp_lc (ks := [2, 0]) (wl_c rfl (wl_c rfl wl_n)) rfl (by decide) (ih84750 _ (by omega) (v84751 + 1) H84801 w84803 f84805 ⟨by omega, by omega⟩ (by omega) (by omega) rfl)
                    · refine wp_of e172 c172_109 (rw_aload_n (pc' := 110) (v := .ref r0) rfl rfl rfl ?_)
                      refine wp_of e172 c172_110 (rw_ldc2 (pc' := 113) (z := 32) rfl rfl rfl ?_)
                      refine wp_of e172 c172_113 (rw_aload_n (pc' := 114) (v := .ref r0) rfl rfl rfl ?_)
                      refine wp_of e172 c172_114 (xg_L (pc' := 117) lf_9_94 w84754 g0 sh_42 (by decide) (by decide) ty_42_15 rfl rfl (fun b84807 b84808 => ?_))
                      refine wp_of e172 c172_117 (rw_lmulw (pc' := 118) rfl ?_)
                      obtain ⟨v84809, e84810⟩ : ∃ x : Int, x = wl_w (32 * (H84752 r0 15)) := ⟨_, rfl⟩
                      rw [← e84810]
                      have b84811 : -9223372036854775808 ≤ v84809 ∧ v84809 ≤ 9223372036854775807 := by
                        rw [e84810]
                        exact wL_w _
                      refine wp_of e172 c172_118 (rw_aload_n (pc' := 119) (v := .ref r0) rfl rfl rfl ?_)
                      refine wp_of e172 c172_119 (rw_aload_n (pc' := 120) (v := .ref r0) rfl rfl rfl ?_)
                      refine wp_of e172 c172_120 (xg_I (pc' := 123) lf_9_78 w84754 g0 sh_42 (by decide) (by decide) ty_42_8 rfl rfl (fun b84812 b84813 => ?_))
                      refine wp_of e172 c172_123 (xc_V (pc' := 126) (r := r0) (as := [vI (H84752 r0 8)]) (st := [vL v84809, .ref r0]) (lm_9_81) rfl rfl (Nat.le_of_ble_eq_true rfl) w84754 g0 sh_42 (by decide) rfl (by decide) (s_173 w84754 g0 ⟨by omega, by omega⟩) (fun R84814 T84815 H84816 p84817 => ?_))
                      obtain ⟨e84818, e84820, z84822, e84819, b84823, p84821⟩ := p84817
                      subst e84818
                      subst e84819
                      subst e84820
                      show wp _ _ 172 126 [(2, vI v84751), (0, .ref r0)] [vI z84822, vL v84809, .ref r0] _ H84752 _
                      refine wp_of e172 c172_126 (rw_bipush (pc' := 128) (z := 97) rfl (by decide) ?_)
                      refine wp_of e172 c172_128 (rw_isub (pc' := 129) rfl ?_)
                      refine wp_of e172 c172_129 (rw_iconst (pc' := 130) rfl ?_)
                      refine wp_of e172 c172_130 (rw_iadd (pc' := 131) rfl ?_)
                      refine wp_of e172 c172_131 (rw_i2l (pc' := 132) rfl ⟨by omega, by omega⟩ ?_)
                      refine wp_of e172 c172_132 (rw_laddw (pc' := 133) rfl ?_)
                      obtain ⟨v84824, e84825⟩ : ∃ x : Int, x = wl_w (v84809 + ((z84822 - 97) + 1)) := ⟨_, rfl⟩
                      rw [← e84825]
                      have b84826 : -9223372036854775808 ≤ v84824 ∧ v84824 ≤ 9223372036854775807 := by
                        rw [e84825]
                        exact wL_w _
                      refine wp_of e172 c172_133 (xp_L (pc' := 136) lf_9_94 w84754 g0 sh_42 (by decide) (by decide) ty_42_15 rfl rfl (by omega) (by omega) ⟨by omega, by omega⟩ rfl (fun H84827 e84828 w84829 => ?_))
                      have f84830 := f84760.put' e84828 g0 rfl
                      have f84831 := f84755.put' e84828 g0 rfl
                      have k84832 : H84827 r0 15 = v84824 := wq_u_s e84828
                      refine wp_of e172 c172_136 (rw_iinc (pc' := 139) (z := v84751) (L' := [(2, vI (v84751 + 1)), (0, .ref r0)]) rfl rfl rfl rfl ?_)
                      refine wp_of e172 c172_139 (rw_aload_n (pc' := 140) (v := .ref r0) rfl rfl rfl ?_)
                      refine wp_of e172 c172_140 (rw_dup (pc' := 141) rfl rfl ?_)
                      have k84833 : H84827 r0 8 = H84752 r0 8 := (wq_u_j e84828 rfl)
                      refine wp_of e172 c172_141 (xg_I (pc' := 144) lf_9_78 w84829 g0 sh_42 (by decide) (by decide) ty_42_8 rfl rfl (fun b84834 b84835 => ?_))
                      refine wp_of e172 c172_144 (rw_iconst (pc' := 145) rfl ?_)
                      refine wp_of e172 c172_145 (rw_iadd (pc' := 146) rfl ?_)
                      refine wp_of e172 c172_146 (xp_I (pc' := 149) lf_9_78 w84829 g0 sh_42 (by decide) (by decide) ty_42_8 rfl rfl (by omega) (by omega) ⟨by omega, by omega⟩ rfl (fun H84836 e84837 w84838 => ?_))
                      have f84839 := f84830.put' e84837 g0 rfl
                      have f84840 := f84831.put' e84837 g0 rfl
                      have k84841 : H84836 r0 8 = (H84827 r0 8) + 1 := wq_u_s e84837
                      refine wp_of e172 c172_149 (rw_goto (p1 := 89) (by decide) ?_)
                      exact wp_lc (ks := [2, 0]) (wl_c rfl (wl_c rfl wl_n)) rfl (by decide) (ih84750 _ (by omega) (v84751 + 1) H84836 w84838 f84840 ⟨by omega, by omega⟩ (by omega) (by omega) rfl)
              exact wp_lc (ks := [2, 1, 0]) (wl_c rfl (wl_c rfl wl_n)) rfl (by decide) (lp84748 _ 0 H84298 w84300 wfr.rf ⟨by omega, by omega⟩ (by omega) (by omega) rfl)
          · refine wp_of e172 c172_69 (rw_aload_n (pc' := 70) (v := .ref r0) rfl rfl rfl ?_)
            refine wp_of e172 c172_70 (rw_iconst (pc' := 71) rfl ?_)
            refine wp_of e172 c172_71 (xp_I (pc' := 74) lf_9_75 w83620 g0 sh_42 (by decide) (by decide) ty_42_9 rfl rfl (by omega) (by omega) ⟨by omega, by omega⟩ rfl (fun H84842 e84843 w84844 => ?_))
            have f84845 := f83621.put' e84843 g0 rfl
            have k84846 : H84842 r0 9 = 1 := wq_u_s e84843
            refine wp_of e172 c172_74 (rw_goto (p1 := 281) (by decide) ?_)
            have k84847 : H84842 r0 8 = H83618 r0 8 := (wq_u_j e84843 rfl)
            have k84848 : H84842 r0 10 = H83608 r0 10 := ((wq_u_j e84843 rfl).trans ((wq_u_j e83619 rfl).trans (wq_u_j e83614 rfl)))
            have k84849 := wOV_e (H := H84842) (m := r0)
            have k84850 : wJ H84842 r0 = 1 := wJ_1.mpr ⟨by omega, by omega⟩
            exact wp_return e172 c172_281 rfl ⟨rfl, w84844, f84845, rfl, by omega, by omega, by omega, by omega, by omega, by omega⟩
        · refine wp_of e172 c172_22 (rw_aload_n (pc' := 23) (v := .ref r0) rfl rfl rfl ?_)
          refine wp_of e172 c172_23 (rw_dup (pc' := 24) rfl rfl ?_)
          refine wp_of e172 c172_24 (xg_I (pc' := 27) lf_9_78 w83588 g0 sh_42 (by decide) (by decide) ty_42_8 rfl rfl (fun b84851 b84852 => ?_))
          refine wp_of e172 c172_27 (rw_iconst (pc' := 28) rfl ?_)
          refine wp_of e172 c172_28 (rw_iadd (pc' := 29) rfl ?_)
          refine wp_of e172 c172_29 (xp_I (pc' := 32) lf_9_78 w83588 g0 sh_42 (by decide) (by decide) ty_42_8 rfl rfl (by omega) (by omega) ⟨by omega, by omega⟩ rfl (fun H84853 e84854 w84855 => ?_))
          have f84856 := f83592.put' e84854 g0 rfl
          have f84857 := f83589.put' e84854 g0 rfl
          have k84858 : H84853 r0 8 = (H83587 r0 8) + 1 := wq_u_s e84854
          refine wp_of e172 c172_32 (rw_goto (p1 := 9) (by decide) ?_)
          exact wp_lc (ks := [0]) (wl_c rfl wl_n) rfl (by decide) (ih83586 _ (by omega) H84853 w84855 f84857 (by omega) rfl)
    exact wp_lc (ks := [0]) (wl_c rfl wl_n) rfl (by decide) (lp83584 _ H hW wfr.rf (by omega) rfl)
  · exact wp_return e172 c172_8 rfl ⟨rfl, hW, f0, rfl, by omega, by omega, by omega, by omega, by omega, by omega⟩
/-! StrikeAwakeModel.wordOf(Ljava/lang/String;)J -/
theorem e179 : wq_en 179 = some (9, 4, false, some FieldType.long) := rfl
theorem c179_0 : mc_cd 179 0 = some (.lconst 0, 1) := by decide +kernel
theorem c179_1 : mc_cd 179 1 = some (.lstore_n 1, 1) := by decide +kernel
theorem c179_2 : mc_cd 179 2 = some (.iconst 0, 1) := by decide +kernel
theorem c179_3 : mc_cd 179 3 = some (.istore_n 3, 1) := by decide +kernel
theorem c179_4 : mc_cd 179 4 = some (.iload_n 3, 1) := by decide +kernel
theorem c179_5 : mc_cd 179 5 = some (.aload_n 0, 1) := by decide +kernel
theorem c179_6 : mc_cd 179 6 = some (.invokevirtual 64, 3) := by decide +kernel
theorem c179_9 : mc_cd 179 9 = some (.if_icmp .ge 27, 3) := by decide +kernel
theorem c179_12 : mc_cd 179 12 = some (.ldc2_w 69, 3) := by decide +kernel
theorem c179_15 : mc_cd 179 15 = some (.lload_n 1, 1) := by decide +kernel
theorem c179_16 : mc_cd 179 16 = some (.lmul, 1) := by decide +kernel
theorem c179_17 : mc_cd 179 17 = some (.aload_n 0, 1) := by decide +kernel
theorem c179_18 : mc_cd 179 18 = some (.iload_n 3, 1) := by decide +kernel
theorem c179_19 : mc_cd 179 19 = some (.invokevirtual 71, 3) := by decide +kernel
theorem c179_22 : mc_cd 179 22 = some (.bipush 97, 2) := by decide +kernel
theorem c179_24 : mc_cd 179 24 = some (.isub, 1) := by decide +kernel
theorem c179_25 : mc_cd 179 25 = some (.iconst 1, 1) := by decide +kernel
theorem c179_26 : mc_cd 179 26 = some (.iadd, 1) := by decide +kernel
theorem c179_27 : mc_cd 179 27 = some (.i2l, 1) := by decide +kernel
theorem c179_28 : mc_cd 179 28 = some (.ladd, 1) := by decide +kernel
theorem c179_29 : mc_cd 179 29 = some (.lstore_n 1, 1) := by decide +kernel
theorem c179_30 : mc_cd 179 30 = some (.iinc 3 1, 3) := by decide +kernel
theorem c179_33 : mc_cd 179 33 = some (.goto (-29), 3) := by decide +kernel
theorem c179_36 : mc_cd 179 36 = some (.lload_n 1, 1) := by decide +kernel
theorem c179_37 : mc_cd 179 37 = some (.lreturn, 1) := by decide +kernel
abbrev q_179 (s0 : Nat) (T : wq_T) (H : wq_H) : Option Value → wq_T → wq_H → Prop := fun r T' H' => T = T' ∧ H = H' ∧ ∃ z : Int, some (vL z) = r ∧ ((-9223372036854775808) ≤ z ∧ z ≤ 9223372036854775807)
set_option maxHeartbeats 4000000 in
theorem s_179 {kt : Nat → Option mc_E} {T : wq_T} {H : wq_H} {s0 : Nat} {t0 : List Int32} (hW : WT T H) (h0 : mc_find mc_sb s0 = some t0) : wpc kt 1 179 [.ref s0] T H (q_179 s0 T H) := by
  refine wp_enter e179 (Nat.le_of_ble_eq_true rfl) rfl ?_
  show wp _ _ 179 0 [(0, .ref s0)] [] _ H _
  refine wp_of e179 c179_0 (rw_lconst (pc' := 1) (z := 0) rfl rfl ?_)
  refine wp_of e179 c179_1 (rw_lstore_n (pc' := 2) (z := 0) (L' := [(1, vL 0), (0, .ref s0)]) rfl rfl rfl ?_)
  refine wp_of e179 c179_2 (rw_iconst (pc' := 3) rfl ?_)
  refine wp_of e179 c179_3 (rw_istore_n (pc' := 4) (z := 0) (L' := [(3, vI 0), (1, vL 0), (0, .ref s0)]) rfl rfl rfl ?_)
  have lp85040 : ∀ (n85041 : Nat) (v85043 : Int) (v85044 : Int), (0 ≤ v85043 ∧ v85043 ≤ 63) → ((-9223372036854775808) ≤ v85044 ∧ v85044 ≤ 9223372036854775807) → (63 - v85043).toNat = n85041 → wp kt 0 179 4 [(3, vI v85043), (1, vL v85044), (0, .ref s0)] [] T H (q_179 s0 T H) := by
    intro n85041
    induction n85041 using Nat.strongRecOn with
    | _ n85041 ih85042 =>
      intro v85043 v85044 b85047 b85048 m85049
      refine wp_of e179 c179_4 (rw_iload_n (pc' := 5) (z := v85043) rfl rfl ?_)
      refine wp_of e179 c179_5 (rw_aload_n (pc' := 6) (v := .ref s0) rfl rfl rfl ?_)
      refine wp_of e179 c179_6 (rw_slen (pc' := 9) rfl rfl rfl h0 (Nat.le_of_ble_eq_true rfl) rfl ?_)
      have k85050 := (mc_sb_k h0).2.1
      show wp _ _ 179 9 [(3, vI v85043), (1, vL v85044), (0, .ref s0)] [vI ((t0.length : Int)), vI v85043] _ H _
      refine wp_of e179 c179_9 (rw_icmp_ge (p1 := 36) (p2 := 12) (by decide) rfl ⟨by omega, by omega⟩ ⟨by omega, by omega⟩ (fun c85051 => ?_) (fun c85051 => ?_))
      · refine wp_of e179 c179_36 (rw_lload_n (pc' := 37) (z := v85044) rfl rfl ?_)
        exact wp_lreturn e179 c179_37 rfl ⟨rfl, rfl, v85044, rfl, ⟨by omega, by omega⟩⟩
      · refine wp_of e179 c179_12 (rw_ldc2 (pc' := 15) (z := 32) rfl rfl rfl ?_)
        refine wp_of e179 c179_15 (rw_lload_n (pc' := 16) (z := v85044) rfl rfl ?_)
        refine wp_of e179 c179_16 (rw_lmulw (pc' := 17) rfl ?_)
        obtain ⟨v85052, e85053⟩ : ∃ x : Int, x = wl_w (32 * v85044) := ⟨_, rfl⟩
        rw [← e85053]
        have b85054 : -9223372036854775808 ≤ v85052 ∧ v85052 ≤ 9223372036854775807 := by
          rw [e85053]
          exact wL_w _
        refine wp_of e179 c179_17 (rw_aload_n (pc' := 18) (v := .ref s0) rfl rfl rfl ?_)
        refine wp_of e179 c179_18 (rw_iload_n (pc' := 19) (z := v85043) rfl rfl ?_)
        refine wp_of e179 c179_19 (rw_schr (pc' := 22) rfl rfl rfl h0 (by omega) (by omega) (Nat.le_of_ble_eq_true rfl) rfl ?_)
        obtain ⟨v85055, e85056⟩ : ∃ x : Int, x = (t0.getD (v85043).toNat 0).toInt := ⟨_, rfl⟩
        rw [← e85056]
        have b85057 : -2147483648 ≤ v85055 ∧ v85055 ≤ 2147483647 := by
          rw [e85056]
          exact wI_of _
        refine wp_of e179 c179_22 (rw_bipush (pc' := 24) (z := 97) rfl (by decide) ?_)
        refine wp_of e179 c179_24 (rw_isubw (pc' := 25) rfl ?_)
        obtain ⟨v85058, e85059⟩ : ∃ x : Int, x = wq_w (v85055 - 97) := ⟨_, rfl⟩
        rw [← e85059]
        have b85060 : -2147483648 ≤ v85058 ∧ v85058 ≤ 2147483647 := by
          rw [e85059]
          exact wI_w _
        refine wp_of e179 c179_25 (rw_iconst (pc' := 26) rfl ?_)
        refine wp_of e179 c179_26 (rw_iaddw (pc' := 27) rfl ?_)
        obtain ⟨v85061, e85062⟩ : ∃ x : Int, x = wq_w (v85058 + 1) := ⟨_, rfl⟩
        rw [← e85062]
        have b85063 : -2147483648 ≤ v85061 ∧ v85061 ≤ 2147483647 := by
          rw [e85062]
          exact wI_w _
        refine wp_of e179 c179_27 (rw_i2l (pc' := 28) rfl ⟨by omega, by omega⟩ ?_)
        refine wp_of e179 c179_28 (rw_laddw (pc' := 29) rfl ?_)
        obtain ⟨v85064, e85065⟩ : ∃ x : Int, x = wl_w (v85052 + v85061) := ⟨_, rfl⟩
        rw [← e85065]
        have b85066 : -9223372036854775808 ≤ v85064 ∧ v85064 ≤ 9223372036854775807 := by
          rw [e85065]
          exact wL_w _
        refine wp_of e179 c179_29 (rw_lstore_n (pc' := 30) (z := v85064) (L' := [(1, vL v85064), (3, vI v85043), (0, .ref s0)]) rfl rfl rfl ?_)
        refine wp_of e179 c179_30 (rw_iinc (pc' := 33) (z := v85043) (L' := [(3, vI (v85043 + 1)), (1, vL v85064), (0, .ref s0)]) rfl rfl rfl rfl ?_)
        refine wp_of e179 c179_33 (rw_goto (p1 := 4) (by decide) ?_)
        exact wp_lc (ks := [3, 1, 0]) (wl_c rfl (wl_c rfl (wl_c rfl wl_n))) rfl (by decide) (ih85042 _ (by omega) (v85043 + 1) v85064 ⟨by omega, by omega⟩ ⟨by omega, by omega⟩ rfl)
  exact wp_lc (ks := [3, 1, 0]) (wl_c rfl (wl_c rfl (wl_c rfl wl_n))) rfl (by decide) (lp85040 _ 0 0 ⟨by omega, by omega⟩ ⟨by omega, by omega⟩ rfl)
