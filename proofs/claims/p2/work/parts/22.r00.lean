/-! methods of the reference (own work, written by wip/gen2/sx.py) -/
/-! StrikeAwakeModel.feed(IIIII)I -/
theorem e168 : wq_en 168 = some (9, 8, false, some FieldType.int) := rfl
theorem c168_0 : mc_cd 168 0 = some (.aload_n 0, 1) := by decide +kernel
theorem c168_1 : mc_cd 168 1 = some (.iconst 0, 1) := by decide +kernel
theorem c168_2 : mc_cd 168 2 = some (.putfield 48, 3) := by decide +kernel
theorem c168_5 : mc_cd 168 5 = some (.aload_n 0, 1) := by decide +kernel
theorem c168_6 : mc_cd 168 6 = some (.getfield 330, 3) := by decide +kernel
theorem c168_9 : mc_cd 168 9 = some (.bipush 20, 2) := by decide +kernel
theorem c168_11 : mc_cd 168 11 = some (.iadd, 1) := by decide +kernel
theorem c168_12 : mc_cd 168 12 = some (.sipush 900, 3) := by decide +kernel
theorem c168_15 : mc_cd 168 15 = some (.if_icmp .le 5, 3) := by decide +kernel
theorem c168_18 : mc_cd 168 18 = some (.iconst (-1), 1) := by decide +kernel
theorem c168_19 : mc_cd 168 19 = some (.ireturn, 1) := by decide +kernel
theorem c168_20 : mc_cd 168 20 = some (.iconst 0, 1) := by decide +kernel
theorem c168_21 : mc_cd 168 21 = some (.istore 6, 2) := by decide +kernel
theorem c168_23 : mc_cd 168 23 = some (.iload 6, 2) := by decide +kernel
theorem c168_25 : mc_cd 168 25 = some (.bipush 20, 2) := by decide +kernel
theorem c168_27 : mc_cd 168 27 = some (.if_icmp .ge 90, 3) := by decide +kernel
theorem c168_30 : mc_cd 168 30 = some (.iload 6, 2) := by decide +kernel
theorem c168_32 : mc_cd 168 32 = some (.iconst 4, 1) := by decide +kernel
theorem c168_33 : mc_cd 168 33 = some (.if_icmp .ge 7, 3) := by decide +kernel
theorem c168_36 : mc_cd 168 36 = some (.iload_n 1, 1) := by decide +kernel
theorem c168_37 : mc_cd 168 37 = some (.goto 39, 3) := by decide +kernel
theorem c168_40 : mc_cd 168 40 = some (.iload 6, 2) := by decide +kernel
theorem c168_42 : mc_cd 168 42 = some (.bipush 8, 2) := by decide +kernel
theorem c168_44 : mc_cd 168 44 = some (.if_icmp .ge 7, 3) := by decide +kernel
theorem c168_47 : mc_cd 168 47 = some (.iload_n 2, 1) := by decide +kernel
theorem c168_48 : mc_cd 168 48 = some (.goto 28, 3) := by decide +kernel
theorem c168_51 : mc_cd 168 51 = some (.iload 6, 2) := by decide +kernel
theorem c168_53 : mc_cd 168 53 = some (.bipush 12, 2) := by decide +kernel
theorem c168_55 : mc_cd 168 55 = some (.if_icmp .ge 7, 3) := by decide +kernel
theorem c168_58 : mc_cd 168 58 = some (.iload_n 3, 1) := by decide +kernel
theorem c168_59 : mc_cd 168 59 = some (.goto 17, 3) := by decide +kernel
theorem c168_62 : mc_cd 168 62 = some (.iload 6, 2) := by decide +kernel
theorem c168_64 : mc_cd 168 64 = some (.bipush 16, 2) := by decide +kernel
theorem c168_66 : mc_cd 168 66 = some (.if_icmp .ge 8, 3) := by decide +kernel
theorem c168_69 : mc_cd 168 69 = some (.iload 4, 2) := by decide +kernel
theorem c168_71 : mc_cd 168 71 = some (.goto 5, 3) := by decide +kernel
theorem c168_74 : mc_cd 168 74 = some (.iload 5, 2) := by decide +kernel
theorem c168_76 : mc_cd 168 76 = some (.istore 7, 2) := by decide +kernel
theorem c168_78 : mc_cd 168 78 = some (.aload_n 0, 1) := by decide +kernel
theorem c168_79 : mc_cd 168 79 = some (.getfield 13, 3) := by decide +kernel
theorem c168_82 : mc_cd 168 82 = some (.aload_n 0, 1) := by decide +kernel
theorem c168_83 : mc_cd 168 83 = some (.getfield 330, 3) := by decide +kernel
theorem c168_86 : mc_cd 168 86 = some (.iload 7, 2) := by decide +kernel
theorem c168_88 : mc_cd 168 88 = some (.bipush 24, 2) := by decide +kernel
theorem c168_90 : mc_cd 168 90 = some (.bipush 8, 2) := by decide +kernel
theorem c168_92 : mc_cd 168 92 = some (.iload 6, 2) := by decide +kernel
theorem c168_94 : mc_cd 168 94 = some (.iconst 4, 1) := by decide +kernel
theorem c168_95 : mc_cd 168 95 = some (.irem, 1) := by decide +kernel
theorem c168_96 : mc_cd 168 96 = some (.imul, 1) := by decide +kernel
theorem c168_97 : mc_cd 168 97 = some (.isub, 1) := by decide +kernel
theorem c168_98 : mc_cd 168 98 = some (.ishr, 1) := by decide +kernel
theorem c168_99 : mc_cd 168 99 = some (.i2b, 1) := by decide +kernel
theorem c168_100 : mc_cd 168 100 = some (.bastore, 1) := by decide +kernel
theorem c168_101 : mc_cd 168 101 = some (.aload_n 0, 1) := by decide +kernel
theorem c168_102 : mc_cd 168 102 = some (.dup, 1) := by decide +kernel
theorem c168_103 : mc_cd 168 103 = some (.getfield 330, 3) := by decide +kernel
theorem c168_106 : mc_cd 168 106 = some (.iconst 1, 1) := by decide +kernel
theorem c168_107 : mc_cd 168 107 = some (.iadd, 1) := by decide +kernel
theorem c168_108 : mc_cd 168 108 = some (.putfield 330, 3) := by decide +kernel
theorem c168_111 : mc_cd 168 111 = some (.iinc 6 1, 3) := by decide +kernel
theorem c168_114 : mc_cd 168 114 = some (.goto (-91), 3) := by decide +kernel
theorem c168_117 : mc_cd 168 117 = some (.aload_n 0, 1) := by decide +kernel
theorem c168_118 : mc_cd 168 118 = some (.getfield 330, 3) := by decide +kernel
theorem c168_121 : mc_cd 168 121 = some (.ireturn, 1) := by decide +kernel
abbrev q_168 (r0 : Nat) (a1 : Int) (a2 : Int) (a3 : Int) (a4 : Int) (a5 : Int) (T : wq_T) (H : wq_H) : Option Value → wq_T → wq_H → Prop := fun r T' H' => T = T' ∧ WT T H' ∧ wfr [(42, 0), (42, 6), (43, 999)] T H H' ∧ ∃ z : Int, some (vI z) = r ∧ ((-2147483648) ≤ z ∧ z ≤ 2147483647) ∧ (wKI H' r0 = 1) ∧ ((880 < H r0 6 ∧ z = -1 ∧ H' r0 6 = H r0 6) ∨ (H r0 6 ≤ 880 ∧ z = H r0 6 + 20 ∧ H' r0 6 = z))
set_option maxHeartbeats 4000000 in
theorem s_168 {kt : Nat → Option mc_E} {T : wq_T} {H : wq_H} {r0 : Nat} {a1 : Int} {a2 : Int} {a3 : Int} {a4 : Int} {a5 : Int} (hW : WT T H) (g0 : T.2.2.2 r0 = some 42) (i1 : (-2147483648) ≤ a1 ∧ a1 ≤ 2147483647) (i2 : (-2147483648) ≤ a2 ∧ a2 ≤ 2147483647) (i3 : (-2147483648) ≤ a3 ∧ a3 ≤ 2147483647) (i4 : (-2147483648) ≤ a4 ∧ a4 ≤ 2147483647) (i5 : (-2147483648) ≤ a5 ∧ a5 ≤ 2147483647) (p0 : wKI H r0 = 1) : wpc kt 1 168 [.ref r0, vI a1, vI a2, vI a3, vI a4, vI a5] T H (q_168 r0 a1 a2 a3 a4 a5 T H) := by
  refine wp_enter e168 (Nat.le_of_ble_eq_true rfl) rfl ?_
  have f0 : wfr [(42, 0), (42, 6), (43, 999)] T H H := wfr.rf
  show wp _ _ 168 0 [(0, .ref r0), (1, vI a1), (2, vI a2), (3, vI a3), (4, vI a4), (5, vI a5)] [] _ H _
  refine wp_of e168 c168_0 (rw_aload_n (pc' := 1) (v := .ref r0) rfl rfl rfl ?_)
  refine wp_of e168 c168_1 (rw_iconst (pc' := 2) rfl ?_)
  refine wp_of e168 c168_2 (xp_I (pc' := 5) lf_9_48 hW g0 sh_42 (by decide) (by decide) ty_42_0 rfl rfl (by omega) (by omega) ⟨by omega, by omega⟩ rfl (fun H81673 e81674 w81675 => ?_))
  have f81676 := f0.put' e81674 g0 rfl
  have k81677 : H81673 r0 0 = 0 := wq_u_s e81674
  refine wp_of e168 c168_5 (rw_aload_n (pc' := 6) (v := .ref r0) rfl rfl rfl ?_)
  have k81678 : H81673 r0 6 = H r0 6 := (wq_u_j e81674 rfl)
  refine wp_of e168 c168_6 (xg_I (pc' := 9) lf_9_330 w81675 g0 sh_42 (by decide) (by decide) ty_42_6 rfl rfl (fun b81679 b81680 => ?_))
  refine wp_of e168 c168_9 (rw_bipush (pc' := 11) (z := 20) rfl (by decide) ?_)
  refine wp_of e168 c168_11 (rw_iadd (pc' := 12) rfl ?_)
  refine wp_of e168 c168_12 (rw_sipush (pc' := 15) (z := 900) rfl (by decide) ?_)
  refine wp_of e168 c168_15 (rw_icmp_le (p1 := 20) (p2 := 18) (by decide) rfl ⟨by omega, by omega⟩ ⟨by omega, by omega⟩ (fun c81681 => ?_) (fun c81681 => ?_))
  · refine wp_of e168 c168_20 (rw_iconst (pc' := 21) rfl ?_)
    refine wp_of e168 c168_21 (rw_istore (pc' := 23) (z := 0) (L' := [(6, vI 0), (0, .ref r0), (1, vI a1), (2, vI a2), (3, vI a3), (4, vI a4), (5, vI a5)]) rfl rfl rfl ?_)
    have lp82050 : ∀ (n82051 : Nat) (v82053 : Int) (H82054 : wq_H), WT T H82054 → wfr [(42, 6), (43, 999)] T H81673 H82054 → (0 ≤ v82053 ∧ v82053 ≤ 20) → (H82054 r0 6 = H81673 r0 6 + v82053) → (20 - v82053).toNat = n82051 → wp kt 0 168 23 [(6, vI v82053), (0, .ref r0), (1, vI a1), (2, vI a2), (3, vI a3), (4, vI a4), (5, vI a5)] [] T H82054 (q_168 r0 a1 a2 a3 a4 a5 T H) := by
      intro n82051
      induction n82051 using Nat.strongRecOn with
      | _ n82051 ih82052 =>
        intro v82053 H82054 w82055 f82056 b82057 x82058 m82059
        have f82060 := f81676.tr f82056 rfl
        refine wp_of e168 c168_23 (rw_iload (pc' := 25) (z := v82053) rfl rfl ?_)
        refine wp_of e168 c168_25 (rw_bipush (pc' := 27) (z := 20) rfl (by decide) ?_)
        refine wp_of e168 c168_27 (rw_icmp_ge (p1 := 117) (p2 := 30) (by decide) rfl ⟨by omega, by omega⟩ ⟨by omega, by omega⟩ (fun c82061 => ?_) (fun c82061 => ?_))
        · refine wp_of e168 c168_117 (rw_aload_n (pc' := 118) (v := .ref r0) rfl rfl rfl ?_)
          refine wp_of e168 c168_118 (xg_I (pc' := 121) lf_9_330 w82055 g0 sh_42 (by decide) (by decide) ty_42_6 rfl rfl (fun b82062 b82063 => ?_))
          have k82064 : wKI H82054 r0 = wKI H r0 := ((wKI_fr w81675 g0 f82056 rfl).trans (wKI_fr hW g0 ((wfr.rf (l := [(42, 0)])).put' e81674 g0 rfl) rfl))
          exact wp_ireturn e168 c168_121 rfl ⟨rfl, w82055, f82060, H82054 r0 6, rfl, ⟨by omega, by omega⟩, by omega, by omega⟩
        · refine wp_of e168 c168_30 (rw_iload (pc' := 32) (z := v82053) rfl rfl ?_)
          refine wp_of e168 c168_32 (rw_iconst (pc' := 33) rfl ?_)
          refine wp_of e168 c168_33 (rw_icmp_ge (p1 := 40) (p2 := 36) (by decide) rfl ⟨by omega, by omega⟩ ⟨by omega, by omega⟩ (fun c82065 => ?_) (fun c82065 => ?_))
          · refine wp_of e168 c168_40 (rw_iload (pc' := 42) (z := v82053) rfl rfl ?_)
            refine wp_of e168 c168_42 (rw_bipush (pc' := 44) (z := 8) rfl (by decide) ?_)
            refine wp_of e168 c168_44 (rw_icmp_ge (p1 := 51) (p2 := 47) (by decide) rfl ⟨by omega, by omega⟩ ⟨by omega, by omega⟩ (fun c82066 => ?_) (fun c82066 => ?_))
            · refine wp_of e168 c168_51 (rw_iload (pc' := 53) (z := v82053) rfl rfl ?_)
              refine wp_of e168 c168_53 (rw_bipush (pc' := 55) (z := 12) rfl (by decide) ?_)
              refine wp_of e168 c168_55 (rw_icmp_ge (p1 := 62) (p2 := 58) (by decide) rfl ⟨by omega, by omega⟩ ⟨by omega, by omega⟩ (fun c82067 => ?_) (fun c82067 => ?_))
              · refine wp_of e168 c168_62 (rw_iload (pc' := 64) (z := v82053) rfl rfl ?_)
                refine wp_of e168 c168_64 (rw_bipush (pc' := 66) (z := 16) rfl (by decide) ?_)
                refine wp_of e168 c168_66 (rw_icmp_ge (p1 := 74) (p2 := 69) (by decide) rfl ⟨by omega, by omega⟩ ⟨by omega, by omega⟩ (fun c82068 => ?_) (fun c82068 => ?_))
                · refine wp_of e168 c168_74 (rw_iload (pc' := 76) (z := a5) rfl rfl ?_)
                  refine wp_of e168 c168_76 (rw_istore (pc' := 78) (z := a5) (L' := [(7, vI a5), (6, vI v82053), (0, .ref r0), (1, vI a1), (2, vI a2), (3, vI a3), (4, vI a4), (5, vI a5)]) rfl rfl rfl ?_)
                  refine wp_of e168 c168_78 (rw_aload_n (pc' := 79) (v := .ref r0) rfl rfl rfl ?_)
                  refine wp_of e168 c168_79 (xg_R (pc' := 82) lf_9_13 w82055 g0 sh_42 (by decide) (by decide) ty_42_5 rfl rfl (fun r82069 q82070 g82071 => ?_))
                  refine wp_of e168 c168_82 (rw_aload_n (pc' := 83) (v := .ref r0) rfl rfl rfl ?_)
                  refine wp_of e168 c168_83 (xg_I (pc' := 86) lf_9_330 w82055 g0 sh_42 (by decide) (by decide) ty_42_6 rfl rfl (fun b82072 b82073 => ?_))
                  refine wp_of e168 c168_86 (rw_iload (pc' := 88) (z := a5) rfl rfl ?_)
                  refine wp_of e168 c168_88 (rw_bipush (pc' := 90) (z := 24) rfl (by decide) ?_)
                  refine wp_of e168 c168_90 (rw_bipush (pc' := 92) (z := 8) rfl (by decide) ?_)
                  refine wp_of e168 c168_92 (rw_iload (pc' := 94) (z := v82053) rfl rfl ?_)
                  refine wp_of e168 c168_94 (rw_iconst (pc' := 95) rfl ?_)
                  refine wp_of e168 c168_95 (rw_irem (pc' := 96) rfl ⟨by omega, by omega⟩ (by omega) ?_)
                  obtain ⟨v82074, e82075⟩ : ∃ x : Int, x = wq_rem v82053 4 := ⟨_, rfl⟩
                  rw [← e82075]
                  have b82076 : v82074 = v82053 % 4 := by
                    rw [e82075]
                    exact wq_rem_e ⟨by omega, by omega⟩ ⟨by omega, by omega⟩
                  refine wp_of e168 c168_96 (rw_imul (pc' := 97) rfl ?_)
                  refine wp_of e168 c168_97 (rw_isub (pc' := 98) rfl ?_)
                  refine wp_of e168 c168_98 (rw_ishr (pc' := 99) rfl ?_)
                  obtain ⟨v82077, e82078⟩ : ∃ x : Int, x = wq_shr a5 (24 - (8 * v82074)) := ⟨_, rfl⟩
                  rw [← e82078]
                  have b82079 : -2147483648 ≤ v82077 ∧ v82077 ≤ 2147483647 := by
                    rw [e82078]
                    exact wI_shr _ _
                  refine wp_of e168 c168_99 (rw_i2b (pc' := 100) rfl ?_)
                  obtain ⟨v82080, e82081⟩ : ∃ x : Int, x = wq_i2b v82077 := ⟨_, rfl⟩
                  rw [← e82081]
                  have b82082 : -128 ≤ v82080 ∧ v82080 ≤ 127 := by
                    rw [e82081]
                    exact wq_i2b_b _
                  refine wp_of e168 c168_100 (xs_B (pc' := 101) w82055 g82071 (by decide) sh_43 (by decide) (ty_43 _) (by omega) (by omega) ⟨by omega, by omega⟩ (by omega) (by omega) rfl (fun H82083 e82084 w82085 => ?_))
                  have f82086 := f82060.put' e82084 g82071 rfl
                  have f82087 := f82056.put' e82084 g82071 rfl
                  refine wp_of e168 c168_101 (rw_aload_n (pc' := 102) (v := .ref r0) rfl rfl rfl ?_)
                  refine wp_of e168 c168_102 (rw_dup (pc' := 103) rfl rfl ?_)
                  have k82088 : H82083 r0 6 = H82054 r0 6 := (wq_u_t e82084 g82071 g0 rfl 6)
                  refine wp_of e168 c168_103 (xg_I (pc' := 106) lf_9_330 w82085 g0 sh_42 (by decide) (by decide) ty_42_6 rfl rfl (fun b82089 b82090 => ?_))
                  refine wp_of e168 c168_106 (rw_iconst (pc' := 107) rfl ?_)
                  refine wp_of e168 c168_107 (rw_iadd (pc' := 108) rfl ?_)
                  refine wp_of e168 c168_108 (xp_I (pc' := 111) lf_9_330 w82085 g0 sh_42 (by decide) (by decide) ty_42_6 rfl rfl (by omega) (by omega) ⟨by omega, by omega⟩ rfl (fun H82091 e82092 w82093 => ?_))
                  have f82094 := f82086.put' e82092 g0 rfl
                  have f82095 := f82087.put' e82092 g0 rfl
                  have k82096 : H82091 r0 6 = (H82083 r0 6) + 1 := wq_u_s e82092
                  refine wp_of e168 c168_111 (rw_iinc (pc' := 114) (z := v82053) (L' := [(6, vI (v82053 + 1)), (7, vI a5), (0, .ref r0), (1, vI a1), (2, vI a2), (3, vI a3), (4, vI a4), (5, vI a5)]) rfl rfl rfl rfl ?_)
                  refine wp_of e168 c168_114 (rw_goto (p1 := 23) (by decide) ?_)
                  exact wp_lc (ks := [6, 7, 0, 1, 2, 3, 4, 5]) (wl_c rfl (wl_c rfl (wl_c rfl (wl_c rfl (wl_c rfl (wl_c rfl (wl_c rfl wl_n))))))) rfl (by decide) (ih82052 _ (by omega) (v82053 + 1) H82091 w82093 f82095 ⟨by omega, by omega⟩ (by omega) rfl)
                · refine wp_of e168 c168_69 (rw_iload (pc' := 71) (z := a4) rfl rfl ?_)
                  refine wp_of e168 c168_71 (rw_goto (p1 := 76) (by decide) ?_)
                  refine wp_of e168 c168_76 (rw_istore (pc' := 78) (z := a4) (L' := [(7, vI a4), (6, vI v82053), (0, .ref r0), (1, vI a1), (2, vI a2), (3, vI a3), (4, vI a4), (5, vI a5)]) rfl rfl rfl ?_)
                  refine wp_of e168 c168_78 (rw_aload_n (pc' := 79) (v := .ref r0) rfl rfl rfl ?_)
                  refine wp_of e168 c168_79 (xg_R (pc' := 82) lf_9_13 w82055 g0 sh_42 (by decide) (by decide) ty_42_5 rfl rfl (fun r82097 q82098 g82099 => ?_))
                  refine wp_of e168 c168_82 (rw_aload_n (pc' := 83) (v := .ref r0) rfl rfl rfl ?_)
                  refine wp_of e168 c168_83 (xg_I (pc' := 86) lf_9_330 w82055 g0 sh_42 (by decide) (by decide) ty_42_6 rfl rfl (fun b82100 b82101 => ?_))
                  refine wp_of e168 c168_86 (rw_iload (pc' := 88) (z := a4) rfl rfl ?_)
                  refine wp_of e168 c168_88 (rw_bipush (pc' := 90) (z := 24) rfl (by decide) ?_)
                  refine wp_of e168 c168_90 (rw_bipush (pc' := 92) (z := 8) rfl (by decide) ?_)
                  refine wp_of e168 c168_92 (rw_iload (pc' := 94) (z := v82053) rfl rfl ?_)
                  refine wp_of e168 c168_94 (rw_iconst (pc' := 95) rfl ?_)
                  refine wp_of e168 c168_95 (rw_irem (pc' := 96) rfl ⟨by omega, by omega⟩ (by omega) ?_)
                  obtain ⟨v82102, e82103⟩ : ∃ x : Int, x = wq_rem v82053 4 := ⟨_, rfl⟩
                  rw [← e82103]
                  have b82104 : v82102 = v82053 % 4 := by
                    rw [e82103]
                    exact wq_rem_e ⟨by omega, by omega⟩ ⟨by omega, by omega⟩
                  refine wp_of e168 c168_96 (rw_imul (pc' := 97) rfl ?_)
                  refine wp_of e168 c168_97 (rw_isub (pc' := 98) rfl ?_)
                  refine wp_of e168 c168_98 (rw_ishr (pc' := 99) rfl ?_)
                  obtain ⟨v82105, e82106⟩ : ∃ x : Int, x = wq_shr a4 (24 - (8 * v82102)) := ⟨_, rfl⟩
                  rw [← e82106]
                  have b82107 : -2147483648 ≤ v82105 ∧ v82105 ≤ 2147483647 := by
                    rw [e82106]
                    exact wI_shr _ _
                  refine wp_of e168 c168_99 (rw_i2b (pc' := 100) rfl ?_)
                  obtain ⟨v82108, e82109⟩ : ∃ x : Int, x = wq_i2b v82105 := ⟨_, rfl⟩
                  rw [← e82109]
                  have b82110 : -128 ≤ v82108 ∧ v82108 ≤ 127 := by
                    rw [e82109]
                    exact wq_i2b_b _
                  refine wp_of e168 c168_100 (xs_B (pc' := 101) w82055 g82099 (by decide) sh_43 (by decide) (ty_43 _) (by omega) (by omega) ⟨by omega, by omega⟩ (by omega) (by omega) rfl (fun H82111 e82112 w82113 => ?_))
                  have f82114 := f82060.put' e82112 g82099 rfl
                  have f82115 := f82056.put' e82112 g82099 rfl
                  refine wp_of e168 c168_101 (rw_aload_n (pc' := 102) (v := .ref r0) rfl rfl rfl ?_)
                  refine wp_of e168 c168_102 (rw_dup (pc' := 103) rfl rfl ?_)
                  have k82116 : H82111 r0 6 = H82054 r0 6 := (wq_u_t e82112 g82099 g0 rfl 6)
                  refine wp_of e168 c168_103 (xg_I (pc' := 106) lf_9_330 w82113 g0 sh_42 (by decide) (by decide) ty_42_6 rfl rfl (fun b82117 b82118 => ?_))
                  refine wp_of e168 c168_106 (rw_iconst (pc' := 107) rfl ?_)
                  refine wp_of e168 c168_107 (rw_iadd (pc' := 108) rfl ?_)
                  refine wp_of e168 c168_108 (xp_I (pc' := 111) lf_9_330 w82113 g0 sh_42 (by decide) (by decide) ty_42_6 rfl rfl (by omega) (by omega) ⟨by omega, by omega⟩ rfl (fun H82119 e82120 w82121 => ?_))
                  have f82122 := f82114.put' e82120 g0 rfl
                  have f82123 := f82115.put' e82120 g0 rfl
                  have k82124 : H82119 r0 6 = (H82111 r0 6) + 1 := wq_u_s e82120
                  refine wp_of e168 c168_111 (rw_iinc (pc' := 114) (z := v82053) (L' := [(6, vI (v82053 + 1)), (7, vI a4), (0, .ref r0), (1, vI a1), (2, vI a2), (3, vI a3), (4, vI a4), (5, vI a5)]) rfl rfl rfl rfl ?_)
                  refine wp_of e168 c168_114 (rw_goto (p1 := 23) (by decide) ?_)
                  exact wp_lc (ks := [6, 7, 0, 1, 2, 3, 4, 5]) (wl_c rfl (wl_c rfl (wl_c rfl (wl_c rfl (wl_c rfl (wl_c rfl (wl_c rfl wl_n))))))) rfl (by decide) (ih82052 _ (by omega) (v82053 + 1) H82119 w82121 f82123 ⟨by omega, by omega⟩ (by omega) rfl)
              · refine wp_of e168 c168_58 (rw_iload_n (pc' := 59) (z := a3) rfl rfl ?_)
                refine wp_of e168 c168_59 (rw_goto (p1 := 76) (by decide) ?_)
                refine wp_of e168 c168_76 (rw_istore (pc' := 78) (z := a3) (L' := [(7, vI a3), (6, vI v82053), (0, .ref r0), (1, vI a1), (2, vI a2), (3, vI a3), (4, vI a4), (5, vI a5)]) rfl rfl rfl ?_)
                refine wp_of e168 c168_78 (rw_aload_n (pc' := 79) (v := .ref r0) rfl rfl rfl ?_)
                refine wp_of e168 c168_79 (xg_R (pc' := 82) lf_9_13 w82055 g0 sh_42 (by decide) (by decide) ty_42_5 rfl rfl (fun r82125 q82126 g82127 => ?_))
                refine wp_of e168 c168_82 (rw_aload_n (pc' := 83) (v := .ref r0) rfl rfl rfl ?_)
                refine wp_of e168 c168_83 (xg_I (pc' := 86) lf_9_330 w82055 g0 sh_42 (by decide) (by decide) ty_42_6 rfl rfl (fun b82128 b82129 => ?_))
                refine wp_of e168 c168_86 (rw_iload (pc' := 88) (z := a3) rfl rfl ?_)
                refine wp_of e168 c168_88 (rw_bipush (pc' := 90) (z := 24) rfl (by decide) ?_)
                refine wp_of e168 c168_90 (rw_bipush (pc' := 92) (z := 8) rfl (by decide) ?_)
                refine wp_of e168 c168_92 (rw_iload (pc' := 94) (z := v82053) rfl rfl ?_)
                refine wp_of e168 c168_94 (rw_iconst (pc' := 95) rfl ?_)
                refine wp_of e168 c168_95 (rw_irem (pc' := 96) rfl ⟨by omega, by omega⟩ (by omega) ?_)
                obtain ⟨v82130, e82131⟩ : ∃ x : Int, x = wq_rem v82053 4 := ⟨_, rfl⟩
                rw [← e82131]
                have b82132 : v82130 = v82053 % 4 := by
                  rw [e82131]
                  exact wq_rem_e ⟨by omega, by omega⟩ ⟨by omega, by omega⟩
                refine wp_of e168 c168_96 (rw_imul (pc' := 97) rfl ?_)
                refine wp_of e168 c168_97 (rw_isub (pc' := 98) rfl ?_)
                refine wp_of e168 c168_98 (rw_ishr (pc' := 99) rfl ?_)
                obtain ⟨v82133, e82134⟩ : ∃ x : Int, x = wq_shr a3 (24 - (8 * v82130)) := ⟨_, rfl⟩
                rw [← e82134]
                have b82135 : -2147483648 ≤ v82133 ∧ v82133 ≤ 2147483647 := by
                  rw [e82134]
                  exact wI_shr _ _
                refine wp_of e168 c168_99 (rw_i2b (pc' := 100) rfl ?_)
                obtain ⟨v82136, e82137⟩ : ∃ x : Int, x = wq_i2b v82133 := ⟨_, rfl⟩
                rw [← e82137]
                have b82138 : -128 ≤ v82136 ∧ v82136 ≤ 127 := by
                  rw [e82137]
                  exact wq_i2b_b _
                refine wp_of e168 c168_100 (xs_B (pc' := 101) w82055 g82127 (by decide) sh_43 (by decide) (ty_43 _) (by omega) (by omega) ⟨by omega, by omega⟩ (by omega) (by omega) rfl (fun H82139 e82140 w82141 => ?_))
                have f82142 := f82060.put' e82140 g82127 rfl
                have f82143 := f82056.put' e82140 g82127 rfl
                refine wp_of e168 c168_101 (rw_aload_n (pc' := 102) (v := .ref r0) rfl rfl rfl ?_)
                refine wp_of e168 c168_102 (rw_dup (pc' := 103) rfl rfl ?_)
                have k82144 : H82139 r0 6 = H82054 r0 6 := (wq_u_t e82140 g82127 g0 rfl 6)
                refine wp_of e168 c168_103 (xg_I (pc' := 106) lf_9_330 w82141 g0 sh_42 (by decide) (by decide) ty_42_6 rfl rfl (fun b82145 b82146 => ?_))
                refine wp_of e168 c168_106 (rw_iconst (pc' := 107) rfl ?_)
                refine wp_of e168 c168_107 (rw_iadd (pc' := 108) rfl ?_)
                refine wp_of e168 c168_108 (xp_I (pc' := 111) lf_9_330 w82141 g0 sh_42 (by decide) (by decide) ty_42_6 rfl rfl (by omega) (by omega) ⟨by omega, by omega⟩ rfl (fun H82147 e82148 w82149 => ?_))
                have f82150 := f82142.put' e82148 g0 rfl
                have f82151 := f82143.put' e82148 g0 rfl
                have k82152 : H82147 r0 6 = (H82139 r0 6) + 1 := wq_u_s e82148
                refine wp_of e168 c168_111 (rw_iinc (pc' := 114) (z := v82053) (L' := [(6, vI (v82053 + 1)), (7, vI a3), (0, .ref r0), (1, vI a1), (2, vI a2), (3, vI a3), (4, vI a4), (5, vI a5)]) rfl rfl rfl rfl ?_)
                refine wp_of e168 c168_114 (rw_goto (p1 := 23) (by decide) ?_)
                exact wp_lc (ks := [6, 7, 0, 1, 2, 3, 4, 5]) (wl_c rfl (wl_c rfl (wl_c rfl (wl_c rfl (wl_c rfl (wl_c rfl (wl_c rfl wl_n))))))) rfl (by decide) (ih82052 _ (by omega) (v82053 + 1) H82147 w82149 f82151 ⟨by omega, by omega⟩ (by omega) rfl)
            · refine wp_of e168 c168_47 (rw_iload_n (pc' := 48) (z := a2) rfl rfl ?_)
              refine wp_of e168 c168_48 (rw_goto (p1 := 76) (by decide) ?_)
              refine wp_of e168 c168_76 (rw_istore (pc' := 78) (z := a2) (L' := [(7, vI a2), (6, vI v82053), (0, .ref r0), (1, vI a1), (2, vI a2), (3, vI a3), (4, vI a4), (5, vI a5)]) rfl rfl rfl ?_)
              refine wp_of e168 c168_78 (rw_aload_n (pc' := 79) (v := .ref r0) rfl rfl rfl ?_)
              refine wp_of e168 c168_79 (xg_R (pc' := 82) lf_9_13 w82055 g0 sh_42 (by decide) (by decide) ty_42_5 rfl rfl (fun r82153 q82154 g82155 => ?_))
              refine wp_of e168 c168_82 (rw_aload_n (pc' := 83) (v := .ref r0) rfl rfl rfl ?_)
              refine wp_of e168 c168_83 (xg_I (pc' := 86) lf_9_330 w82055 g0 sh_42 (by decide) (by decide) ty_42_6 rfl rfl (fun b82156 b82157 => ?_))
              refine wp_of e168 c168_86 (rw_iload (pc' := 88) (z := a2) rfl rfl ?_)
              refine wp_of e168 c168_88 (rw_bipush (pc' := 90) (z := 24) rfl (by decide) ?_)
              refine wp_of e168 c168_90 (rw_bipush (pc' := 92) (z := 8) rfl (by decide) ?_)
              refine wp_of e168 c168_92 (rw_iload (pc' := 94) (z := v82053) rfl rfl ?_)
              refine wp_of e168 c168_94 (rw_iconst (pc' := 95) rfl ?_)
              refine wp_of e168 c168_95 (rw_irem (pc' := 96) rfl ⟨by omega, by omega⟩ (by omega) ?_)
              obtain ⟨v82158, e82159⟩ : ∃ x : Int, x = wq_rem v82053 4 := ⟨_, rfl⟩
              rw [← e82159]
              have b82160 : v82158 = v82053 % 4 := by
                rw [e82159]
                exact wq_rem_e ⟨by omega, by omega⟩ ⟨by omega, by omega⟩
              refine wp_of e168 c168_96 (rw_imul (pc' := 97) rfl ?_)
              refine wp_of e168 c168_97 (rw_isub (pc' := 98) rfl ?_)
              refine wp_of e168 c168_98 (rw_ishr (pc' := 99) rfl ?_)
              obtain ⟨v82161, e82162⟩ : ∃ x : Int, x = wq_shr a2 (24 - (8 * v82158)) := ⟨_, rfl⟩
              rw [← e82162]
              have b82163 : -2147483648 ≤ v82161 ∧ v82161 ≤ 2147483647 := by
                rw [e82162]
                exact wI_shr _ _
              refine wp_of e168 c168_99 (rw_i2b (pc' := 100) rfl ?_)
              obtain ⟨v82164, e82165⟩ : ∃ x : Int, x = wq_i2b v82161 := ⟨_, rfl⟩
              rw [← e82165]
              have b82166 : -128 ≤ v82164 ∧ v82164 ≤ 127 := by
                rw [e82165]
                exact wq_i2b_b _
              refine wp_of e168 c168_100 (xs_B (pc' := 101) w82055 g82155 (by decide) sh_43 (by decide) (ty_43 _) (by omega) (by omega) ⟨by omega, by omega⟩ (by omega) (by omega) rfl (fun H82167 e82168 w82169 => ?_))
              have f82170 := f82060.put' e82168 g82155 rfl
              have f82171 := f82056.put' e82168 g82155 rfl
              refine wp_of e168 c168_101 (rw_aload_n (pc' := 102) (v := .ref r0) rfl rfl rfl ?_)
              refine wp_of e168 c168_102 (rw_dup (pc' := 103) rfl rfl ?_)
              have k82172 : H82167 r0 6 = H82054 r0 6 := (wq_u_t e82168 g82155 g0 rfl 6)
              refine wp_of e168 c168_103 (xg_I (pc' := 106) lf_9_330 w82169 g0 sh_42 (by decide) (by decide) ty_42_6 rfl rfl (fun b82173 b82174 => ?_))
              refine wp_of e168 c168_106 (rw_iconst (pc' := 107) rfl ?_)
              refine wp_of e168 c168_107 (rw_iadd (pc' := 108) rfl ?_)
              refine wp_of e168 c168_108 (xp_I (pc' := 111) lf_9_330 w82169 g0 sh_42 (by decide) (by decide) ty_42_6 rfl rfl (by omega) (by omega) ⟨by omega, by omega⟩ rfl (fun H82175 e82176 w82177 => ?_))
              have f82178 := f82170.put' e82176 g0 rfl
              have f82179 := f82171.put' e82176 g0 rfl
              have k82180 : H82175 r0 6 = (H82167 r0 6) + 1 := wq_u_s e82176
              refine wp_of e168 c168_111 (rw_iinc (pc' := 114) (z := v82053) (L' := [(6, vI (v82053 + 1)), (7, vI a2), (0, .ref r0), (1, vI a1), (2, vI a2), (3, vI a3), (4, vI a4), (5, vI a5)]) rfl rfl rfl rfl ?_)
              refine wp_of e168 c168_114 (rw_goto (p1 := 23) (by decide) ?_)
              exact wp_lc (ks := [6, 7, 0, 1, 2, 3, 4, 5]) (wl_c rfl (wl_c rfl (wl_c rfl (wl_c rfl (wl_c rfl (wl_c rfl (wl_c rfl wl_n))))))) rfl (by decide) (ih82052 _ (by omega) (v82053 + 1) H82175 w82177 f82179 ⟨by omega, by omega⟩ (by omega) rfl)
          · refine wp_of e168 c168_36 (rw_iload_n (pc' := 37) (z := a1) rfl rfl ?_)
            refine wp_of e168 c168_37 (rw_goto (p1 := 76) (by decide) ?_)
            refine wp_of e168 c168_76 (rw_istore (pc' := 78) (z := a1) (L' := [(7, vI a1), (6, vI v82053), (0, .ref r0), (1, vI a1), (2, vI a2), (3, vI a3), (4, vI a4), (5, vI a5)]) rfl rfl rfl ?_)
            refine wp_of e168 c168_78 (rw_aload_n (pc' := 79) (v := .ref r0) rfl rfl rfl ?_)
            refine wp_of e168 c168_79 (xg_R (pc' := 82) lf_9_13 w82055 g0 sh_42 (by decide) (by decide) ty_42_5 rfl rfl (fun r82181 q82182 g82183 => ?_))
            refine wp_of e168 c168_82 (rw_aload_n (pc' := 83) (v := .ref r0) rfl rfl rfl ?_)
            refine wp_of e168 c168_83 (xg_I (pc' := 86) lf_9_330 w82055 g0 sh_42 (by decide) (by decide) ty_42_6 rfl rfl (fun b82184 b82185 => ?_))
            refine wp_of e168 c168_86 (rw_iload (pc' := 88) (z := a1) rfl rfl ?_)
            refine wp_of e168 c168_88 (rw_bipush (pc' := 90) (z := 24) rfl (by decide) ?_)
            refine wp_of e168 c168_90 (rw_bipush (pc' := 92) (z := 8) rfl (by decide) ?_)
            refine wp_of e168 c168_92 (rw_iload (pc' := 94) (z := v82053) rfl rfl ?_)
            refine wp_of e168 c168_94 (rw_iconst (pc' := 95) rfl ?_)
            refine wp_of e168 c168_95 (rw_irem (pc' := 96) rfl ⟨by omega, by omega⟩ (by omega) ?_)
            obtain ⟨v82186, e82187⟩ : ∃ x : Int, x = wq_rem v82053 4 := ⟨_, rfl⟩
            rw [← e82187]
            have b82188 : v82186 = v82053 % 4 := by
              rw [e82187]
              exact wq_rem_e ⟨by omega, by omega⟩ ⟨by omega, by omega⟩
            refine wp_of e168 c168_96 (rw_imul (pc' := 97) rfl ?_)
            refine wp_of e168 c168_97 (rw_isub (pc' := 98) rfl ?_)
            refine wp_of e168 c168_98 (rw_ishr (pc' := 99) rfl ?_)
            obtain ⟨v82189, e82190⟩ : ∃ x : Int, x = wq_shr a1 (24 - (8 * v82186)) := ⟨_, rfl⟩
            rw [← e82190]
            have b82191 : -2147483648 ≤ v82189 ∧ v82189 ≤ 2147483647 := by
              rw [e82190]
              exact wI_shr _ _
            refine wp_of e168 c168_99 (rw_i2b (pc' := 100) rfl ?_)
            obtain ⟨v82192, e82193⟩ : ∃ x : Int, x = wq_i2b v82189 := ⟨_, rfl⟩
            rw [← e82193]
            have b82194 : -128 ≤ v82192 ∧ v82192 ≤ 127 := by
              rw [e82193]
              exact wq_i2b_b _
            refine wp_of e168 c168_100 (xs_B (pc' := 101) w82055 g82183 (by decide) sh_43 (by decide) (ty_43 _) (by omega) (by omega) ⟨by omega, by omega⟩ (by omega) (by omega) rfl (fun H82195 e82196 w82197 => ?_))
            have f82198 := f82060.put' e82196 g82183 rfl
            have f82199 := f82056.put' e82196 g82183 rfl
            refine wp_of e168 c168_101 (rw_aload_n (pc' := 102) (v := .ref r0) rfl rfl rfl ?_)
            refine wp_of e168 c168_102 (rw_dup (pc' := 103) rfl rfl ?_)
            have k82200 : H82195 r0 6 = H82054 r0 6 := (wq_u_t e82196 g82183 g0 rfl 6)
            refine wp_of e168 c168_103 (xg_I (pc' := 106) lf_9_330 w82197 g0 sh_42 (by decide) (by decide) ty_42_6 rfl rfl (fun b82201 b82202 => ?_))
            refine wp_of e168 c168_106 (rw_iconst (pc' := 107) rfl ?_)
            refine wp_of e168 c168_107 (rw_iadd (pc' := 108) rfl ?_)
            refine wp_of e168 c168_108 (xp_I (pc' := 111) lf_9_330 w82197 g0 sh_42 (by decide) (by decide) ty_42_6 rfl rfl (by omega) (by omega) ⟨by omega, by omega⟩ rfl (fun H82203 e82204 w82205 => ?_))
            have f82206 := f82198.put' e82204 g0 rfl
            have f82207 := f82199.put' e82204 g0 rfl
            have k82208 : H82203 r0 6 = (H82195 r0 6) + 1 := wq_u_s e82204
            refine wp_of e168 c168_111 (rw_iinc (pc' := 114) (z := v82053) (L' := [(6, vI (v82053 + 1)), (7, vI a1), (0, .ref r0), (1, vI a1), (2, vI a2), (3, vI a3), (4, vI a4), (5, vI a5)]) rfl rfl rfl rfl ?_)
            refine wp_of e168 c168_114 (rw_goto (p1 := 23) (by decide) ?_)
            exact wp_lc (ks := [6, 7, 0, 1, 2, 3, 4, 5]) (wl_c rfl (wl_c rfl (wl_c rfl (wl_c rfl (wl_c rfl (wl_c rfl (wl_c rfl wl_n))))))) rfl (by decide) (ih82052 _ (by omega) (v82053 + 1) H82203 w82205 f82207 ⟨by omega, by omega⟩ (by omega) rfl)
    exact wp_lc (ks := [6, 0, 1, 2, 3, 4, 5]) (wl_c rfl (wl_c rfl (wl_c rfl (wl_c rfl (wl_c rfl (wl_c rfl (wl_c rfl wl_n))))))) rfl (by decide) (lp82050 _ 0 H81673 w81675 wfr.rf ⟨by omega, by omega⟩ (by omega) rfl)
  · refine wp_of e168 c168_18 (rw_iconst (pc' := 19) rfl ?_)
    have k82209 : wKI H81673 r0 = wKI H r0 := (wKI_fr hW g0 ((wfr.rf (l := [(42, 0)])).put' e81674 g0 rfl) rfl)
    exact wp_ireturn e168 c168_19 rfl ⟨rfl, w81675, f81676, -1, rfl, ⟨by omega, by omega⟩, by omega, by omega⟩
/-! StrikeAwakeModel.refused(I)I -/
theorem e170 : wq_en 170 = some (9, 2, false, some FieldType.int) := rfl
theorem c170_0 : mc_cd 170 0 = some (.aload_n 0, 1) := by decide +kernel
theorem c170_1 : mc_cd 170 1 = some (.iload_n 1, 1) := by decide +kernel
theorem c170_2 : mc_cd 170 2 = some (.putfield 51, 3) := by decide +kernel
theorem c170_5 : mc_cd 170 5 = some (.aload_n 0, 1) := by decide +kernel
theorem c170_6 : mc_cd 170 6 = some (.iconst (-1), 1) := by decide +kernel
theorem c170_7 : mc_cd 170 7 = some (.putfield 9, 3) := by decide +kernel
theorem c170_10 : mc_cd 170 10 = some (.iconst (-1), 1) := by decide +kernel
theorem c170_11 : mc_cd 170 11 = some (.ireturn, 1) := by decide +kernel
abbrev q_170 (r0 : Nat) (a1 : Int) (T : wq_T) (H : wq_H) : Option Value → wq_T → wq_H → Prop := fun r T' H' => T = T' ∧ WT T H' ∧ wfr [(42, 1), (42, 2)] T H H' ∧ ∃ z : Int, some (vI z) = r ∧ ((-2147483648) ≤ z ∧ z ≤ 2147483647)
set_option maxHeartbeats 4000000 in
theorem s_170 {kt : Nat → Option mc_E} {T : wq_T} {H : wq_H} {r0 : Nat} {a1 : Int} (hW : WT T H) (g0 : T.2.2.2 r0 = some 42) (i1 : (-2147483648) ≤ a1 ∧ a1 ≤ 2147483647) : wpc kt 1 170 [.ref r0, vI a1] T H (q_170 r0 a1 T H) := by
  refine wp_enter e170 (Nat.le_of_ble_eq_true rfl) rfl ?_
  have f0 : wfr [(42, 1), (42, 2)] T H H := wfr.rf
  show wp _ _ 170 0 [(0, .ref r0), (1, vI a1)] [] _ H _
  refine wp_of e170 c170_0 (rw_aload_n (pc' := 1) (v := .ref r0) rfl rfl rfl ?_)
  refine wp_of e170 c170_1 (rw_iload_n (pc' := 2) (z := a1) rfl rfl ?_)
  refine wp_of e170 c170_2 (xp_I (pc' := 5) lf_9_51 hW g0 sh_42 (by decide) (by decide) ty_42_1 rfl rfl (by omega) (by omega) ⟨by omega, by omega⟩ rfl (fun H82220 e82221 w82222 => ?_))
  have f82223 := f0.put' e82221 g0 rfl
  have k82224 : H82220 r0 1 = a1 := wq_u_s e82221
  refine wp_of e170 c170_5 (rw_aload_n (pc' := 6) (v := .ref r0) rfl rfl rfl ?_)
  refine wp_of e170 c170_6 (rw_iconst (pc' := 7) rfl ?_)
  refine wp_of e170 c170_7 (xp_I (pc' := 10) lf_9_9 w82222 g0 sh_42 (by decide) (by decide) ty_42_2 rfl rfl (by omega) (by omega) ⟨by omega, by omega⟩ rfl (fun H82225 e82226 w82227 => ?_))
  have f82228 := f82223.put' e82226 g0 rfl
  have k82229 : H82225 r0 2 = -1 := wq_u_s e82226
  refine wp_of e170 c170_10 (rw_iconst (pc' := 11) rfl ?_)
  exact wp_ireturn e170 c170_11 rfl ⟨rfl, w82227, f82228, -1, rfl, ⟨by omega, by omega⟩⟩
/-! StrikeAwakeModel.byteAt(I)I -/
theorem e173 : wq_en 173 = some (9, 2, false, some FieldType.int) := rfl
theorem c173_0 : mc_cd 173 0 = some (.iload_n 1, 1) := by decide +kernel
theorem c173_1 : mc_cd 173 1 = some (.aload_n 0, 1) := by decide +kernel
theorem c173_2 : mc_cd 173 2 = some (.getfield 61, 3) := by decide +kernel
theorem c173_5 : mc_cd 173 5 = some (.if_icmp .ge 16, 3) := by decide +kernel
theorem c173_8 : mc_cd 173 8 = some (.aload_n 0, 1) := by decide +kernel
theorem c173_9 : mc_cd 173 9 = some (.getfield 13, 3) := by decide +kernel
theorem c173_12 : mc_cd 173 12 = some (.iload_n 1, 1) := by decide +kernel
theorem c173_13 : mc_cd 173 13 = some (.baload, 1) := by decide +kernel
theorem c173_14 : mc_cd 173 14 = some (.sipush 255, 3) := by decide +kernel
theorem c173_17 : mc_cd 173 17 = some (.iand, 1) := by decide +kernel
theorem c173_18 : mc_cd 173 18 = some (.goto 4, 3) := by decide +kernel
theorem c173_21 : mc_cd 173 21 = some (.iconst (-1), 1) := by decide +kernel
theorem c173_22 : mc_cd 173 22 = some (.ireturn, 1) := by decide +kernel
abbrev q_173 (r0 : Nat) (a1 : Int) (T : wq_T) (H : wq_H) : Option Value → wq_T → wq_H → Prop := fun r T' H' => T = T' ∧ H = H' ∧ ∃ z : Int, some (vI z) = r ∧ ((-1) ≤ z ∧ z ≤ 255) ∧ (z = -1 ∨ a1 ≤ 899)
set_option maxHeartbeats 4000000 in
theorem s_173 {kt : Nat → Option mc_E} {T : wq_T} {H : wq_H} {r0 : Nat} {a1 : Int} (hW : WT T H) (g0 : T.2.2.2 r0 = some 42) (i1 : 0 ≤ a1 ∧ a1 ≤ 900) : wpc kt 1 173 [.ref r0, vI a1] T H (q_173 r0 a1 T H) := by
  refine wp_enter e173 (Nat.le_of_ble_eq_true rfl) rfl ?_
  show wp _ _ 173 0 [(0, .ref r0), (1, vI a1)] [] _ H _
  refine wp_of e173 c173_0 (rw_iload_n (pc' := 1) (z := a1) rfl rfl ?_)
  refine wp_of e173 c173_1 (rw_aload_n (pc' := 2) (v := .ref r0) rfl rfl rfl ?_)
  refine wp_of e173 c173_2 (xg_I (pc' := 5) lf_9_61 hW g0 sh_42 (by decide) (by decide) ty_42_7 rfl rfl (fun b82240 b82241 => ?_))
  refine wp_of e173 c173_5 (rw_icmp_ge (p1 := 21) (p2 := 8) (by decide) rfl ⟨by omega, by omega⟩ ⟨by omega, by omega⟩ (fun c82242 => ?_) (fun c82242 => ?_))
  · refine wp_of e173 c173_21 (rw_iconst (pc' := 22) rfl ?_)
    exact wp_ireturn e173 c173_22 rfl ⟨rfl, rfl, -1, rfl, ⟨by omega, by omega⟩, by omega⟩
  · refine wp_of e173 c173_8 (rw_aload_n (pc' := 9) (v := .ref r0) rfl rfl rfl ?_)
    refine wp_of e173 c173_9 (xg_R (pc' := 12) lf_9_13 hW g0 sh_42 (by decide) (by decide) ty_42_5 rfl rfl (fun r82243 q82244 g82245 => ?_))
    refine wp_of e173 c173_12 (rw_iload_n (pc' := 13) (z := a1) rfl rfl ?_)
    refine wp_of e173 c173_13 (xa_B (by decide) (pc' := 14) hW g82245 sh_43 (by decide) (ty_43 _) (by omega) (by omega) rfl (fun b82246 b82247 => ?_))
    refine wp_of e173 c173_14 (rw_sipush (pc' := 17) (z := 255) rfl (by decide) ?_)
    refine wp_of e173 c173_17 (rw_iand (pc' := 18) rfl ?_)
    obtain ⟨v82248, e82249⟩ : ∃ x : Int, x = wq_and (H r82243 (a1.toNat)) 255 := ⟨_, rfl⟩
    rw [← e82249]
    have b82250 : 0 ≤ v82248 ∧ v82248 ≤ 255 := by
      rw [e82249]
      exact wq_and_b _ (by omega) (by omega)
    refine wp_of e173 c173_18 (rw_goto (p1 := 22) (by decide) ?_)
    exact wp_ireturn e173 c173_22 rfl ⟨rfl, rfl, v82248, rfl, ⟨by omega, by omega⟩, by omega⟩
/-! StrikeAwakeModel.isLetter(I)Z -/
theorem e174 : wq_en 174 = some (9, 1, false, some FieldType.boolean) := rfl
theorem c174_0 : mc_cd 174 0 = some (.iload_n 0, 1) := by decide +kernel
theorem c174_1 : mc_cd 174 1 = some (.bipush 97, 2) := by decide +kernel
theorem c174_3 : mc_cd 174 3 = some (.if_icmp .lt 13, 3) := by decide +kernel
theorem c174_6 : mc_cd 174 6 = some (.iload_n 0, 1) := by decide +kernel
theorem c174_7 : mc_cd 174 7 = some (.bipush 122, 2) := by decide +kernel
theorem c174_9 : mc_cd 174 9 = some (.if_icmp .gt 7, 3) := by decide +kernel
theorem c174_12 : mc_cd 174 12 = some (.iconst 1, 1) := by decide +kernel
theorem c174_13 : mc_cd 174 13 = some (.goto 4, 3) := by decide +kernel
theorem c174_16 : mc_cd 174 16 = some (.iconst 0, 1) := by decide +kernel
theorem c174_17 : mc_cd 174 17 = some (.ireturn, 1) := by decide +kernel
abbrev q_174 (a0 : Int) (T : wq_T) (H : wq_H) : Option Value → wq_T → wq_H → Prop := fun r T' H' => T = T' ∧ H = H' ∧ ∃ z : Int, some (vI z) = r ∧ (0 ≤ z ∧ z ≤ 1) ∧ (z = 0 ∨ (97 ≤ a0 ∧ a0 ≤ 122))
set_option maxHeartbeats 4000000 in
theorem s_174 {kt : Nat → Option mc_E} {T : wq_T} {H : wq_H} {a0 : Int} (hW : WT T H) (i0 : (-2147483648) ≤ a0 ∧ a0 ≤ 2147483647) : wpc kt 1 174 [vI a0] T H (q_174 a0 T H) := by
  refine wp_enter e174 (Nat.le_of_ble_eq_true rfl) rfl ?_
  show wp _ _ 174 0 [(0, vI a0)] [] _ H _
  refine wp_of e174 c174_0 (rw_iload_n (pc' := 1) (z := a0) rfl rfl ?_)
  refine wp_of e174 c174_1 (rw_bipush (pc' := 3) (z := 97) rfl (by decide) ?_)
  refine wp_of e174 c174_3 (rw_icmp_lt (p1 := 16) (p2 := 6) (by decide) rfl ⟨by omega, by omega⟩ ⟨by omega, by omega⟩ (fun c82253 => ?_) (fun c82253 => ?_))
  · refine wp_of e174 c174_16 (rw_iconst (pc' := 17) rfl ?_)
    exact wp_zreturn e174 c174_17 rfl (by omega) ⟨rfl, rfl, 0, rfl, ⟨by omega, by omega⟩, by omega⟩
  · refine wp_of e174 c174_6 (rw_iload_n (pc' := 7) (z := a0) rfl rfl ?_)
    refine wp_of e174 c174_7 (rw_bipush (pc' := 9) (z := 122) rfl (by decide) ?_)
    refine wp_of e174 c174_9 (rw_icmp_gt (p1 := 16) (p2 := 12) (by decide) rfl ⟨by omega, by omega⟩ ⟨by omega, by omega⟩ (fun c82254 => ?_) (fun c82254 => ?_))
    · refine wp_of e174 c174_16 (rw_iconst (pc' := 17) rfl ?_)
      exact wp_zreturn e174 c174_17 rfl (by omega) ⟨rfl, rfl, 0, rfl, ⟨by omega, by omega⟩, by omega⟩
    · refine wp_of e174 c174_12 (rw_iconst (pc' := 13) rfl ?_)
      refine wp_of e174 c174_13 (rw_goto (p1 := 17) (by decide) ?_)
      exact wp_zreturn e174 c174_17 rfl (by omega) ⟨rfl, rfl, 1, rfl, ⟨by omega, by omega⟩, by omega⟩
/-! StrikeAwakeModel.isDigit(I)Z -/
theorem e175 : wq_en 175 = some (9, 1, false, some FieldType.boolean) := rfl
theorem c175_0 : mc_cd 175 0 = some (.iload_n 0, 1) := by decide +kernel
theorem c175_1 : mc_cd 175 1 = some (.bipush 48, 2) := by decide +kernel
theorem c175_3 : mc_cd 175 3 = some (.if_icmp .lt 13, 3) := by decide +kernel
theorem c175_6 : mc_cd 175 6 = some (.iload_n 0, 1) := by decide +kernel
theorem c175_7 : mc_cd 175 7 = some (.bipush 57, 2) := by decide +kernel
theorem c175_9 : mc_cd 175 9 = some (.if_icmp .gt 7, 3) := by decide +kernel
theorem c175_12 : mc_cd 175 12 = some (.iconst 1, 1) := by decide +kernel
theorem c175_13 : mc_cd 175 13 = some (.goto 4, 3) := by decide +kernel
theorem c175_16 : mc_cd 175 16 = some (.iconst 0, 1) := by decide +kernel
theorem c175_17 : mc_cd 175 17 = some (.ireturn, 1) := by decide +kernel
abbrev q_175 (a0 : Int) (T : wq_T) (H : wq_H) : Option Value → wq_T → wq_H → Prop := fun r T' H' => T = T' ∧ H = H' ∧ ∃ z : Int, some (vI z) = r ∧ (0 ≤ z ∧ z ≤ 1) ∧ (z = 0 ∨ (48 ≤ a0 ∧ a0 ≤ 57))
set_option maxHeartbeats 4000000 in
theorem s_175 {kt : Nat → Option mc_E} {T : wq_T} {H : wq_H} {a0 : Int} (hW : WT T H) (i0 : (-2147483648) ≤ a0 ∧ a0 ≤ 2147483647) : wpc kt 1 175 [vI a0] T H (q_175 a0 T H) := by
  refine wp_enter e175 (Nat.le_of_ble_eq_true rfl) rfl ?_
  show wp _ _ 175 0 [(0, vI a0)] [] _ H _
  refine wp_of e175 c175_0 (rw_iload_n (pc' := 1) (z := a0) rfl rfl ?_)
  refine wp_of e175 c175_1 (rw_bipush (pc' := 3) (z := 48) rfl (by decide) ?_)
  refine wp_of e175 c175_3 (rw_icmp_lt (p1 := 16) (p2 := 6) (by decide) rfl ⟨by omega, by omega⟩ ⟨by omega, by omega⟩ (fun c82257 => ?_) (fun c82257 => ?_))
  · refine wp_of e175 c175_16 (rw_iconst (pc' := 17) rfl ?_)
    exact wp_zreturn e175 c175_17 rfl (by omega) ⟨rfl, rfl, 0, rfl, ⟨by omega, by omega⟩, by omega⟩
  · refine wp_of e175 c175_6 (rw_iload_n (pc' := 7) (z := a0) rfl rfl ?_)
    refine wp_of e175 c175_7 (rw_bipush (pc' := 9) (z := 57) rfl (by decide) ?_)
    refine wp_of e175 c175_9 (rw_icmp_gt (p1 := 16) (p2 := 12) (by decide) rfl ⟨by omega, by omega⟩ ⟨by omega, by omega⟩ (fun c82258 => ?_) (fun c82258 => ?_))
    · refine wp_of e175 c175_16 (rw_iconst (pc' := 17) rfl ?_)
      exact wp_zreturn e175 c175_17 rfl (by omega) ⟨rfl, rfl, 0, rfl, ⟨by omega, by omega⟩, by omega⟩
    · refine wp_of e175 c175_12 (rw_iconst (pc' := 13) rfl ?_)
      refine wp_of e175 c175_13 (rw_goto (p1 := 17) (by decide) ?_)
      exact wp_zreturn e175 c175_17 rfl (by omega) ⟨rfl, rfl, 1, rfl, ⟨by omega, by omega⟩, by omega⟩
/-! StrikeAwakeModel.goesOn()V -/
theorem e172 : wq_en 172 = some (9, 3, false, none) := rfl
theorem c172_0 : mc_cd 172 0 = some (.aload_n 0, 1) := by decide +kernel
theorem c172_1 : mc_cd 172 1 = some (.getfield 75, 3) := by decide +kernel
theorem c172_4 : mc_cd 172 4 = some (.iconst 5, 1) := by decide +kernel
theorem c172_5 : mc_cd 172 5 = some (.if_icmp .ne 4, 3) := by decide +kernel
theorem c172_8 : mc_cd 172 8 = some (.return_, 1) := by decide +kernel
theorem c172_9 : mc_cd 172 9 = some (.aload_n 0, 1) := by decide +kernel
theorem c172_10 : mc_cd 172 10 = some (.aload_n 0, 1) := by decide +kernel
theorem c172_11 : mc_cd 172 11 = some (.getfield 78, 3) := by decide +kernel
theorem c172_14 : mc_cd 172 14 = some (.invokevirtual 81, 3) := by decide +kernel
theorem c172_17 : mc_cd 172 17 = some (.bipush 32, 2) := by decide +kernel
theorem c172_19 : mc_cd 172 19 = some (.if_icmp .ne 16, 3) := by decide +kernel
theorem c172_22 : mc_cd 172 22 = some (.aload_n 0, 1) := by decide +kernel
theorem c172_23 : mc_cd 172 23 = some (.dup, 1) := by decide +kernel
theorem c172_24 : mc_cd 172 24 = some (.getfield 78, 3) := by decide +kernel
theorem c172_27 : mc_cd 172 27 = some (.iconst 1, 1) := by decide +kernel
theorem c172_28 : mc_cd 172 28 = some (.iadd, 1) := by decide +kernel
theorem c172_29 : mc_cd 172 29 = some (.putfield 78, 3) := by decide +kernel
theorem c172_32 : mc_cd 172 32 = some (.goto (-23), 3) := by decide +kernel
theorem c172_35 : mc_cd 172 35 = some (.aload_n 0, 1) := by decide +kernel
theorem c172_36 : mc_cd 172 36 = some (.aload_n 0, 1) := by decide +kernel
theorem c172_37 : mc_cd 172 37 = some (.getfield 78, 3) := by decide +kernel
theorem c172_40 : mc_cd 172 40 = some (.putfield 84, 3) := by decide +kernel
theorem c172_43 : mc_cd 172 43 = some (.aload_n 0, 1) := by decide +kernel
theorem c172_44 : mc_cd 172 44 = some (.iconst 0, 1) := by decide +kernel
theorem c172_45 : mc_cd 172 45 = some (.putfield 75, 3) := by decide +kernel
theorem c172_48 : mc_cd 172 48 = some (.aload_n 0, 1) := by decide +kernel
theorem c172_49 : mc_cd 172 49 = some (.iconst 0, 1) := by decide +kernel
theorem c172_50 : mc_cd 172 50 = some (.putfield 87, 3) := by decide +kernel
theorem c172_53 : mc_cd 172 53 = some (.aload_n 0, 1) := by decide +kernel
theorem c172_54 : mc_cd 172 54 = some (.aload_n 0, 1) := by decide +kernel
theorem c172_55 : mc_cd 172 55 = some (.getfield 78, 3) := by decide +kernel
theorem c172_58 : mc_cd 172 58 = some (.invokevirtual 81, 3) := by decide +kernel
theorem c172_61 : mc_cd 172 61 = some (.istore_n 1, 1) := by decide +kernel
theorem c172_62 : mc_cd 172 62 = some (.iconst 0, 1) := by decide +kernel
theorem c172_63 : mc_cd 172 63 = some (.istore_n 2, 1) := by decide +kernel
theorem c172_64 : mc_cd 172 64 = some (.iload_n 1, 1) := by decide +kernel
theorem c172_65 : mc_cd 172 65 = some (.iconst (-1), 1) := by decide +kernel
theorem c172_66 : mc_cd 172 66 = some (.if_icmp .ne 11, 3) := by decide +kernel
theorem c172_69 : mc_cd 172 69 = some (.aload_n 0, 1) := by decide +kernel
theorem c172_70 : mc_cd 172 70 = some (.iconst 1, 1) := by decide +kernel
theorem c172_71 : mc_cd 172 71 = some (.putfield 75, 3) := by decide +kernel
theorem c172_74 : mc_cd 172 74 = some (.goto 207, 3) := by decide +kernel
theorem c172_77 : mc_cd 172 77 = some (.iload_n 1, 1) := by decide +kernel
theorem c172_78 : mc_cd 172 78 = some (.invokestatic 90, 3) := by decide +kernel
theorem c172_81 : mc_cd 172 81 = some (.ifCond .eq 85, 3) := by decide +kernel
theorem c172_84 : mc_cd 172 84 = some (.aload_n 0, 1) := by decide +kernel
theorem c172_85 : mc_cd 172 85 = some (.lconst 0, 1) := by decide +kernel
theorem c172_86 : mc_cd 172 86 = some (.putfield 94, 3) := by decide +kernel
theorem c172_89 : mc_cd 172 89 = some (.aload_n 0, 1) := by decide +kernel
theorem c172_90 : mc_cd 172 90 = some (.aload_n 0, 1) := by decide +kernel
theorem c172_91 : mc_cd 172 91 = some (.getfield 78, 3) := by decide +kernel
theorem c172_94 : mc_cd 172 94 = some (.invokevirtual 81, 3) := by decide +kernel
theorem c172_97 : mc_cd 172 97 = some (.invokestatic 90, 3) := by decide +kernel
theorem c172_100 : mc_cd 172 100 = some (.ifCond .eq 52, 3) := by decide +kernel
theorem c172_103 : mc_cd 172 103 = some (.iload_n 2, 1) := by decide +kernel
theorem c172_104 : mc_cd 172 104 = some (.bipush 8, 2) := by decide +kernel
theorem c172_106 : mc_cd 172 106 = some (.if_icmp .ge 30, 3) := by decide +kernel
theorem c172_109 : mc_cd 172 109 = some (.aload_n 0, 1) := by decide +kernel
theorem c172_110 : mc_cd 172 110 = some (.ldc2_w 69, 3) := by decide +kernel
theorem c172_113 : mc_cd 172 113 = some (.aload_n 0, 1) := by decide +kernel
theorem c172_114 : mc_cd 172 114 = some (.getfield 94, 3) := by decide +kernel
theorem c172_117 : mc_cd 172 117 = some (.lmul, 1) := by decide +kernel
theorem c172_118 : mc_cd 172 118 = some (.aload_n 0, 1) := by decide +kernel
theorem c172_119 : mc_cd 172 119 = some (.aload_n 0, 1) := by decide +kernel
theorem c172_120 : mc_cd 172 120 = some (.getfield 78, 3) := by decide +kernel
theorem c172_123 : mc_cd 172 123 = some (.invokevirtual 81, 3) := by decide +kernel
theorem c172_126 : mc_cd 172 126 = some (.bipush 97, 2) := by decide +kernel
theorem c172_128 : mc_cd 172 128 = some (.isub, 1) := by decide +kernel
theorem c172_129 : mc_cd 172 129 = some (.iconst 1, 1) := by decide +kernel
theorem c172_130 : mc_cd 172 130 = some (.iadd, 1) := by decide +kernel
theorem c172_131 : mc_cd 172 131 = some (.i2l, 1) := by decide +kernel
theorem c172_132 : mc_cd 172 132 = some (.ladd, 1) := by decide +kernel
theorem c172_133 : mc_cd 172 133 = some (.putfield 94, 3) := by decide +kernel
theorem c172_136 : mc_cd 172 136 = some (.iinc 2 1, 3) := by decide +kernel
theorem c172_139 : mc_cd 172 139 = some (.aload_n 0, 1) := by decide +kernel
theorem c172_140 : mc_cd 172 140 = some (.dup, 1) := by decide +kernel
theorem c172_141 : mc_cd 172 141 = some (.getfield 78, 3) := by decide +kernel
theorem c172_144 : mc_cd 172 144 = some (.iconst 1, 1) := by decide +kernel
theorem c172_145 : mc_cd 172 145 = some (.iadd, 1) := by decide +kernel
theorem c172_146 : mc_cd 172 146 = some (.putfield 78, 3) := by decide +kernel
theorem c172_149 : mc_cd 172 149 = some (.goto (-60), 3) := by decide +kernel
theorem c172_152 : mc_cd 172 152 = some (.iload_n 2, 1) := by decide +kernel
theorem c172_153 : mc_cd 172 153 = some (.bipush 8, 2) := by decide +kernel
theorem c172_155 : mc_cd 172 155 = some (.if_icmp .gt 126, 3) := by decide +kernel
theorem c172_158 : mc_cd 172 158 = some (.aload_n 0, 1) := by decide +kernel
theorem c172_159 : mc_cd 172 159 = some (.iconst 2, 1) := by decide +kernel
theorem c172_160 : mc_cd 172 160 = some (.putfield 75, 3) := by decide +kernel
theorem c172_163 : mc_cd 172 163 = some (.goto 118, 3) := by decide +kernel
theorem c172_166 : mc_cd 172 166 = some (.iload_n 1, 1) := by decide +kernel
theorem c172_167 : mc_cd 172 167 = some (.invokestatic 98, 3) := by decide +kernel
theorem c172_170 : mc_cd 172 170 = some (.ifCond .eq 79, 3) := by decide +kernel
theorem c172_173 : mc_cd 172 173 = some (.aload_n 0, 1) := by decide +kernel
theorem c172_174 : mc_cd 172 174 = some (.iconst 0, 1) := by decide +kernel
theorem c172_175 : mc_cd 172 175 = some (.putfield 101, 3) := by decide +kernel
theorem c172_178 : mc_cd 172 178 = some (.aload_n 0, 1) := by decide +kernel
theorem c172_179 : mc_cd 172 179 = some (.aload_n 0, 1) := by decide +kernel
theorem c172_180 : mc_cd 172 180 = some (.getfield 78, 3) := by decide +kernel
theorem c172_183 : mc_cd 172 183 = some (.invokevirtual 81, 3) := by decide +kernel
theorem c172_186 : mc_cd 172 186 = some (.invokestatic 98, 3) := by decide +kernel
theorem c172_189 : mc_cd 172 189 = some (.ifCond .eq 47, 3) := by decide +kernel
theorem c172_192 : mc_cd 172 192 = some (.iload_n 2, 1) := by decide +kernel
theorem c172_193 : mc_cd 172 193 = some (.iconst 3, 1) := by decide +kernel
theorem c172_194 : mc_cd 172 194 = some (.if_icmp .ge 26, 3) := by decide +kernel
theorem c172_197 : mc_cd 172 197 = some (.aload_n 0, 1) := by decide +kernel
theorem c172_198 : mc_cd 172 198 = some (.bipush 10, 2) := by decide +kernel
theorem c172_200 : mc_cd 172 200 = some (.aload_n 0, 1) := by decide +kernel
theorem c172_201 : mc_cd 172 201 = some (.getfield 101, 3) := by decide +kernel
theorem c172_204 : mc_cd 172 204 = some (.imul, 1) := by decide +kernel
theorem c172_205 : mc_cd 172 205 = some (.aload_n 0, 1) := by decide +kernel
theorem c172_206 : mc_cd 172 206 = some (.aload_n 0, 1) := by decide +kernel
theorem c172_207 : mc_cd 172 207 = some (.getfield 78, 3) := by decide +kernel
theorem c172_210 : mc_cd 172 210 = some (.invokevirtual 81, 3) := by decide +kernel
theorem c172_213 : mc_cd 172 213 = some (.iadd, 1) := by decide +kernel
theorem c172_214 : mc_cd 172 214 = some (.bipush 48, 2) := by decide +kernel
theorem c172_216 : mc_cd 172 216 = some (.isub, 1) := by decide +kernel
theorem c172_217 : mc_cd 172 217 = some (.putfield 101, 3) := by decide +kernel
theorem c172_220 : mc_cd 172 220 = some (.iinc 2 1, 3) := by decide +kernel
theorem c172_223 : mc_cd 172 223 = some (.aload_n 0, 1) := by decide +kernel
theorem c172_224 : mc_cd 172 224 = some (.dup, 1) := by decide +kernel
theorem c172_225 : mc_cd 172 225 = some (.getfield 78, 3) := by decide +kernel
theorem c172_228 : mc_cd 172 228 = some (.iconst 1, 1) := by decide +kernel
theorem c172_229 : mc_cd 172 229 = some (.iadd, 1) := by decide +kernel
theorem c172_230 : mc_cd 172 230 = some (.putfield 78, 3) := by decide +kernel
theorem c172_233 : mc_cd 172 233 = some (.goto (-55), 3) := by decide +kernel
theorem c172_236 : mc_cd 172 236 = some (.iload_n 2, 1) := by decide +kernel
theorem c172_237 : mc_cd 172 237 = some (.iconst 3, 1) := by decide +kernel
theorem c172_238 : mc_cd 172 238 = some (.if_icmp .gt 43, 3) := by decide +kernel
theorem c172_241 : mc_cd 172 241 = some (.aload_n 0, 1) := by decide +kernel
theorem c172_242 : mc_cd 172 242 = some (.iconst 3, 1) := by decide +kernel
theorem c172_243 : mc_cd 172 243 = some (.putfield 75, 3) := by decide +kernel
theorem c172_246 : mc_cd 172 246 = some (.goto 35, 3) := by decide +kernel
theorem c172_249 : mc_cd 172 249 = some (.iload_n 1, 1) := by decide +kernel
theorem c172_250 : mc_cd 172 250 = some (.bipush 59, 2) := by decide +kernel
theorem c172_252 : mc_cd 172 252 = some (.if_icmp .eq 9, 3) := by decide +kernel
theorem c172_255 : mc_cd 172 255 = some (.iload_n 1, 1) := by decide +kernel
theorem c172_256 : mc_cd 172 256 = some (.bipush 44, 2) := by decide +kernel
theorem c172_258 : mc_cd 172 258 = some (.if_icmp .ne 23, 3) := by decide +kernel
theorem c172_261 : mc_cd 172 261 = some (.aload_n 0, 1) := by decide +kernel
theorem c172_262 : mc_cd 172 262 = some (.iconst 4, 1) := by decide +kernel
theorem c172_263 : mc_cd 172 263 = some (.putfield 75, 3) := by decide +kernel
theorem c172_266 : mc_cd 172 266 = some (.aload_n 0, 1) := by decide +kernel
theorem c172_267 : mc_cd 172 267 = some (.iload_n 1, 1) := by decide +kernel
theorem c172_268 : mc_cd 172 268 = some (.putfield 87, 3) := by decide +kernel
theorem c172_271 : mc_cd 172 271 = some (.aload_n 0, 1) := by decide +kernel
theorem c172_272 : mc_cd 172 272 = some (.dup, 1) := by decide +kernel
theorem c172_273 : mc_cd 172 273 = some (.getfield 78, 3) := by decide +kernel
theorem c172_276 : mc_cd 172 276 = some (.iconst 1, 1) := by decide +kernel
theorem c172_277 : mc_cd 172 277 = some (.iadd, 1) := by decide +kernel
theorem c172_278 : mc_cd 172 278 = some (.putfield 78, 3) := by decide +kernel
theorem c172_281 : mc_cd 172 281 = some (.return_, 1) := by decide +kernel
abbrev q_172 (r0 : Nat) (T : wq_T) (H : wq_H) : Option Value → wq_T → wq_H → Prop := fun r T' H' => T = T' ∧ WT T H' ∧ wfr [(42, 8), (42, 9), (42, 10), (42, 11), (42, 12), (42, 15)] T H H' ∧ none = r ∧ (wJ H' r0 = 1) ∧ (H r0 10 ≤ H' r0 10) ∧ (wOV H r0 ≤ wOV H' r0) ∧ (wOV H' r0 ≤ 1) ∧ (H r0 9 = 5 ∨ H r0 8 ≤ H' r0 10) ∧ (H r0 9 = 5 ∨ H' r0 10 ≤ 900)
set_option maxHeartbeats 4000000 in
theorem s_172 {kt : Nat → Option mc_E} {T : wq_T} {H : wq_H} {r0 : Nat} (hW : WT T H) (g0 : T.2.2.2 r0 = some 42) (p0 : wJ H r0 = 1) : wpc kt 2 172 [.ref r0] T H (q_172 r0 T H) := by
  refine wp_enter e172 (Nat.le_of_ble_eq_true rfl) rfl ?_
  have f0 : wfr [(42, 8), (42, 9), (42, 10), (42, 11), (42, 12), (42, 15)] T H H := wfr.rf
  show wp _ _ 172 0 [(0, .ref r0)] [] _ H _
  have hb0 := wOV_b (H := H) (m := r0)
  have hj := wJ_1.mp p0
  have ho := wOV_e (H := H) (m := r0)
  refine wp_of e172 c172_0 (rw_aload_n (pc' := 1) (v := .ref r0) rfl rfl rfl ?_)
  refine wp_of e172 c172_1 (xg_I (pc' := 4) lf_9_75 hW g0 sh_42 (by decide) (by decide) ty_42_9 rfl rfl (fun b83535 b83536 => ?_))
  have k83537 := wOV_e (H := H) (m := r0)
  refine wp_of e172 c172_4 (rw_iconst (pc' := 5) rfl ?_)
  refine wp_of e172 c172_5 (rw_icmp_ne (p1 := 9) (p2 := 8) (by decide) rfl ⟨by omega, by omega⟩ ⟨by omega, by omega⟩ (fun c83538 => ?_) (fun c83538 => ?_))
  · have lp83580 : ∀ (n83581 : Nat)  (H83583 : wq_H), WT T H83583 → wfr [(42, 8)] T H H83583 → (H r0 8 ≤ H83583 r0 8) → (900 - H83583 r0 8).toNat = n83581 → wp kt 1 172 9 [(0, .ref r0)] [] T H83583 (q_172 r0 T H) := by
      intro n83581
      induction n83581 using Nat.strongRecOn with
      | _ n83581 ih83582 =>
        intro H83583 w83584 f83585 x83586 m83587
        have f83588 := f0.tr f83585 rfl
        refine wp_of e172 c172_9 (rw_aload_n (pc' := 10) (v := .ref r0) rfl rfl rfl ?_)
        refine wp_of e172 c172_10 (rw_aload_n (pc' := 11) (v := .ref r0) rfl rfl rfl ?_)
        refine wp_of e172 c172_11 (xg_I (pc' := 14) lf_9_78 w83584 g0 sh_42 (by decide) (by decide) ty_42_8 rfl rfl (fun b83589 b83590 => ?_))
        refine wp_of e172 c172_14 (xc_V (pc' := 17) (r := r0) (as := [vI (H83583 r0 8)]) (st := []) (lm_9_81) rfl rfl (Nat.le_of_ble_eq_true rfl) w83584 g0 sh_42 (by decide) rfl (by decide) (s_173 w83584 g0 ⟨by omega, by omega⟩) (fun R83591 T83592 H83593 p83594 => ?_))
        obtain ⟨e83595, e83597, z83599, e83596, b83600, p83598⟩ := p83594
        subst e83595
        subst e83596
        subst e83597
        show wp _ _ 172 17 [(0, .ref r0)] [vI z83599] _ H83583 _
        refine wp_of e172 c172_17 (rw_bipush (pc' := 19) (z := 32) rfl (by decide) ?_)
        refine wp_of e172 c172_19 (rw_icmp_ne (p1 := 35) (p2 := 22) (by decide) rfl ⟨by omega, by omega⟩ ⟨by omega, by omega⟩ (fun c83601 => ?_) (fun c83601 => ?_))
        · refine wp_of e172 c172_35 (rw_aload_n (pc' := 36) (v := .ref r0) rfl rfl rfl ?_)
          refine wp_of e172 c172_36 (rw_aload_n (pc' := 37) (v := .ref r0) rfl rfl rfl ?_)
          refine wp_of e172 c172_37 (xg_I (pc' := 40) lf_9_78 w83584 g0 sh_42 (by decide) (by decide) ty_42_8 rfl rfl (fun b83602 b83603 => ?_))
          refine wp_of e172 c172_40 (xp_I (pc' := 43) lf_9_84 w83584 g0 sh_42 (by decide) (by decide) ty_42_10 rfl rfl (by omega) (by omega) ⟨by omega, by omega⟩ rfl (fun H83604 e83605 w83606 => ?_))
          have f83607 := f83588.put' e83605 g0 rfl
          have k83608 : H83604 r0 10 = H83583 r0 8 := wq_u_s e83605
          refine wp_of e172 c172_43 (rw_aload_n (pc' := 44) (v := .ref r0) rfl rfl rfl ?_)
          refine wp_of e172 c172_44 (rw_iconst (pc' := 45) rfl ?_)
          refine wp_of e172 c172_45 (xp_I (pc' := 48) lf_9_75 w83606 g0 sh_42 (by decide) (by decide) ty_42_9 rfl rfl (by omega) (by omega) ⟨by omega, by omega⟩ rfl (fun H83609 e83610 w83611 => ?_))
          have f83612 := f83607.put' e83610 g0 rfl
          have k83613 : H83609 r0 9 = 0 := wq_u_s e83610
          refine wp_of e172 c172_48 (rw_aload_n (pc' := 49) (v := .ref r0) rfl rfl rfl ?_)
          refine wp_of e172 c172_49 (rw_iconst (pc' := 50) rfl ?_)
          refine wp_of e172 c172_50 (xp_I (pc' := 53) lf_9_87 w83611 g0 sh_42 (by decide) (by decide) ty_42_11 rfl rfl (by omega) (by omega) ⟨by omega, by omega⟩ rfl (fun H83614 e83615 w83616 => ?_))
          have f83617 := f83612.put' e83615 g0 rfl
          have k83618 : H83614 r0 11 = 0 := wq_u_s e83615
          refine wp_of e172 c172_53 (rw_aload_n (pc' := 54) (v := .ref r0) rfl rfl rfl ?_)
          refine wp_of e172 c172_54 (rw_aload_n (pc' := 55) (v := .ref r0) rfl rfl rfl ?_)
          have k83619 : H83614 r0 8 = H83583 r0 8 := ((wq_u_j e83615 rfl).trans ((wq_u_j e83610 rfl).trans (wq_u_j e83605 rfl)))
          refine wp_of e172 c172_55 (xg_I (pc' := 58) lf_9_78 w83616 g0 sh_42 (by decide) (by decide) ty_42_8 rfl rfl (fun b83620 b83621 => ?_))
          refine wp_of e172 c172_58 (xc_V (pc' := 61) (r := r0) (as := [vI (H83614 r0 8)]) (st := []) (lm_9_81) rfl rfl (Nat.le_of_ble_eq_true rfl) w83616 g0 sh_42 (by decide) rfl (by decide) (s_173 w83616 g0 ⟨by omega, by omega⟩) (fun R83622 T83623 H83624 p83625 => ?_))
          obtain ⟨e83626, e83628, z83630, e83627, b83631, p83629⟩ := p83625
          subst e83626
          subst e83627
          subst e83628
          show wp _ _ 172 61 [(0, .ref r0)] [vI z83630] _ H83614 _
          refine wp_of e172 c172_61 (rw_istore_n (pc' := 62) (z := z83630) (L' := [(1, vI z83630), (0, .ref r0)]) rfl rfl rfl ?_)
          refine wp_of e172 c172_62 (rw_iconst (pc' := 63) rfl ?_)
          refine wp_of e172 c172_63 (rw_istore_n (pc' := 64) (z := 0) (L' := [(2, vI 0), (1, vI z83630), (0, .ref r0)]) rfl rfl rfl ?_)
          refine wp_of e172 c172_64 (rw_iload_n (pc' := 65) (z := z83630) rfl rfl ?_)
          refine wp_of e172 c172_65 (rw_iconst (pc' := 66) rfl ?_)
          refine wp_of e172 c172_66 (rw_icmp_ne (p1 := 77) (p2 := 69) (by decide) rfl ⟨by omega, by omega⟩ ⟨by omega, by omega⟩ (fun c83632 => ?_) (fun c83632 => ?_))
          · refine wp_of e172 c172_77 (rw_iload_n (pc' := 78) (z := z83630) rfl rfl ?_)
            refine wp_of e172 c172_78 (xc_S (pc' := 81) (as := [vI z83630]) (st := []) (lm_9_90) rfl rfl (Nat.le_of_ble_eq_true rfl) rfl (by decide) (s_174 w83616 ⟨by omega, by omega⟩) (fun R83633 T83634 H83635 p83636 => ?_))
            obtain ⟨e83637, e83639, z83641, e83638, b83642, p83640⟩ := p83636
            subst e83637
            subst e83638
            subst e83639
            show wp _ _ 172 81 [(2, vI 0), (1, vI z83630), (0, .ref r0)] [vI z83641] _ H83614 _
            refine wp_of e172 c172_81 (rw_if_eq (p1 := 166) (p2 := 84) (by decide) rfl ⟨by omega, by omega⟩ (fun c83643 => ?_) (fun c83643 => ?_))
            · refine wp_of e172 c172_166 (rw_iload_n (pc' := 167) (z := z83630) rfl rfl ?_)
              refine wp_of e172 c172_167 (xc_S (pc' := 170) (as := [vI z83630]) (st := []) (lm_9_98) rfl rfl (Nat.le_of_ble_eq_true rfl) rfl (by decide) (s_175 w83616 ⟨by omega, by omega⟩) (fun R83644 T83645 H83646 p83647 => ?_))
              obtain ⟨e83648, e83650, z83652, e83649, b83653, p83651⟩ := p83647
              subst e83648
              subst e83649
              subst e83650
              show wp _ _ 172 170 [(2, vI 0), (1, vI z83630), (0, .ref r0)] [vI z83652] _ H83614 _
              refine wp_of e172 c172_170 (rw_if_eq (p1 := 249) (p2 := 173) (by decide) rfl ⟨by omega, by omega⟩ (fun c83654 => ?_) (fun c83654 => ?_))
              · refine wp_of e172 c172_249 (rw_iload_n (pc' := 250) (z := z83630) rfl rfl ?_)
                refine wp_of e172 c172_250 (rw_bipush (pc' := 252) (z := 59) rfl (by decide) ?_)
                refine wp_of e172 c172_252 (rw_icmp_eq (p1 := 261) (p2 := 255) (by decide) rfl ⟨by omega, by omega⟩ ⟨by omega, by omega⟩ (fun c83655 => ?_) (fun c83655 => ?_))
                · refine wp_of e172 c172_261 (rw_aload_n (pc' := 262) (v := .ref r0) rfl rfl rfl ?_)
                  refine wp_of e172 c172_262 (rw_iconst (pc' := 263) rfl ?_)
                  refine wp_of e172 c172_263 (xp_I (pc' := 266) lf_9_75 w83616 g0 sh_42 (by decide) (by decide) ty_42_9 rfl rfl (by omega) (by omega) ⟨by omega, by omega⟩ rfl (fun H83656 e83657 w83658 => ?_))
                  have f83659 := f83617.put' e83657 g0 rfl
                  have k83660 : H83656 r0 9 = 4 := wq_u_s e83657
                  refine wp_of e172 c172_266 (rw_aload_n (pc' := 267) (v := .ref r0) rfl rfl rfl ?_)
                  refine wp_of e172 c172_267 (rw_iload_n (pc' := 268) (z := z83630) rfl rfl ?_)
                  refine wp_of e172 c172_268 (xp_I (pc' := 271) lf_9_87 w83658 g0 sh_42 (by decide) (by decide) ty_42_11 rfl rfl (by omega) (by omega) ⟨by omega, by omega⟩ rfl (fun H83661 e83662 w83663 => ?_))
                  have f83664 := f83659.put' e83662 g0 rfl
                  have k83665 : H83661 r0 11 = z83630 := wq_u_s e83662
                  refine wp_of e172 c172_271 (rw_aload_n (pc' := 272) (v := .ref r0) rfl rfl rfl ?_)
                  refine wp_of e172 c172_272 (rw_dup (pc' := 273) rfl rfl ?_)
                  have k83666 : H83661 r0 8 = H83614 r0 8 := ((wq_u_j e83662 rfl).trans (wq_u_j e83657 rfl))
                  refine wp_of e172 c172_273 (xg_I (pc' := 276) lf_9_78 w83663 g0 sh_42 (by decide) (by decide) ty_42_8 rfl rfl (fun b83667 b83668 => ?_))
                  refine wp_of e172 c172_276 (rw_iconst (pc' := 277) rfl ?_)
                  refine wp_of e172 c172_277 (rw_iadd (pc' := 278) rfl ?_)
                  refine wp_of e172 c172_278 (xp_I (pc' := 281) lf_9_78 w83663 g0 sh_42 (by decide) (by decide) ty_42_8 rfl rfl (by omega) (by omega) ⟨by omega, by omega⟩ rfl (fun H83669 e83670 w83671 => ?_))
                  have f83672 := f83664.put' e83670 g0 rfl
                  have k83673 : H83669 r0 8 = (H83661 r0 8) + 1 := wq_u_s e83670
                  have k83674 : H83669 r0 9 = H83656 r0 9 := ((wq_u_j e83670 rfl).trans (wq_u_j e83662 rfl))
                  have k83675 : H83669 r0 10 = H83604 r0 10 := ((wq_u_j e83670 rfl).trans ((wq_u_j e83662 rfl).trans ((wq_u_j e83657 rfl).trans ((wq_u_j e83615 rfl).trans (wq_u_j e83610 rfl)))))
                  have k83676 := wOV_e (H := H83669) (m := r0)
                  have k83677 : wJ H83669 r0 = 1 := wJ_1.mpr ⟨by omega, by omega⟩
                  exact wp_return e172 c172_281 rfl ⟨rfl, w83671, f83672, rfl, by omega, by omega, by omega, by omega, by omega, by omega⟩
                · refine wp_of e172 c172_255 (rw_iload_n (pc' := 256) (z := z83630) rfl rfl ?_)
                  refine wp_of e172 c172_256 (rw_bipush (pc' := 258) (z := 44) rfl (by decide) ?_)
                  refine wp_of e172 c172_258 (rw_icmp_ne (p1 := 281) (p2 := 261) (by decide) rfl ⟨by omega, by omega⟩ ⟨by omega, by omega⟩ (fun c83678 => ?_) (fun c83678 => ?_))
                  · have k83679 : H83614 r0 9 = H83609 r0 9 := (wq_u_j e83615 rfl)
                    have k83680 : H83614 r0 10 = H83604 r0 10 := ((wq_u_j e83615 rfl).trans (wq_u_j e83610 rfl))
                    have k83681 := wOV_e (H := H83614) (m := r0)
                    have k83682 : wJ H83614 r0 = 1 := wJ_1.mpr ⟨by omega, by omega⟩
                    exact wp_return e172 c172_281 rfl ⟨rfl, w83616, f83617, rfl, by omega, by omega, by omega, by omega, by omega, by omega⟩
                  · refine wp_of e172 c172_261 (rw_aload_n (pc' := 262) (v := .ref r0) rfl rfl rfl ?_)
                    refine wp_of e172 c172_262 (rw_iconst (pc' := 263) rfl ?_)
                    refine wp_of e172 c172_263 (xp_I (pc' := 266) lf_9_75 w83616 g0 sh_42 (by decide) (by decide) ty_42_9 rfl rfl (by omega) (by omega) ⟨by omega, by omega⟩ rfl (fun H83683 e83684 w83685 => ?_))
                    have f83686 := f83617.put' e83684 g0 rfl
                    have k83687 : H83683 r0 9 = 4 := wq_u_s e83684
                    refine wp_of e172 c172_266 (rw_aload_n (pc' := 267) (v := .ref r0) rfl rfl rfl ?_)
                    refine wp_of e172 c172_267 (rw_iload_n (pc' := 268) (z := z83630) rfl rfl ?_)
                    refine wp_of e172 c172_268 (xp_I (pc' := 271) lf_9_87 w83685 g0 sh_42 (by decide) (by decide) ty_42_11 rfl rfl (by omega) (by omega) ⟨by omega, by omega⟩ rfl (fun H83688 e83689 w83690 => ?_))
                    have f83691 := f83686.put' e83689 g0 rfl
                    have k83692 : H83688 r0 11 = z83630 := wq_u_s e83689
                    refine wp_of e172 c172_271 (rw_aload_n (pc' := 272) (v := .ref r0) rfl rfl rfl ?_)
                    refine wp_of e172 c172_272 (rw_dup (pc' := 273) rfl rfl ?_)
                    have k83693 : H83688 r0 8 = H83614 r0 8 := ((wq_u_j e83689 rfl).trans (wq_u_j e83684 rfl))
                    refine wp_of e172 c172_273 (xg_I (pc' := 276) lf_9_78 w83690 g0 sh_42 (by decide) (by decide) ty_42_8 rfl rfl (fun b83694 b83695 => ?_))
                    refine wp_of e172 c172_276 (rw_iconst (pc' := 277) rfl ?_)
                    refine wp_of e172 c172_277 (rw_iadd (pc' := 278) rfl ?_)
                    refine wp_of e172 c172_278 (xp_I (pc' := 281) lf_9_78 w83690 g0 sh_42 (by decide) (by decide) ty_42_8 rfl rfl (by omega) (by omega) ⟨by omega, by omega⟩ rfl (fun H83696 e83697 w83698 => ?_))
                    have f83699 := f83691.put' e83697 g0 rfl
                    have k83700 : H83696 r0 8 = (H83688 r0 8) + 1 := wq_u_s e83697
                    have k83701 : H83696 r0 9 = H83683 r0 9 := ((wq_u_j e83697 rfl).trans (wq_u_j e83689 rfl))
                    have k83702 : H83696 r0 10 = H83604 r0 10 := ((wq_u_j e83697 rfl).trans ((wq_u_j e83689 rfl).trans ((wq_u_j e83684 rfl).trans ((wq_u_j e83615 rfl).trans (wq_u_j e83610 rfl)))))
                    have k83703 := wOV_e (H := H83696) (m := r0)
                    have k83704 : wJ H83696 r0 = 1 := wJ_1.mpr ⟨by omega, by omega⟩
                    exact wp_return e172 c172_281 rfl ⟨rfl, w83698, f83699, rfl, by omega, by omega, by omega, by omega, by omega, by omega⟩
              · refine wp_of e172 c172_173 (rw_aload_n (pc' := 174) (v := .ref r0) rfl rfl rfl ?_)
                refine wp_of e172 c172_174 (rw_iconst (pc' := 175) rfl ?_)
                refine wp_of e172 c172_175 (xp_I (pc' := 178) lf_9_101 w83616 g0 sh_42 (by decide) (by decide) ty_42_12 rfl rfl (by omega) (by omega) ⟨by omega, by omega⟩ rfl (fun H83705 e83706 w83707 => ?_))
                have f83708 := f83617.put' e83706 g0 rfl
                have k83709 : H83705 r0 12 = 0 := wq_u_s e83706
                have k84202 : H83705 r0 8 = H83614 r0 8 := (wq_u_j e83706 rfl)
                have lp84197 : ∀ (n84198 : Nat) (v84200 : Int) (H84201 : wq_H), WT T H84201 → wfr [(42, 8), (42, 12)] T H83705 H84201 → (0 ≤ v84200 ∧ v84200 ≤ 900) → (H83705 r0 8 ≤ H84201 r0 8) → (v84200 ≤ H84201 r0 8 - H83705 r0 8) → (900 - H84201 r0 8).toNat = n84198 → wp kt 1 172 178 [(2, vI v84200), (0, .ref r0)] [] T H84201 (q_172 r0 T H) := by
                  intro n84198
                  induction n84198 using Nat.strongRecOn with
                  | _ n84198 ih84199 =>
                    intro v84200 H84201 w84203 f84204 b84205 x84206 x84207 m84208
                    have f84209 := f83708.tr f84204 rfl
                    refine wp_of e172 c172_178 (rw_aload_n (pc' := 179) (v := .ref r0) rfl rfl rfl ?_)
                    refine wp_of e172 c172_179 (rw_aload_n (pc' := 180) (v := .ref r0) rfl rfl rfl ?_)
                    refine wp_of e172 c172_180 (xg_I (pc' := 183) lf_9_78 w84203 g0 sh_42 (by decide) (by decide) ty_42_8 rfl rfl (fun b84210 b84211 => ?_))
                    refine wp_of e172 c172_183 (xc_V (pc' := 186) (r := r0) (as := [vI (H84201 r0 8)]) (st := []) (lm_9_81) rfl rfl (Nat.le_of_ble_eq_true rfl) w84203 g0 sh_42 (by decide) rfl (by decide) (s_173 w84203 g0 ⟨by omega, by omega⟩) (fun R84212 T84213 H84214 p84215 => ?_))
                    obtain ⟨e84216, e84218, z84220, e84217, b84221, p84219⟩ := p84215
                    subst e84216
                    subst e84217
                    subst e84218
                    show wp _ _ 172 186 [(2, vI v84200), (0, .ref r0)] [vI z84220] _ H84201 _
                    refine wp_of e172 c172_186 (xc_S (pc' := 189) (as := [vI z84220]) (st := []) (lm_9_98) rfl rfl (Nat.le_of_ble_eq_true rfl) rfl (by decide) (s_175 w84203 ⟨by omega, by omega⟩) (fun R84222 T84223 H84224 p84225 => ?_))
                    obtain ⟨e84226, e84228, z84230, e84227, b84231, p84229⟩ := p84225
                    subst e84226
                    subst e84227
                    subst e84228
                    show wp _ _ 172 189 [(2, vI v84200), (0, .ref r0)] [vI z84230] _ H84201 _
                    refine wp_of e172 c172_189 (rw_if_eq (p1 := 236) (p2 := 192) (by decide) rfl ⟨by omega, by omega⟩ (fun c84232 => ?_) (fun c84232 => ?_))
                    · refine wp_of e172 c172_236 (rw_iload_n (pc' := 237) (z := v84200) rfl rfl ?_)
                      refine wp_of e172 c172_237 (rw_iconst (pc' := 238) rfl ?_)
                      refine wp_of e172 c172_238 (rw_icmp_gt (p1 := 281) (p2 := 241) (by decide) rfl ⟨by omega, by omega⟩ ⟨by omega, by omega⟩ (fun c84233 => ?_) (fun c84233 => ?_))
                      · have k84234 : H84201 r0 9 = H83609 r0 9 := ((f84204 r0 9 _ g0 rfl).trans ((wq_u_j e83706 rfl).trans (wq_u_j e83615 rfl)))
                        have k84235 : H84201 r0 10 = H83604 r0 10 := ((f84204 r0 10 _ g0 rfl).trans ((wq_u_j e83706 rfl).trans ((wq_u_j e83615 rfl).trans (wq_u_j e83610 rfl))))
                        have k84236 := wOV_e (H := H84201) (m := r0)
                        have k84237 : wJ H84201 r0 = 1 := wJ_1.mpr ⟨by omega, by omega⟩
                        exact wp_return e172 c172_281 rfl ⟨rfl, w84203, f84209, rfl, by omega, by omega, by omega, by omega, by omega, by omega⟩
                      · refine wp_of e172 c172_241 (rw_aload_n (pc' := 242) (v := .ref r0) rfl rfl rfl ?_)
                        refine wp_of e172 c172_242 (rw_iconst (pc' := 243) rfl ?_)
                        refine wp_of e172 c172_243 (xp_I (pc' := 246) lf_9_75 w84203 g0 sh_42 (by decide) (by decide) ty_42_9 rfl rfl (by omega) (by omega) ⟨by omega, by omega⟩ rfl (fun H84238 e84239 w84240 => ?_))
                        have f84241 := f84209.put' e84239 g0 rfl
                        have k84242 : H84238 r0 9 = 3 := wq_u_s e84239
                        refine wp_of e172 c172_246 (rw_goto (p1 := 281) (by decide) ?_)
                        have k84243 : H84238 r0 8 = H84201 r0 8 := (wq_u_j e84239 rfl)
                        have k84244 : H84238 r0 10 = H83604 r0 10 := ((wq_u_j e84239 rfl).trans ((f84204 r0 10 _ g0 rfl).trans ((wq_u_j e83706 rfl).trans ((wq_u_j e83615 rfl).trans (wq_u_j e83610 rfl)))))
                        have k84245 := wOV_e (H := H84238) (m := r0)
                        have k84246 : wJ H84238 r0 = 1 := wJ_1.mpr ⟨by omega, by omega⟩
                        exact wp_return e172 c172_281 rfl ⟨rfl, w84240, f84241, rfl, by omega, by omega, by omega, by omega, by omega, by omega⟩
                    · refine wp_of e172 c172_192 (rw_iload_n (pc' := 193) (z := v84200) rfl rfl ?_)
                      refine wp_of e172 c172_193 (rw_iconst (pc' := 194) rfl ?_)
                      refine wp_of e172 c172_194 (rw_icmp_ge (p1 := 220) (p2 := 197) (by decide) rfl ⟨by omega, by omega⟩ ⟨by omega, by omega⟩ (fun c84247 => ?_) (fun c84247 => ?_))
                      · refine wp_of e172 c172_220 (rw_iinc (pc' := 223) (z := v84200) (L' := [(2, vI (v84200 + 1)), (0, .ref r0)]) rfl rfl rfl rfl ?_)
                        refine wp_of e172 c172_223 (rw_aload_n (pc' := 224) (v := .ref r0) rfl rfl rfl ?_)
                        refine wp_of e172 c172_224 (rw_dup (pc' := 225) rfl rfl ?_)
                        refine wp_of e172 c172_225 (xg_I (pc' := 228) lf_9_78 w84203 g0 sh_42 (by decide) (by decide) ty_42_8 rfl rfl (fun b84248 b84249 => ?_))
                        refine wp_of e172 c172_228 (rw_iconst (pc' := 229) rfl ?_)
                        refine wp_of e172 c172_229 (rw_iadd (pc' := 230) rfl ?_)
                        refine wp_of e172 c172_230 (xp_I (pc' := 233) lf_9_78 w84203 g0 sh_42 (by decide) (by decide) ty_42_8 rfl rfl (by omega) (by omega) ⟨by omega, by omega⟩ rfl (fun H84250 e84251 w84252 => ?_))
                        have f84253 := f84209.put' e84251 g0 rfl
                        have f84254 := f84204.put' e84251 g0 rfl
                        have k84255 : H84250 r0 8 = (H84201 r0 8) + 1 := wq_u_s e84251
                        refine wp_of e172 c172_233 (rw_goto (p1 := 178) (by decide) ?_)
                        exact wp_lc (ks := [2, 0]) (wl_c rfl (wl_c rfl wl_n)) rfl (by decide) (ih84199 _ (by omega) (v84200 + 1) H84250 w84252 f84254 ⟨by omega, by omega⟩ (by omega) (by omega) rfl)
                      · refine wp_of e172 c172_197 (rw_aload_n (pc' := 198) (v := .ref r0) rfl rfl rfl ?_)
                        refine wp_of e172 c172_198 (rw_bipush (pc' := 200) (z := 10) rfl (by decide) ?_)
                        refine wp_of e172 c172_200 (rw_aload_n (pc' := 201) (v := .ref r0) rfl rfl rfl ?_)
                        refine wp_of e172 c172_201 (xg_I (pc' := 204) lf_9_101 w84203 g0 sh_42 (by decide) (by decide) ty_42_12 rfl rfl (fun b84256 b84257 => ?_))
                        refine wp_of e172 c172_204 (rw_imulw (pc' := 205) rfl ?_)
                        obtain ⟨v84258, e84259⟩ : ∃ x : Int, x = wq_w (10 * (H84201 r0 12)) := ⟨_, rfl⟩
                        rw [← e84259]
                        have b84260 : -2147483648 ≤ v84258 ∧ v84258 ≤ 2147483647 := by
                          rw [e84259]
                          exact wI_w _
                        refine wp_of e172 c172_205 (rw_aload_n (pc' := 206) (v := .ref r0) rfl rfl rfl ?_)
                        refine wp_of e172 c172_206 (rw_aload_n (pc' := 207) (v := .ref r0) rfl rfl rfl ?_)
                        refine wp_of e172 c172_207 (xg_I (pc' := 210) lf_9_78 w84203 g0 sh_42 (by decide) (by decide) ty_42_8 rfl rfl (fun b84261 b84262 => ?_))
                        refine wp_of e172 c172_210 (xc_V (pc' := 213) (r := r0) (as := [vI (H84201 r0 8)]) (st := [vI v84258, .ref r0]) (lm_9_81) rfl rfl (Nat.le_of_ble_eq_true rfl) w84203 g0 sh_42 (by decide) rfl (by decide) (s_173 w84203 g0 ⟨by omega, by omega⟩) (fun R84263 T84264 H84265 p84266 => ?_))
                        obtain ⟨e84267, e84269, z84271, e84268, b84272, p84270⟩ := p84266
                        subst e84267
                        subst e84268
                        subst e84269
                        show wp _ _ 172 213 [(2, vI v84200), (0, .ref r0)] [vI z84271, vI v84258, .ref r0] _ H84201 _
                        refine wp_of e172 c172_213 (rw_iaddw (pc' := 214) rfl ?_)
                        obtain ⟨v84273, e84274⟩ : ∃ x : Int, x = wq_w (v84258 + z84271) := ⟨_, rfl⟩
                        rw [← e84274]
                        have b84275 : -2147483648 ≤ v84273 ∧ v84273 ≤ 2147483647 := by
                          rw [e84274]
                          exact wI_w _
                        refine wp_of e172 c172_214 (rw_bipush (pc' := 216) (z := 48) rfl (by decide) ?_)
                        refine wp_of e172 c172_216 (rw_isubw (pc' := 217) rfl ?_)
                        obtain ⟨v84276, e84277⟩ : ∃ x : Int, x = wq_w (v84273 - 48) := ⟨_, rfl⟩
                        rw [← e84277]
                        have b84278 : -2147483648 ≤ v84276 ∧ v84276 ≤ 2147483647 := by
                          rw [e84277]
                          exact wI_w _
                        refine wp_of e172 c172_217 (xp_I (pc' := 220) lf_9_101 w84203 g0 sh_42 (by decide) (by decide) ty_42_12 rfl rfl (by omega) (by omega) ⟨by omega, by omega⟩ rfl (fun H84279 e84280 w84281 => ?_))
                        have f84282 := f84209.put' e84280 g0 rfl
                        have f84283 := f84204.put' e84280 g0 rfl
                        have k84284 : H84279 r0 12 = v84276 := wq_u_s e84280
                        refine wp_of e172 c172_220 (rw_iinc (pc' := 223) (z := v84200) (L' := [(2, vI (v84200 + 1)), (0, .ref r0)]) rfl rfl rfl rfl ?_)
                        refine wp_of e172 c172_223 (rw_aload_n (pc' := 224) (v := .ref r0) rfl rfl rfl ?_)
                        refine wp_of e172 c172_224 (rw_dup (pc' := 225) rfl rfl ?_)
                        have k84285 : H84279 r0 8 = H84201 r0 8 := (wq_u_j e84280 rfl)
                        refine wp_of e172 c172_225 (xg_I (pc' := 228) lf_9_78 w84281 g0 sh_42 (by decide) (by decide) ty_42_8 rfl rfl (fun b84286 b84287 => ?_))
                        refine wp_of e172 c172_228 (rw_iconst (pc' := 229) rfl ?_)
                        refine wp_of e172 c172_229 (rw_iadd (pc' := 230) rfl ?_)
                        refine wp_of e172 c172_230 (xp_I (pc' := 233) lf_9_78 w84281 g0 sh_42 (by decide) (by decide) ty_42_8 rfl rfl (by omega) (by omega) ⟨by omega, by omega⟩ rfl (fun H84288 e84289 w84290 => ?_))
                        have f84291 := f84282.put' e84289 g0 rfl
                        have f84292 := f84283.put' e84289 g0 rfl
                        have k84293 : H84288 r0 8 = (H84279 r0 8) + 1 := wq_u_s e84289
                        refine wp_of e172 c172_233 (rw_goto (p1 := 178) (by decide) ?_)
                        exact wp_lc (ks := [2, 0]) (wl_c rfl (wl_c rfl wl_n)) rfl (by decide) (ih84199 _ (by omega) (v84200 + 1) H84288 w84290 f84292 ⟨by omega, by omega⟩ (by omega) (by omega) rfl)
                exact wp_lc (ks := [2, 1, 0]) (wl_c rfl (wl_c rfl wl_n)) rfl (by decide) (lp84197 _ 0 H83705 w83707 wfr.rf ⟨by omega, by omega⟩ (by omega) (by omega) rfl)
            · refine wp_of e172 c172_84 (rw_aload_n (pc' := 85) (v := .ref r0) rfl rfl rfl ?_)
              refine wp_of e172 c172_85 (rw_lconst (pc' := 86) (z := 0) rfl rfl ?_)
              refine wp_of e172 c172_86 (xp_L (pc' := 89) lf_9_94 w83616 g0 sh_42 (by decide) (by decide) ty_42_15 rfl rfl (by omega) (by omega) ⟨by omega, by omega⟩ rfl (fun H84294 e84295 w84296 => ?_))
              have f84297 := f83617.put' e84295 g0 rfl
              have k84298 : H84294 r0 15 = 0 := wq_u_s e84295
              have k84749 : H84294 r0 8 = H83614 r0 8 := (wq_u_j e84295 rfl)
              have lp84744 : ∀ (n84745 : Nat) (v84747 : Int) (H84748 : wq_H), WT T H84748 → wfr [(42, 8), (42, 15)] T H84294 H84748 → (0 ≤ v84747 ∧ v84747 ≤ 900) → (H84294 r0 8 ≤ H84748 r0 8) → (v84747 ≤ H84748 r0 8 - H84294 r0 8) → (900 - H84748 r0 8).toNat = n84745 → wp kt 1 172 89 [(2, vI v84747), (0, .ref r0)] [] T H84748 (q_172 r0 T H) := by
                intro n84745
                induction n84745 using Nat.strongRecOn with
                | _ n84745 ih84746 =>
                  intro v84747 H84748 w84750 f84751 b84752 x84753 x84754 m84755
                  have f84756 := f84297.tr f84751 rfl
                  refine wp_of e172 c172_89 (rw_aload_n (pc' := 90) (v := .ref r0) rfl rfl rfl ?_)
                  refine wp_of e172 c172_90 (rw_aload_n (pc' := 91) (v := .ref r0) rfl rfl rfl ?_)
                  refine wp_of e172 c172_91 (xg_I (pc' := 94) lf_9_78 w84750 g0 sh_42 (by decide) (by decide) ty_42_8 rfl rfl (fun b84757 b84758 => ?_))
                  refine wp_of e172 c172_94 (xc_V (pc' := 97) (r := r0) (as := [vI (H84748 r0 8)]) (st := []) (lm_9_81) rfl rfl (Nat.le_of_ble_eq_true rfl) w84750 g0 sh_42 (by decide) rfl (by decide) (s_173 w84750 g0 ⟨by omega, by omega⟩) (fun R84759 T84760 H84761 p84762 => ?_))
                  obtain ⟨e84763, e84765, z84767, e84764, b84768, p84766⟩ := p84762
                  subst e84763
                  subst e84764
                  subst e84765
                  show wp _ _ 172 97 [(2, vI v84747), (0, .ref r0)] [vI z84767] _ H84748 _
                  refine wp_of e172 c172_97 (xc_S (pc' := 100) (as := [vI z84767]) (st := []) (lm_9_90) rfl rfl (Nat.le_of_ble_eq_true rfl) rfl (by decide) (s_174 w84750 ⟨by omega, by omega⟩) (fun R84769 T84770 H84771 p84772 => ?_))
                  obtain ⟨e84773, e84775, z84777, e84774, b84778, p84776⟩ := p84772
                  subst e84773
                  subst e84774
                  subst e84775
                  show wp _ _ 172 100 [(2, vI v84747), (0, .ref r0)] [vI z84777] _ H84748 _
                  refine wp_of e172 c172_100 (rw_if_eq (p1 := 152) (p2 := 103) (by decide) rfl ⟨by omega, by omega⟩ (fun c84779 => ?_) (fun c84779 => ?_))
                  · refine wp_of e172 c172_152 (rw_iload_n (pc' := 153) (z := v84747) rfl rfl ?_)
                    refine wp_of e172 c172_153 (rw_bipush (pc' := 155) (z := 8) rfl (by decide) ?_)
                    refine wp_of e172 c172_155 (rw_icmp_gt (p1 := 281) (p2 := 158) (by decide) rfl ⟨by omega, by omega⟩ ⟨by omega, by omega⟩ (fun c84780 => ?_) (fun c84780 => ?_))
                    · have k84781 : H84748 r0 9 = H83609 r0 9 := ((f84751 r0 9 _ g0 rfl).trans ((wq_u_j e84295 rfl).trans (wq_u_j e83615 rfl)))
                      have k84782 : H84748 r0 10 = H83604 r0 10 := ((f84751 r0 10 _ g0 rfl).trans ((wq_u_j e84295 rfl).trans ((wq_u_j e83615 rfl).trans (wq_u_j e83610 rfl))))
                      have k84783 := wOV_e (H := H84748) (m := r0)
                      have k84784 : wJ H84748 r0 = 1 := wJ_1.mpr ⟨by omega, by omega⟩
                      exact wp_return e172 c172_281 rfl ⟨rfl, w84750, f84756, rfl, by omega, by omega, by omega, by omega, by omega, by omega⟩
                    · refine wp_of e172 c172_158 (rw_aload_n (pc' := 159) (v := .ref r0) rfl rfl rfl ?_)
                      refine wp_of e172 c172_159 (rw_iconst (pc' := 160) rfl ?_)
                      refine wp_of e172 c172_160 (xp_I (pc' := 163) lf_9_75 w84750 g0 sh_42 (by decide) (by decide) ty_42_9 rfl rfl (by omega) (by omega) ⟨by omega, by omega⟩ rfl (fun H84785 e84786 w84787 => ?_))
                      have f84788 := f84756.put' e84786 g0 rfl
                      have k84789 : H84785 r0 9 = 2 := wq_u_s e84786
                      refine wp_of e172 c172_163 (rw_goto (p1 := 281) (by decide) ?_)
                      have k84790 : H84785 r0 8 = H84748 r0 8 := (wq_u_j e84786 rfl)
                      have k84791 : H84785 r0 10 = H83604 r0 10 := ((wq_u_j e84786 rfl).trans ((f84751 r0 10 _ g0 rfl).trans ((wq_u_j e84295 rfl).trans ((wq_u_j e83615 rfl).trans (wq_u_j e83610 rfl)))))
                      have k84792 := wOV_e (H := H84785) (m := r0)
                      have k84793 : wJ H84785 r0 = 1 := wJ_1.mpr ⟨by omega, by omega⟩
                      exact wp_return e172 c172_281 rfl ⟨rfl, w84787, f84788, rfl, by omega, by omega, by omega, by omega, by omega, by omega⟩
                  · refine wp_of e172 c172_103 (rw_iload_n (pc' := 104) (z := v84747) rfl rfl ?_)
                    refine wp_of e172 c172_104 (rw_bipush (pc' := 106) (z := 8) rfl (by decide) ?_)
                    refine wp_of e172 c172_106 (rw_icmp_ge (p1 := 136) (p2 := 109) (by decide) rfl ⟨by omega, by omega⟩ ⟨by omega, by omega⟩ (fun c84794 => ?_) (fun c84794 => ?_))
                    · refine wp_of e172 c172_136 (rw_iinc (pc' := 139) (z := v84747) (L' := [(2, vI (v84747 + 1)), (0, .ref r0)]) rfl rfl rfl rfl ?_)
                      refine wp_of e172 c172_139 (rw_aload_n (pc' := 140) (v := .ref r0) rfl rfl rfl ?_)
                      refine wp_of e172 c172_140 (rw_dup (pc' := 141) rfl rfl ?_)
                      refine wp_of e172 c172_141 (xg_I (pc' := 144) lf_9_78 w84750 g0 sh_42 (by decide) (by decide) ty_42_8 rfl rfl (fun b84795 b84796 => ?_))
                      refine wp_of e172 c172_144 (rw_iconst (pc' := 145) rfl ?_)
                      refine wp_of e172 c172_145 (rw_iadd (pc' := 146) rfl ?_)
                      refine wp_of e172 c172_146 (xp_I (pc' := 149) lf_9_78 w84750 g0 sh_42 (by decide) (by decide) ty_42_8 rfl rfl (by omega) (by omega) ⟨by omega, by omega⟩ rfl (fun H84797 e84798 w84799 => ?_))
                      have f84800 := f84756.put' e84798 g0 rfl
                      have f84801 := f84751.put' e84798 g0 rfl
                      have k84802 : H84797 r0 8 = (H84748 r0 8) + 1 := wq_u_s e84798
                      refine wp_of e172 c172_149 (rw_goto (p1 := 89) (by decide) ?_)
                      exact wp_lc (ks := [2, 0]) (wl_c rfl (wl_c rfl wl_n)) rfl (by decide) (ih84746 _ (by omega) (v84747 + 1) H84797 w84799 f84801 ⟨by omega, by omega⟩ (by omega) (by omega) rfl)
                    · refine wp_of e172 c172_109 (rw_aload_n (pc' := 110) (v := .ref r0) rfl rfl rfl ?_)
                      refine wp_of e172 c172_110 (rw_ldc2 (pc' := 113) (z := 32) rfl rfl rfl ?_)
                      refine wp_of e172 c172_113 (rw_aload_n (pc' := 114) (v := .ref r0) rfl rfl rfl ?_)
                      refine wp_of e172 c172_114 (xg_L (pc' := 117) lf_9_94 w84750 g0 sh_42 (by decide) (by decide) ty_42_15 rfl rfl (fun b84803 b84804 => ?_))
                      refine wp_of e172 c172_117 (rw_lmulw (pc' := 118) rfl ?_)
                      obtain ⟨v84805, e84806⟩ : ∃ x : Int, x = wl_w (32 * (H84748 r0 15)) := ⟨_, rfl⟩
                      rw [← e84806]
                      have b84807 : -9223372036854775808 ≤ v84805 ∧ v84805 ≤ 9223372036854775807 := by
                        rw [e84806]
                        exact wL_w _
                      refine wp_of e172 c172_118 (rw_aload_n (pc' := 119) (v := .ref r0) rfl rfl rfl ?_)
                      refine wp_of e172 c172_119 (rw_aload_n (pc' := 120) (v := .ref r0) rfl rfl rfl ?_)
                      refine wp_of e172 c172_120 (xg_I (pc' := 123) lf_9_78 w84750 g0 sh_42 (by decide) (by decide) ty_42_8 rfl rfl (fun b84808 b84809 => ?_))
                      refine wp_of e172 c172_123 (xc_V (pc' := 126) (r := r0) (as := [vI (H84748 r0 8)]) (st := [vL v84805, .ref r0]) (lm_9_81) rfl rfl (Nat.le_of_ble_eq_true rfl) w84750 g0 sh_42 (by decide) rfl (by decide) (s_173 w84750 g0 ⟨by omega, by omega⟩) (fun R84810 T84811 H84812 p84813 => ?_))
                      obtain ⟨e84814, e84816, z84818, e84815, b84819, p84817⟩ := p84813
                      subst e84814
                      subst e84815
                      subst e84816
                      show wp _ _ 172 126 [(2, vI v84747), (0, .ref r0)] [vI z84818, vL v84805, .ref r0] _ H84748 _
                      refine wp_of e172 c172_126 (rw_bipush (pc' := 128) (z := 97) rfl (by decide) ?_)
                      refine wp_of e172 c172_128 (rw_isub (pc' := 129) rfl ?_)
                      refine wp_of e172 c172_129 (rw_iconst (pc' := 130) rfl ?_)
                      refine wp_of e172 c172_130 (rw_iadd (pc' := 131) rfl ?_)
                      refine wp_of e172 c172_131 (rw_i2l (pc' := 132) rfl ⟨by omega, by omega⟩ ?_)
                      refine wp_of e172 c172_132 (rw_laddw (pc' := 133) rfl ?_)
                      obtain ⟨v84820, e84821⟩ : ∃ x : Int, x = wl_w (v84805 + ((z84818 - 97) + 1)) := ⟨_, rfl⟩
                      rw [← e84821]
                      have b84822 : -9223372036854775808 ≤ v84820 ∧ v84820 ≤ 9223372036854775807 := by
                        rw [e84821]
                        exact wL_w _
                      refine wp_of e172 c172_133 (xp_L (pc' := 136) lf_9_94 w84750 g0 sh_42 (by decide) (by decide) ty_42_15 rfl rfl (by omega) (by omega) ⟨by omega, by omega⟩ rfl (fun H84823 e84824 w84825 => ?_))
                      have f84826 := f84756.put' e84824 g0 rfl
                      have f84827 := f84751.put' e84824 g0 rfl
                      have k84828 : H84823 r0 15 = v84820 := wq_u_s e84824
                      refine wp_of e172 c172_136 (rw_iinc (pc' := 139) (z := v84747) (L' := [(2, vI (v84747 + 1)), (0, .ref r0)]) rfl rfl rfl rfl ?_)
                      refine wp_of e172 c172_139 (rw_aload_n (pc' := 140) (v := .ref r0) rfl rfl rfl ?_)
                      refine wp_of e172 c172_140 (rw_dup (pc' := 141) rfl rfl ?_)
                      have k84829 : H84823 r0 8 = H84748 r0 8 := (wq_u_j e84824 rfl)
                      refine wp_of e172 c172_141 (xg_I (pc' := 144) lf_9_78 w84825 g0 sh_42 (by decide) (by decide) ty_42_8 rfl rfl (fun b84830 b84831 => ?_))
                      refine wp_of e172 c172_144 (rw_iconst (pc' := 145) rfl ?_)
                      refine wp_of e172 c172_145 (rw_iadd (pc' := 146) rfl ?_)
                      refine wp_of e172 c172_146 (xp_I (pc' := 149) lf_9_78 w84825 g0 sh_42 (by decide) (by decide) ty_42_8 rfl rfl (by omega) (by omega) ⟨by omega, by omega⟩ rfl (fun H84832 e84833 w84834 => ?_))
                      have f84835 := f84826.put' e84833 g0 rfl
                      have f84836 := f84827.put' e84833 g0 rfl
                      have k84837 : H84832 r0 8 = (H84823 r0 8) + 1 := wq_u_s e84833
                      refine wp_of e172 c172_149 (rw_goto (p1 := 89) (by decide) ?_)
                      exact wp_lc (ks := [2, 0]) (wl_c rfl (wl_c rfl wl_n)) rfl (by decide) (ih84746 _ (by omega) (v84747 + 1) H84832 w84834 f84836 ⟨by omega, by omega⟩ (by omega) (by omega) rfl)
              exact wp_lc (ks := [2, 1, 0]) (wl_c rfl (wl_c rfl wl_n)) rfl (by decide) (lp84744 _ 0 H84294 w84296 wfr.rf ⟨by omega, by omega⟩ (by omega) (by omega) rfl)
          · refine wp_of e172 c172_69 (rw_aload_n (pc' := 70) (v := .ref r0) rfl rfl rfl ?_)
            refine wp_of e172 c172_70 (rw_iconst (pc' := 71) rfl ?_)
            refine wp_of e172 c172_71 (xp_I (pc' := 74) lf_9_75 w83616 g0 sh_42 (by decide) (by decide) ty_42_9 rfl rfl (by omega) (by omega) ⟨by omega, by omega⟩ rfl (fun H84838 e84839 w84840 => ?_))
            have f84841 := f83617.put' e84839 g0 rfl
            have k84842 : H84838 r0 9 = 1 := wq_u_s e84839
            refine wp_of e172 c172_74 (rw_goto (p1 := 281) (by decide) ?_)
            have k84843 : H84838 r0 8 = H83614 r0 8 := (wq_u_j e84839 rfl)
            have k84844 : H84838 r0 10 = H83604 r0 10 := ((wq_u_j e84839 rfl).trans ((wq_u_j e83615 rfl).trans (wq_u_j e83610 rfl)))
            have k84845 := wOV_e (H := H84838) (m := r0)
            have k84846 : wJ H84838 r0 = 1 := wJ_1.mpr ⟨by omega, by omega⟩
            exact wp_return e172 c172_281 rfl ⟨rfl, w84840, f84841, rfl, by omega, by omega, by omega, by omega, by omega, by omega⟩
        · refine wp_of e172 c172_22 (rw_aload_n (pc' := 23) (v := .ref r0) rfl rfl rfl ?_)
          refine wp_of e172 c172_23 (rw_dup (pc' := 24) rfl rfl ?_)
          refine wp_of e172 c172_24 (xg_I (pc' := 27) lf_9_78 w83584 g0 sh_42 (by decide) (by decide) ty_42_8 rfl rfl (fun b84847 b84848 => ?_))
          refine wp_of e172 c172_27 (rw_iconst (pc' := 28) rfl ?_)
          refine wp_of e172 c172_28 (rw_iadd (pc' := 29) rfl ?_)
          refine wp_of e172 c172_29 (xp_I (pc' := 32) lf_9_78 w83584 g0 sh_42 (by decide) (by decide) ty_42_8 rfl rfl (by omega) (by omega) ⟨by omega, by omega⟩ rfl (fun H84849 e84850 w84851 => ?_))
          have f84852 := f83588.put' e84850 g0 rfl
          have f84853 := f83585.put' e84850 g0 rfl
          have k84854 : H84849 r0 8 = (H83583 r0 8) + 1 := wq_u_s e84850
          refine wp_of e172 c172_32 (rw_goto (p1 := 9) (by decide) ?_)
          exact wp_lc (ks := [0]) (wl_c rfl wl_n) rfl (by decide) (ih83582 _ (by omega) H84849 w84851 f84853 (by omega) rfl)
    exact wp_lc (ks := [0]) (wl_c rfl wl_n) rfl (by decide) (lp83580 _ H hW wfr.rf (by omega) rfl)
  · exact wp_return e172 c172_8 rfl ⟨rfl, hW, f0, rfl, by omega, by omega, by omega, by omega, by omega, by omega⟩
/-! StrikeAwakeModel.wordOf(Ljava/lang/String;)J -/
theorem e179 : wq_en 179 = some (9, 4, false, some FieldType.long) := rfl
theorem c179_0 : mc_cd 179 0 = some (.lconst 0, 1) := by decide +kernel
theorem c179_1 : mc_cd 179 1 = some (.lstore_n 1, 1) := by decide +kernel
theorem c179_2 : mc_cd 179 2 = some (.iconst 0, 1) := by decide +kernel
theorem c179_3 : mc_cd 179 3 = some (.istore_n 3, 1) := by decide +kernel
theorem c179_4 : mc_cd 179 4 = some (.iload_n 3, 1) := by decide +kernel
theorem c179_5 : mc_cd 179 5 = some (.aload_n 0, 1) := by decide +kernel
theorem c179_6 : mc_cd 179 6 = some (.invokevirtual 64, 3) := by decide +kernel
theorem c179_9 : mc_cd 179 9 = some (.if_icmp .ge 27, 3) := by decide +kernel
theorem c179_12 : mc_cd 179 12 = some (.ldc2_w 69, 3) := by decide +kernel
theorem c179_15 : mc_cd 179 15 = some (.lload_n 1, 1) := by decide +kernel
theorem c179_16 : mc_cd 179 16 = some (.lmul, 1) := by decide +kernel
theorem c179_17 : mc_cd 179 17 = some (.aload_n 0, 1) := by decide +kernel
theorem c179_18 : mc_cd 179 18 = some (.iload_n 3, 1) := by decide +kernel
theorem c179_19 : mc_cd 179 19 = some (.invokevirtual 71, 3) := by decide +kernel
theorem c179_22 : mc_cd 179 22 = some (.bipush 97, 2) := by decide +kernel
theorem c179_24 : mc_cd 179 24 = some (.isub, 1) := by decide +kernel
theorem c179_25 : mc_cd 179 25 = some (.iconst 1, 1) := by decide +kernel
theorem c179_26 : mc_cd 179 26 = some (.iadd, 1) := by decide +kernel
theorem c179_27 : mc_cd 179 27 = some (.i2l, 1) := by decide +kernel
theorem c179_28 : mc_cd 179 28 = some (.ladd, 1) := by decide +kernel
theorem c179_29 : mc_cd 179 29 = some (.lstore_n 1, 1) := by decide +kernel
theorem c179_30 : mc_cd 179 30 = some (.iinc 3 1, 3) := by decide +kernel
theorem c179_33 : mc_cd 179 33 = some (.goto (-29), 3) := by decide +kernel
theorem c179_36 : mc_cd 179 36 = some (.lload_n 1, 1) := by decide +kernel
theorem c179_37 : mc_cd 179 37 = some (.lreturn, 1) := by decide +kernel
abbrev q_179 (s0 : Nat) (T : wq_T) (H : wq_H) : Option Value → wq_T → wq_H → Prop := fun r T' H' => T = T' ∧ H = H' ∧ ∃ z : Int, some (vL z) = r ∧ ((-9223372036854775808) ≤ z ∧ z ≤ 9223372036854775807)
set_option maxHeartbeats 4000000 in
theorem s_179 {kt : Nat → Option mc_E} {T : wq_T} {H : wq_H} {s0 : Nat} {t0 : List Int32} (hW : WT T H) (h0 : mc_find mc_sb s0 = some t0) : wpc kt 1 179 [.ref s0] T H (q_179 s0 T H) := by
  refine wp_enter e179 (Nat.le_of_ble_eq_true rfl) rfl ?_
  show wp _ _ 179 0 [(0, .ref s0)] [] _ H _
  refine wp_of e179 c179_0 (rw_lconst (pc' := 1) (z := 0) rfl rfl ?_)
  refine wp_of e179 c179_1 (rw_lstore_n (pc' := 2) (z := 0) (L' := [(1, vL 0), (0, .ref s0)]) rfl rfl rfl ?_)
  refine wp_of e179 c179_2 (rw_iconst (pc' := 3) rfl ?_)
  refine wp_of e179 c179_3 (rw_istore_n (pc' := 4) (z := 0) (L' := [(3, vI 0), (1, vL 0), (0, .ref s0)]) rfl rfl rfl ?_)
  have lp85036 : ∀ (n85037 : Nat) (v85039 : Int) (v85040 : Int), (0 ≤ v85039 ∧ v85039 ≤ 63) → ((-9223372036854775808) ≤ v85040 ∧ v85040 ≤ 9223372036854775807) → (63 - v85039).toNat = n85037 → wp kt 0 179 4 [(3, vI v85039), (1, vL v85040), (0, .ref s0)] [] T H (q_179 s0 T H) := by
    intro n85037
    induction n85037 using Nat.strongRecOn with
    | _ n85037 ih85038 =>
      intro v85039 v85040 b85043 b85044 m85045
      refine wp_of e179 c179_4 (rw_iload_n (pc' := 5) (z := v85039) rfl rfl ?_)
      refine wp_of e179 c179_5 (rw_aload_n (pc' := 6) (v := .ref s0) rfl rfl rfl ?_)
      refine wp_of e179 c179_6 (rw_slen (pc' := 9) rfl rfl rfl h0 (Nat.le_of_ble_eq_true rfl) rfl ?_)
      have k85046 := (mc_sb_k h0).2.1
      show wp _ _ 179 9 [(3, vI v85039), (1, vL v85040), (0, .ref s0)] [vI ((t0.length : Int)), vI v85039] _ H _
      refine wp_of e179 c179_9 (rw_icmp_ge (p1 := 36) (p2 := 12) (by decide) rfl ⟨by omega, by omega⟩ ⟨by omega, by omega⟩ (fun c85047 => ?_) (fun c85047 => ?_))
      · refine wp_of e179 c179_36 (rw_lload_n (pc' := 37) (z := v85040) rfl rfl ?_)
        exact wp_lreturn e179 c179_37 rfl ⟨rfl, rfl, v85040, rfl, ⟨by omega, by omega⟩⟩
      · refine wp_of e179 c179_12 (rw_ldc2 (pc' := 15) (z := 32) rfl rfl rfl ?_)
        refine wp_of e179 c179_15 (rw_lload_n (pc' := 16) (z := v85040) rfl rfl ?_)
        refine wp_of e179 c179_16 (rw_lmulw (pc' := 17) rfl ?_)
        obtain ⟨v85048, e85049⟩ : ∃ x : Int, x = wl_w (32 * v85040) := ⟨_, rfl⟩
        rw [← e85049]
        have b85050 : -9223372036854775808 ≤ v85048 ∧ v85048 ≤ 9223372036854775807 := by
          rw [e85049]
          exact wL_w _
        refine wp_of e179 c179_17 (rw_aload_n (pc' := 18) (v := .ref s0) rfl rfl rfl ?_)
        refine wp_of e179 c179_18 (rw_iload_n (pc' := 19) (z := v85039) rfl rfl ?_)
        refine wp_of e179 c179_19 (rw_schr (pc' := 22) rfl rfl rfl h0 (by omega) (by omega) (Nat.le_of_ble_eq_true rfl) rfl ?_)
        obtain ⟨v85051, e85052⟩ : ∃ x : Int, x = (t0.getD (v85039).toNat 0).toInt := ⟨_, rfl⟩
        rw [← e85052]
        have b85053 : -2147483648 ≤ v85051 ∧ v85051 ≤ 2147483647 := by
          rw [e85052]
          exact wI_of _
        refine wp_of e179 c179_22 (rw_bipush (pc' := 24) (z := 97) rfl (by decide) ?_)
        refine wp_of e179 c179_24 (rw_isubw (pc' := 25) rfl ?_)
        obtain ⟨v85054, e85055⟩ : ∃ x : Int, x = wq_w (v85051 - 97) := ⟨_, rfl⟩
        rw [← e85055]
        have b85056 : -2147483648 ≤ v85054 ∧ v85054 ≤ 2147483647 := by
          rw [e85055]
          exact wI_w _
        refine wp_of e179 c179_25 (rw_iconst (pc' := 26) rfl ?_)
        refine wp_of e179 c179_26 (rw_iaddw (pc' := 27) rfl ?_)
        obtain ⟨v85057, e85058⟩ : ∃ x : Int, x = wq_w (v85054 + 1) := ⟨_, rfl⟩
        rw [← e85058]
        have b85059 : -2147483648 ≤ v85057 ∧ v85057 ≤ 2147483647 := by
          rw [e85058]
          exact wI_w _
        refine wp_of e179 c179_27 (rw_i2l (pc' := 28) rfl ⟨by omega, by omega⟩ ?_)
        refine wp_of e179 c179_28 (rw_laddw (pc' := 29) rfl ?_)
        obtain ⟨v85060, e85061⟩ : ∃ x : Int, x = wl_w (v85048 + v85057) := ⟨_, rfl⟩
        rw [← e85061]
        have b85062 : -9223372036854775808 ≤ v85060 ∧ v85060 ≤ 9223372036854775807 := by
          rw [e85061]
          exact wL_w _
        refine wp_of e179 c179_29 (rw_lstore_n (pc' := 30) (z := v85060) (L' := [(1, vL v85060), (3, vI v85039), (0, .ref s0)]) rfl rfl rfl ?_)
        refine wp_of e179 c179_30 (rw_iinc (pc' := 33) (z := v85039) (L' := [(3, vI (v85039 + 1)), (1, vL v85060), (0, .ref s0)]) rfl rfl rfl rfl ?_)
        refine wp_of e179 c179_33 (rw_goto (p1 := 4) (by decide) ?_)
        exact wp_lc (ks := [3, 1, 0]) (wl_c rfl (wl_c rfl (wl_c rfl wl_n))) rfl (by decide) (ih85038 _ (by omega) (v85039 + 1) v85060 ⟨by omega, by omega⟩ ⟨by omega, by omega⟩ rfl)
  exact wp_lc (ks := [3, 1, 0]) (wl_c rfl (wl_c rfl (wl_c rfl wl_n))) rfl (by decide) (lp85036 _ 0 0 ⟨by omega, by omega⟩ ⟨by omega, by omega⟩ rfl)
