/-! methods of the reference (own work, written by wip/gen2/sx.py) -/
/-! StrikeAwakeModel.feed(IIIII)I -/
theorem e168 : wq_en 168 = some (9, 8, false, some FieldType.int) := rfl
theorem c168_0 : mc_cd 168 0 = some (.aload_n 0, 1) := by decide +kernel
theorem c168_1 : mc_cd 168 1 = some (.iconst 0, 1) := by decide +kernel
theorem c168_2 : mc_cd 168 2 = some (.putfield 48, 3) := by decide +kernel
theorem c168_5 : mc_cd 168 5 = some (.aload_n 0, 1) := by decide +kernel
theorem c168_6 : mc_cd 168 6 = some (.getfield 330, 3) := by decide +kernel
theorem c168_9 : mc_cd 168 9 = some (.bipush 20, 2) := by decide +kernel
theorem c168_11 : mc_cd 168 11 = some (.iadd, 1) := by decide +kernel
theorem c168_12 : mc_cd 168 12 = some (.sipush 900, 3) := by decide +kernel
theorem c168_15 : mc_cd 168 15 = some (.if_icmp .le 5, 3) := by decide +kernel
theorem c168_18 : mc_cd 168 18 = some (.iconst (-1), 1) := by decide +kernel
theorem c168_19 : mc_cd 168 19 = some (.ireturn, 1) := by decide +kernel
theorem c168_20 : mc_cd 168 20 = some (.iconst 0, 1) := by decide +kernel
theorem c168_21 : mc_cd 168 21 = some (.istore 6, 2) := by decide +kernel
theorem c168_23 : mc_cd 168 23 = some (.iload 6, 2) := by decide +kernel
theorem c168_25 : mc_cd 168 25 = some (.bipush 20, 2) := by decide +kernel
theorem c168_27 : mc_cd 168 27 = some (.if_icmp .ge 90, 3) := by decide +kernel
theorem c168_30 : mc_cd 168 30 = some (.iload 6, 2) := by decide +kernel
theorem c168_32 : mc_cd 168 32 = some (.iconst 4, 1) := by decide +kernel
theorem c168_33 : mc_cd 168 33 = some (.if_icmp .ge 7, 3) := by decide +kernel
theorem c168_36 : mc_cd 168 36 = some (.iload_n 1, 1) := by decide +kernel
theorem c168_37 : mc_cd 168 37 = some (.goto 39, 3) := by decide +kernel
theorem c168_40 : mc_cd 168 40 = some (.iload 6, 2) := by decide +kernel
theorem c168_42 : mc_cd 168 42 = some (.bipush 8, 2) := by decide +kernel
theorem c168_44 : mc_cd 168 44 = some (.if_icmp .ge 7, 3) := by decide +kernel
theorem c168_47 : mc_cd 168 47 = some (.iload_n 2, 1) := by decide +kernel
theorem c168_48 : mc_cd 168 48 = some (.goto 28, 3) := by decide +kernel
theorem c168_51 : mc_cd 168 51 = some (.iload 6, 2) := by decide +kernel
theorem c168_53 : mc_cd 168 53 = some (.bipush 12, 2) := by decide +kernel
theorem c168_55 : mc_cd 168 55 = some (.if_icmp .ge 7, 3) := by decide +kernel
theorem c168_58 : mc_cd 168 58 = some (.iload_n 3, 1) := by decide +kernel
theorem c168_59 : mc_cd 168 59 = some (.goto 17, 3) := by decide +kernel
theorem c168_62 : mc_cd 168 62 = some (.iload 6, 2) := by decide +kernel
theorem c168_64 : mc_cd 168 64 = some (.bipush 16, 2) := by decide +kernel
theorem c168_66 : mc_cd 168 66 = some (.if_icmp .ge 8, 3) := by decide +kernel
theorem c168_69 : mc_cd 168 69 = some (.iload 4, 2) := by decide +kernel
theorem c168_71 : mc_cd 168 71 = some (.goto 5, 3) := by decide +kernel
theorem c168_74 : mc_cd 168 74 = some (.iload 5, 2) := by decide +kernel
theorem c168_76 : mc_cd 168 76 = some (.istore 7, 2) := by decide +kernel
theorem c168_78 : mc_cd 168 78 = some (.aload_n 0, 1) := by decide +kernel
theorem c168_79 : mc_cd 168 79 = some (.getfield 13, 3) := by decide +kernel
theorem c168_82 : mc_cd 168 82 = some (.aload_n 0, 1) := by decide +kernel
theorem c168_83 : mc_cd 168 83 = some (.getfield 330, 3) := by decide +kernel
theorem c168_86 : mc_cd 168 86 = some (.iload 7, 2) := by decide +kernel
theorem c168_88 : mc_cd 168 88 = some (.bipush 24, 2) := by decide +kernel
theorem c168_90 : mc_cd 168 90 = some (.bipush 8, 2) := by decide +kernel
theorem c168_92 : mc_cd 168 92 = some (.iload 6, 2) := by decide +kernel
theorem c168_94 : mc_cd 168 94 = some (.iconst 4, 1) := by decide +kernel
theorem c168_95 : mc_cd 168 95 = some (.irem, 1) := by decide +kernel
theorem c168_96 : mc_cd 168 96 = some (.imul, 1) := by decide +kernel
theorem c168_97 : mc_cd 168 97 = some (.isub, 1) := by decide +kernel
theorem c168_98 : mc_cd 168 98 = some (.ishr, 1) := by decide +kernel
theorem c168_99 : mc_cd 168 99 = some (.i2b, 1) := by decide +kernel
theorem c168_100 : mc_cd 168 100 = some (.bastore, 1) := by decide +kernel
theorem c168_101 : mc_cd 168 101 = some (.aload_n 0, 1) := by decide +kernel
theorem c168_102 : mc_cd 168 102 = some (.dup, 1) := by decide +kernel
theorem c168_103 : mc_cd 168 103 = some (.getfield 330, 3) := by decide +kernel
theorem c168_106 : mc_cd 168 106 = some (.iconst 1, 1) := by decide +kernel
theorem c168_107 : mc_cd 168 107 = some (.iadd, 1) := by decide +kernel
theorem c168_108 : mc_cd 168 108 = some (.putfield 330, 3) := by decide +kernel
theorem c168_111 : mc_cd 168 111 = some (.iinc 6 1, 3) := by decide +kernel
theorem c168_114 : mc_cd 168 114 = some (.goto (-91), 3) := by decide +kernel
theorem c168_117 : mc_cd 168 117 = some (.aload_n 0, 1) := by decide +kernel
theorem c168_118 : mc_cd 168 118 = some (.getfield 330, 3) := by decide +kernel
theorem c168_121 : mc_cd 168 121 = some (.ireturn, 1) := by decide +kernel
abbrev q_168 (r0 : Nat) (a1 : Int) (a2 : Int) (a3 : Int) (a4 : Int) (a5 : Int) (T : wq_T) (H : wq_H) : Option Value → wq_T → wq_H → Prop := fun r T' H' => T = T' ∧ WT T H' ∧ wfr [(42, 0), (42, 6), (43, 999)] T H H' ∧ ∃ z : Int, some (vI z) = r ∧ ((-2147483648) ≤ z ∧ z ≤ 2147483647) ∧ (wKI H' r0 = 1) ∧ ((880 < H r0 6 ∧ z = -1 ∧ H' r0 6 = H r0 6) ∨ (H r0 6 ≤ 880 ∧ z = H r0 6 + 20 ∧ H' r0 6 = z))
set_option maxHeartbeats 4000000 in
theorem s_168 {kt : Nat → Option mc_E} {T : wq_T} {H : wq_H} {r0 : Nat} {a1 : Int} {a2 : Int} {a3 : Int} {a4 : Int} {a5 : Int} (hW : WT T H) (g0 : T.2.2.2 r0 = some 42) (i1 : (-2147483648) ≤ a1 ∧ a1 ≤ 2147483647) (i2 : (-2147483648) ≤ a2 ∧ a2 ≤ 2147483647) (i3 : (-2147483648) ≤ a3 ∧ a3 ≤ 2147483647) (i4 : (-2147483648) ≤ a4 ∧ a4 ≤ 2147483647) (i5 : (-2147483648) ≤ a5 ∧ a5 ≤ 2147483647) (p0 : wKI H r0 = 1) : wpc kt 1 168 [.ref r0, vI a1, vI a2, vI a3, vI a4, vI a5] T H (q_168 r0 a1 a2 a3 a4 a5 T H) := by
  refine wp_enter e168 (Nat.le_of_ble_eq_true rfl) rfl ?_
  have f0 : wfr [(42, 0), (42, 6), (43, 999)] T H H := wfr.rf
  show wp _ _ 168 0 [(0, .ref r0), (1, vI a1), (2, vI a2), (3, vI a3), (4, vI a4), (5, vI a5)] [] _ H _
  have b81698 : 0 ≤ H r0 6 ∧ H r0 6 ≤ 900 := hW.box g0 (n := 33) rfl (by decide) rfl
  refine wp_of e168 c168_0 (rw_aload_n (pc' := 1) (v := .ref r0) rfl rfl rfl ?_)
  refine wp_of e168 c168_1 (rw_iconst (pc' := 2) rfl ?_)
  refine wp_of e168 c168_2 (xp_I (pc' := 5) lf_9_48 hW g0 sh_42 (by decide) (by decide) ty_42_0 rfl rfl (by omega) (by omega) ⟨by omega, by omega⟩ rfl (fun H81699 e81700 w81701 => ?_))
  have f81702 := f0.put' e81700 g0 rfl
  have k81703 : H81699 r0 0 = 0 := wq_u_s e81700
  refine wp_of e168 c168_5 (rw_aload_n (pc' := 6) (v := .ref r0) rfl rfl rfl ?_)
  have k81704 : H81699 r0 6 = H r0 6 := (wq_u_j e81700 rfl)
  refine wp_of e168 c168_6 (xg_I (pc' := 9) lf_9_330 w81701 g0 sh_42 (by decide) (by decide) ty_42_6 rfl rfl (fun b81705 b81706 => ?_))
  refine wp_of e168 c168_9 (rw_bipush (pc' := 11) (z := 20) rfl (by decide) ?_)
  refine wp_of e168 c168_11 (rw_iadd (pc' := 12) rfl ?_)
  refine wp_of e168 c168_12 (rw_sipush (pc' := 15) (z := 900) rfl (by decide) ?_)
  refine wp_of e168 c168_15 (rw_icmp_le (p1 := 20) (p2 := 18) (by decide) rfl ⟨by omega, by omega⟩ ⟨by omega, by omega⟩ (fun c81707 => ?_) (fun c81707 => ?_))
  · refine wp_of e168 c168_20 (rw_iconst (pc' := 21) rfl ?_)
    refine wp_of e168 c168_21 (rw_istore (pc' := 23) (z := 0) (L' := [(6, vI 0), (0, .ref r0), (1, vI a1), (2, vI a2), (3, vI a3), (4, vI a4), (5, vI a5)]) rfl rfl rfl ?_)
    have lp82076 : ∀ (n82077 : Nat) (v82079 : Int) (H82080 : wq_H), WT T H82080 → wfr [(42, 6), (43, 999)] T H81699 H82080 → (0 ≤ v82079 ∧ v82079 ≤ 20) → (H82080 r0 6 = H81699 r0 6 + v82079) → (20 - v82079).toNat = n82077 → wp kt 0 168 23 [(6, vI v82079), (0, .ref r0), (1, vI a1), (2, vI a2), (3, vI a3), (4, vI a4), (5, vI a5)] [] T H82080 (q_168 r0 a1 a2 a3 a4 a5 T H) := by
      intro n82077
      induction n82077 using Nat.strongRecOn with
      | _ n82077 ih82078 =>
        intro v82079 H82080 w82081 f82082 b82083 x82084 m82085
        have f82086 := f81702.tr f82082 rfl
        refine wp_of e168 c168_23 (rw_iload (pc' := 25) (z := v82079) rfl rfl ?_)
        refine wp_of e168 c168_25 (rw_bipush (pc' := 27) (z := 20) rfl (by decide) ?_)
        refine wp_of e168 c168_27 (rw_icmp_ge (p1 := 117) (p2 := 30) (by decide) rfl ⟨by omega, by omega⟩ ⟨by omega, by omega⟩ (fun c82087 => ?_) (fun c82087 => ?_))
        · refine wp_of e168 c168_117 (rw_aload_n (pc' := 118) (v := .ref r0) rfl rfl rfl ?_)
          refine wp_of e168 c168_118 (xg_I (pc' := 121) lf_9_330 w82081 g0 sh_42 (by decide) (by decide) ty_42_6 rfl rfl (fun b82088 b82089 => ?_))
          have k82090 : wKI H82080 r0 = wKI H r0 := ((wKI_fr w81701 g0 f82082 rfl).trans (wKI_fr hW g0 ((wfr.rf (l := [(42, 0)])).put' e81700 g0 rfl) rfl))
          exact wp_ireturn e168 c168_121 rfl ⟨rfl, w82081, f82086, H82080 r0 6, rfl, ⟨by omega, by omega⟩, by omega, by omega⟩
        · refine wp_of e168 c168_30 (rw_iload (pc' := 32) (z := v82079) rfl rfl ?_)
          refine wp_of e168 c168_32 (rw_iconst (pc' := 33) rfl ?_)
          refine wp_of e168 c168_33 (rw_icmp_ge (p1 := 40) (p2 := 36) (by decide) rfl ⟨by omega, by omega⟩ ⟨by omega, by omega⟩ (fun c82091 => ?_) (fun c82091 => ?_))
          · refine wp_of e168 c168_40 (rw_iload (pc' := 42) (z := v82079) rfl rfl ?_)
            refine wp_of e168 c168_42 (rw_bipush (pc' := 44) (z := 8) rfl (by decide) ?_)
            refine wp_of e168 c168_44 (rw_icmp_ge (p1 := 51) (p2 := 47) (by decide) rfl ⟨by omega, by omega⟩ ⟨by omega, by omega⟩ (fun c82092 => ?_) (fun c82092 => ?_))
            · refine wp_of e168 c168_51 (rw_iload (pc' := 53) (z := v82079) rfl rfl ?_)
              refine wp_of e168 c168_53 (rw_bipush (pc' := 55) (z := 12) rfl (by decide) ?_)
              refine wp_of e168 c168_55 (rw_icmp_ge (p1 := 62) (p2 := 58) (by decide) rfl ⟨by omega, by omega⟩ ⟨by omega, by omega⟩ (fun c82093 => ?_) (fun c82093 => ?_))
              · refine wp_of e168 c168_62 (rw_iload (pc' := 64) (z := v82079) rfl rfl ?_)
                refine wp_of e168 c168_64 (rw_bipush (pc' := 66) (z := 16) rfl (by decide) ?_)
                refine wp_of e168 c168_66 (rw_icmp_ge (p1 := 74) (p2 := 69) (by decide) rfl ⟨by omega, by omega⟩ ⟨by omega, by omega⟩ (fun c82094 => ?_) (fun c82094 => ?_))
                · refine wp_of e168 c168_74 (rw_iload (pc' := 76) (z := a5) rfl rfl ?_)
                  refine wp_of e168 c168_76 (rw_istore (pc' := 78) (z := a5) (L' := [(7, vI a5), (6, vI v82079), (0, .ref r0), (1, vI a1), (2, vI a2), (3, vI a3), (4, vI a4), (5, vI a5)]) rfl rfl rfl ?_)
                  refine wp_of e168 c168_78 (rw_aload_n (pc' := 79) (v := .ref r0) rfl rfl rfl ?_)
                  refine wp_of e168 c168_79 (xg_R (pc' := 82) lf_9_13 w82081 g0 sh_42 (by decide) (by decide) ty_42_5 rfl rfl (fun r82095 q82096 g82097 => ?_))
                  refine wp_of e168 c168_82 (rw_aload_n (pc' := 83) (v := .ref r0) rfl rfl rfl ?_)
                  refine wp_of e168 c168_83 (xg_I (pc' := 86) lf_9_330 w82081 g0 sh_42 (by decide) (by decide) ty_42_6 rfl rfl (fun b82098 b82099 => ?_))
                  refine wp_of e168 c168_86 (rw_iload (pc' := 88) (z := a5) rfl rfl ?_)
                  refine wp_of e168 c168_88 (rw_bipush (pc' := 90) (z := 24) rfl (by decide) ?_)
                  refine wp_of e168 c168_90 (rw_bipush (pc' := 92) (z := 8) rfl (by decide) ?_)
                  refine wp_of e168 c168_92 (rw_iload (pc' := 94) (z := v82079) rfl rfl ?_)
                  refine wp_of e168 c168_94 (rw_iconst (pc' := 95) rfl ?_)
                  refine wp_of e168 c168_95 (rw_irem (pc' := 96) rfl ⟨by omega, by omega⟩ (by omega) ?_)
                  obtain ⟨v82100, e82101⟩ : ∃ x : Int, x = wq_rem v82079 4 := ⟨_, rfl⟩
                  rw [← e82101]
                  have b82102 : v82100 = v82079 % 4 := by
                    rw [e82101]
                    exact wq_rem_e ⟨by omega, by omega⟩ ⟨by omega, by omega⟩
                  refine wp_of e168 c168_96 (rw_imul (pc' := 97) rfl ?_)
                  refine wp_of e168 c168_97 (rw_isub (pc' := 98) rfl ?_)
                  refine wp_of e168 c168_98 (rw_ishr (pc' := 99) rfl ?_)
                  obtain ⟨v82103, e82104⟩ : ∃ x : Int, x = wq_shr a5 (24 - (8 * v82100)) := ⟨_, rfl⟩
                  rw [← e82104]
                  have b82105 : -2147483648 ≤ v82103 ∧ v82103 ≤ 2147483647 := by
                    rw [e82104]
                    exact wI_shr _ _
                  refine wp_of e168 c168_99 (rw_i2b (pc' := 100) rfl ?_)
                  obtain ⟨v82106, e82107⟩ : ∃ x : Int, x = wq_i2b v82103 := ⟨_, rfl⟩
                  rw [← e82107]
                  have b82108 : -128 ≤ v82106 ∧ v82106 ≤ 127 := by
                    rw [e82107]
                    exact wq_i2b_b _
                  refine wp_of e168 c168_100 (xs_B (pc' := 101) w82081 g82097 (by decide) sh_43 (by decide) (ty_43 _) (by omega) (by omega) ⟨by omega, by omega⟩ (by omega) (by omega) rfl (fun H82109 e82110 w82111 => ?_))
                  have f82112 := f82086.put' e82110 g82097 rfl
                  have f82113 := f82082.put' e82110 g82097 rfl
                  refine wp_of e168 c168_101 (rw_aload_n (pc' := 102) (v := .ref r0) rfl rfl rfl ?_)
                  refine wp_of e168 c168_102 (rw_dup (pc' := 103) rfl rfl ?_)
                  have k82114 : H82109 r0 6 = H82080 r0 6 := (wq_u_t e82110 g82097 g0 rfl 6)
                  refine wp_of e168 c168_103 (xg_I (pc' := 106) lf_9_330 w82111 g0 sh_42 (by decide) (by decide) ty_42_6 rfl rfl (fun b82115 b82116 => ?_))
                  refine wp_of e168 c168_106 (rw_iconst (pc' := 107) rfl ?_)
                  refine wp_of e168 c168_107 (rw_iadd (pc' := 108) rfl ?_)
                  refine wp_of e168 c168_108 (xp_I (pc' := 111) lf_9_330 w82111 g0 sh_42 (by decide) (by decide) ty_42_6 rfl rfl (by omega) (by omega) ⟨by omega, by omega⟩ rfl (fun H82117 e82118 w82119 => ?_))
                  have f82120 := f82112.put' e82118 g0 rfl
                  have f82121 := f82113.put' e82118 g0 rfl
                  have k82122 : H82117 r0 6 = (H82109 r0 6) + 1 := wq_u_s e82118
                  refine wp_of e168 c168_111 (rw_iinc (pc' := 114) (z := v82079) (L' := [(6, vI (v82079 + 1)), (7, vI a5), (0, .ref r0), (1, vI a1), (2, vI a2), (3, vI a3), (4, vI a4), (5, vI a5)]) rfl rfl rfl rfl ?_)
                  refine wp_of e168 c168_114 (rw_goto (p1 := 23) (by decide) ?_)
                  exact wp_lc (ks := [6, 7, 0, 1, 2, 3, 4, 5]) (wl_c rfl (wl_c rfl (wl_c rfl (wl_c rfl (wl_c rfl (wl_c rfl (wl_c rfl wl_n))))))) rfl (by decide) (ih82078 _ (by omega) (v82079 + 1) H82117 w82119 f82121 ⟨by omega, by omega⟩ (by omega) rfl)
                · refine wp_of e168 c168_69 (rw_iload (pc' := 71) (z := a4) rfl rfl ?_)
                  refine wp_of e168 c168_71 (rw_goto (p1 := 76) (by decide) ?_)
                  refine wp_of e168 c168_76 (rw_istore (pc' := 78) (z := a4) (L' := [(7, vI a4), (6, vI v82079), (0, .ref r0), (1, vI a1), (2, vI a2), (3, vI a3), (4, vI a4), (5, vI a5)]) rfl rfl rfl ?_)
                  refine wp_of e168 c168_78 (rw_aload_n (pc' := 79) (v := .ref r0) rfl rfl rfl ?_)
                  refine wp_of e168 c168_79 (xg_R (pc' := 82) lf_9_13 w82081 g0 sh_42 (by decide) (by decide) ty_42_5 rfl rfl (fun r82123 q82124 g82125 => ?_))
                  refine wp_of e168 c168_82 (rw_aload_n (pc' := 83) (v := .ref r0) rfl rfl rfl ?_)
                  refine wp_of e168 c168_83 (xg_I (pc' := 86) lf_9_330 w82081 g0 sh_42 (by decide) (by decide) ty_42_6 rfl rfl (fun b82126 b82127 => ?_))
                  refine wp_of e168 c168_86 (rw_iload (pc' := 88) (z := a4) rfl rfl ?_)
                  refine wp_of e168 c168_88 (rw_bipush (pc' := 90) (z := 24) rfl (by decide) ?_)
                  refine wp_of e168 c168_90 (rw_bipush (pc' := 92) (z := 8) rfl (by decide) ?_)
                  refine wp_of e168 c168_92 (rw_iload (pc' := 94) (z := v82079) rfl rfl ?_)
                  refine wp_of e168 c168_94 (rw_iconst (pc' := 95) rfl ?_)
                  refine wp_of e168 c168_95 (rw_irem (pc' := 96) rfl ⟨by omega, by omega⟩ (by omega) ?_)
                  obtain ⟨v82128, e82129⟩ : ∃ x : Int, x = wq_rem v82079 4 := ⟨_, rfl⟩
                  rw [← e82129]
                  have b82130 : v82128 = v82079 % 4 := by
                    rw [e82129]
                    exact wq_rem_e ⟨by omega, by omega⟩ ⟨by omega, by omega⟩
                  refine wp_of e168 c168_96 (rw_imul (pc' := 97) rfl ?_)
                  refine wp_of e168 c168_97 (rw_isub (pc' := 98) rfl ?_)
                  refine wp_of e168 c168_98 (rw_ishr (pc' := 99) rfl ?_)
                  obtain ⟨v82131, e82132⟩ : ∃ x : Int, x = wq_shr a4 (24 - (8 * v82128)) := ⟨_, rfl⟩
                  rw [← e82132]
                  have b82133 : -2147483648 ≤ v82131 ∧ v82131 ≤ 2147483647 := by
                    rw [e82132]
                    exact wI_shr _ _
                  refine wp_of e168 c168_99 (rw_i2b (pc' := 100) rfl ?_)
                  obtain ⟨v82134, e82135⟩ : ∃ x : Int, x = wq_i2b v82131 := ⟨_, rfl⟩
                  rw [← e82135]
                  have b82136 : -128 ≤ v82134 ∧ v82134 ≤ 127 := by
                    rw [e82135]
                    exact wq_i2b_b _
                  refine wp_of e168 c168_100 (xs_B (pc' := 101) w82081 g82125 (by decide) sh_43 (by decide) (ty_43 _) (by omega) (by omega) ⟨by omega, by omega⟩ (by omega) (by omega) rfl (fun H82137 e82138 w82139 => ?_))
                  have f82140 := f82086.put' e82138 g82125 rfl
                  have f82141 := f82082.put' e82138 g82125 rfl
                  refine wp_of e168 c168_101 (rw_aload_n (pc' := 102) (v := .ref r0) rfl rfl rfl ?_)
                  refine wp_of e168 c168_102 (rw_dup (pc' := 103) rfl rfl ?_)
                  have k82142 : H82137 r0 6 = H82080 r0 6 := (wq_u_t e82138 g82125 g0 rfl 6)
                  refine wp_of e168 c168_103 (xg_I (pc' := 106) lf_9_330 w82139 g0 sh_42 (by decide) (by decide) ty_42_6 rfl rfl (fun b82143 b82144 => ?_))
                  refine wp_of e168 c168_106 (rw_iconst (pc' := 107) rfl ?_)
                  refine wp_of e168 c168_107 (rw_iadd (pc' := 108) rfl ?_)
                  refine wp_of e168 c168_108 (xp_I (pc' := 111) lf_9_330 w82139 g0 sh_42 (by decide) (by decide) ty_42_6 rfl rfl (by omega) (by omega) ⟨by omega, by omega⟩ rfl (fun H82145 e82146 w82147 => ?_))
                  have f82148 := f82140.put' e82146 g0 rfl
                  have f82149 := f82141.put' e82146 g0 rfl
                  have k82150 : H82145 r0 6 = (H82137 r0 6) + 1 := wq_u_s e82146
                  refine wp_of e168 c168_111 (rw_iinc (pc' := 114) (z := v82079) (L' := [(6, vI (v82079 + 1)), (7, vI a4), (0, .ref r0), (1, vI a1), (2, vI a2), (3, vI a3), (4, vI a4), (5, vI a5)]) rfl rfl rfl rfl ?_)
                  refine wp_of e168 c168_114 (rw_goto (p1 := 23) (by decide) ?_)
                  exact wp_lc (ks := [6, 7, 0, 1, 2, 3, 4, 5]) (wl_c rfl (wl_c rfl (wl_c rfl (wl_c rfl (wl_c rfl (wl_c rfl (wl_c rfl wl_n))))))) rfl (by decide) (ih82078 _ (by omega) (v82079 + 1) H82145 w82147 f82149 ⟨by omega, by omega⟩ (by omega) rfl)
              · refine wp_of e168 c168_58 (rw_iload_n (pc' := 59) (z := a3) rfl rfl ?_)
                refine wp_of e168 c168_59 (rw_goto (p1 := 76) (by decide) ?_)
                refine wp_of e168 c168_76 (rw_istore (pc' := 78) (z := a3) (L' := [(7, vI a3), (6, vI v82079), (0, .ref r0), (1, vI a1), (2, vI a2), (3, vI a3), (4, vI a4), (5, vI a5)]) rfl rfl rfl ?_)
                refine wp_of e168 c168_78 (rw_aload_n (pc' := 79) (v := .ref r0) rfl rfl rfl ?_)
                refine wp_of e168 c168_79 (xg_R (pc' := 82) lf_9_13 w82081 g0 sh_42 (by decide) (by decide) ty_42_5 rfl rfl (fun r82151 q82152 g82153 => ?_))
                refine wp_of e168 c168_82 (rw_aload_n (pc' := 83) (v := .ref r0) rfl rfl rfl ?_)
                refine wp_of e168 c168_83 (xg_I (pc' := 86) lf_9_330 w82081 g0 sh_42 (by decide) (by decide) ty_42_6 rfl rfl (fun b82154 b82155 => ?_))
                refine wp_of e168 c168_86 (rw_iload (pc' := 88) (z := a3) rfl rfl ?_)
                refine wp_of e168 c168_88 (rw_bipush (pc' := 90) (z := 24) rfl (by decide) ?_)
                refine wp_of e168 c168_90 (rw_bipush (pc' := 92) (z := 8) rfl (by decide) ?_)
                refine wp_of e168 c168_92 (rw_iload (pc' := 94) (z := v82079) rfl rfl ?_)
                refine wp_of e168 c168_94 (rw_iconst (pc' := 95) rfl ?_)
                refine wp_of e168 c168_95 (rw_irem (pc' := 96) rfl ⟨by omega, by omega⟩ (by omega) ?_)
                obtain ⟨v82156, e82157⟩ : ∃ x : Int, x = wq_rem v82079 4 := ⟨_, rfl⟩
                rw [← e82157]
                have b82158 : v82156 = v82079 % 4 := by
                  rw [e82157]
                  exact wq_rem_e ⟨by omega, by omega⟩ ⟨by omega, by omega⟩
                refine wp_of e168 c168_96 (rw_imul (pc' := 97) rfl ?_)
                refine wp_of e168 c168_97 (rw_isub (pc' := 98) rfl ?_)
                refine wp_of e168 c168_98 (rw_ishr (pc' := 99) rfl ?_)
                obtain ⟨v82159, e82160⟩ : ∃ x : Int, x = wq_shr a3 (24 - (8 * v82156)) := ⟨_, rfl⟩
                rw [← e82160]
                have b82161 : -2147483648 ≤ v82159 ∧ v82159 ≤ 2147483647 := by
                  rw [e82160]
                  exact wI_shr _ _
                refine wp_of e168 c168_99 (rw_i2b (pc' := 100) rfl ?_)
                obtain ⟨v82162, e82163⟩ : ∃ x : Int, x = wq_i2b v82159 := ⟨_, rfl⟩
                rw [← e82163]
                have b82164 : -128 ≤ v82162 ∧ v82162 ≤ 127 := by
                  rw [e82163]
                  exact wq_i2b_b _
                refine wp_of e168 c168_100 (xs_B (pc' := 101) w82081 g82153 (by decide) sh_43 (by decide) (ty_43 _) (by omega) (by omega) ⟨by omega, by omega⟩ (by omega) (by omega) rfl (fun H82165 e82166 w82167 => ?_))
                have f82168 := f82086.put' e82166 g82153 rfl
                have f82169 := f82082.put' e82166 g82153 rfl
                refine wp_of e168 c168_101 (rw_aload_n (pc' := 102) (v := .ref r0) rfl rfl rfl ?_)
                refine wp_of e168 c168_102 (rw_dup (pc' := 103) rfl rfl ?_)
                have k82170 : H82165 r0 6 = H82080 r0 6 := (wq_u_t e82166 g82153 g0 rfl 6)
                refine wp_of e168 c168_103 (xg_I (pc' := 106) lf_9_330 w82167 g0 sh_42 (by decide) (by decide) ty_42_6 rfl rfl (fun b82171 b82172 => ?_))
                refine wp_of e168 c168_106 (rw_iconst (pc' := 107) rfl ?_)
                refine wp_of e168 c168_107 (rw_iadd (pc' := 108) rfl ?_)
                refine wp_of e168 c168_108 (xp_I (pc' := 111) lf_9_330 w82167 g0 sh_42 (by decide) (by decide) ty_42_6 rfl rfl (by omega) (by omega) ⟨by omega, by omega⟩ rfl (fun H82173 e82174 w82175 => ?_))
                have f82176 := f82168.put' e82174 g0 rfl
                have f82177 := f82169.put' e82174 g0 rfl
                have k82178 : H82173 r0 6 = (H82165 r0 6) + 1 := wq_u_s e82174
                refine wp_of e168 c168_111 (rw_iinc (pc' := 114) (z := v82079) (L' := [(6, vI (v82079 + 1)), (7, vI a3), (0, .ref r0), (1, vI a1), (2, vI a2), (3, vI a3), (4, vI a4), (5, vI a5)]) rfl rfl rfl rfl ?_)
                refine wp_of e168 c168_114 (rw_goto (p1 := 23) (by decide) ?_)
                exact wp_lc (ks := [6, 7, 0, 1, 2, 3, 4, 5]) (wl_c rfl (wl_c rfl (wl_c rfl (wl_c rfl (wl_c rfl (wl_c rfl (wl_c rfl wl_n))))))) rfl (by decide) (ih82078 _ (by omega) (v82079 + 1) H82173 w82175 f82177 ⟨by omega, by omega⟩ (by omega) rfl)
            · refine wp_of e168 c168_47 (rw_iload_n (pc' := 48) (z := a2) rfl rfl ?_)
              refine wp_of e168 c168_48 (rw_goto (p1 := 76) (by decide) ?_)
              refine wp_of e168 c168_76 (rw_istore (pc' := 78) (z := a2) (L' := [(7, vI a2), (6, vI v82079), (0, .ref r0), (1, vI a1), (2, vI a2), (3, vI a3), (4, vI a4), (5, vI a5)]) rfl rfl rfl ?_)
              refine wp_of e168 c168_78 (rw_aload_n (pc' := 79) (v := .ref r0) rfl rfl rfl ?_)
              refine wp_of e168 c168_79 (xg_R (pc' := 82) lf_9_13 w82081 g0 sh_42 (by decide) (by decide) ty_42_5 rfl rfl (fun r82179 q82180 g82181 => ?_))
              refine wp_of e168 c168_82 (rw_aload_n (pc' := 83) (v := .ref r0) rfl rfl rfl ?_)
              refine wp_of e168 c168_83 (xg_I (pc' := 86) lf_9_330 w82081 g0 sh_42 (by decide) (by decide) ty_42_6 rfl rfl (fun b82182 b82183 => ?_))
              refine wp_of e168 c168_86 (rw_iload (pc' := 88) (z := a2) rfl rfl ?_)
              refine wp_of e168 c168_88 (rw_bipush (pc' := 90) (z := 24) rfl (by decide) ?_)
              refine wp_of e168 c168_90 (rw_bipush (pc' := 92) (z := 8) rfl (by decide) ?_)
              refine wp_of e168 c168_92 (rw_iload (pc' := 94) (z := v82079) rfl rfl ?_)
              refine wp_of e168 c168_94 (rw_iconst (pc' := 95) rfl ?_)
              refine wp_of e168 c168_95 (rw_irem (pc' := 96) rfl ⟨by omega, by omega⟩ (by omega) ?_)
              obtain ⟨v82184, e82185⟩ : ∃ x : Int, x = wq_rem v82079 4 := ⟨_, rfl⟩
              rw [← e82185]
              have b82186 : v82184 = v82079 % 4 := by
                rw [e82185]
                exact wq_rem_e ⟨by omega, by omega⟩ ⟨by omega, by omega⟩
              refine wp_of e168 c168_96 (rw_imul (pc' := 97) rfl ?_)
              refine wp_of e168 c168_97 (rw_isub (pc' := 98) rfl ?_)
              refine wp_of e168 c168_98 (rw_ishr (pc' := 99) rfl ?_)
              obtain ⟨v82187, e82188⟩ : ∃ x : Int, x = wq_shr a2 (24 - (8 * v82184)) := ⟨_, rfl⟩
              rw [← e82188]
              have b82189 : -2147483648 ≤ v82187 ∧ v82187 ≤ 2147483647 := by
                rw [e82188]
                exact wI_shr _ _
              refine wp_of e168 c168_99 (rw_i2b (pc' := 100) rfl ?_)
              obtain ⟨v82190, e82191⟩ : ∃ x : Int, x = wq_i2b v82187 := ⟨_, rfl⟩
              rw [← e82191]
              have b82192 : -128 ≤ v82190 ∧ v82190 ≤ 127 := by
                rw [e82191]
                exact wq_i2b_b _
              refine wp_of e168 c168_100 (xs_B (pc' := 101) w82081 g82181 (by decide) sh_43 (by decide) (ty_43 _) (by omega) (by omega) ⟨by omega, by omega⟩ (by omega) (by omega) rfl (fun H82193 e82194 w82195 => ?_))
              have f82196 := f82086.put' e82194 g82181 rfl
              have f82197 := f82082.put' e82194 g82181 rfl
              refine wp_of e168 c168_101 (rw_aload_n (pc' := 102) (v := .ref r0) rfl rfl rfl ?_)
              refine wp_of e168 c168_102 (rw_dup (pc' := 103) rfl rfl ?_)
              have k82198 : H82193 r0 6 = H82080 r0 6 := (wq_u_t e82194 g82181 g0 rfl 6)
              refine wp_of e168 c168_103 (xg_I (pc' := 106) lf_9_330 w82195 g0 sh_42 (by decide) (by decide) ty_42_6 rfl rfl (fun b82199 b82200 => ?_))
              refine wp_of e168 c168_106 (rw_iconst (pc' := 107) rfl ?_)
              refine wp_of e168 c168_107 (rw_iadd (pc' := 108) rfl ?_)
              refine wp_of e168 c168_108 (xp_I (pc' := 111) lf_9_330 w82195 g0 sh_42 (by decide) (by decide) ty_42_6 rfl rfl (by omega) (by omega) ⟨by omega, by omega⟩ rfl (fun H82201 e82202 w82203 => ?_))
              have f82204 := f82196.put' e82202 g0 rfl
              have f82205 := f82197.put' e82202 g0 rfl
              have k82206 : H82201 r0 6 = (H82193 r0 6) + 1 := wq_u_s e82202
              refine wp_of e168 c168_111 (rw_iinc (pc' := 114) (z := v82079) (L' := [(6, vI (v82079 + 1)), (7, vI a2), (0, .ref r0), (1, vI a1), (2, vI a2), (3, vI a3), (4, vI a4), (5, vI a5)]) rfl rfl rfl rfl ?_)
              refine wp_of e168 c168_114 (rw_goto (p1 := 23) (by decide) ?_)
              exact wp_lc (ks := [6, 7, 0, 1, 2, 3, 4, 5]) (wl_c rfl (wl_c rfl (wl_c rfl (wl_c rfl (wl_c rfl (wl_c rfl (wl_c rfl wl_n))))))) rfl (by decide) (ih82078 _ (by omega) (v82079 + 1) H82201 w82203 f82205 ⟨by omega, by omega⟩ (by omega) rfl)
          · refine wp_of e168 c168_36 (rw_iload_n (pc' := 37) (z := a1) rfl rfl ?_)
            refine wp_of e168 c168_37 (rw_goto (p1 := 76) (by decide) ?_)
            refine wp_of e168 c168_76 (rw_istore (pc' := 78) (z := a1) (L' := [(7, vI a1), (6, vI v82079), (0, .ref r0), (1, vI a1), (2, vI a2), (3, vI a3), (4, vI a4), (5, vI a5)]) rfl rfl rfl ?_)
            refine wp_of e168 c168_78 (rw_aload_n (pc' := 79) (v := .ref r0) rfl rfl rfl ?_)
            refine wp_of e168 c168_79 (xg_R (pc' := 82) lf_9_13 w82081 g0 sh_42 (by decide) (by decide) ty_42_5 rfl rfl (fun r82207 q82208 g82209 => ?_))
            refine wp_of e168 c168_82 (rw_aload_n (pc' := 83) (v := .ref r0) rfl rfl rfl ?_)
            refine wp_of e168 c168_83 (xg_I (pc' := 86) lf_9_330 w82081 g0 sh_42 (by decide) (by decide) ty_42_6 rfl rfl (fun b82210 b82211 => ?_))
            refine wp_of e168 c168_86 (rw_iload (pc' := 88) (z := a1) rfl rfl ?_)
            refine wp_of e168 c168_88 (rw_bipush (pc' := 90) (z := 24) rfl (by decide) ?_)
            refine wp_of e168 c168_90 (rw_bipush (pc' := 92) (z := 8) rfl (by decide) ?_)
            refine wp_of e168 c168_92 (rw_iload (pc' := 94) (z := v82079) rfl rfl ?_)
            refine wp_of e168 c168_94 (rw_iconst (pc' := 95) rfl ?_)
            refine wp_of e168 c168_95 (rw_irem (pc' := 96) rfl ⟨by omega, by omega⟩ (by omega) ?_)
            obtain ⟨v82212, e82213⟩ : ∃ x : Int, x = wq_rem v82079 4 := ⟨_, rfl⟩
            rw [← e82213]
            have b82214 : v82212 = v82079 % 4 := by
              rw [e82213]
              exact wq_rem_e ⟨by omega, by omega⟩ ⟨by omega, by omega⟩
            refine wp_of e168 c168_96 (rw_imul (pc' := 97) rfl ?_)
            refine wp_of e168 c168_97 (rw_isub (pc' := 98) rfl ?_)
            refine wp_of e168 c168_98 (rw_ishr (pc' := 99) rfl ?_)
            obtain ⟨v82215, e82216⟩ : ∃ x : Int, x = wq_shr a1 (24 - (8 * v82212)) := ⟨_, rfl⟩
            rw [← e82216]
            have b82217 : -2147483648 ≤ v82215 ∧ v82215 ≤ 2147483647 := by
              rw [e82216]
              exact wI_shr _ _
            refine wp_of e168 c168_99 (rw_i2b (pc' := 100) rfl ?_)
            obtain ⟨v82218, e82219⟩ : ∃ x : Int, x = wq_i2b v82215 := ⟨_, rfl⟩
            rw [← e82219]
            have b82220 : -128 ≤ v82218 ∧ v82218 ≤ 127 := by
              rw [e82219]
              exact wq_i2b_b _
            refine wp_of e168 c168_100 (xs_B (pc' := 101) w82081 g82209 (by decide) sh_43 (by decide) (ty_43 _) (by omega) (by omega) ⟨by omega, by omega⟩ (by omega) (by omega) rfl (fun H82221 e82222 w82223 => ?_))
            have f82224 := f82086.put' e82222 g82209 rfl
            have f82225 := f82082.put' e82222 g82209 rfl
            refine wp_of e168 c168_101 (rw_aload_n (pc' := 102) (v := .ref r0) rfl rfl rfl ?_)
            refine wp_of e168 c168_102 (rw_dup (pc' := 103) rfl rfl ?_)
            have k82226 : H82221 r0 6 = H82080 r0 6 := (wq_u_t e82222 g82209 g0 rfl 6)
            refine wp_of e168 c168_103 (xg_I (pc' := 106) lf_9_330 w82223 g0 sh_42 (by decide) (by decide) ty_42_6 rfl rfl (fun b82227 b82228 => ?_))
            refine wp_of e168 c168_106 (rw_iconst (pc' := 107) rfl ?_)
            refine wp_of e168 c168_107 (rw_iadd (pc' := 108) rfl ?_)
            refine wp_of e168 c168_108 (xp_I (pc' := 111) lf_9_330 w82223 g0 sh_42 (by decide) (by decide) ty_42_6 rfl rfl (by omega) (by omega) ⟨by omega, by omega⟩ rfl (fun H82229 e82230 w82231 => ?_))
            have f82232 := f82224.put' e82230 g0 rfl
            have f82233 := f82225.put' e82230 g0 rfl
            have k82234 : H82229 r0 6 = (H82221 r0 6) + 1 := wq_u_s e82230
            refine wp_of e168 c168_111 (rw_iinc (pc' := 114) (z := v82079) (L' := [(6, vI (v82079 + 1)), (7, vI a1), (0, .ref r0), (1, vI a1), (2, vI a2), (3, vI a3), (4, vI a4), (5, vI a5)]) rfl rfl rfl rfl ?_)
            refine wp_of e168 c168_114 (rw_goto (p1 := 23) (by decide) ?_)
            exact wp_lc (ks := [6, 7, 0, 1, 2, 3, 4, 5]) (wl_c rfl (wl_c rfl (wl_c rfl (wl_c rfl (wl_c rfl (wl_c rfl (wl_c rfl wl_n))))))) rfl (by decide) (ih82078 _ (by omega) (v82079 + 1) H82229 w82231 f82233 ⟨by omega, by omega⟩ (by omega) rfl)
    exact wp_lc (ks := [6, 0, 1, 2, 3, 4, 5]) (wl_c rfl (wl_c rfl (wl_c rfl (wl_c rfl (wl_c rfl (wl_c rfl (wl_c rfl wl_n))))))) rfl (by decide) (lp82076 _ 0 H81699 w81701 wfr.rf ⟨by omega, by omega⟩ (by omega) rfl)
  · refine wp_of e168 c168_18 (rw_iconst (pc' := 19) rfl ?_)
    have k82235 : wKI H81699 r0 = wKI H r0 := (wKI_fr hW g0 ((wfr.rf (l := [(42, 0)])).put' e81700 g0 rfl) rfl)
    exact wp_ireturn e168 c168_19 rfl ⟨rfl, w81701, f81702, -1, rfl, ⟨by omega, by omega⟩, by omega, by omega⟩
/-! StrikeAwakeModel.refused(I)I -/
theorem e170 : wq_en 170 = some (9, 2, false, some FieldType.int) := rfl
theorem c170_0 : mc_cd 170 0 = some (.aload_n 0, 1) := by decide +kernel
theorem c170_1 : mc_cd 170 1 = some (.iload_n 1, 1) := by decide +kernel
theorem c170_2 : mc_cd 170 2 = some (.putfield 51, 3) := by decide +kernel
theorem c170_5 : mc_cd 170 5 = some (.aload_n 0, 1) := by decide +kernel
theorem c170_6 : mc_cd 170 6 = some (.iconst (-1), 1) := by decide +kernel
theorem c170_7 : mc_cd 170 7 = some (.putfield 9, 3) := by decide +kernel
theorem c170_10 : mc_cd 170 10 = some (.iconst (-1), 1) := by decide +kernel
theorem c170_11 : mc_cd 170 11 = some (.ireturn, 1) := by decide +kernel
abbrev q_170 (r0 : Nat) (a1 : Int) (T : wq_T) (H : wq_H) : Option Value → wq_T → wq_H → Prop := fun r T' H' => T = T' ∧ WT T H' ∧ wfr [(42, 1), (42, 2)] T H H' ∧ ∃ z : Int, some (vI z) = r ∧ ((-2147483648) ≤ z ∧ z ≤ 2147483647)
set_option maxHeartbeats 4000000 in
theorem s_170 {kt : Nat → Option mc_E} {T : wq_T} {H : wq_H} {r0 : Nat} {a1 : Int} (hW : WT T H) (g0 : T.2.2.2 r0 = some 42) (i1 : (-2147483648) ≤ a1 ∧ a1 ≤ 2147483647) : wpc kt 1 170 [.ref r0, vI a1] T H (q_170 r0 a1 T H) := by
  refine wp_enter e170 (Nat.le_of_ble_eq_true rfl) rfl ?_
  have f0 : wfr [(42, 1), (42, 2)] T H H := wfr.rf
  show wp _ _ 170 0 [(0, .ref r0), (1, vI a1)] [] _ H _
  refine wp_of e170 c170_0 (rw_aload_n (pc' := 1) (v := .ref r0) rfl rfl rfl ?_)
  refine wp_of e170 c170_1 (rw_iload_n (pc' := 2) (z := a1) rfl rfl ?_)
  refine wp_of e170 c170_2 (xp_I (pc' := 5) lf_9_51 hW g0 sh_42 (by decide) (by decide) ty_42_1 rfl rfl (by omega) (by omega) ⟨by omega, by omega⟩ rfl (fun H82246 e82247 w82248 => ?_))
  have f82249 := f0.put' e82247 g0 rfl
  have k82250 : H82246 r0 1 = a1 := wq_u_s e82247
  refine wp_of e170 c170_5 (rw_aload_n (pc' := 6) (v := .ref r0) rfl rfl rfl ?_)
  refine wp_of e170 c170_6 (rw_iconst (pc' := 7) rfl ?_)
  refine wp_of e170 c170_7 (xp_I (pc' := 10) lf_9_9 w82248 g0 sh_42 (by decide) (by decide) ty_42_2 rfl rfl (by omega) (by omega) ⟨by omega, by omega⟩ rfl (fun H82251 e82252 w82253 => ?_))
  have f82254 := f82249.put' e82252 g0 rfl
  have k82255 : H82251 r0 2 = -1 := wq_u_s e82252
  refine wp_of e170 c170_10 (rw_iconst (pc' := 11) rfl ?_)
  exact wp_ireturn e170 c170_11 rfl ⟨rfl, w82253, f82254, -1, rfl, ⟨by omega, by omega⟩⟩
/-! StrikeAwakeModel.byteAt(I)I -/
theorem e173 : wq_en 173 = some (9, 2, false, some FieldType.int) := rfl
theorem c173_0 : mc_cd 173 0 = some (.iload_n 1, 1) := by decide +kernel
theorem c173_1 : mc_cd 173 1 = some (.aload_n 0, 1) := by decide +kernel
theorem c173_2 : mc_cd 173 2 = some (.getfield 61, 3) := by decide +kernel
theorem c173_5 : mc_cd 173 5 = some (.if_icmp .ge 16, 3) := by decide +kernel
theorem c173_8 : mc_cd 173 8 = some (.aload_n 0, 1) := by decide +kernel
theorem c173_9 : mc_cd 173 9 = some (.getfield 13, 3) := by decide +kernel
theorem c173_12 : mc_cd 173 12 = some (.iload_n 1, 1) := by decide +kernel
theorem c173_13 : mc_cd 173 13 = some (.baload, 1) := by decide +kernel
theorem c173_14 : mc_cd 173 14 = some (.sipush 255, 3) := by decide +kernel
theorem c173_17 : mc_cd 173 17 = some (.iand, 1) := by decide +kernel
theorem c173_18 : mc_cd 173 18 = some (.goto 4, 3) := by decide +kernel
theorem c173_21 : mc_cd 173 21 = some (.iconst (-1), 1) := by decide +kernel
theorem c173_22 : mc_cd 173 22 = some (.ireturn, 1) := by decide +kernel
abbrev q_173 (r0 : Nat) (a1 : Int) (T : wq_T) (H : wq_H) : Option Value → wq_T → wq_H → Prop := fun r T' H' => T = T' ∧ H = H' ∧ ∃ z : Int, some (vI z) = r ∧ ((-1) ≤ z ∧ z ≤ 255) ∧ (z = -1 ∨ a1 ≤ 899)
set_option maxHeartbeats 4000000 in
theorem s_173 {kt : Nat → Option mc_E} {T : wq_T} {H : wq_H} {r0 : Nat} {a1 : Int} (hW : WT T H) (g0 : T.2.2.2 r0 = some 42) (i1 : 0 ≤ a1 ∧ a1 ≤ 900) : wpc kt 1 173 [.ref r0, vI a1] T H (q_173 r0 a1 T H) := by
  refine wp_enter e173 (Nat.le_of_ble_eq_true rfl) rfl ?_
  show wp _ _ 173 0 [(0, .ref r0), (1, vI a1)] [] _ H _
  refine wp_of e173 c173_0 (rw_iload_n (pc' := 1) (z := a1) rfl rfl ?_)
  refine wp_of e173 c173_1 (rw_aload_n (pc' := 2) (v := .ref r0) rfl rfl rfl ?_)
  refine wp_of e173 c173_2 (xg_I (pc' := 5) lf_9_61 hW g0 sh_42 (by decide) (by decide) ty_42_7 rfl rfl (fun b82266 b82267 => ?_))
  refine wp_of e173 c173_5 (rw_icmp_ge (p1 := 21) (p2 := 8) (by decide) rfl ⟨by omega, by omega⟩ ⟨by omega, by omega⟩ (fun c82268 => ?_) (fun c82268 => ?_))
  · refine wp_of e173 c173_21 (rw_iconst (pc' := 22) rfl ?_)
    exact wp_ireturn e173 c173_22 rfl ⟨rfl, rfl, -1, rfl, ⟨by omega, by omega⟩, by omega⟩
  · refine wp_of e173 c173_8 (rw_aload_n (pc' := 9) (v := .ref r0) rfl rfl rfl ?_)
    refine wp_of e173 c173_9 (xg_R (pc' := 12) lf_9_13 hW g0 sh_42 (by decide) (by decide) ty_42_5 rfl rfl (fun r82269 q82270 g82271 => ?_))
    refine wp_of e173 c173_12 (rw_iload_n (pc' := 13) (z := a1) rfl rfl ?_)
    refine wp_of e173 c173_13 (xa_B (by decide) (pc' := 14) hW g82271 sh_43 (by decide) (ty_43 _) (by omega) (by omega) rfl (fun b82272 b82273 => ?_))
    refine wp_of e173 c173_14 (rw_sipush (pc' := 17) (z := 255) rfl (by decide) ?_)
    refine wp_of e173 c173_17 (rw_iand (pc' := 18) rfl ?_)
    obtain ⟨v82274, e82275⟩ : ∃ x : Int, x = wq_and (H r82269 (a1.toNat)) 255 := ⟨_, rfl⟩
    rw [← e82275]
    have b82276 : 0 ≤ v82274 ∧ v82274 ≤ 255 := by
      rw [e82275]
      exact wq_and_b _ (by omega) (by omega)
    refine wp_of e173 c173_18 (rw_goto (p1 := 22) (by decide) ?_)
    exact wp_ireturn e173 c173_22 rfl ⟨rfl, rfl, v82274, rfl, ⟨by omega, by omega⟩, by omega⟩
/-! StrikeAwakeModel.isLetter(I)Z -/
theorem e174 : wq_en 174 = some (9, 1, false, some FieldType.boolean) := rfl
theorem c174_0 : mc_cd 174 0 = some (.iload_n 0, 1) := by decide +kernel
theorem c174_1 : mc_cd 174 1 = some (.bipush 97, 2) := by decide +kernel
theorem c174_3 : mc_cd 174 3 = some (.if_icmp .lt 13, 3) := by decide +kernel
theorem c174_6 : mc_cd 174 6 = some (.iload_n 0, 1) := by decide +kernel
theorem c174_7 : mc_cd 174 7 = some (.bipush 122, 2) := by decide +kernel
theorem c174_9 : mc_cd 174 9 = some (.if_icmp .gt 7, 3) := by decide +kernel
theorem c174_12 : mc_cd 174 12 = some (.iconst 1, 1) := by decide +kernel
theorem c174_13 : mc_cd 174 13 = some (.goto 4, 3) := by decide +kernel
theorem c174_16 : mc_cd 174 16 = some (.iconst 0, 1) := by decide +kernel
theorem c174_17 : mc_cd 174 17 = some (.ireturn, 1) := by decide +kernel
abbrev q_174 (a0 : Int) (T : wq_T) (H : wq_H) : Option Value → wq_T → wq_H → Prop := fun r T' H' => T = T' ∧ H = H' ∧ ∃ z : Int, some (vI z) = r ∧ (0 ≤ z ∧ z ≤ 1) ∧ (z = 0 ∨ (97 ≤ a0 ∧ a0 ≤ 122))
set_option maxHeartbeats 4000000 in
theorem s_174 {kt : Nat → Option mc_E} {T : wq_T} {H : wq_H} {a0 : Int} (hW : WT T H) (i0 : (-2147483648) ≤ a0 ∧ a0 ≤ 2147483647) : wpc kt 1 174 [vI a0] T H (q_174 a0 T H) := by
  refine wp_enter e174 (Nat.le_of_ble_eq_true rfl) rfl ?_
  show wp _ _ 174 0 [(0, vI a0)] [] _ H _
  refine wp_of e174 c174_0 (rw_iload_n (pc' := 1) (z := a0) rfl rfl ?_)
  refine wp_of e174 c174_1 (rw_bipush (pc' := 3) (z := 97) rfl (by decide) ?_)
  refine wp_of e174 c174_3 (rw_icmp_lt (p1 := 16) (p2 := 6) (by decide) rfl ⟨by omega, by omega⟩ ⟨by omega, by omega⟩ (fun c82279 => ?_) (fun c82279 => ?_))
  · refine wp_of e174 c174_16 (rw_iconst (pc' := 17) rfl ?_)
    exact wp_zreturn e174 c174_17 rfl (by omega) ⟨rfl, rfl, 0, rfl, ⟨by omega, by omega⟩, by omega⟩
  · refine wp_of e174 c174_6 (rw_iload_n (pc' := 7) (z := a0) rfl rfl ?_)
    refine wp_of e174 c174_7 (rw_bipush (pc' := 9) (z := 122) rfl (by decide) ?_)
    refine wp_of e174 c174_9 (rw_icmp_gt (p1 := 16) (p2 := 12) (by decide) rfl ⟨by omega, by omega⟩ ⟨by omega, by omega⟩ (fun c82280 => ?_) (fun c82280 => ?_))
    · refine wp_of e174 c174_16 (rw_iconst (pc' := 17) rfl ?_)
      exact wp_zreturn e174 c174_17 rfl (by omega) ⟨rfl, rfl, 0, rfl, ⟨by omega, by omega⟩, by omega⟩
    · refine wp_of e174 c174_12 (rw_iconst (pc' := 13) rfl ?_)
      refine wp_of e174 c174_13 (rw_goto (p1 := 17) (by decide) ?_)
      exact wp_zreturn e174 c174_17 rfl (by omega) ⟨rfl, rfl, 1, rfl, ⟨by omega, by omega⟩, by omega⟩
/-! StrikeAwakeModel.isDigit(I)Z -/
theorem e175 : wq_en 175 = some (9, 1, false, some FieldType.boolean) := rfl
theorem c175_0 : mc_cd 175 0 = some (.iload_n 0, 1) := by decide +kernel
theorem c175_1 : mc_cd 175 1 = some (.bipush 48, 2) := by decide +kernel
theorem c175_3 : mc_cd 175 3 = some (.if_icmp .lt 13, 3) := by decide +kernel
theorem c175_6 : mc_cd 175 6 = some (.iload_n 0, 1) := by decide +kernel
theorem c175_7 : mc_cd 175 7 = some (.bipush 57, 2) := by decide +kernel
theorem c175_9 : mc_cd 175 9 = some (.if_icmp .gt 7, 3) := by decide +kernel
theorem c175_12 : mc_cd 175 12 = some (.iconst 1, 1) := by decide +kernel
theorem c175_13 : mc_cd 175 13 = some (.goto 4, 3) := by decide +kernel
theorem c175_16 : mc_cd 175 16 = some (.iconst 0, 1) := by decide +kernel
theorem c175_17 : mc_cd 175 17 = some (.ireturn, 1) := by decide +kernel
abbrev q_175 (a0 : Int) (T : wq_T) (H : wq_H) : Option Value → wq_T → wq_H → Prop := fun r T' H' => T = T' ∧ H = H' ∧ ∃ z : Int, some (vI z) = r ∧ (0 ≤ z ∧ z ≤ 1) ∧ (z = 0 ∨ (48 ≤ a0 ∧ a0 ≤ 57))
set_option maxHeartbeats 4000000 in
theorem s_175 {kt : Nat → Option mc_E} {T : wq_T} {H : wq_H} {a0 : Int} (hW : WT T H) (i0 : (-2147483648) ≤ a0 ∧ a0 ≤ 2147483647) : wpc kt 1 175 [vI a0] T H (q_175 a0 T H) := by
  refine wp_enter e175 (Nat.le_of_ble_eq_true rfl) rfl ?_
  show wp _ _ 175 0 [(0, vI a0)] [] _ H _
  refine wp_of e175 c175_0 (rw_iload_n (pc' := 1) (z := a0) rfl rfl ?_)
  refine wp_of e175 c175_1 (rw_bipush (pc' := 3) (z := 48) rfl (by decide) ?_)
  refine wp_of e175 c175_3 (rw_icmp_lt (p1 := 16) (p2 := 6) (by decide) rfl ⟨by omega, by omega⟩ ⟨by omega, by omega⟩ (fun c82283 => ?_) (fun c82283 => ?_))
  · refine wp_of e175 c175_16 (rw_iconst (pc' := 17) rfl ?_)
    exact wp_zreturn e175 c175_17 rfl (by omega) ⟨rfl, rfl, 0, rfl, ⟨by omega, by omega⟩, by omega⟩
  · refine wp_of e175 c175_6 (rw_iload_n (pc' := 7) (z := a0) rfl rfl ?_)
    refine wp_of e175 c175_7 (rw_bipush (pc' := 9) (z := 57) rfl (by decide) ?_)
    refine wp_of e175 c175_9 (rw_icmp_gt (p1 := 16) (p2 := 12) (by decide) rfl ⟨by omega, by omega⟩ ⟨by omega, by omega⟩ (fun c82284 => ?_) (fun c82284 => ?_))
    · refine wp_of e175 c175_16 (rw_iconst (pc' := 17) rfl ?_)
      exact wp_zreturn e175 c175_17 rfl (by omega) ⟨rfl, rfl, 0, rfl, ⟨by omega, by omega⟩, by omega⟩
    · refine wp_of e175 c175_12 (rw_iconst (pc' := 13) rfl ?_)
      refine wp_of e175 c175_13 (rw_goto (p1 := 17) (by decide) ?_)
      exact wp_zreturn e175 c175_17 rfl (by omega) ⟨rfl, rfl, 1, rfl, ⟨by omega, by omega⟩, by omega⟩
/-! StrikeAwakeModel.goesOn()V -/
theorem e172 : wq_en 172 = some (9, 3, false, none) := rfl
theorem c172_0 : mc_cd 172 0 = some (.aload_n 0, 1) := by decide +kernel
theorem c172_1 : mc_cd 172 1 = some (.getfield 75, 3) := by decide +kernel
theorem c172_4 : mc_cd 172 4 = some (.iconst 5, 1) := by decide +kernel
theorem c172_5 : mc_cd 172 5 = some (.if_icmp .ne 4, 3) := by decide +kernel
theorem c172_8 : mc_cd 172 8 = some (.return_, 1) := by decide +kernel
theorem c172_9 : mc_cd 172 9 = some (.aload_n 0, 1) := by decide +kernel
theorem c172_10 : mc_cd 172 10 = some (.aload_n 0, 1) := by decide +kernel
theorem c172_11 : mc_cd 172 11 = some (.getfield 78, 3) := by decide +kernel
theorem c172_14 : mc_cd 172 14 = some (.invokevirtual 81, 3) := by decide +kernel
theorem c172_17 : mc_cd 172 17 = some (.bipush 32, 2) := by decide +kernel
theorem c172_19 : mc_cd 172 19 = some (.if_icmp .ne 16, 3) := by decide +kernel
theorem c172_22 : mc_cd 172 22 = some (.aload_n 0, 1) := by decide +kernel
theorem c172_23 : mc_cd 172 23 = some (.dup, 1) := by decide +kernel
theorem c172_24 : mc_cd 172 24 = some (.getfield 78, 3) := by decide +kernel
theorem c172_27 : mc_cd 172 27 = some (.iconst 1, 1) := by decide +kernel
theorem c172_28 : mc_cd 172 28 = some (.iadd, 1) := by decide +kernel
theorem c172_29 : mc_cd 172 29 = some (.putfield 78, 3) := by decide +kernel
theorem c172_32 : mc_cd 172 32 = some (.goto (-23), 3) := by decide +kernel
theorem c172_35 : mc_cd 172 35 = some (.aload_n 0, 1) := by decide +kernel
theorem c172_36 : mc_cd 172 36 = some (.aload_n 0, 1) := by decide +kernel
theorem c172_37 : mc_cd 172 37 = some (.getfield 78, 3) := by decide +kernel
theorem c172_40 : mc_cd 172 40 = some (.putfield 84, 3) := by decide +kernel
theorem c172_43 : mc_cd 172 43 = some (.aload_n 0, 1) := by decide +kernel
theorem c172_44 : mc_cd 172 44 = some (.iconst 0, 1) := by decide +kernel
theorem c172_45 : mc_cd 172 45 = some (.putfield 75, 3) := by decide +kernel
theorem c172_48 : mc_cd 172 48 = some (.aload_n 0, 1) := by decide +kernel
theorem c172_49 : mc_cd 172 49 = some (.iconst 0, 1) := by decide +kernel
theorem c172_50 : mc_cd 172 50 = some (.putfield 87, 3) := by decide +kernel
theorem c172_53 : mc_cd 172 53 = some (.aload_n 0, 1) := by decide +kernel
theorem c172_54 : mc_cd 172 54 = some (.aload_n 0, 1) := by decide +kernel
theorem c172_55 : mc_cd 172 55 = some (.getfield 78, 3) := by decide +kernel
theorem c172_58 : mc_cd 172 58 = some (.invokevirtual 81, 3) := by decide +kernel
theorem c172_61 : mc_cd 172 61 = some (.istore_n 1, 1) := by decide +kernel
theorem c172_62 : mc_cd 172 62 = some (.iconst 0, 1) := by decide +kernel
theorem c172_63 : mc_cd 172 63 = some (.istore_n 2, 1) := by decide +kernel
theorem c172_64 : mc_cd 172 64 = some (.iload_n 1, 1) := by decide +kernel
theorem c172_65 : mc_cd 172 65 = some (.iconst (-1), 1) := by decide +kernel
theorem c172_66 : mc_cd 172 66 = some (.if_icmp .ne 11, 3) := by decide +kernel
theorem c172_69 : mc_cd 172 69 = some (.aload_n 0, 1) := by decide +kernel
theorem c172_70 : mc_cd 172 70 = some (.iconst 1, 1) := by decide +kernel
theorem c172_71 : mc_cd 172 71 = some (.putfield 75, 3) := by decide +kernel
theorem c172_74 : mc_cd 172 74 = some (.goto 207, 3) := by decide +kernel
theorem c172_77 : mc_cd 172 77 = some (.iload_n 1, 1) := by decide +kernel
theorem c172_78 : mc_cd 172 78 = some (.invokestatic 90, 3) := by decide +kernel
theorem c172_81 : mc_cd 172 81 = some (.ifCond .eq 85, 3) := by decide +kernel
theorem c172_84 : mc_cd 172 84 = some (.aload_n 0, 1) := by decide +kernel
theorem c172_85 : mc_cd 172 85 = some (.lconst 0, 1) := by decide +kernel
theorem c172_86 : mc_cd 172 86 = some (.putfield 94, 3) := by decide +kernel
theorem c172_89 : mc_cd 172 89 = some (.aload_n 0, 1) := by decide +kernel
theorem c172_90 : mc_cd 172 90 = some (.aload_n 0, 1) := by decide +kernel
theorem c172_91 : mc_cd 172 91 = some (.getfield 78, 3) := by decide +kernel
theorem c172_94 : mc_cd 172 94 = some (.invokevirtual 81, 3) := by decide +kernel
theorem c172_97 : mc_cd 172 97 = some (.invokestatic 90, 3) := by decide +kernel
theorem c172_100 : mc_cd 172 100 = some (.ifCond .eq 52, 3) := by decide +kernel
theorem c172_103 : mc_cd 172 103 = some (.iload_n 2, 1) := by decide +kernel
theorem c172_104 : mc_cd 172 104 = some (.bipush 8, 2) := by decide +kernel
theorem c172_106 : mc_cd 172 106 = some (.if_icmp .ge 30, 3) := by decide +kernel
theorem c172_109 : mc_cd 172 109 = some (.aload_n 0, 1) := by decide +kernel
theorem c172_110 : mc_cd 172 110 = some (.ldc2_w 69, 3) := by decide +kernel
theorem c172_113 : mc_cd 172 113 = some (.aload_n 0, 1) := by decide +kernel
theorem c172_114 : mc_cd 172 114 = some (.getfield 94, 3) := by decide +kernel
theorem c172_117 : mc_cd 172 117 = some (.lmul, 1) := by decide +kernel
theorem c172_118 : mc_cd 172 118 = some (.aload_n 0, 1) := by decide +kernel
theorem c172_119 : mc_cd 172 119 = some (.aload_n 0, 1) := by decide +kernel
theorem c172_120 : mc_cd 172 120 = some (.getfield 78, 3) := by decide +kernel
theorem c172_123 : mc_cd 172 123 = some (.invokevirtual 81, 3) := by decide +kernel
theorem c172_126 : mc_cd 172 126 = some (.bipush 97, 2) := by decide +kernel
theorem c172_128 : mc_cd 172 128 = some (.isub, 1) := by decide +kernel
theorem c172_129 : mc_cd 172 129 = some (.iconst 1, 1) := by decide +kernel
theorem c172_130 : mc_cd 172 130 = some (.iadd, 1) := by decide +kernel
theorem c172_131 : mc_cd 172 131 = some (.i2l, 1) := by decide +kernel
theorem c172_132 : mc_cd 172 132 = some (.ladd, 1) := by decide +kernel
theorem c172_133 : mc_cd 172 133 = some (.putfield 94, 3) := by decide +kernel
theorem c172_136 : mc_cd 172 136 = some (.iinc 2 1, 3) := by decide +kernel
theorem c172_139 : mc_cd 172 139 = some (.aload_n 0, 1) := by decide +kernel
theorem c172_140 : mc_cd 172 140 = some (.dup, 1) := by decide +kernel
theorem c172_141 : mc_cd 172 141 = some (.getfield 78, 3) := by decide +kernel
theorem c172_144 : mc_cd 172 144 = some (.iconst 1, 1) := by decide +kernel
theorem c172_145 : mc_cd 172 145 = some (.iadd, 1) := by decide +kernel
theorem c172_146 : mc_cd 172 146 = some (.putfield 78, 3) := by decide +kernel
theorem c172_149 : mc_cd 172 149 = some (.goto (-60), 3) := by decide +kernel
theorem c172_152 : mc_cd 172 152 = some (.iload_n 2, 1) := by decide +kernel
theorem c172_153 : mc_cd 172 153 = some (.bipush 8, 2) := by decide +kernel
theorem c172_155 : mc_cd 172 155 = some (.if_icmp .gt 126, 3) := by decide +kernel
theorem c172_158 : mc_cd 172 158 = some (.aload_n 0, 1) := by decide +kernel
theorem c172_159 : mc_cd 172 159 = some (.iconst 2, 1) := by decide +kernel
theorem c172_160 : mc_cd 172 160 = some (.putfield 75, 3) := by decide +kernel
theorem c172_163 : mc_cd 172 163 = some (.goto 118, 3) := by decide +kernel
theorem c172_166 : mc_cd 172 166 = some (.iload_n 1, 1) := by decide +kernel
theorem c172_167 : mc_cd 172 167 = some (.invokestatic 98, 3) := by decide +kernel
theorem c172_170 : mc_cd 172 170 = some (.ifCond .eq 79, 3) := by decide +kernel
theorem c172_173 : mc_cd 172 173 = some (.aload_n 0, 1) := by decide +kernel
theorem c172_174 : mc_cd 172 174 = some (.iconst 0, 1) := by decide +kernel
theorem c172_175 : mc_cd 172 175 = some (.putfield 101, 3) := by decide +kernel
theorem c172_178 : mc_cd 172 178 = some (.aload_n 0, 1) := by decide +kernel
theorem c172_179 : mc_cd 172 179 = some (.aload_n 0, 1) := by decide +kernel
theorem c172_180 : mc_cd 172 180 = some (.getfield 78, 3) := by decide +kernel
theorem c172_183 : mc_cd 172 183 = some (.invokevirtual 81, 3) := by decide +kernel
theorem c172_186 : mc_cd 172 186 = some (.invokestatic 98, 3) := by decide +kernel
theorem c172_189 : mc_cd 172 189 = some (.ifCond .eq 47, 3) := by decide +kernel
theorem c172_192 : mc_cd 172 192 = some (.iload_n 2, 1) := by decide +kernel
theorem c172_193 : mc_cd 172 193 = some (.iconst 3, 1) := by decide +kernel
theorem c172_194 : mc_cd 172 194 = some (.if_icmp .ge 26, 3) := by decide +kernel
theorem c172_197 : mc_cd 172 197 = some (.aload_n 0, 1) := by decide +kernel
theorem c172_198 : mc_cd 172 198 = some (.bipush 10, 2) := by decide +kernel
theorem c172_200 : mc_cd 172 200 = some (.aload_n 0, 1) := by decide +kernel
theorem c172_201 : mc_cd 172 201 = some (.getfield 101, 3) := by decide +kernel
theorem c172_204 : mc_cd 172 204 = some (.imul, 1) := by decide +kernel
theorem c172_205 : mc_cd 172 205 = some (.aload_n 0, 1) := by decide +kernel
theorem c172_206 : mc_cd 172 206 = some (.aload_n 0, 1) := by decide +kernel
theorem c172_207 : mc_cd 172 207 = some (.getfield 78, 3) := by decide +kernel
theorem c172_210 : mc_cd 172 210 = some (.invokevirtual 81, 3) := by decide +kernel
theorem c172_213 : mc_cd 172 213 = some (.iadd, 1) := by decide +kernel
theorem c172_214 : mc_cd 172 214 = some (.bipush 48, 2) := by decide +kernel
theorem c172_216 : mc_cd 172 216 = some (.isub, 1) := by decide +kernel
theorem c172_217 : mc_cd 172 217 = some (.putfield 101, 3) := by decide +kernel
theorem c172_220 : mc_cd 172 220 = some (.iinc 2 1, 3) := by decide +kernel
theorem c172_223 : mc_cd 172 223 = some (.aload_n 0, 1) := by decide +kernel
theorem c172_224 : mc_cd 172 224 = some (.dup, 1) := by decide +kernel
theorem c172_225 : mc_cd 172 225 = some (.getfield 78, 3) := by decide +kernel
theorem c172_228 : mc_cd 172 228 = some (.iconst 1, 1) := by decide +kernel
theorem c172_229 : mc_cd 172 229 = some (.iadd, 1) := by decide +kernel
theorem c172_230 : mc_cd 172 230 = some (.putfield 78, 3) := by decide +kernel
theorem c172_233 : mc_cd 172 233 = some (.goto (-55), 3) := by decide +kernel
theorem c172_236 : mc_cd 172 236 = some (.iload_n 2, 1) := by decide +kernel
theorem c172_237 : mc_cd 172 237 = some (.iconst 3, 1) := by decide +kernel
theorem c172_238 : mc_cd 172 238 = some (.if_icmp .gt 43, 3) := by decide +kernel
theorem c172_241 : mc_cd 172 241 = some (.aload_n 0, 1) := by decide +kernel
theorem c172_242 : mc_cd 172 242 = some (.iconst 3, 1) := by decide +kernel
theorem c172_243 : mc_cd 172 243 = some (.putfield 75, 3) := by decide +kernel
theorem c172_246 : mc_cd 172 246 = some (.goto 35, 3) := by decide +kernel
theorem c172_249 : mc_cd 172 249 = some (.iload_n 1, 1) := by decide +kernel
theorem c172_250 : mc_cd 172 250 = some (.bipush 59, 2) := by decide +kernel
theorem c172_252 : mc_cd 172 252 = some (.if_icmp .eq 9, 3) := by decide +kernel
theorem c172_255 : mc_cd 172 255 = some (.iload_n 1, 1) := by decide +kernel
theorem c172_256 : mc_cd 172 256 = some (.bipush 44, 2) := by decide +kernel
theorem c172_258 : mc_cd 172 258 = some (.if_icmp .ne 23, 3) := by decide +kernel
theorem c172_261 : mc_cd 172 261 = some (.aload_n 0, 1) := by decide +kernel
theorem c172_262 : mc_cd 172 262 = some (.iconst 4, 1) := by decide +kernel
theorem c172_263 : mc_cd 172 263 = some (.putfield 75, 3) := by decide +kernel
theorem c172_266 : mc_cd 172 266 = some (.aload_n 0, 1) := by decide +kernel
theorem c172_267 : mc_cd 172 267 = some (.iload_n 1, 1) := by decide +kernel
theorem c172_268 : mc_cd 172 268 = some (.putfield 87, 3) := by decide +kernel
theorem c172_271 : mc_cd 172 271 = some (.aload_n 0, 1) := by decide +kernel
theorem c172_272 : mc_cd 172 272 = some (.dup, 1) := by decide +kernel
theorem c172_273 : mc_cd 172 273 = some (.getfield 78, 3) := by decide +kernel
theorem c172_276 : mc_cd 172 276 = some (.iconst 1, 1) := by decide +kernel
theorem c172_277 : mc_cd 172 277 = some (.iadd, 1) := by decide +kernel
theorem c172_278 : mc_cd 172 278 = some (.putfield 78, 3) := by decide +kernel
theorem c172_281 : mc_cd 172 281 = some (.return_, 1) := by decide +kernel
abbrev q_172 (r0 : Nat) (T : wq_T) (H : wq_H) : Option Value → wq_T → wq_H → Prop := fun r T' H' => T = T' ∧ WT T H' ∧ wfr [(42, 8), (42, 9), (42, 10), (42, 11), (42, 12), (42, 15)] T H H' ∧ none = r ∧ (wJ H' r0 = 1) ∧ (H r0 10 ≤ H' r0 10) ∧ (wOV H r0 ≤ wOV H' r0) ∧ (wOV H' r0 ≤ 1) ∧ (H r0 9 = 5 ∨ H r0 8 ≤ H' r0 10) ∧ (H r0 9 = 5 ∨ H' r0 10 ≤ 900)
set_option maxHeartbeats 4000000 in
theorem s_172 {kt : Nat → Option mc_E} {T : wq_T} {H : wq_H} {r0 : Nat} (hW : WT T H) (g0 : T.2.2.2 r0 = some 42) (p0 : wJ H r0 = 1) : wpc kt 2 172 [.ref r0] T H (q_172 r0 T H) := by
  refine wp_enter e172 (Nat.le_of_ble_eq_true rfl) rfl ?_
  have f0 : wfr [(42, 8), (42, 9), (42, 10), (42, 11), (42, 12), (42, 15)] T H H := wfr.rf
  show wp _ _ 172 0 [(0, .ref r0)] [] _ H _
  have b83561 : (-2147483648) ≤ H r0 10 ∧ H r0 10 ≤ 2147483647 := hW.box g0 (n := 33) rfl (by decide) rfl
  have b83562 : 0 ≤ H r0 9 ∧ H r0 9 ≤ 5 := hW.box g0 (n := 33) rfl (by decide) rfl
  have b83563 : 0 ≤ H r0 8 ∧ H r0 8 ≤ 900 := hW.box g0 (n := 33) rfl (by decide) rfl
  have hb0 := wOV_b (H := H) (m := r0)
  have hj := wJ_1.mp p0
  have ho := wOV_e (H := H) (m := r0)
  refine wp_of e172 c172_0 (rw_aload_n (pc' := 1) (v := .ref r0) rfl rfl rfl ?_)
  refine wp_of e172 c172_1 (xg_I (pc' := 4) lf_9_75 hW g0 sh_42 (by decide) (by decide) ty_42_9 rfl rfl (fun b83564 b83565 => ?_))
  have k83566 := wOV_e (H := H) (m := r0)
  refine wp_of e172 c172_4 (rw_iconst (pc' := 5) rfl ?_)
  refine wp_of e172 c172_5 (rw_icmp_ne (p1 := 9) (p2 := 8) (by decide) rfl ⟨by omega, by omega⟩ ⟨by omega, by omega⟩ (fun c83567 => ?_) (fun c83567 => ?_))
  · have lp83609 : ∀ (n83610 : Nat)  (H83612 : wq_H), WT T H83612 → wfr [(42, 8)] T H H83612 → (H r0 8 ≤ H83612 r0 8) → (900 - H83612 r0 8).toNat = n83610 → wp kt 1 172 9 [(0, .ref r0)] [] T H83612 (q_172 r0 T H) := by
      intro n83610
      induction n83610 using Nat.strongRecOn with
      | _ n83610 ih83611 =>
        intro H83612 w83613 f83614 x83615 m83616
        have f83617 := f0.tr f83614 rfl
        refine wp_of e172 c172_9 (rw_aload_n (pc' := 10) (v := .ref r0) rfl rfl rfl ?_)
        refine wp_of e172 c172_10 (rw_aload_n (pc' := 11) (v := .ref r0) rfl rfl rfl ?_)
        refine wp_of e172 c172_11 (xg_I (pc' := 14) lf_9_78 w83613 g0 sh_42 (by decide) (by decide) ty_42_8 rfl rfl (fun b83618 b83619 => ?_))
        refine wp_of e172 c172_14 (xc_V (pc' := 17) (r := r0) (as := [vI (H83612 r0 8)]) (st := []) (lm_9_81) rfl rfl (Nat.le_of_ble_eq_true rfl) w83613 g0 sh_42 (by decide) rfl (by decide) (s_173 w83613 g0 ⟨by omega, by omega⟩) (fun R83620 T83621 H83622 p83623 => ?_))
        obtain ⟨e83624, e83626, z83628, e83625, b83629, p83627⟩ := p83623
        subst e83624
        subst e83625
        subst e83626
        show wp _ _ 172 17 [(0, .ref r0)] [vI z83628] _ H83612 _
        refine wp_of e172 c172_17 (rw_bipush (pc' := 19) (z := 32) rfl (by decide) ?_)
        refine wp_of e172 c172_19 (rw_icmp_ne (p1 := 35) (p2 := 22) (by decide) rfl ⟨by omega, by omega⟩ ⟨by omega, by omega⟩ (fun c83630 => ?_) (fun c83630 => ?_))
        · refine wp_of e172 c172_35 (rw_aload_n (pc' := 36) (v := .ref r0) rfl rfl rfl ?_)
          refine wp_of e172 c172_36 (rw_aload_n (pc' := 37) (v := .ref r0) rfl rfl rfl ?_)
          refine wp_of e172 c172_37 (xg_I (pc' := 40) lf_9_78 w83613 g0 sh_42 (by decide) (by decide) ty_42_8 rfl rfl (fun b83631 b83632 => ?_))
          refine wp_of e172 c172_40 (xp_I (pc' := 43) lf_9_84 w83613 g0 sh_42 (by decide) (by decide) ty_42_10 rfl rfl (by omega) (by omega) ⟨by omega, by omega⟩ rfl (fun H83633 e83634 w83635 => ?_))
          have f83636 := f83617.put' e83634 g0 rfl
          have k83637 : H83633 r0 10 = H83612 r0 8 := wq_u_s e83634
          refine wp_of e172 c172_43 (rw_aload_n (pc' := 44) (v := .ref r0) rfl rfl rfl ?_)
          refine wp_of e172 c172_44 (rw_iconst (pc' := 45) rfl ?_)
          refine wp_of e172 c172_45 (xp_I (pc' := 48) lf_9_75 w83635 g0 sh_42 (by decide) (by decide) ty_42_9 rfl rfl (by omega) (by omega) ⟨by omega, by omega⟩ rfl (fun H83638 e83639 w83640 => ?_))
          have f83641 := f83636.put' e83639 g0 rfl
          have k83642 : H83638 r0 9 = 0 := wq_u_s e83639
          refine wp_of e172 c172_48 (rw_aload_n (pc' := 49) (v := .ref r0) rfl rfl rfl ?_)
          refine wp_of e172 c172_49 (rw_iconst (pc' := 50) rfl ?_)
          refine wp_of e172 c172_50 (xp_I (pc' := 53) lf_9_87 w83640 g0 sh_42 (by decide) (by decide) ty_42_11 rfl rfl (by omega) (by omega) ⟨by omega, by omega⟩ rfl (fun H83643 e83644 w83645 => ?_))
          have f83646 := f83641.put' e83644 g0 rfl
          have k83647 : H83643 r0 11 = 0 := wq_u_s e83644
          refine wp_of e172 c172_53 (rw_aload_n (pc' := 54) (v := .ref r0) rfl rfl rfl ?_)
          refine wp_of e172 c172_54 (rw_aload_n (pc' := 55) (v := .ref r0) rfl rfl rfl ?_)
          have k83648 : H83643 r0 8 = H83612 r0 8 := ((wq_u_j e83644 rfl).trans ((wq_u_j e83639 rfl).trans (wq_u_j e83634 rfl)))
          refine wp_of e172 c172_55 (xg_I (pc' := 58) lf_9_78 w83645 g0 sh_42 (by decide) (by decide) ty_42_8 rfl rfl (fun b83649 b83650 => ?_))
          refine wp_of e172 c172_58 (xc_V (pc' := 61) (r := r0) (as := [vI (H83643 r0 8)]) (st := []) (lm_9_81) rfl rfl (Nat.le_of_ble_eq_true rfl) w83645 g0 sh_42 (by decide) rfl (by decide) (s_173 w83645 g0 ⟨by omega, by omega⟩) (fun R83651 T83652 H83653 p83654 => ?_))
          obtain ⟨e83655, e83657, z83659, e83656, b83660, p83658⟩ := p83654
          subst e83655
          subst e83656
          subst e83657
          show wp _ _ 172 61 [(0, .ref r0)] [vI z83659] _ H83643 _
          refine wp_of e172 c172_61 (rw_istore_n (pc' := 62) (z := z83659) (L' := [(1, vI z83659), (0, .ref r0)]) rfl rfl rfl ?_)
          refine wp_of e172 c172_62 (rw_iconst (pc' := 63) rfl ?_)
          refine wp_of e172 c172_63 (rw_istore_n (pc' := 64) (z := 0) (L' := [(2, vI 0), (1, vI z83659), (0, .ref r0)]) rfl rfl rfl ?_)
          refine wp_of e172 c172_64 (rw_iload_n (pc' := 65) (z := z83659) rfl rfl ?_)
          refine wp_of e172 c172_65 (rw_iconst (pc' := 66) rfl ?_)
          refine wp_of e172 c172_66 (rw_icmp_ne (p1 := 77) (p2 := 69) (by decide) rfl ⟨by omega, by omega⟩ ⟨by omega, by omega⟩ (fun c83661 => ?_) (fun c83661 => ?_))
          · refine wp_of e172 c172_77 (rw_iload_n (pc' := 78) (z := z83659) rfl rfl ?_)
            refine wp_of e172 c172_78 (xc_S (pc' := 81) (as := [vI z83659]) (st := []) (lm_9_90) rfl rfl (Nat.le_of_ble_eq_true rfl) rfl (by decide) (s_174 w83645 ⟨by omega, by omega⟩) (fun R83662 T83663 H83664 p83665 => ?_))
            obtain ⟨e83666, e83668, z83670, e83667, b83671, p83669⟩ := p83665
            subst e83666
            subst e83667
            subst e83668
            show wp _ _ 172 81 [(2, vI 0), (1, vI z83659), (0, .ref r0)] [vI z83670] _ H83643 _
            refine wp_of e172 c172_81 (rw_if_eq (p1 := 166) (p2 := 84) (by decide) rfl ⟨by omega, by omega⟩ (fun c83672 => ?_) (fun c83672 => ?_))
            · refine wp_of e172 c172_166 (rw_iload_n (pc' := 167) (z := z83659) rfl rfl ?_)
              refine wp_of e172 c172_167 (xc_S (pc' := 170) (as := [vI z83659]) (st := []) (lm_9_98) rfl rfl (Nat.le_of_ble_eq_true rfl) rfl (by decide) (s_175 w83645 ⟨by omega, by omega⟩) (fun R83673 T83674 H83675 p83676 => ?_))
              obtain ⟨e83677, e83679, z83681, e83678, b83682, p83680⟩ := p83676
              subst e83677
              subst e83678
              subst e83679
              show wp _ _ 172 170 [(2, vI 0), (1, vI z83659), (0, .ref r0)] [vI z83681] _ H83643 _
              refine wp_of e172 c172_170 (rw_if_eq (p1 := 249) (p2 := 173) (by decide) rfl ⟨by omega, by omega⟩ (fun c83683 => ?_) (fun c83683 => ?_))
              · refine wp_of e172 c172_249 (rw_iload_n (pc' := 250) (z := z83659) rfl rfl ?_)
                refine wp_of e172 c172_250 (rw_bipush (pc' := 252) (z := 59) rfl (by decide) ?_)
                refine wp_of e172 c172_252 (rw_icmp_eq (p1 := 261) (p2 := 255) (by decide) rfl ⟨by omega, by omega⟩ ⟨by omega, by omega⟩ (fun c83684 => ?_) (fun c83684 => ?_))
                · refine wp_of e172 c172_261 (rw_aload_n (pc' := 262) (v := .ref r0) rfl rfl rfl ?_)
                  refine wp_of e172 c172_262 (rw_iconst (pc' := 263) rfl ?_)
                  refine wp_of e172 c172_263 (xp_I (pc' := 266) lf_9_75 w83645 g0 sh_42 (by decide) (by decide) ty_42_9 rfl rfl (by omega) (by omega) ⟨by omega, by omega⟩ rfl (fun H83685 e83686 w83687 => ?_))
                  have f83688 := f83646.put' e83686 g0 rfl
                  have k83689 : H83685 r0 9 = 4 := wq_u_s e83686
                  refine wp_of e172 c172_266 (rw_aload_n (pc' := 267) (v := .ref r0) rfl rfl rfl ?_)
                  refine wp_of e172 c172_267 (rw_iload_n (pc' := 268) (z := z83659) rfl rfl ?_)
                  refine wp_of e172 c172_268 (xp_I (pc' := 271) lf_9_87 w83687 g0 sh_42 (by decide) (by decide) ty_42_11 rfl rfl (by omega) (by omega) ⟨by omega, by omega⟩ rfl (fun H83690 e83691 w83692 => ?_))
                  have f83693 := f83688.put' e83691 g0 rfl
                  have k83694 : H83690 r0 11 = z83659 := wq_u_s e83691
                  refine wp_of e172 c172_271 (rw_aload_n (pc' := 272) (v := .ref r0) rfl rfl rfl ?_)
                  refine wp_of e172 c172_272 (rw_dup (pc' := 273) rfl rfl ?_)
                  have k83695 : H83690 r0 8 = H83643 r0 8 := ((wq_u_j e83691 rfl).trans (wq_u_j e83686 rfl))
                  refine wp_of e172 c172_273 (xg_I (pc' := 276) lf_9_78 w83692 g0 sh_42 (by decide) (by decide) ty_42_8 rfl rfl (fun b83696 b83697 => ?_))
                  refine wp_of e172 c172_276 (rw_iconst (pc' := 277) rfl ?_)
                  refine wp_of e172 c172_277 (rw_iadd (pc' := 278) rfl ?_)
                  refine wp_of e172 c172_278 (xp_I (pc' := 281) lf_9_78 w83692 g0 sh_42 (by decide) (by decide) ty_42_8 rfl rfl (by omega) (by omega) ⟨by omega, by omega⟩ rfl (fun H83698 e83699 w83700 => ?_))
                  have f83701 := f83693.put' e83699 g0 rfl
                  have k83702 : H83698 r0 8 = (H83690 r0 8) + 1 := wq_u_s e83699
                  have k83703 : H83698 r0 9 = H83685 r0 9 := ((wq_u_j e83699 rfl).trans (wq_u_j e83691 rfl))
                  have k83704 : H83698 r0 10 = H83633 r0 10 := ((wq_u_j e83699 rfl).trans ((wq_u_j e83691 rfl).trans ((wq_u_j e83686 rfl).trans ((wq_u_j e83644 rfl).trans (wq_u_j e83639 rfl)))))
                  have k83705 := wOV_e (H := H83698) (m := r0)
                  have k83706 : wJ H83698 r0 = 1 := wJ_1.mpr ⟨by omega, by omega⟩
                  exact wp_return e172 c172_281 rfl ⟨rfl, w83700, f83701, rfl, by omega, by omega, by omega, by omega, by omega, by omega⟩
                · refine wp_of e172 c172_255 (rw_iload_n (pc' := 256) (z := z83659) rfl rfl ?_)
                  refine wp_of e172 c172_256 (rw_bipush (pc' := 258) (z := 44) rfl (by decide) ?_)
                  refine wp_of e172 c172_258 (rw_icmp_ne (p1 := 281) (p2 := 261) (by decide) rfl ⟨by omega, by omega⟩ ⟨by omega, by omega⟩ (fun c83707 => ?_) (fun c83707 => ?_))
                  · have k83708 : H83643 r0 9 = H83638 r0 9 := (wq_u_j e83644 rfl)
                    have k83709 : H83643 r0 10 = H83633 r0 10 := ((wq_u_j e83644 rfl).trans (wq_u_j e83639 rfl))
                    have k83710 := wOV_e (H := H83643) (m := r0)
                    have k83711 : wJ H83643 r0 = 1 := wJ_1.mpr ⟨by omega, by omega⟩
                    exact wp_return e172 c172_281 rfl ⟨rfl, w83645, f83646, rfl, by omega, by omega, by omega, by omega, by omega, by omega⟩
                  · refine wp_of e172 c172_261 (rw_aload_n (pc' := 262) (v := .ref r0) rfl rfl rfl ?_)
                    refine wp_of e172 c172_262 (rw_iconst (pc' := 263) rfl ?_)
                    refine wp_of e172 c172_263 (xp_I (pc' := 266) lf_9_75 w83645 g0 sh_42 (by decide) (by decide) ty_42_9 rfl rfl (by omega) (by omega) ⟨by omega, by omega⟩ rfl (fun H83712 e83713 w83714 => ?_))
                    have f83715 := f83646.put' e83713 g0 rfl
                    have k83716 : H83712 r0 9 = 4 := wq_u_s e83713
                    refine wp_of e172 c172_266 (rw_aload_n (pc' := 267) (v := .ref r0) rfl rfl rfl ?_)
                    refine wp_of e172 c172_267 (rw_iload_n (pc' := 268) (z := z83659) rfl rfl ?_)
                    refine wp_of e172 c172_268 (xp_I (pc' := 271) lf_9_87 w83714 g0 sh_42 (by decide) (by decide) ty_42_11 rfl rfl (by omega) (by omega) ⟨by omega, by omega⟩ rfl (fun H83717 e83718 w83719 => ?_))
                    have f83720 := f83715.put' e83718 g0 rfl
                    have k83721 : H83717 r0 11 = z83659 := wq_u_s e83718
                    refine wp_of e172 c172_271 (rw_aload_n (pc' := 272) (v := .ref r0) rfl rfl rfl ?_)
                    refine wp_of e172 c172_272 (rw_dup (pc' := 273) rfl rfl ?_)
                    have k83722 : H83717 r0 8 = H83643 r0 8 := ((wq_u_j e83718 rfl).trans (wq_u_j e83713 rfl))
                    refine wp_of e172 c172_273 (xg_I (pc' := 276) lf_9_78 w83719 g0 sh_42 (by decide) (by decide) ty_42_8 rfl rfl (fun b83723 b83724 => ?_))
                    refine wp_of e172 c172_276 (rw_iconst (pc' := 277) rfl ?_)
                    refine wp_of e172 c172_277 (rw_iadd (pc' := 278) rfl ?_)
                    refine wp_of e172 c172_278 (xp_I (pc' := 281) lf_9_78 w83719 g0 sh_42 (by decide) (by decide) ty_42_8 rfl rfl (by omega) (by omega) ⟨by omega, by omega⟩ rfl (fun H83725 e83726 w83727 => ?_))
                    have f83728 := f83720.put' e83726 g0 rfl
                    have k83729 : H83725 r0 8 = (H83717 r0 8) + 1 := wq_u_s e83726
                    have k83730 : H83725 r0 9 = H83712 r0 9 := ((wq_u_j e83726 rfl).trans (wq_u_j e83718 rfl))
                    have k83731 : H83725 r0 10 = H83633 r0 10 := ((wq_u_j e83726 rfl).trans ((wq_u_j e83718 rfl).trans ((wq_u_j e83713 rfl).trans ((wq_u_j e83644 rfl).trans (wq_u_j e83639 rfl)))))
                    have k83732 := wOV_e (H := H83725) (m := r0)
                    have k83733 : wJ H83725 r0 = 1 := wJ_1.mpr ⟨by omega, by omega⟩
                    exact wp_return e172 c172_281 rfl ⟨rfl, w83727, f83728, rfl, by omega, by omega, by omega, by omega, by omega, by omega⟩
              · refine wp_of e172 c172_173 (rw_aload_n (pc' := 174) (v := .ref r0) rfl rfl rfl ?_)
                refine wp_of e172 c172_174 (rw_iconst (pc' := 175) rfl ?_)
                refine wp_of e172 c172_175 (xp_I (pc' := 178) lf_9_101 w83645 g0 sh_42 (by decide) (by decide) ty_42_12 rfl rfl (by omega) (by omega) ⟨by omega, by omega⟩ rfl (fun H83734 e83735 w83736 => ?_))
                have f83737 := f83646.put' e83735 g0 rfl
                have k83738 : H83734 r0 12 = 0 := wq_u_s e83735
                have k84231 : H83734 r0 8 = H83643 r0 8 := (wq_u_j e83735 rfl)
                have lp84226 : ∀ (n84227 : Nat) (v84229 : Int) (H84230 : wq_H), WT T H84230 → wfr [(42, 8), (42, 12)] T H83734 H84230 → (0 ≤ v84229 ∧ v84229 ≤ 900) → (H83734 r0 8 ≤ H84230 r0 8) → (v84229 ≤ H84230 r0 8 - H83734 r0 8) → (900 - H84230 r0 8).toNat = n84227 → wp kt 1 172 178 [(2, vI v84229), (0, .ref r0)] [] T H84230 (q_172 r0 T H) := by
                  intro n84227
                  induction n84227 using Nat.strongRecOn with
                  | _ n84227 ih84228 =>
                    intro v84229 H84230 w84232 f84233 b84234 x84235 x84236 m84237
                    have f84238 := f83737.tr f84233 rfl
                    refine wp_of e172 c172_178 (rw_aload_n (pc' := 179) (v := .ref r0) rfl rfl rfl ?_)
                    refine wp_of e172 c172_179 (rw_aload_n (pc' := 180) (v := .ref r0) rfl rfl rfl ?_)
                    refine wp_of e172 c172_180 (xg_I (pc' := 183) lf_9_78 w84232 g0 sh_42 (by decide) (by decide) ty_42_8 rfl rfl (fun b84239 b84240 => ?_))
                    refine wp_of e172 c172_183 (xc_V (pc' := 186) (r := r0) (as := [vI (H84230 r0 8)]) (st := []) (lm_9_81) rfl rfl (Nat.le_of_ble_eq_true rfl) w84232 g0 sh_42 (by decide) rfl (by decide) (s_173 w84232 g0 ⟨by omega, by omega⟩) (fun R84241 T84242 H84243 p84244 => ?_))
                    obtain ⟨e84245, e84247, z84249, e84246, b84250, p84248⟩ := p84244
                    subst e84245
                    subst e84246
                    subst e84247
                    show wp _ _ 172 186 [(2, vI v84229), (0, .ref r0)] [vI z84249] _ H84230 _
                    refine wp_of e172 c172_186 (xc_S (pc' := 189) (as := [vI z84249]) (st := []) (lm_9_98) rfl rfl (Nat.le_of_ble_eq_true rfl) rfl (by decide) (s_175 w84232 ⟨by omega, by omega⟩) (fun R84251 T84252 H84253 p84254 => ?_))
                    obtain ⟨e84255, e84257, z84259, e84256, b84260, p84258⟩ := p84254
                    subst e84255
                    subst e84256
                    subst e84257
                    show wp _ _ 172 189 [(2, vI v84229), (0, .ref r0)] [vI z84259] _ H84230 _
                    refine wp_of e172 c172_189 (rw_if_eq (p1 := 236) (p2 := 192) (by decide) rfl ⟨by omega, by omega⟩ (fun c84261 => ?_) (fun c84261 => ?_))
                    · refine wp_of e172 c172_236 (rw_iload_n (pc' := 237) (z := v84229) rfl rfl ?_)
                      refine wp_of e172 c172_237 (rw_iconst (pc' := 238) rfl ?_)
                      refine wp_of e172 c172_238 (rw_icmp_gt (p1 := 281) (p2 := 241) (by decide) rfl ⟨by omega, by omega⟩ ⟨by omega, by omega⟩ (fun c84262 => ?_) (fun c84262 => ?_))
                      · have k84263 : H84230 r0 9 = H83638 r0 9 := ((f84233 r0 9 _ g0 rfl).trans ((wq_u_j e83735 rfl).trans (wq_u_j e83644 rfl)))
                        have k84264 : H84230 r0 10 = H83633 r0 10 := ((f84233 r0 10 _ g0 rfl).trans ((wq_u_j e83735 rfl).trans ((wq_u_j e83644 rfl).trans (wq_u_j e83639 rfl))))
                        have k84265 := wOV_e (H := H84230) (m := r0)
                        have k84266 : wJ H84230 r0 = 1 := wJ_1.mpr ⟨by omega, by omega⟩
                        exact wp_return e172 c172_281 rfl ⟨rfl, w84232, f84238, rfl, by omega, by omega, by omega, by omega, by omega, by omega⟩
                      · refine wp_of e172 c172_241 (rw_aload_n (pc' := 242) (v := .ref r0) rfl rfl rfl ?_)
                        refine wp_of e172 c172_242 (rw_iconst (pc' := 243) rfl ?_)
                        refine wp_of e172 c172_243 (xp_I (pc' := 246) lf_9_75 w84232 g0 sh_42 (by decide) (by decide) ty_42_9 rfl rfl (by omega) (by omega) ⟨by omega, by omega⟩ rfl (fun H84267 e84268 w84269 => ?_))
                        have f84270 := f84238.put' e84268 g0 rfl
                        have k84271 : H84267 r0 9 = 3 := wq_u_s e84268
                        refine wp_of e172 c172_246 (rw_goto (p1 := 281) (by decide) ?_)
                        have k84272 : H84267 r0 8 = H84230 r0 8 := (wq_u_j e84268 rfl)
                        have k84273 : H84267 r0 10 = H83633 r0 10 := ((wq_u_j e84268 rfl).trans ((f84233 r0 10 _ g0 rfl).trans ((wq_u_j e83735 rfl).trans ((wq_u_j e83644 rfl).trans (wq_u_j e83639 rfl)))))
                        have k84274 := wOV_e (H := H84267) (m := r0)
                        have k84275 : wJ H84267 r0 = 1 := wJ_1.mpr ⟨by omega, by omega⟩
                        exact wp_return e172 c172_281 rfl ⟨rfl, w84269, f84270, rfl, by omega, by omega, by omega, by omega, by omega, by omega⟩
                    · refine wp_of e172 c172_192 (rw_iload_n (pc' := 193) (z := v84229) rfl rfl ?_)
                      refine wp_of e172 c172_193 (rw_iconst (pc' := 194) rfl ?_)
                      refine wp_of e172 c172_194 (rw_icmp_ge (p1 := 220) (p2 := 197) (by decide) rfl ⟨by omega, by omega⟩ ⟨by omega, by omega⟩ (fun c84276 => ?_) (fun c84276 => ?_))
                      · refine wp_of e172 c172_220 (rw_iinc (pc' := 223) (z := v84229) (L' := [(2, vI (v84229 + 1)), (0, .ref r0)]) rfl rfl rfl rfl ?_)
                        refine wp_of e172 c172_223 (rw_aload_n (pc' := 224) (v := .ref r0) rfl rfl rfl ?_)
                        refine wp_of e172 c172_224 (rw_dup (pc' := 225) rfl rfl ?_)
                        refine wp_of e172 c172_225 (xg_I (pc' := 228) lf_9_78 w84232 g0 sh_42 (by decide) (by decide) ty_42_8 rfl rfl (fun b84277 b84278 => ?_))
                        refine wp_of e172 c172_228 (rw_iconst (pc' := 229) rfl ?_)
                        refine wp_of e172 c172_229 (rw_iadd (pc' := 230) rfl ?_)
                        refine wp_of e172 c172_230 (xp_I (pc' := 233) lf_9_78 w84232 g0 sh_42 (by decide) (by decide) ty_42_8 rfl rfl (by omega) (by omega) ⟨by omega, by omega⟩ rfl (fun H84279 e84280 w84281 => ?_))
                        have f84282 := f84238.put' e84280 g0 rfl
                        have f84283 := f84233.put' e84280 g0 rfl
                        have k84284 : H84279 r0 8 = (H84230 r0 8) + 1 := wq_u_s e84280
                        refine wp_of e172 c172_233 (rw_goto (p1 := 178) (by decide) ?_)
                        exact wp_lc (ks := [2, 0]) (wl_c rfl (wl_c rfl wl_n)) rfl (by decide) (ih84228 _ (by omega) (v84229 + 1) H84279 w84281 f84283 ⟨by omega, by omega⟩ (by omega) (by omega) rfl)
                      · refine wp_of e172 c172_197 (rw_aload_n (pc' := 198) (v := .ref r0) rfl rfl rfl ?_)
                        refine wp_of e172 c172_198 (rw_bipush (pc' := 200) (z := 10) rfl (by decide) ?_)
                        refine wp_of e172 c172_200 (rw_aload_n (pc' := 201) (v := .ref r0) rfl rfl rfl ?_)
                        refine wp_of e172 c172_201 (xg_I (pc' := 204) lf_9_101 w84232 g0 sh_42 (by decide) (by decide) ty_42_12 rfl rfl (fun b84285 b84286 => ?_))
                        refine wp_of e172 c172_204 (rw_imulw (pc' := 205) rfl ?_)
                        obtain ⟨v84287, e84288⟩ : ∃ x : Int, x = wq_w (10 * (H84230 r0 12)) := ⟨_, rfl⟩
                        rw [← e84288]
                        have b84289 : -2147483648 ≤ v84287 ∧ v84287 ≤ 2147483647 := by
                          rw [e84288]
                          exact wI_w _
                        refine wp_of e172 c172_205 (rw_aload_n (pc' := 206) (v := .ref r0) rfl rfl rfl ?_)
                        refine wp_of e172 c172_206 (rw_aload_n (pc' := 207) (v := .ref r0) rfl rfl rfl ?_)
                        refine wp_of e172 c172_207 (xg_I (pc' := 210) lf_9_78 w84232 g0 sh_42 (by decide) (by decide) ty_42_8 rfl rfl (fun b84290 b84291 => ?_))
                        refine wp_of e172 c172_210 (xc_V (pc' := 213) (r := r0) (as := [vI (H84230 r0 8)]) (st := [vI v84287, .ref r0]) (lm_9_81) rfl rfl (Nat.le_of_ble_eq_true rfl) w84232 g0 sh_42 (by decide) rfl (by decide) (s_173 w84232 g0 ⟨by omega, by omega⟩) (fun R84292 T84293 H84294 p84295 => ?_))
                        obtain ⟨e84296, e84298, z84300, e84297, b84301, p84299⟩ := p84295
                        subst e84296
                        subst e84297
                        subst e84298
                        show wp _ _ 172 213 [(2, vI v84229), (0, .ref r0)] [vI z84300, vI v84287, .ref r0] _ H84230 _
                        refine wp_of e172 c172_213 (rw_iaddw (pc' := 214) rfl ?_)
                        obtain ⟨v84302, e84303⟩ : ∃ x : Int, x = wq_w (v84287 + z84300) := ⟨_, rfl⟩
                        rw [← e84303]
                        have b84304 : -2147483648 ≤ v84302 ∧ v84302 ≤ 2147483647 := by
                          rw [e84303]
                          exact wI_w _
                        refine wp_of e172 c172_214 (rw_bipush (pc' := 216) (z := 48) rfl (by decide) ?_)
                        refine wp_of e172 c172_216 (rw_isubw (pc' := 217) rfl ?_)
                        obtain ⟨v84305, e84306⟩ : ∃ x : Int, x = wq_w (v84302 - 48) := ⟨_, rfl⟩
                        rw [← e84306]
                        have b84307 : -2147483648 ≤ v84305 ∧ v84305 ≤ 2147483647 := by
                          rw [e84306]
                          exact wI_w _
                        refine wp_of e172 c172_217 (xp_I (pc' := 220) lf_9_101 w84232 g0 sh_42 (by decide) (by decide) ty_42_12 rfl rfl (by omega) (by omega) ⟨by omega, by omega⟩ rfl (fun H84308 e84309 w84310 => ?_))
                        have f84311 := f84238.put' e84309 g0 rfl
                        have f84312 := f84233.put' e84309 g0 rfl
                        have k84313 : H84308 r0 12 = v84305 := wq_u_s e84309
                        refine wp_of e172 c172_220 (rw_iinc (pc' := 223) (z := v84229) (L' := [(2, vI (v84229 + 1)), (0, .ref r0)]) rfl rfl rfl rfl ?_)
                        refine wp_of e172 c172_223 (rw_aload_n (pc' := 224) (v := .ref r0) rfl rfl rfl ?_)
                        refine wp_of e172 c172_224 (rw_dup (pc' := 225) rfl rfl ?_)
                        have k84314 : H84308 r0 8 = H84230 r0 8 := (wq_u_j e84309 rfl)
                        refine wp_of e172 c172_225 (xg_I (pc' := 228) lf_9_78 w84310 g0 sh_42 (by decide) (by decide) ty_42_8 rfl rfl (fun b84315 b84316 => ?_))
                        refine wp_of e172 c172_228 (rw_iconst (pc' := 229) rfl ?_)
                        refine wp_of e172 c172_229 (rw_iadd (pc' := 230) rfl ?_)
                        refine wp_of e172 c172_230 (xp_I (pc' := 233) lf_9_78 w84310 g0 sh_42 (by decide) (by decide) ty_42_8 rfl rfl (by omega) (by omega) ⟨by omega, by omega⟩ rfl (fun H84317 e84318 w84319 => ?_))
                        have f84320 := f84311.put' e84318 g0 rfl
                        have f84321 := f84312.put' e84318 g0 rfl
                        have k84322 : H84317 r0 8 = (H84308 r0 8) + 1 := wq_u_s e84318
                        refine wp_of e172 c172_233 (rw_goto (p1 := 178) (by decide) ?_)
                        exact wp_lc (ks := [2, 0]) (wl_c rfl (wl_c rfl wl_n)) rfl (by decide) (ih84228 _ (by omega) (v84229 + 1) H84317 w84319 f84321 ⟨by omega, by omega⟩ (by omega) (by omega) rfl)
                exact wp_lc (ks := [2, 1, 0]) (wl_c rfl (wl_c rfl wl_n)) rfl (by decide) (lp84226 _ 0 H83734 w83736 wfr.rf ⟨by omega, by omega⟩ (by omega) (by omega) rfl)
            · refine wp_of e172 c172_84 (rw_aload_n (pc' := 85) (v := .ref r0) rfl rfl rfl ?_)
              refine wp_of e172 c172_85 (rw_lconst (pc' := 86) (z := 0) rfl rfl ?_)
              refine wp_of e172 c172_86 (xp_L (pc' := 89) lf_9_94 w83645 g0 sh_42 (by decide) (by decide) ty_42_15 rfl rfl (by omega) (by omega) ⟨by omega, by omega⟩ rfl (fun H84323 e84324 w84325 => ?_))
              have f84326 := f83646.put' e84324 g0 rfl
              have k84327 : H84323 r0 15 = 0 := wq_u_s e84324
              have k84778 : H84323 r0 8 = H83643 r0 8 := (wq_u_j e84324 rfl)
              have lp84773 : ∀ (n84774 : Nat) (v84776 : Int) (H84777 : wq_H), WT T H84777 → wfr [(42, 8), (42, 15)] T H84323 H84777 → (0 ≤ v84776 ∧ v84776 ≤ 900) → (H84323 r0 8 ≤ H84777 r0 8) → (v84776 ≤ H84777 r0 8 - H84323 r0 8) → (900 - H84777 r0 8).toNat = n84774 → wp kt 1 172 89 [(2, vI v84776), (0, .ref r0)] [] T H84777 (q_172 r0 T H) := by
                intro n84774
                induction n84774 using Nat.strongRecOn with
                | _ n84774 ih84775 =>
                  intro v84776 H84777 w84779 f84780 b84781 x84782 x84783 m84784
                  have f84785 := f84326.tr f84780 rfl
                  refine wp_of e172 c172_89 (rw_aload_n (pc' := 90) (v := .ref r0) rfl rfl rfl ?_)
                  refine wp_of e172 c172_90 (rw_aload_n (pc' := 91) (v := .ref r0) rfl rfl rfl ?_)
                  refine wp_of e172 c172_91 (xg_I (pc' := 94) lf_9_78 w84779 g0 sh_42 (by decide) (by decide) ty_42_8 rfl rfl (fun b84786 b84787 => ?_))
                  refine wp_of e172 c172_94 (xc_V (pc' := 97) (r := r0) (as := [vI (H84777 r0 8)]) (st := []) (lm_9_81) rfl rfl (Nat.le_of_ble_eq_true rfl) w84779 g0 sh_42 (by decide) rfl (by decide) (s_173 w84779 g0 ⟨by omega, by omega⟩) (fun R84788 T84789 H84790 p84791 => ?_))
                  obtain ⟨e84792, e84794, z84796, e84793, b84797, p84795⟩ := p84791
                  subst e84792
                  subst e84793
                  subst e84794
                  show wp _ _ 172 97 [(2, vI v84776), (0, .ref r0)] [vI z84796] _ H84777 _
                  refine wp_of e172 c172_97 (xc_S (pc' := 100) (as := [vI z84796]) (st := []) (lm_9_90) rfl rfl (Nat.le_of_ble_eq_true rfl) rfl (by decide) (s_174 w84779 ⟨by omega, by omega⟩) (fun R84798 T84799 H84800 p84801 => ?_))
                  obtain ⟨e84802, e84804, z84806, e84803, b84807, p84805⟩ := p84801
                  subst e84802
                  subst e84803
                  subst e84804
                  show wp _ _ 172 100 [(2, vI v84776), (0, .ref r0)] [vI z84806] _ H84777 _
                  refine wp_of e172 c172_100 (rw_if_eq (p1 := 152) (p2 := 103) (by decide) rfl ⟨by omega, by omega⟩ (fun c84808 => ?_) (fun c84808 => ?_))
                  · refine wp_of e172 c172_152 (rw_iload_n (pc' := 153) (z := v84776) rfl rfl ?_)
                    refine wp_of e172 c172_153 (rw_bipush (pc' := 155) (z := 8) rfl (by decide) ?_)
                    refine wp_of e172 c172_155 (rw_icmp_gt (p1 := 281) (p2 := 158) (by decide) rfl ⟨by omega, by omega⟩ ⟨by omega, by omega⟩ (fun c84809 => ?_) (fun c84809 => ?_))
                    · have k84810 : H84777 r0 9 = H83638 r0 9 := ((f84780 r0 9 _ g0 rfl).trans ((wq_u_j e84324 rfl).trans (wq_u_j e83644 rfl)))
                      have k84811 : H84777 r0 10 = H83633 r0 10 := ((f84780 r0 10 _ g0 rfl).trans ((wq_u_j e84324 rfl).trans ((wq_u_j e83644 rfl).trans (wq_u_j e83639 rfl))))
                      have k84812 := wOV_e (H := H84777) (m := r0)
                      have k84813 : wJ H84777 r0 = 1 := wJ_1.mpr ⟨by omega, by omega⟩
                      exact wp_return e172 c172_281 rfl ⟨rfl, w84779, f84785, rfl, by omega, by omega, by omega, by omega, by omega, by omega⟩
                    · refine wp_of e172 c172_158 (rw_aload_n (pc' := 159) (v := .ref r0) rfl rfl rfl ?_)
                      refine wp_of e172 c172_159 (rw_iconst (pc' := 160) rfl ?_)
                      refine wp_of e172 c172_160 (xp_I (pc' := 163) lf_9_75 w84779 g0 sh_42 (by decide) (by decide) ty_42_9 rfl rfl (by omega) (by omega) ⟨by omega, by omega⟩ rfl (fun H84814 e84815 w84816 => ?_))
                      have f84817 := f84785.put' e84815 g0 rfl
                      have k84818 : H84814 r0 9 = 2 := wq_u_s e84815
                      refine wp_of e172 c172_163 (rw_goto (p1 := 281) (by decide) ?_)
                      have k84819 : H84814 r0 8 = H84777 r0 8 := (wq_u_j e84815 rfl)
                      have k84820 : H84814 r0 10 = H83633 r0 10 := ((wq_u_j e84815 rfl).trans ((f84780 r0 10 _ g0 rfl).trans ((wq_u_j e84324 rfl).trans ((wq_u_j e83644 rfl).trans (wq_u_j e83639 rfl)))))
                      have k84821 := wOV_e (H := H84814) (m := r0)
                      have k84822 : wJ H84814 r0 = 1 := wJ_1.mpr ⟨by omega, by omega⟩
                      exact wp_return e172 c172_281 rfl ⟨rfl, w84816, f84817, rfl, by omega, by omega, by omega, by omega, by omega, by omega⟩
                  · refine wp_of e172 c172_103 (rw_iload_n (pc' := 104) (z := v84776) rfl rfl ?_)
                    refine wp_of e172 c172_104 (rw_bipush (pc' := 106) (z := 8) rfl (by decide) ?_)
                    refine wp_of e172 c172_106 (rw_icmp_ge (p1 := 136) (p2 := 109) (by decide) rfl ⟨by omega, by omega⟩ ⟨by omega, by omega⟩ (fun c84823 => ?_) (fun c84823 => ?_))
                    · refine wp_of e172 c172_136 (rw_iinc (pc' := 139) (z := v84776) (L' := [(2, vI (v84776 + 1)), (0, .ref r0)]) rfl rfl rfl rfl ?_)
                      refine wp_of e172 c172_139 (rw_aload_n (pc' := 140) (v := .ref r0) rfl rfl rfl ?_)
                      refine wp_of e172 c172_140 (rw_dup (pc' := 141) rfl rfl ?_)
                      refine wp_of e172 c172_141 (xg_I (pc' := 144) lf_9_78 w84779 g0 sh_42 (by decide) (by decide) ty_42_8 rfl rfl (fun b84824 b84825 => ?_))
                      refine wp_of e172 c172_144 (rw_iconst (pc' := 145) rfl ?_)
                      refine wp_of e172 c172_145 (rw_iadd (pc' := 146) rfl ?_)
                      refine wp_of e172 c172_146 (xp_I (pc' := 149) lf_9_78 w84779 g0 sh_42 (by decide) (by decide) ty_42_8 rfl rfl (by omega) (by omega) ⟨by omega, by omega⟩ rfl (fun H84826 e84827 w84828 => ?_))
                      have f84829 := f84785.put' e84827 g0 rfl
                      have f84830 := f84780.put' e84827 g0 rfl
                      have k84831 : H84826 r0 8 = (H84777 r0 8) + 1 := wq_u_s e84827
                      refine wp_of e172 c172_149 (rw_goto (p1 := 89) (by decide) ?_)
                      exact wp_lc (ks := [2, 0]) (wl_c rfl (wl_c rfl wl_n)) rfl (by decide) (ih84775 _ (by omega) (v84776 + 1) H84826 w84828 f84830 ⟨by omega, by omega⟩ (by omega) (by omega) rfl)
                    · refine wp_of e172 c172_109 (rw_aload_n (pc' := 110) (v := .ref r0) rfl rfl rfl ?_)
                      refine wp_of e172 c172_110 (rw_ldc2 (pc' := 113) (z := 32) rfl rfl rfl ?_)
                      refine wp_of e172 c172_113 (rw_aload_n (pc' := 114) (v := .ref r0) rfl rfl rfl ?_)
                      refine wp_of e172 c172_114 (xg_L (pc' := 117) lf_9_94 w84779 g0 sh_42 (by decide) (by decide) ty_42_15 rfl rfl (fun b84832 b84833 => ?_))
                      refine wp_of e172 c172_117 (rw_lmulw (pc' := 118) rfl ?_)
                      obtain ⟨v84834, e84835⟩ : ∃ x : Int, x = wl_w (32 * (H84777 r0 15)) := ⟨_, rfl⟩
                      rw [← e84835]
                      have b84836 : -9223372036854775808 ≤ v84834 ∧ v84834 ≤ 9223372036854775807 := by
                        rw [e84835]
                        exact wL_w _
                      refine wp_of e172 c172_118 (rw_aload_n (pc' := 119) (v := .ref r0) rfl rfl rfl ?_)
                      refine wp_of e172 c172_119 (rw_aload_n (pc' := 120) (v := .ref r0) rfl rfl rfl ?_)
                      refine wp_of e172 c172_120 (xg_I (pc' := 123) lf_9_78 w84779 g0 sh_42 (by decide) (by decide) ty_42_8 rfl rfl (fun b84837 b84838 => ?_))
                      refine wp_of e172 c172_123 (xc_V (pc' := 126) (r := r0) (as := [vI (H84777 r0 8)]) (st := [vL v84834, .ref r0]) (lm_9_81) rfl rfl (Nat.le_of_ble_eq_true rfl) w84779 g0 sh_42 (by decide) rfl (by decide) (s_173 w84779 g0 ⟨by omega, by omega⟩) (fun R84839 T84840 H84841 p84842 => ?_))
                      obtain ⟨e84843, e84845, z84847, e84844, b84848, p84846⟩ := p84842
                      subst e84843
                      subst e84844
                      subst e84845
                      show wp _ _ 172 126 [(2, vI v84776), (0, .ref r0)] [vI z84847, vL v84834, .ref r0] _ H84777 _
                      refine wp_of e172 c172_126 (rw_bipush (pc' := 128) (z := 97) rfl (by decide) ?_)
                      refine wp_of e172 c172_128 (rw_isub (pc' := 129) rfl ?_)
                      refine wp_of e172 c172_129 (rw_iconst (pc' := 130) rfl ?_)
                      refine wp_of e172 c172_130 (rw_iadd (pc' := 131) rfl ?_)
                      refine wp_of e172 c172_131 (rw_i2l (pc' := 132) rfl ⟨by omega, by omega⟩ ?_)
                      refine wp_of e172 c172_132 (rw_laddw (pc' := 133) rfl ?_)
                      obtain ⟨v84849, e84850⟩ : ∃ x : Int, x = wl_w (v84834 + ((z84847 - 97) + 1)) := ⟨_, rfl⟩
                      rw [← e84850]
                      have b84851 : -9223372036854775808 ≤ v84849 ∧ v84849 ≤ 9223372036854775807 := by
                        rw [e84850]
                        exact wL_w _
                      refine wp_of e172 c172_133 (xp_L (pc' := 136) lf_9_94 w84779 g0 sh_42 (by decide) (by decide) ty_42_15 rfl rfl (by omega) (by omega) ⟨by omega, by omega⟩ rfl (fun H84852 e84853 w84854 => ?_))
                      have f84855 := f84785.put' e84853 g0 rfl
                      have f84856 := f84780.put' e84853 g0 rfl
                      have k84857 : H84852 r0 15 = v84849 := wq_u_s e84853
                      refine wp_of e172 c172_136 (rw_iinc (pc' := 139) (z := v84776) (L' := [(2, vI (v84776 + 1)), (0, .ref r0)]) rfl rfl rfl rfl ?_)
                      refine wp_of e172 c172_139 (rw_aload_n (pc' := 140) (v := .ref r0) rfl rfl rfl ?_)
                      refine wp_of e172 c172_140 (rw_dup (pc' := 141) rfl rfl ?_)
                      have k84858 : H84852 r0 8 = H84777 r0 8 := (wq_u_j e84853 rfl)
                      refine wp_of e172 c172_141 (xg_I (pc' := 144) lf_9_78 w84854 g0 sh_42 (by decide) (by decide) ty_42_8 rfl rfl (fun b84859 b84860 => ?_))
                      refine wp_of e172 c172_144 (rw_iconst (pc' := 145) rfl ?_)
                      refine wp_of e172 c172_145 (rw_iadd (pc' := 146) rfl ?_)
                      refine wp_of e172 c172_146 (xp_I (pc' := 149) lf_9_78 w84854 g0 sh_42 (by decide) (by decide) ty_42_8 rfl rfl (by omega) (by omega) ⟨by omega, by omega⟩ rfl (fun H84861 e84862 w84863 => ?_))
                      have f84864 := f84855.put' e84862 g0 rfl
                      have f84865 := f84856.put' e84862 g0 rfl
                      have k84866 : H84861 r0 8 = (H84852 r0 8) + 1 := wq_u_s e84862
                      refine wp_of e172 c172_149 (rw_goto (p1 := 89) (by decide) ?_)
                      exact wp_lc (ks := [2, 0]) (wl_c rfl (wl_c rfl wl_n)) rfl (by decide) (ih84775 _ (by omega) (v84776 + 1) H84861 w84863 f84865 ⟨by omega, by omega⟩ (by omega) (by omega) rfl)
              exact wp_lc (ks := [2, 1, 0]) (wl_c rfl (wl_c rfl wl_n)) rfl (by decide) (lp84773 _ 0 H84323 w84325 wfr.rf ⟨by omega, by omega⟩ (by omega) (by omega) rfl)
          · refine wp_of e172 c172_69 (rw_aload_n (pc' := 70) (v := .ref r0) rfl rfl rfl ?_)
            refine wp_of e172 c172_70 (rw_iconst (pc' := 71) rfl ?_)
            refine wp_of e172 c172_71 (xp_I (pc' := 74) lf_9_75 w83645 g0 sh_42 (by decide) (by decide) ty_42_9 rfl rfl (by omega) (by omega) ⟨by omega, by omega⟩ rfl (fun H84867 e84868 w84869 => ?_))
            have f84870 := f83646.put' e84868 g0 rfl
            have k84871 : H84867 r0 9 = 1 := wq_u_s e84868
            refine wp_of e172 c172_74 (rw_goto (p1 := 281) (by decide) ?_)
            have k84872 : H84867 r0 8 = H83643 r0 8 := (wq_u_j e84868 rfl)
            have k84873 : H84867 r0 10 = H83633 r0 10 := ((wq_u_j e84868 rfl).trans ((wq_u_j e83644 rfl).trans (wq_u_j e83639 rfl)))
            have k84874 := wOV_e (H := H84867) (m := r0)
            have k84875 : wJ H84867 r0 = 1 := wJ_1.mpr ⟨by omega, by omega⟩
            exact wp_return e172 c172_281 rfl ⟨rfl, w84869, f84870, rfl, by omega, by omega, by omega, by omega, by omega, by omega⟩
        · refine wp_of e172 c172_22 (rw_aload_n (pc' := 23) (v := .ref r0) rfl rfl rfl ?_)
          refine wp_of e172 c172_23 (rw_dup (pc' := 24) rfl rfl ?_)
          refine wp_of e172 c172_24 (xg_I (pc' := 27) lf_9_78 w83613 g0 sh_42 (by decide) (by decide) ty_42_8 rfl rfl (fun b84876 b84877 => ?_))
          refine wp_of e172 c172_27 (rw_iconst (pc' := 28) rfl ?_)
          refine wp_of e172 c172_28 (rw_iadd (pc' := 29) rfl ?_)
          refine wp_of e172 c172_29 (xp_I (pc' := 32) lf_9_78 w83613 g0 sh_42 (by decide) (by decide) ty_42_8 rfl rfl (by omega) (by omega) ⟨by omega, by omega⟩ rfl (fun H84878 e84879 w84880 => ?_))
          have f84881 := f83617.put' e84879 g0 rfl
          have f84882 := f83614.put' e84879 g0 rfl
          have k84883 : H84878 r0 8 = (H83612 r0 8) + 1 := wq_u_s e84879
          refine wp_of e172 c172_32 (rw_goto (p1 := 9) (by decide) ?_)
          exact wp_lc (ks := [0]) (wl_c rfl wl_n) rfl (by decide) (ih83611 _ (by omega) H84878 w84880 f84882 (by omega) rfl)
    exact wp_lc (ks := [0]) (wl_c rfl wl_n) rfl (by decide) (lp83609 _ H hW wfr.rf (by omega) rfl)
  · exact wp_return e172 c172_8 rfl ⟨rfl, hW, f0, rfl, by omega, by omega, by omega, by omega, by omega, by omega⟩

/-! StrikeAwakeModel.goesOn()V -/
abbrev q_172_f (r0 : Nat) (T : wq_T) (H : wq_H) : Option Value → wq_T → wq_H → Prop := fun r T' H' => T = T' ∧ WT T H' ∧ wfr [(42, 8), (42, 9), (42, 10), (42, 11), (42, 12), (42, 15)] T H H' ∧ none = r ∧ (wJ H' r0 = 1) ∧ (wOV H' r0 ≤ 1) ∧ (H' r0 10 ≤ 900)
set_option maxHeartbeats 4000000 in
theorem s_172_f {kt : Nat → Option mc_E} {T : wq_T} {H : wq_H} {r0 : Nat} (hW : WT T H) (g0 : T.2.2.2 r0 = some 42) (p0 : H r0 9 = 0) : wpc kt 2 172 [.ref r0] T H (q_172_f r0 T H) := by
  refine wp_enter e172 (Nat.le_of_ble_eq_true rfl) rfl ?_
  have f0 : wfr [(42, 8), (42, 9), (42, 10), (42, 11), (42, 12), (42, 15)] T H H := wfr.rf
  show wp _ _ 172 0 [(0, .ref r0)] [] _ H _
  have b86160 : (-2147483648) ≤ H r0 10 ∧ H r0 10 ≤ 2147483647 := hW.box g0 (n := 33) rfl (by decide) rfl
  have b86161 : 0 ≤ H r0 9 ∧ H r0 9 ≤ 5 := hW.box g0 (n := 33) rfl (by decide) rfl
  have b86162 : 0 ≤ H r0 8 ∧ H r0 8 ≤ 900 := hW.box g0 (n := 33) rfl (by decide) rfl
  have ho := wOV_e (H := H) (m := r0)
  refine wp_of e172 c172_0 (rw_aload_n (pc' := 1) (v := .ref r0) rfl rfl rfl ?_)
  refine wp_of e172 c172_1 (xg_I (pc' := 4) lf_9_75 hW g0 sh_42 (by decide) (by decide) ty_42_9 rfl rfl (fun b86163 b86164 => ?_))
  have k86165 := wOV_e (H := H) (m := r0)
  refine wp_of e172 c172_4 (rw_iconst (pc' := 5) rfl ?_)
  refine wp_of e172 c172_5 (rw_icmp_ne (p1 := 9) (p2 := 8) (by decide) rfl ⟨by omega, by omega⟩ ⟨by omega, by omega⟩ (fun c86166 => ?_) (fun c86166 => ?_))
  · have lp86208 : ∀ (n86209 : Nat)  (H86211 : wq_H), WT T H86211 → wfr [(42, 8)] T H H86211 → (H r0 8 ≤ H86211 r0 8) → (900 - H86211 r0 8).toNat = n86209 → wp kt 1 172 9 [(0, .ref r0)] [] T H86211 (q_172_f r0 T H) := by
      intro n86209
      induction n86209 using Nat.strongRecOn with
      | _ n86209 ih86210 =>
        intro H86211 w86212 f86213 x86214 m86215
        have f86216 := f0.tr f86213 rfl
        refine wp_of e172 c172_9 (rw_aload_n (pc' := 10) (v := .ref r0) rfl rfl rfl ?_)
        refine wp_of e172 c172_10 (rw_aload_n (pc' := 11) (v := .ref r0) rfl rfl rfl ?_)
        refine wp_of e172 c172_11 (xg_I (pc' := 14) lf_9_78 w86212 g0 sh_42 (by decide) (by decide) ty_42_8 rfl rfl (fun b86217 b86218 => ?_))
        refine wp_of e172 c172_14 (xc_V (pc' := 17) (r := r0) (as := [vI (H86211 r0 8)]) (st := []) (lm_9_81) rfl rfl (Nat.le_of_ble_eq_true rfl) w86212 g0 sh_42 (by decide) rfl (by decide) (s_173 w86212 g0 ⟨by omega, by omega⟩) (fun R86219 T86220 H86221 p86222 => ?_))
        obtain ⟨e86223, e86225, z86227, e86224, b86228, p86226⟩ := p86222
        subst e86223
        subst e86224
        subst e86225
        show wp _ _ 172 17 [(0, .ref r0)] [vI z86227] _ H86211 _
        refine wp_of e172 c172_17 (rw_bipush (pc' := 19) (z := 32) rfl (by decide) ?_)
        refine wp_of e172 c172_19 (rw_icmp_ne (p1 := 35) (p2 := 22) (by decide) rfl ⟨by omega, by omega⟩ ⟨by omega, by omega⟩ (fun c86229 => ?_) (fun c86229 => ?_))
        · refine wp_of e172 c172_35 (rw_aload_n (pc' := 36) (v := .ref r0) rfl rfl rfl ?_)
          refine wp_of e172 c172_36 (rw_aload_n (pc' := 37) (v := .ref r0) rfl rfl rfl ?_)
          refine wp_of e172 c172_37 (xg_I (pc' := 40) lf_9_78 w86212 g0 sh_42 (by decide) (by decide) ty_42_8 rfl rfl (fun b86230 b86231 => ?_))
          refine wp_of e172 c172_40 (xp_I (pc' := 43) lf_9_84 w86212 g0 sh_42 (by decide) (by decide) ty_42_10 rfl rfl (by omega) (by omega) ⟨by omega, by omega⟩ rfl (fun H86232 e86233 w86234 => ?_))
          have f86235 := f86216.put' e86233 g0 rfl
          have k86236 : H86232 r0 10 = H86211 r0 8 := wq_u_s e86233
          refine wp_of e172 c172_43 (rw_aload_n (pc' := 44) (v := .ref r0) rfl rfl rfl ?_)
          refine wp_of e172 c172_44 (rw_iconst (pc' := 45) rfl ?_)
          refine wp_of e172 c172_45 (xp_I (pc' := 48) lf_9_75 w86234 g0 sh_42 (by decide) (by decide) ty_42_9 rfl rfl (by omega) (by omega) ⟨by omega, by omega⟩ rfl (fun H86237 e86238 w86239 => ?_))
          have f86240 := f86235.put' e86238 g0 rfl
          have k86241 : H86237 r0 9 = 0 := wq_u_s e86238
          refine wp_of e172 c172_48 (rw_aload_n (pc' := 49) (v := .ref r0) rfl rfl rfl ?_)
          refine wp_of e172 c172_49 (rw_iconst (pc' := 50) rfl ?_)
          refine wp_of e172 c172_50 (xp_I (pc' := 53) lf_9_87 w86239 g0 sh_42 (by decide) (by decide) ty_42_11 rfl rfl (by omega) (by omega) ⟨by omega, by omega⟩ rfl (fun H86242 e86243 w86244 => ?_))
          have f86245 := f86240.put' e86243 g0 rfl
          have k86246 : H86242 r0 11 = 0 := wq_u_s e86243
          refine wp_of e172 c172_53 (rw_aload_n (pc' := 54) (v := .ref r0) rfl rfl rfl ?_)
          refine wp_of e172 c172_54 (rw_aload_n (pc' := 55) (v := .ref r0) rfl rfl rfl ?_)
          have k86247 : H86242 r0 8 = H86211 r0 8 := ((wq_u_j e86243 rfl).trans ((wq_u_j e86238 rfl).trans (wq_u_j e86233 rfl)))
          refine wp_of e172 c172_55 (xg_I (pc' := 58) lf_9_78 w86244 g0 sh_42 (by decide) (by decide) ty_42_8 rfl rfl (fun b86248 b86249 => ?_))
          refine wp_of e172 c172_58 (xc_V (pc' := 61) (r := r0) (as := [vI (H86242 r0 8)]) (st := []) (lm_9_81) rfl rfl (Nat.le_of_ble_eq_true rfl) w86244 g0 sh_42 (by decide) rfl (by decide) (s_173 w86244 g0 ⟨by omega, by omega⟩) (fun R86250 T86251 H86252 p86253 => ?_))
          obtain ⟨e86254, e86256, z86258, e86255, b86259, p86257⟩ := p86253
          subst e86254
          subst e86255
          subst e86256
          show wp _ _ 172 61 [(0, .ref r0)] [vI z86258] _ H86242 _
          refine wp_of e172 c172_61 (rw_istore_n (pc' := 62) (z := z86258) (L' := [(1, vI z86258), (0, .ref r0)]) rfl rfl rfl ?_)
          refine wp_of e172 c172_62 (rw_iconst (pc' := 63) rfl ?_)
          refine wp_of e172 c172_63 (rw_istore_n (pc' := 64) (z := 0) (L' := [(2, vI 0), (1, vI z86258), (0, .ref r0)]) rfl rfl rfl ?_)
          refine wp_of e172 c172_64 (rw_iload_n (pc' := 65) (z := z86258) rfl rfl ?_)
          refine wp_of e172 c172_65 (rw_iconst (pc' := 66) rfl ?_)
          refine wp_of e172 c172_66 (rw_icmp_ne (p1 := 77) (p2 := 69) (by decide) rfl ⟨by omega, by omega⟩ ⟨by omega, by omega⟩ (fun c86260 => ?_) (fun c86260 => ?_))
          · refine wp_of e172 c172_77 (rw_iload_n (pc' := 78) (z := z86258) rfl rfl ?_)
            refine wp_of e172 c172_78 (xc_S (pc' := 81) (as := [vI z86258]) (st := []) (lm_9_90) rfl rfl (Nat.le_of_ble_eq_true rfl) rfl (by decide) (s_174 w86244 ⟨by omega, by omega⟩) (fun R86261 T86262 H86263 p86264 => ?_))
            obtain ⟨e86265, e86267, z86269, e86266, b86270, p86268⟩ := p86264
            subst e86265
            subst e86266
            subst e86267
            show wp _ _ 172 81 [(2, vI 0), (1, vI z86258), (0, .ref r0)] [vI z86269] _ H86242 _
            refine wp_of e172 c172_81 (rw_if_eq (p1 := 166) (p2 := 84) (by decide) rfl ⟨by omega, by omega⟩ (fun c86271 => ?_) (fun c86271 => ?_))
            · refine wp_of e172 c172_166 (rw_iload_n (pc' := 167) (z := z86258) rfl rfl ?_)
              refine wp_of e172 c172_167 (xc_S (pc' := 170) (as := [vI z86258]) (st := []) (lm_9_98) rfl rfl (Nat.le_of_ble_eq_true rfl) rfl (by decide) (s_175 w86244 ⟨by omega, by omega⟩) (fun R86272 T86273 H86274 p86275 => ?_))
              obtain ⟨e86276, e86278, z86280, e86277, b86281, p86279⟩ := p86275
              subst e86276
              subst e86277
              subst e86278
              show wp _ _ 172 170 [(2, vI 0), (1, vI z86258), (0, .ref r0)] [vI z86280] _ H86242 _
              refine wp_of e172 c172_170 (rw_if_eq (p1 := 249) (p2 := 173) (by decide) rfl ⟨by omega, by omega⟩ (fun c86282 => ?_) (fun c86282 => ?_))
              · refine wp_of e172 c172_249 (rw_iload_n (pc' := 250) (z := z86258) rfl rfl ?_)
                refine wp_of e172 c172_250 (rw_bipush (pc' := 252) (z := 59) rfl (by decide) ?_)
                refine wp_of e172 c172_252 (rw_icmp_eq (p1 := 261) (p2 := 255) (by decide) rfl ⟨by omega, by omega⟩ ⟨by omega, by omega⟩ (fun c86283 => ?_) (fun c86283 => ?_))
                · refine wp_of e172 c172_261 (rw_aload_n (pc' := 262) (v := .ref r0) rfl rfl rfl ?_)
                  refine wp_of e172 c172_262 (rw_iconst (pc' := 263) rfl ?_)
                  refine wp_of e172 c172_263 (xp_I (pc' := 266) lf_9_75 w86244 g0 sh_42 (by decide) (by decide) ty_42_9 rfl rfl (by omega) (by omega) ⟨by omega, by omega⟩ rfl (fun H86284 e86285 w86286 => ?_))
                  have f86287 := f86245.put' e86285 g0 rfl
                  have k86288 : H86284 r0 9 = 4 := wq_u_s e86285
                  refine wp_of e172 c172_266 (rw_aload_n (pc' := 267) (v := .ref r0) rfl rfl rfl ?_)
                  refine wp_of e172 c172_267 (rw_iload_n (pc' := 268) (z := z86258) rfl rfl ?_)
                  refine wp_of e172 c172_268 (xp_I (pc' := 271) lf_9_87 w86286 g0 sh_42 (by decide) (by decide) ty_42_11 rfl rfl (by omega) (by omega) ⟨by omega, by omega⟩ rfl (fun H86289 e86290 w86291 => ?_))
                  have f86292 := f86287.put' e86290 g0 rfl
                  have k86293 : H86289 r0 11 = z86258 := wq_u_s e86290
                  refine wp_of e172 c172_271 (rw_aload_n (pc' := 272) (v := .ref r0) rfl rfl rfl ?_)
                  refine wp_of e172 c172_272 (rw_dup (pc' := 273) rfl rfl ?_)
                  have k86294 : H86289 r0 8 = H86242 r0 8 := ((wq_u_j e86290 rfl).trans (wq_u_j e86285 rfl))
                  refine wp_of e172 c172_273 (xg_I (pc' := 276) lf_9_78 w86291 g0 sh_42 (by decide) (by decide) ty_42_8 rfl rfl (fun b86295 b86296 => ?_))
                  refine wp_of e172 c172_276 (rw_iconst (pc' := 277) rfl ?_)
                  refine wp_of e172 c172_277 (rw_iadd (pc' := 278) rfl ?_)
                  refine wp_of e172 c172_278 (xp_I (pc' := 281) lf_9_78 w86291 g0 sh_42 (by decide) (by decide) ty_42_8 rfl rfl (by omega) (by omega) ⟨by omega, by omega⟩ rfl (fun H86297 e86298 w86299 => ?_))
                  have f86300 := f86292.put' e86298 g0 rfl
                  have k86301 : H86297 r0 8 = (H86289 r0 8) + 1 := wq_u_s e86298
                  have k86302 : H86297 r0 9 = H86284 r0 9 := ((wq_u_j e86298 rfl).trans (wq_u_j e86290 rfl))
                  have k86303 : H86297 r0 10 = H86232 r0 10 := ((wq_u_j e86298 rfl).trans ((wq_u_j e86290 rfl).trans ((wq_u_j e86285 rfl).trans ((wq_u_j e86243 rfl).trans (wq_u_j e86238 rfl)))))
                  have k86304 := wOV_e (H := H86297) (m := r0)
                  have k86305 : wJ H86297 r0 = 1 := wJ_1.mpr ⟨by omega, by omega⟩
                  exact wp_return e172 c172_281 rfl ⟨rfl, w86299, f86300, rfl, by omega, by omega, by omega⟩
                · refine wp_of e172 c172_255 (rw_iload_n (pc' := 256) (z := z86258) rfl rfl ?_)
                  refine wp_of e172 c172_256 (rw_bipush (pc' := 258) (z := 44) rfl (by decide) ?_)
                  refine wp_of e172 c172_258 (rw_icmp_ne (p1 := 281) (p2 := 261) (by decide) rfl ⟨by omega, by omega⟩ ⟨by omega, by omega⟩ (fun c86306 => ?_) (fun c86306 => ?_))
                  · have k86307 : H86242 r0 9 = H86237 r0 9 := (wq_u_j e86243 rfl)
                    have k86308 : H86242 r0 10 = H86232 r0 10 := ((wq_u_j e86243 rfl).trans (wq_u_j e86238 rfl))
                    have k86309 := wOV_e (H := H86242) (m := r0)
                    have k86310 : wJ H86242 r0 = 1 := wJ_1.mpr ⟨by omega, by omega⟩
                    exact wp_return e172 c172_281 rfl ⟨rfl, w86244, f86245, rfl, by omega, by omega, by omega⟩
                  · refine wp_of e172 c172_261 (rw_aload_n (pc' := 262) (v := .ref r0) rfl rfl rfl ?_)
                    refine wp_of e172 c172_262 (rw_iconst (pc' := 263) rfl ?_)
                    refine wp_of e172 c172_263 (xp_I (pc' := 266) lf_9_75 w86244 g0 sh_42 (by decide) (by decide) ty_42_9 rfl rfl (by omega) (by omega) ⟨by omega, by omega⟩ rfl (fun H86311 e86312 w86313 => ?_))
                    have f86314 := f86245.put' e86312 g0 rfl
                    have k86315 : H86311 r0 9 = 4 := wq_u_s e86312
                    refine wp_of e172 c172_266 (rw_aload_n (pc' := 267) (v := .ref r0) rfl rfl rfl ?_)
                    refine wp_of e172 c172_267 (rw_iload_n (pc' := 268) (z := z86258) rfl rfl ?_)
                    refine wp_of e172 c172_268 (xp_I (pc' := 271) lf_9_87 w86313 g0 sh_42 (by decide) (by decide) ty_42_11 rfl rfl (by omega) (by omega) ⟨by omega, by omega⟩ rfl (fun H86316 e86317 w86318 => ?_))
                    have f86319 := f86314.put' e86317 g0 rfl
                    have k86320 : H86316 r0 11 = z86258 := wq_u_s e86317
                    refine wp_of e172 c172_271 (rw_aload_n (pc' := 272) (v := .ref r0) rfl rfl rfl ?_)
                    refine wp_of e172 c172_272 (rw_dup (pc' := 273) rfl rfl ?_)
                    have k86321 : H86316 r0 8 = H86242 r0 8 := ((wq_u_j e86317 rfl).trans (wq_u_j e86312 rfl))
                    refine wp_of e172 c172_273 (xg_I (pc' := 276) lf_9_78 w86318 g0 sh_42 (by decide) (by decide) ty_42_8 rfl rfl (fun b86322 b86323 => ?_))
                    refine wp_of e172 c172_276 (rw_iconst (pc' := 277) rfl ?_)
                    refine wp_of e172 c172_277 (rw_iadd (pc' := 278) rfl ?_)
                    refine wp_of e172 c172_278 (xp_I (pc' := 281) lf_9_78 w86318 g0 sh_42 (by decide) (by decide) ty_42_8 rfl rfl (by omega) (by omega) ⟨by omega, by omega⟩ rfl (fun H86324 e86325 w86326 => ?_))
                    have f86327 := f86319.put' e86325 g0 rfl
                    have k86328 : H86324 r0 8 = (H86316 r0 8) + 1 := wq_u_s e86325
                    have k86329 : H86324 r0 9 = H86311 r0 9 := ((wq_u_j e86325 rfl).trans (wq_u_j e86317 rfl))
                    have k86330 : H86324 r0 10 = H86232 r0 10 := ((wq_u_j e86325 rfl).trans ((wq_u_j e86317 rfl).trans ((wq_u_j e86312 rfl).trans ((wq_u_j e86243 rfl).trans (wq_u_j e86238 rfl)))))
                    have k86331 := wOV_e (H := H86324) (m := r0)
                    have k86332 : wJ H86324 r0 = 1 := wJ_1.mpr ⟨by omega, by omega⟩
                    exact wp_return e172 c172_281 rfl ⟨rfl, w86326, f86327, rfl, by omega, by omega, by omega⟩
              · refine wp_of e172 c172_173 (rw_aload_n (pc' := 174) (v := .ref r0) rfl rfl rfl ?_)
                refine wp_of e172 c172_174 (rw_iconst (pc' := 175) rfl ?_)
                refine wp_of e172 c172_175 (xp_I (pc' := 178) lf_9_101 w86244 g0 sh_42 (by decide) (by decide) ty_42_12 rfl rfl (by omega) (by omega) ⟨by omega, by omega⟩ rfl (fun H86333 e86334 w86335 => ?_))
                have f86336 := f86245.put' e86334 g0 rfl
                have k86337 : H86333 r0 12 = 0 := wq_u_s e86334
                have k86830 : H86333 r0 8 = H86242 r0 8 := (wq_u_j e86334 rfl)
                have lp86825 : ∀ (n86826 : Nat) (v86828 : Int) (H86829 : wq_H), WT T H86829 → wfr [(42, 8), (42, 12)] T H86333 H86829 → (0 ≤ v86828 ∧ v86828 ≤ 900) → (H86333 r0 8 ≤ H86829 r0 8) → (v86828 ≤ H86829 r0 8 - H86333 r0 8) → (900 - H86829 r0 8).toNat = n86826 → wp kt 1 172 178 [(2, vI v86828), (0, .ref r0)] [] T H86829 (q_172_f r0 T H) := by
                  intro n86826
                  induction n86826 using Nat.strongRecOn with
                  | _ n86826 ih86827 =>
                    intro v86828 H86829 w86831 f86832 b86833 x86834 x86835 m86836
                    have f86837 := f86336.tr f86832 rfl
                    refine wp_of e172 c172_178 (rw_aload_n (pc' := 179) (v := .ref r0) rfl rfl rfl ?_)
                    refine wp_of e172 c172_179 (rw_aload_n (pc' := 180) (v := .ref r0) rfl rfl rfl ?_)
                    refine wp_of e172 c172_180 (xg_I (pc' := 183) lf_9_78 w86831 g0 sh_42 (by decide) (by decide) ty_42_8 rfl rfl (fun b86838 b86839 => ?_))
                    refine wp_of e172 c172_183 (xc_V (pc' := 186) (r := r0) (as := [vI (H86829 r0 8)]) (st := []) (lm_9_81) rfl rfl (Nat.le_of_ble_eq_true rfl) w86831 g0 sh_42 (by decide) rfl (by decide) (s_173 w86831 g0 ⟨by omega, by omega⟩) (fun R86840 T86841 H86842 p86843 => ?_))
                    obtain ⟨e86844, e86846, z86848, e86845, b86849, p86847⟩ := p86843
                    subst e86844
                    subst e86845
                    subst e86846
                    show wp _ _ 172 186 [(2, vI v86828), (0, .ref r0)] [vI z86848] _ H86829 _
                    refine wp_of e172 c172_186 (xc_S (pc' := 189) (as := [vI z86848]) (st := []) (lm_9_98) rfl rfl (Nat.le_of_ble_eq_true rfl) rfl (by decide) (s_175 w86831 ⟨by omega, by omega⟩) (fun R86850 T86851 H86852 p86853 => ?_))
                    obtain ⟨e86854, e86856, z86858, e86855, b86859, p86857⟩ := p86853
                    subst e86854
                    subst e86855
                    subst e86856
                    show wp _ _ 172 189 [(2, vI v86828), (0, .ref r0)] [vI z86858] _ H86829 _
                    refine wp_of e172 c172_189 (rw_if_eq (p1 := 236) (p2 := 192) (by decide) rfl ⟨by omega, by omega⟩ (fun c86860 => ?_) (fun c86860 => ?_))
                    · refine wp_of e172 c172_236 (rw_iload_n (pc' := 237) (z := v86828) rfl rfl ?_)
                      refine wp_of e172 c172_237 (rw_iconst (pc' := 238) rfl ?_)
                      refine wp_of e172 c172_238 (rw_icmp_gt (p1 := 281) (p2 := 241) (by decide) rfl ⟨by omega, by omega⟩ ⟨by omega, by omega⟩ (fun c86861 => ?_) (fun c86861 => ?_))
                      · have k86862 : H86829 r0 9 = H86237 r0 9 := ((f86832 r0 9 _ g0 rfl).trans ((wq_u_j e86334 rfl).trans (wq_u_j e86243 rfl)))
                        have k86863 : H86829 r0 10 = H86232 r0 10 := ((f86832 r0 10 _ g0 rfl).trans ((wq_u_j e86334 rfl).trans ((wq_u_j e86243 rfl).trans (wq_u_j e86238 rfl))))
                        have k86864 := wOV_e (H := H86829) (m := r0)
                        have k86865 : wJ H86829 r0 = 1 := wJ_1.mpr ⟨by omega, by omega⟩
                        exact wp_return e172 c172_281 rfl ⟨rfl, w86831, f86837, rfl, by omega, by omega, by omega⟩
                      · refine wp_of e172 c172_241 (rw_aload_n (pc' := 242) (v := .ref r0) rfl rfl rfl ?_)
                        refine wp_of e172 c172_242 (rw_iconst (pc' := 243) rfl ?_)
                        refine wp_of e172 c172_243 (xp_I (pc' := 246) lf_9_75 w86831 g0 sh_42 (by decide) (by decide) ty_42_9 rfl rfl (by omega) (by omega) ⟨by omega, by omega⟩ rfl (fun H86866 e86867 w86868 => ?_))
                        have f86869 := f86837.put' e86867 g0 rfl
                        have k86870 : H86866 r0 9 = 3 := wq_u_s e86867
                        refine wp_of e172 c172_246 (rw_goto (p1 := 281) (by decide) ?_)
                        have k86871 : H86866 r0 8 = H86829 r0 8 := (wq_u_j e86867 rfl)
                        have k86872 : H86866 r0 10 = H86232 r0 10 := ((wq_u_j e86867 rfl).trans ((f86832 r0 10 _ g0 rfl).trans ((wq_u_j e86334 rfl).trans ((wq_u_j e86243 rfl).trans (wq_u_j e86238 rfl)))))
                        have k86873 := wOV_e (H := H86866) (m := r0)
                        have k86874 : wJ H86866 r0 = 1 := wJ_1.mpr ⟨by omega, by omega⟩
                        exact wp_return e172 c172_281 rfl ⟨rfl, w86868, f86869, rfl, by omega, by omega, by omega⟩
                    · refine wp_of e172 c172_192 (rw_iload_n (pc' := 193) (z := v86828) rfl rfl ?_)
                      refine wp_of e172 c172_193 (rw_iconst (pc' := 194) rfl ?_)
                      refine wp_of e172 c172_194 (rw_icmp_ge (p1 := 220) (p2 := 197) (by decide) rfl ⟨by omega, by omega⟩ ⟨by omega, by omega⟩ (fun c86875 => ?_) (fun c86875 => ?_))
                      · refine wp_of e172 c172_220 (rw_iinc (pc' := 223) (z := v86828) (L' := [(2, vI (v86828 + 1)), (0, .ref r0)]) rfl rfl rfl rfl ?_)
                        refine wp_of e172 c172_223 (rw_aload_n (pc' := 224) (v := .ref r0) rfl rfl rfl ?_)
                        refine wp_of e172 c172_224 (rw_dup (pc' := 225) rfl rfl ?_)
                        refine wp_of e172 c172_225 (xg_I (pc' := 228) lf_9_78 w86831 g0 sh_42 (by decide) (by decide) ty_42_8 rfl rfl (fun b86876 b86877 => ?_))
                        refine wp_of e172 c172_228 (rw_iconst (pc' := 229) rfl ?_)
                        refine wp_of e172 c172_229 (rw_iadd (pc' := 230) rfl ?_)
                        refine wp_of e172 c172_230 (xp_I (pc' := 233) lf_9_78 w86831 g0 sh_42 (by decide) (by decide) ty_42_8 rfl rfl (by omega) (by omega) ⟨by omega, by omega⟩ rfl (fun H86878 e86879 w86880 => ?_))
                        have f86881 := f86837.put' e86879 g0 rfl
                        have f86882 := f86832.put' e86879 g0 rfl
                        have k86883 : H86878 r0 8 = (H86829 r0 8) + 1 := wq_u_s e86879
                        refine wp_of e172 c172_233 (rw_goto (p1 := 178) (by decide) ?_)
                        exact wp_lc (ks := [2, 0]) (wl_c rfl (wl_c rfl wl_n)) rfl (by decide) (ih86827 _ (by omega) (v86828 + 1) H86878 w86880 f86882 ⟨by omega, by omega⟩ (by omega) (by omega) rfl)
                      · refine wp_of e172 c172_197 (rw_aload_n (pc' := 198) (v := .ref r0) rfl rfl rfl ?_)
                        refine wp_of e172 c172_198 (rw_bipush (pc' := 200) (z := 10) rfl (by decide) ?_)
                        refine wp_of e172 c172_200 (rw_aload_n (pc' := 201) (v := .ref r0) rfl rfl rfl ?_)
                        refine wp_of e172 c172_201 (xg_I (pc' := 204) lf_9_101 w86831 g0 sh_42 (by decide) (by decide) ty_42_12 rfl rfl (fun b86884 b86885 => ?_))
                        refine wp_of e172 c172_204 (rw_imulw (pc' := 205) rfl ?_)
                        obtain ⟨v86886, e86887⟩ : ∃ x : Int, x = wq_w (10 * (H86829 r0 12)) := ⟨_, rfl⟩
                        rw [← e86887]
                        have b86888 : -2147483648 ≤ v86886 ∧ v86886 ≤ 2147483647 := by
                          rw [e86887]
                          exact wI_w _
                        refine wp_of e172 c172_205 (rw_aload_n (pc' := 206) (v := .ref r0) rfl rfl rfl ?_)
                        refine wp_of e172 c172_206 (rw_aload_n (pc' := 207) (v := .ref r0) rfl rfl rfl ?_)
                        refine wp_of e172 c172_207 (xg_I (pc' := 210) lf_9_78 w86831 g0 sh_42 (by decide) (by decide) ty_42_8 rfl rfl (fun b86889 b86890 => ?_))
                        refine wp_of e172 c172_210 (xc_V (pc' := 213) (r := r0) (as := [vI (H86829 r0 8)]) (st := [vI v86886, .ref r0]) (lm_9_81) rfl rfl (Nat.le_of_ble_eq_true rfl) w86831 g0 sh_42 (by decide) rfl (by decide) (s_173 w86831 g0 ⟨by omega, by omega⟩) (fun R86891 T86892 H86893 p86894 => ?_))
                        obtain ⟨e86895, e86897, z86899, e86896, b86900, p86898⟩ := p86894
                        subst e86895
                        subst e86896
                        subst e86897
                        show wp _ _ 172 213 [(2, vI v86828), (0, .ref r0)] [vI z86899, vI v86886, .ref r0] _ H86829 _
                        refine wp_of e172 c172_213 (rw_iaddw (pc' := 214) rfl ?_)
                        obtain ⟨v86901, e86902⟩ : ∃ x : Int, x = wq_w (v86886 + z86899) := ⟨_, rfl⟩
                        rw [← e86902]
                        have b86903 : -2147483648 ≤ v86901 ∧ v86901 ≤ 2147483647 := by
                          rw [e86902]
                          exact wI_w _
                        refine wp_of e172 c172_214 (rw_bipush (pc' := 216) (z := 48) rfl (by decide) ?_)
                        refine wp_of e172 c172_216 (rw_isubw (pc' := 217) rfl ?_)
                        obtain ⟨v86904, e86905⟩ : ∃ x : Int, x = wq_w (v86901 - 48) := ⟨_, rfl⟩
                        rw [← e86905]
                        have b86906 : -2147483648 ≤ v86904 ∧ v86904 ≤ 2147483647 := by
                          rw [e86905]
                          exact wI_w _
                        refine wp_of e172 c172_217 (xp_I (pc' := 220) lf_9_101 w86831 g0 sh_42 (by decide) (by decide) ty_42_12 rfl rfl (by omega) (by omega) ⟨by omega, by omega⟩ rfl (fun H86907 e86908 w86909 => ?_))
                        have f86910 := f86837.put' e86908 g0 rfl
                        have f86911 := f86832.put' e86908 g0 rfl
                        have k86912 : H86907 r0 12 = v86904 := wq_u_s e86908
                        refine wp_of e172 c172_220 (rw_iinc (pc' := 223) (z := v86828) (L' := [(2, vI (v86828 + 1)), (0, .ref r0)]) rfl rfl rfl rfl ?_)
                        refine wp_of e172 c172_223 (rw_aload_n (pc' := 224) (v := .ref r0) rfl rfl rfl ?_)
                        refine wp_of e172 c172_224 (rw_dup (pc' := 225) rfl rfl ?_)
                        have k86913 : H86907 r0 8 = H86829 r0 8 := (wq_u_j e86908 rfl)
                        refine wp_of e172 c172_225 (xg_I (pc' := 228) lf_9_78 w86909 g0 sh_42 (by decide) (by decide) ty_42_8 rfl rfl (fun b86914 b86915 => ?_))
                        refine wp_of e172 c172_228 (rw_iconst (pc' := 229) rfl ?_)
                        refine wp_of e172 c172_229 (rw_iadd (pc' := 230) rfl ?_)
                        refine wp_of e172 c172_230 (xp_I (pc' := 233) lf_9_78 w86909 g0 sh_42 (by decide) (by decide) ty_42_8 rfl rfl (by omega) (by omega) ⟨by omega, by omega⟩ rfl (fun H86916 e86917 w86918 => ?_))
                        have f86919 := f86910.put' e86917 g0 rfl
                        have f86920 := f86911.put' e86917 g0 rfl
                        have k86921 : H86916 r0 8 = (H86907 r0 8) + 1 := wq_u_s e86917
                        refine wp_of e172 c172_233 (rw_goto (p1 := 178) (by decide) ?_)
                        exact wp_lc (ks := [2, 0]) (wl_c rfl (wl_c rfl wl_n)) rfl (by decide) (ih86827 _ (by omega) (v86828 + 1) H86916 w86918 f86920 ⟨by omega, by omega⟩ (by omega) (by omega) rfl)
                exact wp_lc (ks := [2, 1, 0]) (wl_c rfl (wl_c rfl wl_n)) rfl (by decide) (lp86825 _ 0 H86333 w86335 wfr.rf ⟨by omega, by omega⟩ (by omega) (by omega) rfl)
            · refine wp_of e172 c172_84 (rw_aload_n (pc' := 85) (v := .ref r0) rfl rfl rfl ?_)
              refine wp_of e172 c172_85 (rw_lconst (pc' := 86) (z := 0) rfl rfl ?_)
              refine wp_of e172 c172_86 (xp_L (pc' := 89) lf_9_94 w86244 g0 sh_42 (by decide) (by decide) ty_42_15 rfl rfl (by omega) (by omega) ⟨by omega, by omega⟩ rfl (fun H86922 e86923 w86924 => ?_))
              have f86925 := f86245.put' e86923 g0 rfl
              have k86926 : H86922 r0 15 = 0 := wq_u_s e86923
              have k87377 : H86922 r0 8 = H86242 r0 8 := (wq_u_j e86923 rfl)
              have lp87372 : ∀ (n87373 : Nat) (v87375 : Int) (H87376 : wq_H), WT T H87376 → wfr [(42, 8), (42, 15)] T H86922 H87376 → (0 ≤ v87375 ∧ v87375 ≤ 900) → (H86922 r0 8 ≤ H87376 r0 8) → (v87375 ≤ H87376 r0 8 - H86922 r0 8) → (900 - H87376 r0 8).toNat = n87373 → wp kt 1 172 89 [(2, vI v87375), (0, .ref r0)] [] T H87376 (q_172_f r0 T H) := by
                intro n87373
                induction n87373 using Nat.strongRecOn with
                | _ n87373 ih87374 =>
                  intro v87375 H87376 w87378 f87379 b87380 x87381 x87382 m87383
                  have f87384 := f86925.tr f87379 rfl
                  refine wp_of e172 c172_89 (rw_aload_n (pc' := 90) (v := .ref r0) rfl rfl rfl ?_)
                  refine wp_of e172 c172_90 (rw_aload_n (pc' := 91) (v := .ref r0) rfl rfl rfl ?_)
                  refine wp_of e172 c172_91 (xg_I (pc' := 94) lf_9_78 w87378 g0 sh_42 (by decide) (by decide) ty_42_8 rfl rfl (fun b87385 b87386 => ?_))
                  refine wp_of e172 c172_94 (xc_V (pc' := 97) (r := r0) (as := [vI (H87376 r0 8)]) (st := []) (lm_9_81) rfl rfl (Nat.le_of_ble_eq_true rfl) w87378 g0 sh_42 (by decide) rfl (by decide) (s_173 w87378 g0 ⟨by omega, by omega⟩) (fun R87387 T87388 H87389 p87390 => ?_))
                  obtain ⟨e87391, e87393, z87395, e87392, b87396, p87394⟩ := p87390
                  subst e87391
                  subst e87392
                  subst e87393
                  show wp _ _ 172 97 [(2, vI v87375), (0, .ref r0)] [vI z87395] _ H87376 _
                  refine wp_of e172 c172_97 (xc_S (pc' := 100) (as := [vI z87395]) (st := []) (lm_9_90) rfl rfl (Nat.le_of_ble_eq_true rfl) rfl (by decide) (s_174 w87378 ⟨by omega, by omega⟩) (fun R87397 T87398 H87399 p87400 => ?_))
                  obtain ⟨e87401, e87403, z87405, e87402, b87406, p87404⟩ := p87400
                  subst e87401
                  subst e87402
                  subst e87403
                  show wp _ _ 172 100 [(2, vI v87375), (0, .ref r0)] [vI z87405] _ H87376 _
                  refine wp_of e172 c172_100 (rw_if_eq (p1 := 152) (p2 := 103) (by decide) rfl ⟨by omega, by omega⟩ (fun c87407 => ?_) (fun c87407 => ?_))
                  · refine wp_of e172 c172_152 (rw_iload_n (pc' := 153) (z := v87375) rfl rfl ?_)
                    refine wp_of e172 c172_153 (rw_bipush (pc' := 155) (z := 8) rfl (by decide) ?_)
                    refine wp_of e172 c172_155 (rw_icmp_gt (p1 := 281) (p2 := 158) (by decide) rfl ⟨by omega, by omega⟩ ⟨by omega, by omega⟩ (fun c87408 => ?_) (fun c87408 => ?_))
                    · have k87409 : H87376 r0 9 = H86237 r0 9 := ((f87379 r0 9 _ g0 rfl).trans ((wq_u_j e86923 rfl).trans (wq_u_j e86243 rfl)))
                      have k87410 : H87376 r0 10 = H86232 r0 10 := ((f87379 r0 10 _ g0 rfl).trans ((wq_u_j e86923 rfl).trans ((wq_u_j e86243 rfl).trans (wq_u_j e86238 rfl))))
                      have k87411 := wOV_e (H := H87376) (m := r0)
                      have k87412 : wJ H87376 r0 = 1 := wJ_1.mpr ⟨by omega, by omega⟩
                      exact wp_return e172 c172_281 rfl ⟨rfl, w87378, f87384, rfl, by omega, by omega, by omega⟩
                    · refine wp_of e172 c172_158 (rw_aload_n (pc' := 159) (v := .ref r0) rfl rfl rfl ?_)
                      refine wp_of e172 c172_159 (rw_iconst (pc' := 160) rfl ?_)
                      refine wp_of e172 c172_160 (xp_I (pc' := 163) lf_9_75 w87378 g0 sh_42 (by decide) (by decide) ty_42_9 rfl rfl (by omega) (by omega) ⟨by omega, by omega⟩ rfl (fun H87413 e87414 w87415 => ?_))
                      have f87416 := f87384.put' e87414 g0 rfl
                      have k87417 : H87413 r0 9 = 2 := wq_u_s e87414
                      refine wp_of e172 c172_163 (rw_goto (p1 := 281) (by decide) ?_)
                      have k87418 : H87413 r0 8 = H87376 r0 8 := (wq_u_j e87414 rfl)
                      have k87419 : H87413 r0 10 = H86232 r0 10 := ((wq_u_j e87414 rfl).trans ((f87379 r0 10 _ g0 rfl).trans ((wq_u_j e86923 rfl).trans ((wq_u_j e86243 rfl).trans (wq_u_j e86238 rfl)))))
                      have k87420 := wOV_e (H := H87413) (m := r0)
                      have k87421 : wJ H87413 r0 = 1 := wJ_1.mpr ⟨by omega, by omega⟩
                      exact wp_return e172 c172_281 rfl ⟨rfl, w87415, f87416, rfl, by omega, by omega, by omega⟩
                  · refine wp_of e172 c172_103 (rw_iload_n (pc' := 104) (z := v87375) rfl rfl ?_)
                    refine wp_of e172 c172_104 (rw_bipush (pc' := 106) (z := 8) rfl (by decide) ?_)
                    refine wp_of e172 c172_106 (rw_icmp_ge (p1 := 136) (p2 := 109) (by decide) rfl ⟨by omega, by omega⟩ ⟨by omega, by omega⟩ (fun c87422 => ?_) (fun c87422 => ?_))
                    · refine wp_of e172 c172_136 (rw_iinc (pc' := 139) (z := v87375) (L' := [(2, vI (v87375 + 1)), (0, .ref r0)]) rfl rfl rfl rfl ?_)
                      refine wp_of e172 c172_139 (rw_aload_n (pc' := 140) (v := .ref r0) rfl rfl rfl ?_)
                      refine wp_of e172 c172_140 (rw_dup (pc' := 141) rfl rfl ?_)
                      refine wp_of e172 c172_141 (xg_I (pc' := 144) lf_9_78 w87378 g0 sh_42 (by decide) (by decide) ty_42_8 rfl rfl (fun b87423 b87424 => ?_))
                      refine wp_of e172 c172_144 (rw_iconst (pc' := 145) rfl ?_)
                      refine wp_of e172 c172_145 (rw_iadd (pc' := 146) rfl ?_)
                      refine wp_of e172 c172_146 (xp_I (pc' := 149) lf_9_78 w87378 g0 sh_42 (by decide) (by decide) ty_42_8 rfl rfl (by omega) (by omega) ⟨by omega, by omega⟩ rfl (fun H87425 e87426 w87427 => ?_))
                      have f87428 := f87384.put' e87426 g0 rfl
                      have f87429 := f87379.put' e87426 g0 rfl
                      have k87430 : H87425 r0 8 = (H87376 r0 8) + 1 := wq_u_s e87426
                      refine wp_of e172 c172_149 (rw_goto (p1 := 89) (by decide) ?_)
                      exact wp_lc (ks := [2, 0]) (wl_c rfl (wl_c rfl wl_n)) rfl (by decide) (ih87374 _ (by omega) (v87375 + 1) H87425 w87427 f87429 ⟨by omega, by omega⟩ (by omega) (by omega) rfl)
                    · refine wp_of e172 c172_109 (rw_aload_n (pc' := 110) (v := .ref r0) rfl rfl rfl ?_)
                      refine wp_of e172 c172_110 (rw_ldc2 (pc' := 113) (z := 32) rfl rfl rfl ?_)
                      refine wp_of e172 c172_113 (rw_aload_n (pc' := 114) (v := .ref r0) rfl rfl rfl ?_)
                      refine wp_of e172 c172_114 (xg_L (pc' := 117) lf_9_94 w87378 g0 sh_42 (by decide) (by decide) ty_42_15 rfl rfl (fun b87431 b87432 => ?_))
                      refine wp_of e172 c172_117 (rw_lmulw (pc' := 118) rfl ?_)
                      obtain ⟨v87433, e87434⟩ : ∃ x : Int, x = wl_w (32 * (H87376 r0 15)) := ⟨_, rfl⟩
                      rw [← e87434]
                      have b87435 : -9223372036854775808 ≤ v87433 ∧ v87433 ≤ 9223372036854775807 := by
                        rw [e87434]
                        exact wL_w _
                      refine wp_of e172 c172_118 (rw_aload_n (pc' := 119) (v := .ref r0) rfl rfl rfl ?_)
                      refine wp_of e172 c172_119 (rw_aload_n (pc' := 120) (v := .ref r0) rfl rfl rfl ?_)
                      refine wp_of e172 c172_120 (xg_I (pc' := 123) lf_9_78 w87378 g0 sh_42 (by decide) (by decide) ty_42_8 rfl rfl (fun b87436 b87437 => ?_))
                      refine wp_of e172 c172_123 (xc_V (pc' := 126) (r := r0) (as := [vI (H87376 r0 8)]) (st := [vL v87433, .ref r0]) (lm_9_81) rfl rfl (Nat.le_of_ble_eq_true rfl) w87378 g0 sh_42 (by decide) rfl (by decide) (s_173 w87378 g0 ⟨by omega, by omega⟩) (fun R87438 T87439 H87440 p87441 => ?_))
                      obtain ⟨e87442, e87444, z87446, e87443, b87447, p87445⟩ := p87441
                      subst e87442
                      subst e87443
                      subst e87444
                      show wp _ _ 172 126 [(2, vI v87375), (0, .ref r0)] [vI z87446, vL v87433, .ref r0] _ H87376 _
                      refine wp_of e172 c172_126 (rw_bipush (pc' := 128) (z := 97) rfl (by decide) ?_)
                      refine wp_of e172 c172_128 (rw_isub (pc' := 129) rfl ?_)
                      refine wp_of e172 c172_129 (rw_iconst (pc' := 130) rfl ?_)
                      refine wp_of e172 c172_130 (rw_iadd (pc' := 131) rfl ?_)
                      refine wp_of e172 c172_131 (rw_i2l (pc' := 132) rfl ⟨by omega, by omega⟩ ?_)
                      refine wp_of e172 c172_132 (rw_laddw (pc' := 133) rfl ?_)
                      obtain ⟨v87448, e87449⟩ : ∃ x : Int, x = wl_w (v87433 + ((z87446 - 97) + 1)) := ⟨_, rfl⟩
                      rw [← e87449]
                      have b87450 : -9223372036854775808 ≤ v87448 ∧ v87448 ≤ 9223372036854775807 := by
                        rw [e87449]
                        exact wL_w _
                      refine wp_of e172 c172_133 (xp_L (pc' := 136) lf_9_94 w87378 g0 sh_42 (by decide) (by decide) ty_42_15 rfl rfl (by omega) (by omega) ⟨by omega, by omega⟩ rfl (fun H87451 e87452 w87453 => ?_))
                      have f87454 := f87384.put' e87452 g0 rfl
                      have f87455 := f87379.put' e87452 g0 rfl
                      have k87456 : H87451 r0 15 = v87448 := wq_u_s e87452
                      refine wp_of e172 c172_136 (rw_iinc (pc' := 139) (z := v87375) (L' := [(2, vI (v87375 + 1)), (0, .ref r0)]) rfl rfl rfl rfl ?_)
                      refine wp_of e172 c172_139 (rw_aload_n (pc' := 140) (v := .ref r0) rfl rfl rfl ?_)
                      refine wp_of e172 c172_140 (rw_dup (pc' := 141) rfl rfl ?_)
                      have k87457 : H87451 r0 8 = H87376 r0 8 := (wq_u_j e87452 rfl)
                      refine wp_of e172 c172_141 (xg_I (pc' := 144) lf_9_78 w87453 g0 sh_42 (by decide) (by decide) ty_42_8 rfl rfl (fun b87458 b87459 => ?_))
                      refine wp_of e172 c172_144 (rw_iconst (pc' := 145) rfl ?_)
                      refine wp_of e172 c172_145 (rw_iadd (pc' := 146) rfl ?_)
                      refine wp_of e172 c172_146 (xp_I (pc' := 149) lf_9_78 w87453 g0 sh_42 (by decide) (by decide) ty_42_8 rfl rfl (by omega) (by omega) ⟨by omega, by omega⟩ rfl (fun H87460 e87461 w87462 => ?_))
                      have f87463 := f87454.put' e87461 g0 rfl
                      have f87464 := f87455.put' e87461 g0 rfl
                      have k87465 : H87460 r0 8 = (H87451 r0 8) + 1 := wq_u_s e87461
                      refine wp_of e172 c172_149 (rw_goto (p1 := 89) (by decide) ?_)
                      exact wp_lc (ks := [2, 0]) (wl_c rfl (wl_c rfl wl_n)) rfl (by decide) (ih87374 _ (by omega) (v87375 + 1) H87460 w87462 f87464 ⟨by omega, by omega⟩ (by omega) (by omega) rfl)
              exact wp_lc (ks := [2, 1, 0]) (wl_c rfl (wl_c rfl wl_n)) rfl (by decide) (lp87372 _ 0 H86922 w86924 wfr.rf ⟨by omega, by omega⟩ (by omega) (by omega) rfl)
          · refine wp_of e172 c172_69 (rw_aload_n (pc' := 70) (v := .ref r0) rfl rfl rfl ?_)
            refine wp_of e172 c172_70 (rw_iconst (pc' := 71) rfl ?_)
            refine wp_of e172 c172_71 (xp_I (pc' := 74) lf_9_75 w86244 g0 sh_42 (by decide) (by decide) ty_42_9 rfl rfl (by omega) (by omega) ⟨by omega, by omega⟩ rfl (fun H87466 e87467 w87468 => ?_))
            have f87469 := f86245.put' e87467 g0 rfl
            have k87470 : H87466 r0 9 = 1 := wq_u_s e87467
            refine wp_of e172 c172_74 (rw_goto (p1 := 281) (by decide) ?_)
            have k87471 : H87466 r0 8 = H86242 r0 8 := (wq_u_j e87467 rfl)
            have k87472 : H87466 r0 10 = H86232 r0 10 := ((wq_u_j e87467 rfl).trans ((wq_u_j e86243 rfl).trans (wq_u_j e86238 rfl)))
            have k87473 := wOV_e (H := H87466) (m := r0)
            have k87474 : wJ H87466 r0 = 1 := wJ_1.mpr ⟨by omega, by omega⟩
            exact wp_return e172 c172_281 rfl ⟨rfl, w87468, f87469, rfl, by omega, by omega, by omega⟩
        · refine wp_of e172 c172_22 (rw_aload_n (pc' := 23) (v := .ref r0) rfl rfl rfl ?_)
          refine wp_of e172 c172_23 (rw_dup (pc' := 24) rfl rfl ?_)
          refine wp_of e172 c172_24 (xg_I (pc' := 27) lf_9_78 w86212 g0 sh_42 (by decide) (by decide) ty_42_8 rfl rfl (fun b87475 b87476 => ?_))
          refine wp_of e172 c172_27 (rw_iconst (pc' := 28) rfl ?_)
          refine wp_of e172 c172_28 (rw_iadd (pc' := 29) rfl ?_)
          refine wp_of e172 c172_29 (xp_I (pc' := 32) lf_9_78 w86212 g0 sh_42 (by decide) (by decide) ty_42_8 rfl rfl (by omega) (by omega) ⟨by omega, by omega⟩ rfl (fun H87477 e87478 w87479 => ?_))
          have f87480 := f86216.put' e87478 g0 rfl
          have f87481 := f86213.put' e87478 g0 rfl
          have k87482 : H87477 r0 8 = (H86211 r0 8) + 1 := wq_u_s e87478
          refine wp_of e172 c172_32 (rw_goto (p1 := 9) (by decide) ?_)
          exact wp_lc (ks := [0]) (wl_c rfl wl_n) rfl (by decide) (ih86210 _ (by omega) H87477 w87479 f87481 (by omega) rfl)
    exact wp_lc (ks := [0]) (wl_c rfl wl_n) rfl (by decide) (lp86208 _ H hW wfr.rf (by omega) rfl)
  · exact wp_return e172 c172_8 rfl ⟨rfl, hW, f0, rfl, by omega, by omega, by omega⟩
