/-! what methods do (own work, written by wip/gen3/sx3.py) -/
/-! StrikeAwakeModel.feed(IIIII)I  -/
abbrev uq_168 (r0 : Nat) (a1 : Int) (a2 : Int) (a3 : Int) (a4 : Int) (a5 : Int) (rb : Nat) (B : Nat → Int) (t : Int) (b1 : Int) (b2 : Int) (b3 : Int) (b4 : Int) (b5 : Int) (T : wq_T) (H : wq_H) : Option Value → wq_T → wq_H → Prop := fun r T' H' => T = T' ∧ WT T H' ∧ wfr [(42, 0), (42, 6), (43, 999)] T H H' ∧ ∃ z : Int, some (vI z) = r ∧ ((-2147483648) ≤ z ∧ z ≤ 2147483647) ∧ (((z = -1) ∧ (880 < t) ∧ (H' r0 6 = t) ∧ TM T H' rb B) ∨ ((0 ≤ z ∧ z ≤ 900) ∧ (t ≤ 880) ∧ (z = t + 20) ∧ (H' r0 6 = t + 20) ∧ TM T H' rb (xfk B t b1 b2 b3 b4 b5 20)))
set_option maxHeartbeats 4000000 in
theorem u_168 {kt : Nat → Option mc_E} {T : wq_T} {H : wq_H} {r0 : Nat} {a1 : Int} {a2 : Int} {a3 : Int} {a4 : Int} {a5 : Int} {rb : Nat} {B : Nat → Int} {t : Int} {b1 : Int} {b2 : Int} {b3 : Int} {b4 : Int} {b5 : Int} (hW : WT T H) (g0 : T.2.2.2 r0 = some 42) (i1 : (-2147483648) ≤ a1 ∧ a1 ≤ 2147483647) (i2 : (-2147483648) ≤ a2 ∧ a2 ≤ 2147483647) (i3 : (-2147483648) ≤ a3 ∧ a3 ≤ 2147483647) (i4 : (-2147483648) ≤ a4 ∧ a4 ≤ 2147483647) (i5 : (-2147483648) ≤ a5 ∧ a5 ≤ 2147483647) (qrb : H r0 5 = (rb : Int)) (grb : T.2.2.2 rb = some 43) (p0 : H r0 6 = t) (p1 : a1 = b1) (p2 : a2 = b2) (p3 : a3 = b3) (p4 : a4 = b4) (p5 : a5 = b5) (hTM_rb : TM T H rb B) : wpc kt 1 168 [.ref r0, vI a1, vI a2, vI a3, vI a4, vI a5] T H (uq_168 r0 a1 a2 a3 a4 a5 rb B t b1 b2 b3 b4 b5 T H) := by
  refine wp_enter e168 (Nat.le_of_ble_eq_true rfl) rfl ?_
  have f0 : wfr [(42, 0), (42, 6), (43, 999)] T H H := wfr.rf
  show wp _ _ 168 0 [(0, .ref r0), (1, vI a1), (2, vI a2), (3, vI a3), (4, vI a4), (5, vI a5)] [] _ H _
  have b269546 : 0 ≤ H r0 6 ∧ H r0 6 ≤ 900 := hW.box g0 (n := 33) rfl (by decide) rfl
  refine wp_of e168 c168_0 (rw_aload_n (pc' := 1) (v := .ref r0) rfl rfl rfl ?_)
  refine wp_of e168 c168_1 (rw_iconst (pc' := 2) rfl ?_)
  refine wp_of e168 c168_2 (xp_I (pc' := 5) lf_9_48 hW g0 sh_42 (by decide) (by decide) ty_42_0 rfl rfl (by omega) (by omega) ⟨by omega, by omega⟩ rfl (fun H269547 e269548 w269549 => ?_))
  have f269550 := f0.put' e269548 g0 rfl
  have k269551 : H269547 r0 0 = 0 := wq_u_s e269548
  refine wp_of e168 c168_5 (rw_aload_n (pc' := 6) (v := .ref r0) rfl rfl rfl ?_)
  have k269552 : H269547 r0 6 = H r0 6 := (wq_u_j e269548 rfl)
  refine wp_of e168 c168_6 (xg_I (pc' := 9) lf_9_330 w269549 g0 sh_42 (by decide) (by decide) ty_42_6 rfl rfl (fun b269553 b269554 => ?_))
  refine wp_of e168 c168_9 (rw_bipush (pc' := 11) (z := 20) rfl (by decide) ?_)
  refine wp_of e168 c168_11 (rw_iadd (pc' := 12) rfl ?_)
  refine wp_of e168 c168_12 (rw_sipush (pc' := 15) (z := 900) rfl (by decide) ?_)
  refine wp_of e168 c168_15 (rw_icmp_le (p1 := 20) (p2 := 18) (by decide) rfl ⟨by omega, by omega⟩ ⟨by omega, by omega⟩ (fun c269555 => ?_) (fun c269555 => ?_))
  · refine wp_of e168 c168_20 (rw_iconst (pc' := 21) rfl ?_)
    refine wp_of e168 c168_21 (rw_istore (pc' := 23) (z := 0) (L' := [(6, vI 0), (0, .ref r0), (1, vI a1), (2, vI a2), (3, vI a3), (4, vI a4), (5, vI a5)]) rfl rfl rfl ?_)
    have lp269909 : ∀ (n269910 : Nat) (v269912 : Int) (H269913 : wq_H) (ii269914 : Nat), WT T H269913 → wfr [(42, 6), (43, 999)] T H269547 H269913 → (0 ≤ v269912 ∧ v269912 ≤ 20) → TM T H269913 rb (xfk B t a1 a2 a3 a4 a5 ii269914) → (v269912 = (ii269914 : Int)) → (ii269914 ≤ 20) → (H269913 r0 6 = t + (ii269914 : Int)) → (20 - v269912).toNat = n269910 → wp kt 0 168 23 [(6, vI v269912), (0, .ref r0), (1, vI a1), (2, vI a2), (3, vI a3), (4, vI a4), (5, vI a5)] [] T H269913 (uq_168 r0 a1 a2 a3 a4 a5 rb B t b1 b2 b3 b4 b5 T H) := by
      intro n269910
      induction n269910 using Nat.strongRecOn with
      | _ n269910 ih269911 =>
        intro v269912 H269913 ii269914 w269915 f269916 b269917 h269919 x269920 x269921 x269922 m269918
        have f269923 := f269550.tr f269916 rfl
        refine wp_of e168 c168_23 (rw_iload (pc' := 25) (z := v269912) rfl rfl ?_)
        refine wp_of e168 c168_25 (rw_bipush (pc' := 27) (z := 20) rfl (by decide) ?_)
        refine wp_of e168 c168_27 (rw_icmp_ge (p1 := 117) (p2 := 30) (by decide) rfl ⟨by omega, by omega⟩ ⟨by omega, by omega⟩ (fun c269924 => ?_) (fun c269924 => ?_))
        · refine wp_of e168 c168_117 (rw_aload_n (pc' := 118) (v := .ref r0) rfl rfl rfl ?_)
          refine wp_of e168 c168_118 (xg_I (pc' := 121) lf_9_330 w269915 g0 sh_42 (by decide) (by decide) ty_42_6 rfl rfl (fun b269925 b269926 => ?_))
          exact wp_ireturn e168 c168_121 rfl ⟨rfl, w269915, f269923, H269913 r0 6, rfl, ⟨by omega, by omega⟩, (Or.inr ⟨by omega, by omega, by omega, by omega, by
            rw [← p1, ← p2, ← p3, ← p4, ← p5]
            have e4 : ii269914 = 20 := by omega
            rw [← e4]
            exact h269919⟩)⟩
        · refine wp_of e168 c168_30 (rw_iload (pc' := 32) (z := v269912) rfl rfl ?_)
          refine wp_of e168 c168_32 (rw_iconst (pc' := 33) rfl ?_)
          refine wp_of e168 c168_33 (rw_icmp_ge (p1 := 40) (p2 := 36) (by decide) rfl ⟨by omega, by omega⟩ ⟨by omega, by omega⟩ (fun c269927 => ?_) (fun c269927 => ?_))
          · refine wp_of e168 c168_40 (rw_iload (pc' := 42) (z := v269912) rfl rfl ?_)
            refine wp_of e168 c168_42 (rw_bipush (pc' := 44) (z := 8) rfl (by decide) ?_)
            refine wp_of e168 c168_44 (rw_icmp_ge (p1 := 51) (p2 := 47) (by decide) rfl ⟨by omega, by omega⟩ ⟨by omega, by omega⟩ (fun c269928 => ?_) (fun c269928 => ?_))
            · refine wp_of e168 c168_51 (rw_iload (pc' := 53) (z := v269912) rfl rfl ?_)
              refine wp_of e168 c168_53 (rw_bipush (pc' := 55) (z := 12) rfl (by decide) ?_)
              refine wp_of e168 c168_55 (rw_icmp_ge (p1 := 62) (p2 := 58) (by decide) rfl ⟨by omega, by omega⟩ ⟨by omega, by omega⟩ (fun c269929 => ?_) (fun c269929 => ?_))
              · refine wp_of e168 c168_62 (rw_iload (pc' := 64) (z := v269912) rfl rfl ?_)
                refine wp_of e168 c168_64 (rw_bipush (pc' := 66) (z := 16) rfl (by decide) ?_)
                refine wp_of e168 c168_66 (rw_icmp_ge (p1 := 74) (p2 := 69) (by decide) rfl ⟨by omega, by omega⟩ ⟨by omega, by omega⟩ (fun c269930 => ?_) (fun c269930 => ?_))
                · refine wp_of e168 c168_74 (rw_iload (pc' := 76) (z := a5) rfl rfl ?_)
                  refine wp_of e168 c168_76 (rw_istore (pc' := 78) (z := a5) (L' := [(7, vI a5), (6, vI v269912), (0, .ref r0), (1, vI a1), (2, vI a2), (3, vI a3), (4, vI a4), (5, vI a5)]) rfl rfl rfl ?_)
                  have _w := @xw5_e ii269914 a1 a2 a3 a4 a5
                  refine wp_of e168 c168_78 (rw_aload_n (pc' := 79) (v := .ref r0) rfl rfl rfl ?_)
                  have k269931 : H269913 r0 5 = H r0 5 := ((f269916 r0 5 _ g0 rfl).trans (wq_u_j e269548 rfl))
                  have q269932 : H269913 r0 5 = (rb : Int) := k269931.trans qrb
                  refine wp_of e168 c168_79 (xg_K (pc' := 82) lf_9_13 w269915 g0 sh_42 (by decide) (by decide) rfl q269932 rfl ?_)
                  refine wp_of e168 c168_82 (rw_aload_n (pc' := 83) (v := .ref r0) rfl rfl rfl ?_)
                  refine wp_of e168 c168_83 (xg_I (pc' := 86) lf_9_330 w269915 g0 sh_42 (by decide) (by decide) ty_42_6 rfl rfl (fun b269933 b269934 => ?_))
                  refine wp_of e168 c168_86 (rw_iload (pc' := 88) (z := a5) rfl rfl ?_)
                  refine wp_of e168 c168_88 (rw_bipush (pc' := 90) (z := 24) rfl (by decide) ?_)
                  refine wp_of e168 c168_90 (rw_bipush (pc' := 92) (z := 8) rfl (by decide) ?_)
                  refine wp_of e168 c168_92 (rw_iload (pc' := 94) (z := v269912) rfl rfl ?_)
                  refine wp_of e168 c168_94 (rw_iconst (pc' := 95) rfl ?_)
                  refine wp_of e168 c168_95 (rw_irem (pc' := 96) rfl ⟨by omega, by omega⟩ (by omega) ?_)
                  obtain ⟨v269935, e269936⟩ : ∃ x : Int, x = wq_rem v269912 4 := ⟨_, rfl⟩
                  rw [← e269936]
                  have b269937 : v269935 = v269912 % 4 := by
                    rw [e269936]
                    exact wq_rem_e ⟨by omega, by omega⟩ ⟨by omega, by omega⟩
                  refine wp_of e168 c168_96 (rw_imul (pc' := 97) rfl ?_)
                  refine wp_of e168 c168_97 (rw_isub (pc' := 98) rfl ?_)
                  refine wp_of e168 c168_98 (rw_ishr (pc' := 99) rfl ?_)
                  obtain ⟨v269938, e269939⟩ : ∃ x : Int, x = wq_shr a5 (24 - (8 * v269935)) := ⟨_, rfl⟩
                  rw [← e269939]
                  have b269940 : -2147483648 ≤ v269938 ∧ v269938 ≤ 2147483647 := by
                    rw [e269939]
                    exact wI_shr _ _
                  refine wp_of e168 c168_99 (rw_i2b (pc' := 100) rfl ?_)
                  obtain ⟨v269941, e269942⟩ : ∃ x : Int, x = wq_i2b v269938 := ⟨_, rfl⟩
                  rw [← e269942]
                  have b269943 : -128 ≤ v269941 ∧ v269941 ≤ 127 := by
                    rw [e269942]
                    exact wq_i2b_b _
                  have o269944 : v269941 = wq_i2b (wq_shr a5 (24 - (8 * v269935))) := by
                    subst_vars
                    rfl
                  refine wp_of e168 c168_100 (xs_B (pc' := 101) w269915 grb (by decide) sh_43 (by decide) (ty_43 _) (by omega) (by omega) ⟨by omega, by omega⟩ (by omega) (by omega) rfl (fun H269945 e269946 w269947 => ?_))
                  have f269948 := f269923.put' e269946 grb rfl
                  have f269949 := f269916.put' e269946 grb rfl
                  have h269950 : TM T H269945 rb (xfk B t a1 a2 a3 a4 a5 (ii269914 + 1)) := TM_fk h269919 e269946 (by omega) o269944 (by omega) (by omega)
                  refine wp_of e168 c168_101 (rw_aload_n (pc' := 102) (v := .ref r0) rfl rfl rfl ?_)
                  refine wp_of e168 c168_102 (rw_dup (pc' := 103) rfl rfl ?_)
                  have k269951 : H269945 r0 6 = H269913 r0 6 := (wq_u_t e269946 grb g0 rfl 6)
                  refine wp_of e168 c168_103 (xg_I (pc' := 106) lf_9_330 w269947 g0 sh_42 (by decide) (by decide) ty_42_6 rfl rfl (fun b269952 b269953 => ?_))
                  refine wp_of e168 c168_106 (rw_iconst (pc' := 107) rfl ?_)
                  refine wp_of e168 c168_107 (rw_iadd (pc' := 108) rfl ?_)
                  refine wp_of e168 c168_108 (xp_I (pc' := 111) lf_9_330 w269947 g0 sh_42 (by decide) (by decide) ty_42_6 rfl rfl (by omega) (by omega) ⟨by omega, by omega⟩ rfl (fun H269954 e269955 w269956 => ?_))
                  have f269957 := f269948.put' e269955 g0 rfl
                  have f269958 := f269949.put' e269955 g0 rfl
                  have k269959 : H269954 r0 6 = (H269945 r0 6) + 1 := wq_u_s e269955
                  refine wp_of e168 c168_111 (rw_iinc (pc' := 114) (z := v269912) (L' := [(6, vI (v269912 + 1)), (7, vI a5), (0, .ref r0), (1, vI a1), (2, vI a2), (3, vI a3), (4, vI a4), (5, vI a5)]) rfl rfl rfl rfl ?_)
                  refine wp_of e168 c168_114 (rw_goto (p1 := 23) (by decide) ?_)
                  have h269960 : TM T H269954 rb (xfk B t a1 a2 a3 a4 a5 (ii269914 + 1)) := (TM_fr w269947 grb ((wfr.rf (l := [(42, 6)])).put' e269955 g0 rfl) rfl h269950)
                  exact wp_lc (ks := [6, 7, 0, 1, 2, 3, 4, 5]) (wl_c rfl (wl_c rfl (wl_c rfl (wl_c rfl (wl_c rfl (wl_c rfl (wl_c rfl wl_n))))))) rfl (by decide) (ih269911 _ (by omega) (v269912 + 1) H269954 ((ii269914 + 1)) w269956 f269958 ⟨by omega, by omega⟩ h269960 (by omega) (by omega) (by omega) rfl)
                · refine wp_of e168 c168_69 (rw_iload (pc' := 71) (z := a4) rfl rfl ?_)
                  refine wp_of e168 c168_71 (rw_goto (p1 := 76) (by decide) ?_)
                  refine wp_of e168 c168_76 (rw_istore (pc' := 78) (z := a4) (L' := [(7, vI a4), (6, vI v269912), (0, .ref r0), (1, vI a1), (2, vI a2), (3, vI a3), (4, vI a4), (5, vI a5)]) rfl rfl rfl ?_)
                  have _w := @xw5_e ii269914 a1 a2 a3 a4 a5
                  refine wp_of e168 c168_78 (rw_aload_n (pc' := 79) (v := .ref r0) rfl rfl rfl ?_)
                  have k269961 : H269913 r0 5 = H r0 5 := ((f269916 r0 5 _ g0 rfl).trans (wq_u_j e269548 rfl))
                  have q269962 : H269913 r0 5 = (rb : Int) := k269961.trans qrb
                  refine wp_of e168 c168_79 (xg_K (pc' := 82) lf_9_13 w269915 g0 sh_42 (by decide) (by decide) rfl q269962 rfl ?_)
                  refine wp_of e168 c168_82 (rw_aload_n (pc' := 83) (v := .ref r0) rfl rfl rfl ?_)
                  refine wp_of e168 c168_83 (xg_I (pc' := 86) lf_9_330 w269915 g0 sh_42 (by decide) (by decide) ty_42_6 rfl rfl (fun b269963 b269964 => ?_))
                  refine wp_of e168 c168_86 (rw_iload (pc' := 88) (z := a4) rfl rfl ?_)
                  refine wp_of e168 c168_88 (rw_bipush (pc' := 90) (z := 24) rfl (by decide) ?_)
                  refine wp_of e168 c168_90 (rw_bipush (pc' := 92) (z := 8) rfl (by decide) ?_)
                  refine wp_of e168 c168_92 (rw_iload (pc' := 94) (z := v269912) rfl rfl ?_)
                  refine wp_of e168 c168_94 (rw_iconst (pc' := 95) rfl ?_)
                  refine wp_of e168 c168_95 (rw_irem (pc' := 96) rfl ⟨by omega, by omega⟩ (by omega) ?_)
                  obtain ⟨v269965, e269966⟩ : ∃ x : Int, x = wq_rem v269912 4 := ⟨_, rfl⟩
                  rw [← e269966]
                  have b269967 : v269965 = v269912 % 4 := by
                    rw [e269966]
                    exact wq_rem_e ⟨by omega, by omega⟩ ⟨by omega, by omega⟩
                  refine wp_of e168 c168_96 (rw_imul (pc' := 97) rfl ?_)
                  refine wp_of e168 c168_97 (rw_isub (pc' := 98) rfl ?_)
                  refine wp_of e168 c168_98 (rw_ishr (pc' := 99) rfl ?_)
                  obtain ⟨v269968, e269969⟩ : ∃ x : Int, x = wq_shr a4 (24 - (8 * v269965)) := ⟨_, rfl⟩
                  rw [← e269969]
                  have b269970 : -2147483648 ≤ v269968 ∧ v269968 ≤ 2147483647 := by
                    rw [e269969]
                    exact wI_shr _ _
                  refine wp_of e168 c168_99 (rw_i2b (pc' := 100) rfl ?_)
                  obtain ⟨v269971, e269972⟩ : ∃ x : Int, x = wq_i2b v269968 := ⟨_, rfl⟩
                  rw [← e269972]
                  have b269973 : -128 ≤ v269971 ∧ v269971 ≤ 127 := by
                    rw [e269972]
                    exact wq_i2b_b _
                  have o269974 : v269971 = wq_i2b (wq_shr a4 (24 - (8 * v269965))) := by
                    subst_vars
                    rfl
                  refine wp_of e168 c168_100 (xs_B (pc' := 101) w269915 grb (by decide) sh_43 (by decide) (ty_43 _) (by omega) (by omega) ⟨by omega, by omega⟩ (by omega) (by omega) rfl (fun H269975 e269976 w269977 => ?_))
                  have f269978 := f269923.put' e269976 grb rfl
                  have f269979 := f269916.put' e269976 grb rfl
                  have h269980 : TM T H269975 rb (xfk B t a1 a2 a3 a4 a5 (ii269914 + 1)) := TM_fk h269919 e269976 (by omega) o269974 (by omega) (by omega)
                  refine wp_of e168 c168_101 (rw_aload_n (pc' := 102) (v := .ref r0) rfl rfl rfl ?_)
                  refine wp_of e168 c168_102 (rw_dup (pc' := 103) rfl rfl ?_)
                  have k269981 : H269975 r0 6 = H269913 r0 6 := (wq_u_t e269976 grb g0 rfl 6)
                  refine wp_of e168 c168_103 (xg_I (pc' := 106) lf_9_330 w269977 g0 sh_42 (by decide) (by decide) ty_42_6 rfl rfl (fun b269982 b269983 => ?_))
                  refine wp_of e168 c168_106 (rw_iconst (pc' := 107) rfl ?_)
                  refine wp_of e168 c168_107 (rw_iadd (pc' := 108) rfl ?_)
                  refine wp_of e168 c168_108 (xp_I (pc' := 111) lf_9_330 w269977 g0 sh_42 (by decide) (by decide) ty_42_6 rfl rfl (by omega) (by omega) ⟨by omega, by omega⟩ rfl (fun H269984 e269985 w269986 => ?_))
                  have f269987 := f269978.put' e269985 g0 rfl
                  have f269988 := f269979.put' e269985 g0 rfl
                  have k269989 : H269984 r0 6 = (H269975 r0 6) + 1 := wq_u_s e269985
                  refine wp_of e168 c168_111 (rw_iinc (pc' := 114) (z := v269912) (L' := [(6, vI (v269912 + 1)), (7, vI a4), (0, .ref r0), (1, vI a1), (2, vI a2), (3, vI a3), (4, vI a4), (5, vI a5)]) rfl rfl rfl rfl ?_)
                  refine wp_of e168 c168_114 (rw_goto (p1 := 23) (by decide) ?_)
                  have h269990 : TM T H269984 rb (xfk B t a1 a2 a3 a4 a5 (ii269914 + 1)) := (TM_fr w269977 grb ((wfr.rf (l := [(42, 6)])).put' e269985 g0 rfl) rfl h269980)
                  exact wp_lc (ks := [6, 7, 0, 1, 2, 3, 4, 5]) (wl_c rfl (wl_c rfl (wl_c rfl (wl_c rfl (wl_c rfl (wl_c rfl (wl_c rfl wl_n))))))) rfl (by decide) (ih269911 _ (by omega) (v269912 + 1) H269984 ((ii269914 + 1)) w269986 f269988 ⟨by omega, by omega⟩ h269990 (by omega) (by omega) (by omega) rfl)
              · refine wp_of e168 c168_58 (rw_iload_n (pc' := 59) (z := a3) rfl rfl ?_)
                refine wp_of e168 c168_59 (rw_goto (p1 := 76) (by decide) ?_)
                refine wp_of e168 c168_76 (rw_istore (pc' := 78) (z := a3) (L' := [(7, vI a3), (6, vI v269912), (0, .ref r0), (1, vI a1), (2, vI a2), (3, vI a3), (4, vI a4), (5, vI a5)]) rfl rfl rfl ?_)
                have _w := @xw5_e ii269914 a1 a2 a3 a4 a5
                refine wp_of e168 c168_78 (rw_aload_n (pc' := 79) (v := .ref r0) rfl rfl rfl ?_)
                have k269991 : H269913 r0 5 = H r0 5 := ((f269916 r0 5 _ g0 rfl).trans (wq_u_j e269548 rfl))
                have q269992 : H269913 r0 5 = (rb : Int) := k269991.trans qrb
                refine wp_of e168 c168_79 (xg_K (pc' := 82) lf_9_13 w269915 g0 sh_42 (by decide) (by decide) rfl q269992 rfl ?_)
                refine wp_of e168 c168_82 (rw_aload_n (pc' := 83) (v := .ref r0) rfl rfl rfl ?_)
                refine wp_of e168 c168_83 (xg_I (pc' := 86) lf_9_330 w269915 g0 sh_42 (by decide) (by decide) ty_42_6 rfl rfl (fun b269993 b269994 => ?_))
                refine wp_of e168 c168_86 (rw_iload (pc' := 88) (z := a3) rfl rfl ?_)
                refine wp_of e168 c168_88 (rw_bipush (pc' := 90) (z := 24) rfl (by decide) ?_)
                refine wp_of e168 c168_90 (rw_bipush (pc' := 92) (z := 8) rfl (by decide) ?_)
                refine wp_of e168 c168_92 (rw_iload (pc' := 94) (z := v269912) rfl rfl ?_)
                refine wp_of e168 c168_94 (rw_iconst (pc' := 95) rfl ?_)
                refine wp_of e168 c168_95 (rw_irem (pc' := 96) rfl ⟨by omega, by omega⟩ (by omega) ?_)
                obtain ⟨v269995, e269996⟩ : ∃ x : Int, x = wq_rem v269912 4 := ⟨_, rfl⟩
                rw [← e269996]
                have b269997 : v269995 = v269912 % 4 := by
                  rw [e269996]
                  exact wq_rem_e ⟨by omega, by omega⟩ ⟨by omega, by omega⟩
                refine wp_of e168 c168_96 (rw_imul (pc' := 97) rfl ?_)
                refine wp_of e168 c168_97 (rw_isub (pc' := 98) rfl ?_)
                refine wp_of e168 c168_98 (rw_ishr (pc' := 99) rfl ?_)
                obtain ⟨v269998, e269999⟩ : ∃ x : Int, x = wq_shr a3 (24 - (8 * v269995)) := ⟨_, rfl⟩
                rw [← e269999]
                have b270000 : -2147483648 ≤ v269998 ∧ v269998 ≤ 2147483647 := by
                  rw [e269999]
                  exact wI_shr _ _
                refine wp_of e168 c168_99 (rw_i2b (pc' := 100) rfl ?_)
                obtain ⟨v270001, e270002⟩ : ∃ x : Int, x = wq_i2b v269998 := ⟨_, rfl⟩
                rw [← e270002]
                have b270003 : -128 ≤ v270001 ∧ v270001 ≤ 127 := by
                  rw [e270002]
                  exact wq_i2b_b _
                have o270004 : v270001 = wq_i2b (wq_shr a3 (24 - (8 * v269995))) := by
                  subst_vars
                  rfl
                refine wp_of e168 c168_100 (xs_B (pc' := 101) w269915 grb (by decide) sh_43 (by decide) (ty_43 _) (by omega) (by omega) ⟨by omega, by omega⟩ (by omega) (by omega) rfl (fun H270005 e270006 w270007 => ?_))
                have f270008 := f269923.put' e270006 grb rfl
                have f270009 := f269916.put' e270006 grb rfl
                have h270010 : TM T H270005 rb (xfk B t a1 a2 a3 a4 a5 (ii269914 + 1)) := TM_fk h269919 e270006 (by omega) o270004 (by omega) (by omega)
                refine wp_of e168 c168_101 (rw_aload_n (pc' := 102) (v := .ref r0) rfl rfl rfl ?_)
                refine wp_of e168 c168_102 (rw_dup (pc' := 103) rfl rfl ?_)
                have k270011 : H270005 r0 6 = H269913 r0 6 := (wq_u_t e270006 grb g0 rfl 6)
                refine wp_of e168 c168_103 (xg_I (pc' := 106) lf_9_330 w270007 g0 sh_42 (by decide) (by decide) ty_42_6 rfl rfl (fun b270012 b270013 => ?_))
                refine wp_of e168 c168_106 (rw_iconst (pc' := 107) rfl ?_)
                refine wp_of e168 c168_107 (rw_iadd (pc' := 108) rfl ?_)
                refine wp_of e168 c168_108 (xp_I (pc' := 111) lf_9_330 w270007 g0 sh_42 (by decide) (by decide) ty_42_6 rfl rfl (by omega) (by omega) ⟨by omega, by omega⟩ rfl (fun H270014 e270015 w270016 => ?_))
                have f270017 := f270008.put' e270015 g0 rfl
                have f270018 := f270009.put' e270015 g0 rfl
                have k270019 : H270014 r0 6 = (H270005 r0 6) + 1 := wq_u_s e270015
                refine wp_of e168 c168_111 (rw_iinc (pc' := 114) (z := v269912) (L' := [(6, vI (v269912 + 1)), (7, vI a3), (0, .ref r0), (1, vI a1), (2, vI a2), (3, vI a3), (4, vI a4), (5, vI a5)]) rfl rfl rfl rfl ?_)
                refine wp_of e168 c168_114 (rw_goto (p1 := 23) (by decide) ?_)
                have h270020 : TM T H270014 rb (xfk B t a1 a2 a3 a4 a5 (ii269914 + 1)) := (TM_fr w270007 grb ((wfr.rf (l := [(42, 6)])).put' e270015 g0 rfl) rfl h270010)
                exact wp_lc (ks := [6, 7, 0, 1, 2, 3, 4, 5]) (wl_c rfl (wl_c rfl (wl_c rfl (wl_c rfl (wl_c rfl (wl_c rfl (wl_c rfl wl_n))))))) rfl (by decide) (ih269911 _ (by omega) (v269912 + 1) H270014 ((ii269914 + 1)) w270016 f270018 ⟨by omega, by omega⟩ h270020 (by omega) (by omega) (by omega) rfl)
            · refine wp_of e168 c168_47 (rw_iload_n (pc' := 48) (z := a2) rfl rfl ?_)
              refine wp_of e168 c168_48 (rw_goto (p1 := 76) (by decide) ?_)
              refine wp_of e168 c168_76 (rw_istore (pc' := 78) (z := a2) (L' := [(7, vI a2), (6, vI v269912), (0, .ref r0), (1, vI a1), (2, vI a2), (3, vI a3), (4, vI a4), (5, vI a5)]) rfl rfl rfl ?_)
              have _w := @xw5_e ii269914 a1 a2 a3 a4 a5
              refine wp_of e168 c168_78 (rw_aload_n (pc' := 79) (v := .ref r0) rfl rfl rfl ?_)
              have k270021 : H269913 r0 5 = H r0 5 := ((f269916 r0 5 _ g0 rfl).trans (wq_u_j e269548 rfl))
              have q270022 : H269913 r0 5 = (rb : Int) := k270021.trans qrb
              refine wp_of e168 c168_79 (xg_K (pc' := 82) lf_9_13 w269915 g0 sh_42 (by decide) (by decide) rfl q270022 rfl ?_)
              refine wp_of e168 c168_82 (rw_aload_n (pc' := 83) (v := .ref r0) rfl rfl rfl ?_)
              refine wp_of e168 c168_83 (xg_I (pc' := 86) lf_9_330 w269915 g0 sh_42 (by decide) (by decide) ty_42_6 rfl rfl (fun b270023 b270024 => ?_))
              refine wp_of e168 c168_86 (rw_iload (pc' := 88) (z := a2) rfl rfl ?_)
              refine wp_of e168 c168_88 (rw_bipush (pc' := 90) (z := 24) rfl (by decide) ?_)
              refine wp_of e168 c168_90 (rw_bipush (pc' := 92) (z := 8) rfl (by decide) ?_)
              refine wp_of e168 c168_92 (rw_iload (pc' := 94) (z := v269912) rfl rfl ?_)
              refine wp_of e168 c168_94 (rw_iconst (pc' := 95) rfl ?_)
              refine wp_of e168 c168_95 (rw_irem (pc' := 96) rfl ⟨by omega, by omega⟩ (by omega) ?_)
              obtain ⟨v270025, e270026⟩ : ∃ x : Int, x = wq_rem v269912 4 := ⟨_, rfl⟩
              rw [← e270026]
              have b270027 : v270025 = v269912 % 4 := by
                rw [e270026]
                exact wq_rem_e ⟨by omega, by omega⟩ ⟨by omega, by omega⟩
              refine wp_of e168 c168_96 (rw_imul (pc' := 97) rfl ?_)
              refine wp_of e168 c168_97 (rw_isub (pc' := 98) rfl ?_)
              refine wp_of e168 c168_98 (rw_ishr (pc' := 99) rfl ?_)
              obtain ⟨v270028, e270029⟩ : ∃ x : Int, x = wq_shr a2 (24 - (8 * v270025)) := ⟨_, rfl⟩
              rw [← e270029]
              have b270030 : -2147483648 ≤ v270028 ∧ v270028 ≤ 2147483647 := by
                rw [e270029]
                exact wI_shr _ _
              refine wp_of e168 c168_99 (rw_i2b (pc' := 100) rfl ?_)
              obtain ⟨v270031, e270032⟩ : ∃ x : Int, x = wq_i2b v270028 := ⟨_, rfl⟩
              rw [← e270032]
              have b270033 : -128 ≤ v270031 ∧ v270031 ≤ 127 := by
                rw [e270032]
                exact wq_i2b_b _
              have o270034 : v270031 = wq_i2b (wq_shr a2 (24 - (8 * v270025))) := by
                subst_vars
                rfl
              refine wp_of e168 c168_100 (xs_B (pc' := 101) w269915 grb (by decide) sh_43 (by decide) (ty_43 _) (by omega) (by omega) ⟨by omega, by omega⟩ (by omega) (by omega) rfl (fun H270035 e270036 w270037 => ?_))
              have f270038 := f269923.put' e270036 grb rfl
              have f270039 := f269916.put' e270036 grb rfl
              have h270040 : TM T H270035 rb (xfk B t a1 a2 a3 a4 a5 (ii269914 + 1)) := TM_fk h269919 e270036 (by omega) o270034 (by omega) (by omega)
              refine wp_of e168 c168_101 (rw_aload_n (pc' := 102) (v := .ref r0) rfl rfl rfl ?_)
              refine wp_of e168 c168_102 (rw_dup (pc' := 103) rfl rfl ?_)
              have k270041 : H270035 r0 6 = H269913 r0 6 := (wq_u_t e270036 grb g0 rfl 6)
              refine wp_of e168 c168_103 (xg_I (pc' := 106) lf_9_330 w270037 g0 sh_42 (by decide) (by decide) ty_42_6 rfl rfl (fun b270042 b270043 => ?_))
              refine wp_of e168 c168_106 (rw_iconst (pc' := 107) rfl ?_)
              refine wp_of e168 c168_107 (rw_iadd (pc' := 108) rfl ?_)
              refine wp_of e168 c168_108 (xp_I (pc' := 111) lf_9_330 w270037 g0 sh_42 (by decide) (by decide) ty_42_6 rfl rfl (by omega) (by omega) ⟨by omega, by omega⟩ rfl (fun H270044 e270045 w270046 => ?_))
              have f270047 := f270038.put' e270045 g0 rfl
              have f270048 := f270039.put' e270045 g0 rfl
              have k270049 : H270044 r0 6 = (H270035 r0 6) + 1 := wq_u_s e270045
              refine wp_of e168 c168_111 (rw_iinc (pc' := 114) (z := v269912) (L' := [(6, vI (v269912 + 1)), (7, vI a2), (0, .ref r0), (1, vI a1), (2, vI a2), (3, vI a3), (4, vI a4), (5, vI a5)]) rfl rfl rfl rfl ?_)
              refine wp_of e168 c168_114 (rw_goto (p1 := 23) (by decide) ?_)
              have h270050 : TM T H270044 rb (xfk B t a1 a2 a3 a4 a5 (ii269914 + 1)) := (TM_fr w270037 grb ((wfr.rf (l := [(42, 6)])).put' e270045 g0 rfl) rfl h270040)
              exact wp_lc (ks := [6, 7, 0, 1, 2, 3, 4, 5]) (wl_c rfl (wl_c rfl (wl_c rfl (wl_c rfl (wl_c rfl (wl_c rfl (wl_c rfl wl_n))))))) rfl (by decide) (ih269911 _ (by omega) (v269912 + 1) H270044 ((ii269914 + 1)) w270046 f270048 ⟨by omega, by omega⟩ h270050 (by omega) (by omega) (by omega) rfl)
          · refine wp_of e168 c168_36 (rw_iload_n (pc' := 37) (z := a1) rfl rfl ?_)
            refine wp_of e168 c168_37 (rw_goto (p1 := 76) (by decide) ?_)
            refine wp_of e168 c168_76 (rw_istore (pc' := 78) (z := a1) (L' := [(7, vI a1), (6, vI v269912), (0, .ref r0), (1, vI a1), (2, vI a2), (3, vI a3), (4, vI a4), (5, vI a5)]) rfl rfl rfl ?_)
            have _w := @xw5_e ii269914 a1 a2 a3 a4 a5
            refine wp_of e168 c168_78 (rw_aload_n (pc' := 79) (v := .ref r0) rfl rfl rfl ?_)
            have k270051 : H269913 r0 5 = H r0 5 := ((f269916 r0 5 _ g0 rfl).trans (wq_u_j e269548 rfl))
            have q270052 : H269913 r0 5 = (rb : Int) := k270051.trans qrb
            refine wp_of e168 c168_79 (xg_K (pc' := 82) lf_9_13 w269915 g0 sh_42 (by decide) (by decide) rfl q270052 rfl ?_)
            refine wp_of e168 c168_82 (rw_aload_n (pc' := 83) (v := .ref r0) rfl rfl rfl ?_)
            refine wp_of e168 c168_83 (xg_I (pc' := 86) lf_9_330 w269915 g0 sh_42 (by decide) (by decide) ty_42_6 rfl rfl (fun b270053 b270054 => ?_))
            refine wp_of e168 c168_86 (rw_iload (pc' := 88) (z := a1) rfl rfl ?_)
            refine wp_of e168 c168_88 (rw_bipush (pc' := 90) (z := 24) rfl (by decide) ?_)
            refine wp_of e168 c168_90 (rw_bipush (pc' := 92) (z := 8) rfl (by decide) ?_)
            refine wp_of e168 c168_92 (rw_iload (pc' := 94) (z := v269912) rfl rfl ?_)
            refine wp_of e168 c168_94 (rw_iconst (pc' := 95) rfl ?_)
            refine wp_of e168 c168_95 (rw_irem (pc' := 96) rfl ⟨by omega, by omega⟩ (by omega) ?_)
            obtain ⟨v270055, e270056⟩ : ∃ x : Int, x = wq_rem v269912 4 := ⟨_, rfl⟩
            rw [← e270056]
            have b270057 : v270055 = v269912 % 4 := by
              rw [e270056]
              exact wq_rem_e ⟨by omega, by omega⟩ ⟨by omega, by omega⟩
            refine wp_of e168 c168_96 (rw_imul (pc' := 97) rfl ?_)
            refine wp_of e168 c168_97 (rw_isub (pc' := 98) rfl ?_)
            refine wp_of e168 c168_98 (rw_ishr (pc' := 99) rfl ?_)
            obtain ⟨v270058, e270059⟩ : ∃ x : Int, x = wq_shr a1 (24 - (8 * v270055)) := ⟨_, rfl⟩
            rw [← e270059]
            have b270060 : -2147483648 ≤ v270058 ∧ v270058 ≤ 2147483647 := by
              rw [e270059]
              exact wI_shr _ _
            refine wp_of e168 c168_99 (rw_i2b (pc' := 100) rfl ?_)
            obtain ⟨v270061, e270062⟩ : ∃ x : Int, x = wq_i2b v270058 := ⟨_, rfl⟩
            rw [← e270062]
            have b270063 : -128 ≤ v270061 ∧ v270061 ≤ 127 := by
              rw [e270062]
              exact wq_i2b_b _
            have o270064 : v270061 = wq_i2b (wq_shr a1 (24 - (8 * v270055))) := by
              subst_vars
              rfl
            refine wp_of e168 c168_100 (xs_B (pc' := 101) w269915 grb (by decide) sh_43 (by decide) (ty_43 _) (by omega) (by omega) ⟨by omega, by omega⟩ (by omega) (by omega) rfl (fun H270065 e270066 w270067 => ?_))
            have f270068 := f269923.put' e270066 grb rfl
            have f270069 := f269916.put' e270066 grb rfl
            have h270070 : TM T H270065 rb (xfk B t a1 a2 a3 a4 a5 (ii269914 + 1)) := TM_fk h269919 e270066 (by omega) o270064 (by omega) (by omega)
            refine wp_of e168 c168_101 (rw_aload_n (pc' := 102) (v := .ref r0) rfl rfl rfl ?_)
            refine wp_of e168 c168_102 (rw_dup (pc' := 103) rfl rfl ?_)
            have k270071 : H270065 r0 6 = H269913 r0 6 := (wq_u_t e270066 grb g0 rfl 6)
            refine wp_of e168 c168_103 (xg_I (pc' := 106) lf_9_330 w270067 g0 sh_42 (by decide) (by decide) ty_42_6 rfl rfl (fun b270072 b270073 => ?_))
            refine wp_of e168 c168_106 (rw_iconst (pc' := 107) rfl ?_)
            refine wp_of e168 c168_107 (rw_iadd (pc' := 108) rfl ?_)
            refine wp_of e168 c168_108 (xp_I (pc' := 111) lf_9_330 w270067 g0 sh_42 (by decide) (by decide) ty_42_6 rfl rfl (by omega) (by omega) ⟨by omega, by omega⟩ rfl (fun H270074 e270075 w270076 => ?_))
            have f270077 := f270068.put' e270075 g0 rfl
            have f270078 := f270069.put' e270075 g0 rfl
            have k270079 : H270074 r0 6 = (H270065 r0 6) + 1 := wq_u_s e270075
            refine wp_of e168 c168_111 (rw_iinc (pc' := 114) (z := v269912) (L' := [(6, vI (v269912 + 1)), (7, vI a1), (0, .ref r0), (1, vI a1), (2, vI a2), (3, vI a3), (4, vI a4), (5, vI a5)]) rfl rfl rfl rfl ?_)
            refine wp_of e168 c168_114 (rw_goto (p1 := 23) (by decide) ?_)
            have h270080 : TM T H270074 rb (xfk B t a1 a2 a3 a4 a5 (ii269914 + 1)) := (TM_fr w270067 grb ((wfr.rf (l := [(42, 6)])).put' e270075 g0 rfl) rfl h270070)
            exact wp_lc (ks := [6, 7, 0, 1, 2, 3, 4, 5]) (wl_c rfl (wl_c rfl (wl_c rfl (wl_c rfl (wl_c rfl (wl_c rfl (wl_c rfl wl_n))))))) rfl (by decide) (ih269911 _ (by omega) (v269912 + 1) H270074 ((ii269914 + 1)) w270076 f270078 ⟨by omega, by omega⟩ h270080 (by omega) (by omega) (by omega) rfl)
    have h270081 : TM T H269547 rb B := (TM_fr hW grb ((wfr.rf (l := [(42, 0)])).put' e269548 g0 rfl) rfl hTM_rb)
    have h270082 : TM T H269547 rb (xfk B t a1 a2 a3 a4 a5 0) := h270081
    exact wp_lc (ks := [6, 0, 1, 2, 3, 4, 5]) (wl_c rfl (wl_c rfl (wl_c rfl (wl_c rfl (wl_c rfl (wl_c rfl (wl_c rfl wl_n))))))) rfl (by decide) (lp269909 _ 0 H269547 0 w269549 wfr.rf ⟨by omega, by omega⟩ h270082 (by omega) (by omega) (by omega) rfl)
  · refine wp_of e168 c168_18 (rw_iconst (pc' := 19) rfl ?_)
    have h270083 : TM T H269547 rb B := (TM_fr hW grb ((wfr.rf (l := [(42, 0)])).put' e269548 g0 rfl) rfl hTM_rb)
    exact wp_ireturn e168 c168_19 rfl ⟨rfl, w269549, f269550, -1, rfl, ⟨by omega, by omega⟩, (Or.inl ⟨by omega, by omega, by omega, h270083⟩)⟩
/-! StrikeAwakeModel.refused(I)I  -/
abbrev uq_170 (r0 : Nat) (a1 : Int) (T : wq_T) (H : wq_H) : Option Value → wq_T → wq_H → Prop := fun r T' H' => T = T' ∧ WT T H' ∧ wfr [(42, 1), (42, 2)] T H H' ∧ ∃ z : Int, some (vI z) = r ∧ ((-2147483648) ≤ z ∧ z ≤ 2147483647) ∧ (((z = -1) ∧ (H' r0 1 = a1) ∧ (H' r0 2 = -1)))
set_option maxHeartbeats 4000000 in
theorem u_170 {kt : Nat → Option mc_E} {T : wq_T} {H : wq_H} {r0 : Nat} {a1 : Int} (hW : WT T H) (g0 : T.2.2.2 r0 = some 42) (i1 : (-2147483648) ≤ a1 ∧ a1 ≤ 2147483647) : wpc kt 1 170 [.ref r0, vI a1] T H (uq_170 r0 a1 T H) := by
  refine wp_enter e170 (Nat.le_of_ble_eq_true rfl) rfl ?_
  have f0 : wfr [(42, 1), (42, 2)] T H H := wfr.rf
  show wp _ _ 170 0 [(0, .ref r0), (1, vI a1)] [] _ H _
  refine wp_of e170 c170_0 (rw_aload_n (pc' := 1) (v := .ref r0) rfl rfl rfl ?_)
  refine wp_of e170 c170_1 (rw_iload_n (pc' := 2) (z := a1) rfl rfl ?_)
  refine wp_of e170 c170_2 (xp_I (pc' := 5) lf_9_51 hW g0 sh_42 (by decide) (by decide) ty_42_1 rfl rfl (by omega) (by omega) ⟨by omega, by omega⟩ rfl (fun H270507 e270508 w270509 => ?_))
  have f270510 := f0.put' e270508 g0 rfl
  have k270511 : H270507 r0 1 = a1 := wq_u_s e270508
  refine wp_of e170 c170_5 (rw_aload_n (pc' := 6) (v := .ref r0) rfl rfl rfl ?_)
  refine wp_of e170 c170_6 (rw_iconst (pc' := 7) rfl ?_)
  refine wp_of e170 c170_7 (xp_I (pc' := 10) lf_9_9 w270509 g0 sh_42 (by decide) (by decide) ty_42_2 rfl rfl (by omega) (by omega) ⟨by omega, by omega⟩ rfl (fun H270512 e270513 w270514 => ?_))
  have f270515 := f270510.put' e270513 g0 rfl
  have k270516 : H270512 r0 2 = -1 := wq_u_s e270513
  refine wp_of e170 c170_10 (rw_iconst (pc' := 11) rfl ?_)
  have k270517 : H270512 r0 1 = H270507 r0 1 := (wq_u_j e270513 rfl)
  exact wp_ireturn e170 c170_11 rfl ⟨rfl, w270514, f270515, -1, rfl, ⟨by omega, by omega⟩, ⟨by omega, by omega, by omega⟩⟩
/-! StrikeAwakeModel.done(I)I  -/
abbrev uq_209 (r0 : Nat) (a1 : Int) (T : wq_T) (H : wq_H) : Option Value → wq_T → wq_H → Prop := fun r T' H' => T = T' ∧ WT T H' ∧ wfr [(42, 1), (42, 2)] T H H' ∧ ∃ z : Int, some (vI z) = r ∧ ((-2147483648) ≤ z ∧ z ≤ 2147483647) ∧ (((z = a1) ∧ (H' r0 1 = 0) ∧ (H' r0 2 = -1)))
set_option maxHeartbeats 4000000 in
theorem u_209 {kt : Nat → Option mc_E} {T : wq_T} {H : wq_H} {r0 : Nat} {a1 : Int} (hW : WT T H) (g0 : T.2.2.2 r0 = some 42) (i1 : (-2147483648) ≤ a1 ∧ a1 ≤ 2147483647) : wpc kt 1 209 [.ref r0, vI a1] T H (uq_209 r0 a1 T H) := by
  refine wp_enter e209 (Nat.le_of_ble_eq_true rfl) rfl ?_
  have f0 : wfr [(42, 1), (42, 2)] T H H := wfr.rf
  show wp _ _ 209 0 [(0, .ref r0), (1, vI a1)] [] _ H _
  refine wp_of e209 c209_0 (rw_aload_n (pc' := 1) (v := .ref r0) rfl rfl rfl ?_)
  refine wp_of e209 c209_1 (rw_iconst (pc' := 2) rfl ?_)
  refine wp_of e209 c209_2 (xp_I (pc' := 5) lf_9_51 hW g0 sh_42 (by decide) (by decide) ty_42_1 rfl rfl (by omega) (by omega) ⟨by omega, by omega⟩ rfl (fun H270528 e270529 w270530 => ?_))
  have f270531 := f0.put' e270529 g0 rfl
  have k270532 : H270528 r0 1 = 0 := wq_u_s e270529
  refine wp_of e209 c209_5 (rw_aload_n (pc' := 6) (v := .ref r0) rfl rfl rfl ?_)
  refine wp_of e209 c209_6 (rw_iconst (pc' := 7) rfl ?_)
  refine wp_of e209 c209_7 (xp_I (pc' := 10) lf_9_9 w270530 g0 sh_42 (by decide) (by decide) ty_42_2 rfl rfl (by omega) (by omega) ⟨by omega, by omega⟩ rfl (fun H270533 e270534 w270535 => ?_))
  have f270536 := f270531.put' e270534 g0 rfl
  have k270537 : H270533 r0 2 = -1 := wq_u_s e270534
  refine wp_of e209 c209_10 (rw_iload_n (pc' := 11) (z := a1) rfl rfl ?_)
  have k270538 : H270533 r0 1 = H270528 r0 1 := (wq_u_j e270534 rfl)
  exact wp_ireturn e209 c209_11 rfl ⟨rfl, w270535, f270536, a1, rfl, ⟨by omega, by omega⟩, ⟨by omega, by omega, by omega⟩⟩
/-! StrikeAwakeModel.parish(I)I c -/
abbrev uq_169_c (r0 : Nat) (a1 : Int) (rp : Nat) (rb : Nat) (B : Nat → Int) (T : wq_T) (H : wq_H) : Option Value → wq_T → wq_H → Prop := fun r T' H' => T = T' ∧ WT T H' ∧ wfr [(54, 0), (54, 1), (54, 2), (54, 3), (54, 4), (54, 5), (54, 6), (54, 7), (54, 8), (42, 1), (42, 2), (42, 3), (42, 4), (42, 8), (42, 9), (42, 10), (42, 11), (42, 12), (42, 13), (42, 14), (42, 15), (42, 16), (42, 17), (42, 18), (42, 19), (42, 28), (42, 32), (48, 999), (49, 999), (46, 999), (47, 999), (50, 999), (45, 999), (44, 999), (64, 999), (65, 999), (56, 999), (57, 999), (66, 999), (60, 999), (63, 999), (58, 999), (59, 999), (55, 999), (61, 999), (62, 999), (72, 999), (71, 999), (67, 999), (68, 999), (69, 999)] T H H' ∧ ∃ z : Int, some (vI z) = r ∧ ((-2147483648) ≤ z ∧ z ≤ 2147483647) ∧ (((z = -1) ∧ ((xparse B a1).1.1 ≠ 0) ∧ (H' r0 1 = 4) ∧ (H' r0 2 = (xparse B a1).1.2.1) ∧ (H' r0 13 = (xparse B a1).1.1) ∧ (wKI H' r0 = 1) ∧ (H' r0 6 = H r0 6) ∧ (H' r0 3 = H r0 3)) ∨ ((0 ≤ z ∧ z ≤ 6) ∧ ((xparse B a1).1.1 = 0) ∧ (z = (xparse B a1).2 0 3) ∧ (H' r0 1 = 0) ∧ (H' r0 2 = -1) ∧ (H' r0 13 = 0) ∧ (wKI H' r0 = 1) ∧ (H' r0 6 = H r0 6) ∧ (H' r0 3 = (rp : Int))))
set_option maxHeartbeats 4000000 in
theorem u_169_c {kt : Nat → Option mc_E} {T : wq_T} {H : wq_H} {r0 : Nat} {a1 : Int} {rp : Nat} {rb : Nat} {B : Nat → Int} (hW : WT T H) (g0 : T.2.2.2 r0 = some 42) (i1 : 0 ≤ a1 ∧ a1 ≤ 900) (grp : T.2.2.2 rp = some 54) (qrb : H r0 5 = (rb : Int)) (grb : T.2.2.2 rb = some 43) (p0 : wKI H r0 = 1) (p1 : H r0 3 ≠ (rp : Int)) (p2 : H r0 8 = 0) (p3 : H r0 7 = a1) (p4 : H r0 13 = 0) (hTM_rb : TM T H rb B) (hDM_rp : DM T H rp r0 xD0) : wp kt 9 169 56 [(0, .ref r0), (1, vI a1)] [.ref rp, .ref r0] T H (uq_169_c r0 a1 rp rb B T H) := by
  have f0 : wfr [(54, 0), (54, 1), (54, 2), (54, 3), (54, 4), (54, 5), (54, 6), (54, 7), (54, 8), (42, 1), (42, 2), (42, 3), (42, 4), (42, 8), (42, 9), (42, 10), (42, 11), (42, 12), (42, 13), (42, 14), (42, 15), (42, 16), (42, 17), (42, 18), (42, 19), (42, 28), (42, 32), (48, 999), (49, 999), (46, 999), (47, 999), (50, 999), (45, 999), (44, 999), (64, 999), (65, 999), (56, 999), (57, 999), (66, 999), (60, 999), (63, 999), (58, 999), (59, 999), (55, 999), (61, 999), (62, 999), (72, 999), (71, 999), (67, 999), (68, 999), (69, 999)] T H H := wfr.rf
  show wp _ _ 169 56 [(0, .ref r0), (1, vI a1)] [.ref rp, .ref r0] _ H _
  have u271022 := DM_k hDM_rp
  have b271023 : 0 ≤ H r0 8 ∧ H r0 8 ≤ 900 := hW.box g0 (n := 33) rfl (by decide) rfl
  have b271024 : 0 ≤ H r0 6 ∧ H r0 6 ≤ 900 := hW.box g0 (n := 33) rfl (by decide) rfl
  have b271025 : 0 ≤ H r0 28 ∧ H r0 28 ≤ 1 := hW.box g0 (n := 33) rfl (by decide) rfl
  have b271026 : 0 ≤ H r0 29 ∧ H r0 29 ≤ 20000 := hW.box g0 (n := 33) rfl (by decide) rfl
  have b271027 : 0 ≤ H r0 7 ∧ H r0 7 ≤ 900 := hW.box g0 (n := 33) rfl (by decide) rfl
  have b271028 : (-2147483648) ≤ H r0 13 ∧ H r0 13 ≤ 2147483647 := hW.box g0 (n := 33) rfl (by decide) rfl
  have hk := wKI_1.mp p0
  have hne := p1
  have _f1 : (xpf B a1 902 (xG 32 32 B a1 0) xD0).1.1 = (xparse B a1).1.1 := rfl
  have _f2 : (xpf B a1 902 (xG 32 32 B a1 0) xD0).1.2.1 = (xparse B a1).1.2.1 := rfl
  have _f3 : (xpf B a1 902 (xG 32 32 B a1 0) xD0).2 0 3 = (xparse B a1).2 0 3 := rfl
  refine wp_of e169 c169_56 (xp_R (pc' := 59) lf_9_166 hW g0 sh_42 (by decide) (by decide) rfl rfl (wok_3 ty_42_4 grp) rfl (fun H271029 e271030 w271031 => ?_))
  have f271032 := f0.put' e271030 g0 rfl
  have q271033 : H271029 r0 4 = (rp : Int) := wq_u_s e271030
  refine wp_of e169 c169_59 (rw_aload_n (pc' := 60) (v := .ref r0) rfl rfl rfl ?_)
  refine wp_of e169 c169_60 (rw_iconst (pc' := 61) rfl ?_)
  refine wp_of e169 c169_61 (xp_I (pc' := 64) lf_9_75 w271031 g0 sh_42 (by decide) (by decide) ty_42_9 rfl rfl (by omega) (by omega) ⟨by omega, by omega⟩ rfl (fun H271034 e271035 w271036 => ?_))
  have f271037 := f271032.put' e271035 g0 rfl
  have k271038 : H271034 r0 9 = 0 := wq_u_s e271035
  refine wp_of e169 c169_64 (rw_aload_n (pc' := 65) (v := .ref r0) rfl rfl rfl ?_)
  have k271039 : H271034 r0 5 = H r0 5 := ((wq_u_j e271035 rfl).trans (wq_u_j e271030 rfl))
  have q271040 : H271034 r0 5 = (rb : Int) := k271039.trans qrb
  have k271041 : H271034 r0 8 = H r0 8 := ((wq_u_j e271035 rfl).trans (wq_u_j e271030 rfl))
  have k271042 : H271034 r0 7 = H r0 7 := ((wq_u_j e271035 rfl).trans (wq_u_j e271030 rfl))
  have k271043 : H271034 r0 13 = H r0 13 := ((wq_u_j e271035 rfl).trans (wq_u_j e271030 rfl))
  have h271044 : TM T H271034 rb B := (TM_fr w271031 grb ((wfr.rf (l := [(42, 9)])).put' e271035 g0 rfl) rfl (TM_fr hW grb ((wfr.rf (l := [(42, 4)])).put' e271030 g0 rfl) rfl hTM_rb))
  refine wp_of e169 c169_65 (xc_V (pc' := 68) (r := r0) (as := []) (st := []) (lm_9_118) rfl rfl (Nat.le_of_ble_eq_true rfl) w271036 g0 sh_42 (by decide) rfl (by decide) (u_172_k (B := B) (n := a1) (a := 0) (q := (xG 32 32 B a1 0)) w271036 g0 q271040 grb (by omega) (by omega) (by omega) (by omega) (by omega) (rfl) h271044) (fun R271045 T271046 H271047 p271048 => ?_))
  obtain ⟨e271049, w271051, f271052, e271050, p271053⟩ := p271048
  subst e271049
  subst e271050
  have f271055 := f271037.tr f271052 rfl
  show wp _ _ 169 68 [(0, .ref r0), (1, vI a1)] [] _ H271047 _
  have u271056 := RC_k p271053
  refine wp_of e169 c169_68 (rw_aload_n (pc' := 69) (v := .ref r0) rfl rfl rfl ?_)
  have k271057 : H271047 r0 4 = H271029 r0 4 := ((f271052 r0 4 _ g0 rfl).trans (wq_u_j e271035 rfl))
  have q271058 : H271047 r0 4 = (rp : Int) := k271057.trans q271033
  have k271059 : H271047 r0 5 = H271034 r0 5 := (f271052 r0 5 _ g0 rfl)
  have q271060 : H271047 r0 5 = (rb : Int) := k271059.trans q271040
  have h271061 : DM T H271047 rp r0 xD0 := (DM_fr w271036 grp f271052 rfl (DM_fr w271031 grp ((wfr.rf (l := [(42, 9)])).put' e271035 g0 rfl) rfl (DM_fr hW grp ((wfr.rf (l := [(42, 4)])).put' e271030 g0 rfl) rfl hDM_rp)))
  refine wp_of e169 c169_69 (xc_V (pc' := 72) (r := r0) (as := []) (st := []) (lm_9_334) rfl rfl (Nat.le_of_ble_eq_true rfl) w271051 g0 sh_42 (by decide) rfl (by decide) (u_176_k (B := B) (n := a1) (q := ((xG 32 32 B a1 0))) (d := xD0) (f := 902) w271051 g0 q271058 grp q271060 grb (by omega) p271053 h271061) (fun R271062 T271063 H271064 p271065 => ?_))
  obtain ⟨e271066, w271068, f271069, e271067, p271070⟩ := p271065
  subst e271066
  subst e271067
  rcases p271070 with ⟨a271071, a271072, a271073, a271074⟩ | ⟨a271075, a271076, a271077⟩
  · have f271078 := f271055.tr f271069 rfl
    show wp _ _ 169 72 [(0, .ref r0), (1, vI a1)] [] _ H271064 _
    have u271079 := DM_k a271074
    refine wp_of e169 c169_72 (rw_aload_n (pc' := 73) (v := .ref r0) rfl rfl rfl ?_)
    refine wp_of e169 c169_73 (xg_I (pc' := 76) lf_9_104 w271068 g0 sh_42 (by decide) (by decide) ty_42_13 rfl rfl (fun b271080 b271081 => ?_))
    refine wp_of e169 c169_76 (rw_if_le (p1 := 94) (p2 := 79) (by decide) rfl ⟨by omega, by omega⟩ (fun c271082 => ?_) (fun c271082 => ?_))
    · refine wp_of e169 c169_94 (rw_aload_n (pc' := 95) (v := .ref r0) rfl rfl rfl ?_)
      refine wp_of e169 c169_95 (rw_aload_n (pc' := 96) (v := .ref r0) rfl rfl rfl ?_)
      have k271083 : H271064 r0 4 = H271047 r0 4 := (f271069 r0 4 _ g0 rfl)
      have q271084 : H271064 r0 4 = (rp : Int) := k271083.trans q271058
      refine wp_of e169 c169_96 (xg_K (pc' := 99) lf_9_166 w271068 g0 sh_42 (by decide) (by decide) rfl q271084 rfl ?_)
      refine wp_of e169 c169_99 (xp_R (pc' := 102) lf_9_337 w271068 g0 sh_42 (by decide) (by decide) rfl rfl (wok_3 ty_42_3 grp) rfl (fun H271085 e271086 w271087 => ?_))
      have f271088 := f271078.put' e271086 g0 rfl
      have q271089 : H271085 r0 3 = (rp : Int) := wq_u_s e271086
      refine wp_of e169 c169_102 (rw_aload_n (pc' := 103) (v := .ref r0) rfl rfl rfl ?_)
      refine wp_of e169 c169_103 (rw_iconst (pc' := 104) rfl ?_)
      refine wp_of e169 c169_104 (xp_I (pc' := 107) lf_9_340 w271087 g0 sh_42 (by decide) (by decide) ty_42_32 rfl rfl (by omega) (by omega) ⟨by omega, by omega⟩ rfl (fun H271090 e271091 w271092 => ?_))
      have f271093 := f271088.put' e271091 g0 rfl
      have k271094 : H271090 r0 32 = 0 := wq_u_s e271091
      refine wp_of e169 c169_107 (rw_aload_n (pc' := 108) (v := .ref r0) rfl rfl rfl ?_)
      refine wp_of e169 c169_108 (rw_iconst (pc' := 109) rfl ?_)
      refine wp_of e169 c169_109 (rw_aload_n (pc' := 110) (v := .ref r0) rfl rfl rfl ?_)
      have k271095 : H271090 r0 3 = H271085 r0 3 := (wq_u_j e271091 rfl)
      have q271096 : H271090 r0 3 = (rp : Int) := k271095.trans q271089
      refine wp_of e169 c169_110 (xg_K (pc' := 113) lf_9_337 w271092 g0 sh_42 (by decide) (by decide) rfl q271096 rfl ?_)
      have k271097 : H271090 rp 0 = H271064 rp 0 := ((wq_u_t e271091 g0 grp rfl 0).trans (wq_u_t e271086 g0 grp rfl 0))
      refine wp_of e169 c169_113 (xg_I (pc' := 116) lf_9_185 w271092 grp sh_54 (by decide) (by decide) ty_54_0 rfl rfl (fun b271098 b271099 => ?_))
      refine wp_of e169 c169_116 (rw_ishl (pc' := 117) rfl ?_)
      obtain ⟨v271100, e271101⟩ : ∃ x : Int, x = wq_shl 1 (H271090 rp 0) := ⟨_, rfl⟩
      rw [← e271101]
      have b271102 : -2147483648 ≤ v271100 ∧ v271100 ≤ 2147483647 := by
        rw [e271101]
        exact wI_shl _ _
      refine wp_of e169 c169_117 (rw_iconst (pc' := 118) rfl ?_)
      refine wp_of e169 c169_118 (rw_isubw (pc' := 119) rfl ?_)
      obtain ⟨v271103, e271104⟩ : ∃ x : Int, x = wq_w (v271100 - 1) := ⟨_, rfl⟩
      rw [← e271104]
      have b271105 : -2147483648 ≤ v271103 ∧ v271103 ≤ 2147483647 := by
        rw [e271104]
        exact wI_w _
      have b271106 : (-2147483648 ≤ v271100 - 1 ∧ v271100 - 1 ≤ 2147483647) → v271103 = v271100 - 1 := fun h => by rw [e271104]; exact wq_w_id h
      refine wp_of e169 c169_119 (xp_I (pc' := 122) lf_9_343 w271092 g0 sh_42 (by decide) (by decide) ty_42_19 rfl rfl (by omega) (by omega) ⟨by omega, by omega⟩ rfl (fun H271107 e271108 w271109 => ?_))
      have f271110 := f271093.put' e271108 g0 rfl
      have k271111 : H271107 r0 19 = v271103 := wq_u_s e271108
      refine wp_of e169 c169_122 (rw_iconst (pc' := 123) rfl ?_)
      refine wp_of e169 c169_123 (rw_istore_n (pc' := 124) (z := 0) (L' := [(2, vI 0), (0, .ref r0), (1, vI a1)]) rfl rfl rfl ?_)
      have lp271368 : ∀ (n271369 : Nat) (v271371 : Int) (H271372 : wq_H), WT T H271372 → wfr [(44, 999)] T H271107 H271372 → (0 ≤ v271371 ∧ v271371 ≤ 24) → (24 - v271371).toNat = n271369 → wp kt 9 169 124 [(2, vI v271371), (0, .ref r0)] [] T H271372 (uq_169_c r0 a1 rp rb B T H) := by
        intro n271369
        induction n271369 using Nat.strongRecOn with
        | _ n271369 ih271370 =>
          intro v271371 H271372 w271373 f271374 b271375 m271376
          have f271377 := f271110.tr f271374 rfl
          refine wp_of e169 c169_124 (rw_iload_n (pc' := 125) (z := v271371) rfl rfl ?_)
          refine wp_of e169 c169_125 (rw_bipush (pc' := 127) (z := 24) rfl (by decide) ?_)
          refine wp_of e169 c169_127 (rw_icmp_ge (p1 := 166) (p2 := 130) (by decide) rfl ⟨by omega, by omega⟩ ⟨by omega, by omega⟩ (fun c271378 => ?_) (fun c271378 => ?_))
          · refine wp_of e169 c169_166 (rw_iconst (pc' := 167) rfl ?_)
            refine wp_of e169 c169_167 (rw_istore_n (pc' := 168) (z := 0) (L' := [(2, vI 0), (0, .ref r0)]) rfl rfl rfl ?_)
            have lp271435 : ∀ (n271436 : Nat) (v271438 : Int) (H271439 : wq_H), WT T H271439 → wfr [(50, 999)] T H271372 H271439 → (0 ≤ v271438 ∧ v271438 ≤ 6) → (6 - v271438).toNat = n271436 → wp kt 9 169 168 [(2, vI v271438), (0, .ref r0)] [] T H271439 (uq_169_c r0 a1 rp rb B T H) := by
              intro n271436
              induction n271436 using Nat.strongRecOn with
              | _ n271436 ih271437 =>
                intro v271438 H271439 w271440 f271441 b271442 m271443
                have f271444 := f271377.tr f271441 rfl
                refine wp_of e169 c169_168 (rw_iload_n (pc' := 169) (z := v271438) rfl rfl ?_)
                refine wp_of e169 c169_169 (rw_bipush (pc' := 171) (z := 6) rfl (by decide) ?_)
                refine wp_of e169 c169_171 (rw_icmp_ge (p1 := 187) (p2 := 174) (by decide) rfl ⟨by omega, by omega⟩ ⟨by omega, by omega⟩ (fun c271445 => ?_) (fun c271445 => ?_))
                · have h271447 : DM T H271439 rp r0 ((xpf B a1 902 ((xG 32 32 B a1 0)) xD0).2) := (DM_fr w271373 grp f271441 rfl (DM_fr w271109 grp f271374 rfl (DM_fr w271092 grp ((wfr.rf (l := [(42, 19)])).put' e271108 g0 rfl) rfl (DM_fr w271087 grp ((wfr.rf (l := [(42, 32)])).put' e271091 g0 rfl) rfl (DM_fr w271068 grp ((wfr.rf (l := [(42, 3)])).put' e271086 g0 rfl) rfl a271074)))))
                  have k271446 : wPI H271439 rp = 1 := wPI_dm h271447
                  refine wp_of e169 c169_187 (rw_aload_n (pc' := 188) (v := .ref r0) rfl rfl rfl ?_)
                  have k271448 : H271439 r0 3 = H271090 r0 3 := ((f271441 r0 3 _ g0 rfl).trans ((f271374 r0 3 _ g0 rfl).trans (wq_u_j e271108 rfl)))
                  have q271449 : H271439 r0 3 = (rp : Int) := k271448.trans q271096
                  refine wp_of e169 c169_188 (xc_V (pc' := 191) (r := r0) (as := []) (st := []) (lm_9_350) rfl rfl (Nat.le_of_ble_eq_true rfl) w271440 g0 sh_42 (by decide) rfl (by decide) (s_206 w271440 g0 q271449 grp (by omega)) (fun R271450 T271451 H271452 p271453 => ?_))
                  obtain ⟨e271454, w271456, f271457, e271455⟩ := p271453
                  subst e271454
                  subst e271455
                  have f271458 := f271444.tr f271457 rfl
                  show wp _ _ 169 191 [(2, vI v271438), (0, .ref r0)] [] _ H271452 _
                  refine wp_of e169 c169_191 (rw_aload_n (pc' := 192) (v := .ref r0) rfl rfl rfl ?_)
                  refine wp_of e169 c169_192 (rw_iconst (pc' := 193) rfl ?_)
                  refine wp_of e169 c169_193 (xp_Z (pc' := 196) lf_9_353 w271456 g0 sh_42 (by decide) (by decide) ty_42_28 rfl rfl (by omega) (by omega) rfl (fun H271459 e271460 w271461 => ?_))
                  have f271462 := f271458.put' e271460 g0 rfl
                  have k271463 : H271459 r0 28 = 0 := wq_u_s e271460
                  refine wp_of e169 c169_196 (rw_aload_n (pc' := 197) (v := .ref r0) rfl rfl rfl ?_)
                  refine wp_of e169 c169_197 (rw_aload_n (pc' := 198) (v := .ref r0) rfl rfl rfl ?_)
                  have k271464 : H271459 r0 3 = H271439 r0 3 := ((wq_u_j e271460 rfl).trans (f271457 r0 3 _ g0 rfl))
                  have q271465 : H271459 r0 3 = (rp : Int) := k271464.trans q271449
                  refine wp_of e169 c169_198 (xg_K (pc' := 201) lf_9_337 w271461 g0 sh_42 (by decide) (by decide) rfl q271465 rfl ?_)
                  have k271466 : H271459 rp 3 = H271064 rp 3 := ((wq_u_t e271460 g0 grp rfl 3).trans ((f271457 rp 3 _ grp rfl).trans ((f271441 rp 3 _ grp rfl).trans ((f271374 rp 3 _ grp rfl).trans ((wq_u_t e271108 g0 grp rfl 3).trans ((wq_u_t e271091 g0 grp rfl 3).trans (wq_u_t e271086 g0 grp rfl 3)))))))
                  refine wp_of e169 c169_201 (xg_I (pc' := 204) lf_9_188 w271461 grp sh_54 (by decide) (by decide) ty_54_3 rfl rfl (fun b271467 b271468 => ?_))
                  refine wp_of e169 c169_204 (xc_V (pc' := 207) (r := r0) (as := [vI (H271459 rp 3)]) (st := []) (lm_9_58) rfl rfl (Nat.le_of_ble_eq_true rfl) w271461 g0 sh_42 (by decide) rfl (by decide) (u_209  w271461 g0 ⟨by omega, by omega⟩) (fun R271469 T271470 H271471 p271472 => ?_))
                  obtain ⟨e271473, w271475, f271476, z271477, e271474, b271478, p271479⟩ := p271472
                  subst e271473
                  subst e271474
                  obtain ⟨a271480, a271481, a271482⟩ := p271479
                  have f271483 := f271462.tr f271476 rfl
                  show wp _ _ 169 207 [(2, vI v271438), (0, .ref r0)] [vI z271477] _ H271471 _
                  have k271484 : H271471 r0 28 = H271459 r0 28 := (f271476 r0 28 _ g0 rfl)
                  have k271485 : H271471 r0 29 = H r0 29 := ((f271476 r0 29 _ g0 rfl).trans ((wq_u_j e271460 rfl).trans ((f271457 r0 29 _ g0 rfl).trans ((f271441 r0 29 _ g0 rfl).trans ((f271374 r0 29 _ g0 rfl).trans ((wq_u_j e271108 rfl).trans ((wq_u_j e271091 rfl).trans ((wq_u_j e271086 rfl).trans ((f271069 r0 29 _ g0 rfl).trans ((f271052 r0 29 _ g0 rfl).trans ((wq_u_j e271035 rfl).trans (wq_u_j e271030 rfl))))))))))))
                  have k271486 : wKI H271471 r0 = 1 := wKI_1.mpr (by omega)
                  have k271487 : H271471 r0 6 = H r0 6 := ((f271476 r0 6 _ g0 rfl).trans ((wq_u_j e271460 rfl).trans ((f271457 r0 6 _ g0 rfl).trans ((f271441 r0 6 _ g0 rfl).trans ((f271374 r0 6 _ g0 rfl).trans ((wq_u_j e271108 rfl).trans ((wq_u_j e271091 rfl).trans ((wq_u_j e271086 rfl).trans ((f271069 r0 6 _ g0 rfl).trans ((f271052 r0 6 _ g0 rfl).trans ((wq_u_j e271035 rfl).trans (wq_u_j e271030 rfl))))))))))))
                  have k271488 : H271471 r0 13 = H271064 r0 13 := ((f271476 r0 13 _ g0 rfl).trans ((wq_u_j e271460 rfl).trans ((f271457 r0 13 _ g0 rfl).trans ((f271441 r0 13 _ g0 rfl).trans ((f271374 r0 13 _ g0 rfl).trans ((wq_u_j e271108 rfl).trans ((wq_u_j e271091 rfl).trans (wq_u_j e271086 rfl))))))))
                  have k271489 : H271471 r0 3 = H271459 r0 3 := (f271476 r0 3 _ g0 rfl)
                  have q271490 : H271471 r0 3 = (rp : Int) := k271489.trans q271465
                  exact wp_ireturn e169 c169_207 rfl ⟨rfl, w271475, f271483, z271477, rfl, ⟨by omega, by omega⟩, (Or.inr ⟨by omega, by omega, by omega, by omega, by omega, by omega, by omega, by omega, by omega⟩)⟩
                · refine wp_of e169 c169_174 (rw_aload_n (pc' := 175) (v := .ref r0) rfl rfl rfl ?_)
                  refine wp_of e169 c169_175 (xg_R (pc' := 178) lf_9_36 w271440 g0 sh_42 (by decide) (by decide) ty_42_26 rfl rfl (fun r271491 q271492 g271493 => ?_))
                  refine wp_of e169 c169_178 (rw_iload_n (pc' := 179) (z := v271438) rfl rfl ?_)
                  refine wp_of e169 c169_179 (rw_iconst (pc' := 180) rfl ?_)
                  refine wp_of e169 c169_180 (xs_I (pc' := 181) w271440 g271493 (by decide) sh_50 (by decide) (ty_50 _) (by omega) (by omega) ⟨by omega, by omega⟩ (by omega) (by omega) rfl (fun H271494 e271495 w271496 => ?_))
                  have f271497 := f271444.put' e271495 g271493 rfl
                  have f271498 := f271441.put' e271495 g271493 rfl
                  refine wp_of e169 c169_181 (rw_iinc (pc' := 184) (z := v271438) (L' := [(2, vI (v271438 + 1)), (0, .ref r0)]) rfl rfl rfl rfl ?_)
                  refine wp_of e169 c169_184 (rw_goto (p1 := 168) (by decide) ?_)
                  exact wp_lc (ks := [2, 0]) (wl_c rfl (wl_c rfl wl_n)) rfl (by decide) (ih271437 _ (by omega) (v271438 + 1) H271494 w271496 f271498 ⟨by omega, by omega⟩ rfl)
            exact wp_lc (ks := [2, 0]) (wl_c rfl (wl_c rfl wl_n)) rfl (by decide) (lp271435 _ 0 H271372 w271373 wfr.rf ⟨by omega, by omega⟩ rfl)
          · refine wp_of e169 c169_130 (rw_aload_n (pc' := 131) (v := .ref r0) rfl rfl rfl ?_)
            refine wp_of e169 c169_131 (xg_R (pc' := 134) lf_9_17 w271373 g0 sh_42 (by decide) (by decide) ty_42_20 rfl rfl (fun r271499 q271500 g271501 => ?_))
            refine wp_of e169 c169_134 (rw_iload_n (pc' := 135) (z := v271371) rfl rfl ?_)
            refine wp_of e169 c169_135 (rw_aload_n (pc' := 136) (v := .ref r0) rfl rfl rfl ?_)
            have k271502 : H271372 r0 19 = H271107 r0 19 := (f271374 r0 19 _ g0 rfl)
            refine wp_of e169 c169_136 (xg_I (pc' := 139) lf_9_343 w271373 g0 sh_42 (by decide) (by decide) ty_42_19 rfl rfl (fun b271503 b271504 => ?_))
            refine wp_of e169 c169_139 (rw_iload_n (pc' := 140) (z := v271371) rfl rfl ?_)
            refine wp_of e169 c169_140 (xc_S (pc' := 143) (as := [vI (H271372 r0 19), vI v271371]) (st := [vI v271371, .ref r271499]) (lm_9_346) rfl rfl (Nat.le_of_ble_eq_true rfl) rfl (by decide) (s_205 w271373 ⟨by omega, by omega⟩ ⟨by omega, by omega⟩) (fun R271505 T271506 H271507 p271508 => ?_))
            obtain ⟨e271509, e271511, z271512, e271510, b271513⟩ := p271508
            subst e271509
            subst e271510
            subst e271511
            show wp _ _ 169 143 [(2, vI v271371), (0, .ref r0)] [vI z271512, vI v271371, .ref r271499] _ H271372 _
            refine wp_of e169 c169_143 (rw_if_eq (p1 := 158) (p2 := 146) (by decide) rfl ⟨by omega, by omega⟩ (fun c271514 => ?_) (fun c271514 => ?_))
            · refine wp_of e169 c169_158 (rw_iconst (pc' := 159) rfl ?_)
              refine wp_of e169 c169_159 (xs_I (pc' := 160) w271373 g271501 (by decide) sh_44 (by decide) (ty_44 _) (by omega) (by omega) ⟨by omega, by omega⟩ (by omega) (by omega) rfl (fun H271515 e271516 w271517 => ?_))
              have f271518 := f271377.put' e271516 g271501 rfl
              have f271519 := f271374.put' e271516 g271501 rfl
              refine wp_of e169 c169_160 (rw_iinc (pc' := 163) (z := v271371) (L' := [(2, vI (v271371 + 1)), (0, .ref r0)]) rfl rfl rfl rfl ?_)
              refine wp_of e169 c169_163 (rw_goto (p1 := 124) (by decide) ?_)
              exact wp_lc (ks := [2, 0]) (wl_c rfl (wl_c rfl wl_n)) rfl (by decide) (ih271370 _ (by omega) (v271371 + 1) H271515 w271517 f271519 ⟨by omega, by omega⟩ rfl)
            · refine wp_of e169 c169_146 (rw_aload_n (pc' := 147) (v := .ref r0) rfl rfl rfl ?_)
              have k271520 : H271372 r0 3 = H271090 r0 3 := ((f271374 r0 3 _ g0 rfl).trans (wq_u_j e271108 rfl))
              have q271521 : H271372 r0 3 = (rp : Int) := k271520.trans q271096
              refine wp_of e169 c169_147 (xg_K (pc' := 150) lf_9_337 w271373 g0 sh_42 (by decide) (by decide) rfl q271521 rfl ?_)
              refine wp_of e169 c169_150 (xg_R (pc' := 153) lf_9_296 w271373 grp sh_54 (by decide) (by decide) ty_54_21 rfl rfl (fun r271522 q271523 g271524 => ?_))
              refine wp_of e169 c169_153 (rw_iload_n (pc' := 154) (z := v271371) rfl rfl ?_)
              refine wp_of e169 c169_154 (xa_I (so := 0) (pc' := 155) w271373 g271524 sh_67 (by decide) (ty_67 _) (by omega) (by omega) rfl (fun b271525 b271526 => ?_))
              refine wp_of e169 c169_155 (rw_goto (p1 := 159) (by decide) ?_)
              refine wp_of e169 c169_159 (xs_I (pc' := 160) w271373 g271501 (by decide) sh_44 (by decide) (ty_44 _) (by omega) (by omega) ⟨by omega, by omega⟩ (by omega) (by omega) rfl (fun H271527 e271528 w271529 => ?_))
              have f271530 := f271377.put' e271528 g271501 rfl
              have f271531 := f271374.put' e271528 g271501 rfl
              refine wp_of e169 c169_160 (rw_iinc (pc' := 163) (z := v271371) (L' := [(2, vI (v271371 + 1)), (0, .ref r0)]) rfl rfl rfl rfl ?_)
              refine wp_of e169 c169_163 (rw_goto (p1 := 124) (by decide) ?_)
              exact wp_lc (ks := [2, 0]) (wl_c rfl (wl_c rfl wl_n)) rfl (by decide) (ih271370 _ (by omega) (v271371 + 1) H271527 w271529 f271531 ⟨by omega, by omega⟩ rfl)
      exact wp_lc (ks := [2, 0, 1]) (wl_c rfl (wl_c rfl wl_n)) rfl (by decide) (lp271368 _ 0 H271107 w271109 wfr.rf ⟨by omega, by omega⟩ rfl)
    · exfalso
      omega
  · have f271532 := f271055.tr f271069 rfl
    show wp _ _ 169 72 [(0, .ref r0), (1, vI a1)] [] _ H271064 _
    have u271533 := RO_k a271077
    refine wp_of e169 c169_72 (rw_aload_n (pc' := 73) (v := .ref r0) rfl rfl rfl ?_)
    refine wp_of e169 c169_73 (xg_I (pc' := 76) lf_9_104 w271068 g0 sh_42 (by decide) (by decide) ty_42_13 rfl rfl (fun b271534 b271535 => ?_))
    refine wp_of e169 c169_76 (rw_if_le (p1 := 94) (p2 := 79) (by decide) rfl ⟨by omega, by omega⟩ (fun c271536 => ?_) (fun c271536 => ?_))
    · exfalso
      omega
    · refine wp_of e169 c169_79 (rw_aload_n (pc' := 80) (v := .ref r0) rfl rfl rfl ?_)
      refine wp_of e169 c169_80 (rw_iconst (pc' := 81) rfl ?_)
      refine wp_of e169 c169_81 (xp_I (pc' := 84) lf_9_51 w271068 g0 sh_42 (by decide) (by decide) ty_42_1 rfl rfl (by omega) (by omega) ⟨by omega, by omega⟩ rfl (fun H271537 e271538 w271539 => ?_))
      have f271540 := f271532.put' e271538 g0 rfl
      have k271541 : H271537 r0 1 = 4 := wq_u_s e271538
      refine wp_of e169 c169_84 (rw_aload_n (pc' := 85) (v := .ref r0) rfl rfl rfl ?_)
      refine wp_of e169 c169_85 (rw_aload_n (pc' := 86) (v := .ref r0) rfl rfl rfl ?_)
      have k271542 : H271537 r0 14 = H271064 r0 14 := (wq_u_j e271538 rfl)
      refine wp_of e169 c169_86 (xg_I (pc' := 89) lf_9_107 w271539 g0 sh_42 (by decide) (by decide) ty_42_14 rfl rfl (fun b271543 b271544 => ?_))
      refine wp_of e169 c169_89 (xp_I (pc' := 92) lf_9_9 w271539 g0 sh_42 (by decide) (by decide) ty_42_2 rfl rfl (by omega) (by omega) ⟨by omega, by omega⟩ rfl (fun H271545 e271546 w271547 => ?_))
      have f271548 := f271540.put' e271546 g0 rfl
      have k271549 : H271545 r0 2 = H271537 r0 14 := wq_u_s e271546
      refine wp_of e169 c169_92 (rw_iconst (pc' := 93) rfl ?_)
      have k271550 : H271545 r0 28 = H r0 28 := ((wq_u_j e271546 rfl).trans ((wq_u_j e271538 rfl).trans ((f271069 r0 28 _ g0 rfl).trans ((f271052 r0 28 _ g0 rfl).trans ((wq_u_j e271035 rfl).trans (wq_u_j e271030 rfl))))))
      have k271551 : H271545 r0 29 = H r0 29 := ((wq_u_j e271546 rfl).trans ((wq_u_j e271538 rfl).trans ((f271069 r0 29 _ g0 rfl).trans ((f271052 r0 29 _ g0 rfl).trans ((wq_u_j e271035 rfl).trans (wq_u_j e271030 rfl))))))
      have k271552 : wLM H271545 r0 = wLM H r0 := wLM_ot hW g0 (((wq_u_j e271546 rfl).trans ((wq_u_j e271538 rfl).trans ((f271069 r0 3 _ g0 rfl).trans ((f271052 r0 3 _ g0 rfl).trans ((wq_u_j e271035 rfl).trans (wq_u_j e271030 rfl))))))) (((wq_u_j e271546 rfl).trans ((wq_u_j e271538 rfl).trans ((f271069 r0 21 _ g0 rfl).trans ((f271052 r0 21 _ g0 rfl).trans ((wq_u_j e271035 rfl).trans (wq_u_j e271030 rfl))))))) (fun sp gs => funext (fun j => ((wq_u_t e271546 g0 gs rfl j).trans ((wq_u_t e271538 g0 gs rfl j).trans ((f271069 sp j _ gs rfl).trans ((f271052 sp j _ gs rfl).trans ((wq_u_t e271035 g0 gs rfl j).trans (wq_u_t e271030 g0 gs rfl j)))))))) (fun a ha ga => ((wq_u_t e271546 g0 ga rfl 3).trans ((wq_u_t e271538 g0 ga rfl 3).trans ((a271076 a ha ga).trans ((f271052 a 3 _ ga rfl).trans ((wq_u_t e271035 g0 ga rfl 3).trans (wq_u_t e271030 g0 ga rfl 3))))))) hne
      have k271553 : wKI H271545 r0 = 1 := wKI_1.mpr (by omega)
      have k271554 : H271545 r0 6 = H r0 6 := ((wq_u_j e271546 rfl).trans ((wq_u_j e271538 rfl).trans ((f271069 r0 6 _ g0 rfl).trans ((f271052 r0 6 _ g0 rfl).trans ((wq_u_j e271035 rfl).trans (wq_u_j e271030 rfl))))))
      have k271555 : H271545 r0 1 = H271537 r0 1 := (wq_u_j e271546 rfl)
      have k271556 : H271545 r0 13 = H271064 r0 13 := ((wq_u_j e271546 rfl).trans (wq_u_j e271538 rfl))
      have k271557 : H271545 r0 3 = H r0 3 := ((wq_u_j e271546 rfl).trans ((wq_u_j e271538 rfl).trans ((f271069 r0 3 _ g0 rfl).trans ((f271052 r0 3 _ g0 rfl).trans ((wq_u_j e271035 rfl).trans (wq_u_j e271030 rfl))))))
      exact wp_ireturn e169 c169_93 rfl ⟨rfl, w271547, f271548, -1, rfl, ⟨by omega, by omega⟩, (Or.inl ⟨by omega, by omega, by omega, by omega, by omega, by omega, by omega, by omega⟩)⟩
/-! StrikeAwakeModel.parish(I)I  -/
abbrev uq_169 (r0 : Nat) (a1 : Int) (rb : Nat) (B : Nat → Int) (y : Int) (T : wq_T) (H : wq_H) : Option Value → wq_T → wq_H → Prop := fun r T' H' => (∀ a t, T.2.2.2 a = some t → T'.2.2.2 a = some t) ∧ T'.2.1 ≤ T.2.1 + 19 ∧ T'.2.2.1 ≤ T.2.2.1 + 459 ∧ WT T' H' ∧ wfr [(54, 0), (54, 1), (54, 2), (54, 3), (54, 4), (54, 5), (54, 6), (54, 7), (54, 8), (42, 0), (42, 1), (42, 2), (42, 3), (42, 4), (42, 6), (42, 7), (42, 8), (42, 9), (42, 10), (42, 11), (42, 12), (42, 13), (42, 14), (42, 15), (42, 16), (42, 17), (42, 18), (42, 19), (42, 28), (42, 32), (48, 999), (49, 999), (46, 999), (47, 999), (50, 999), (45, 999), (44, 999), (64, 999), (65, 999), (56, 999), (57, 999), (66, 999), (60, 999), (63, 999), (58, 999), (59, 999), (55, 999), (61, 999), (62, 999), (72, 999), (71, 999), (67, 999), (68, 999), (69, 999)] T H H' ∧ ∃ z : Int, some (vI z) = r ∧ ((-2147483648) ≤ z ∧ z ≤ 2147483647) ∧ (((z = -1) ∧ (a1 < 0 ∨ H r0 6 < a1) ∧ (H' r0 6 = H r0 6) ∧ (H' r0 1 = 2) ∧ (H' r0 2 = -1) ∧ (H' r0 13 = H r0 13) ∧ (H' r0 3 = H r0 3) ∧ (wKI H' r0 = 1)) ∨ ((z = -1) ∧ (0 ≤ a1 ∧ a1 ≤ H r0 6) ∧ (H' r0 6 = 0) ∧ ((xparse B y).1.1 ≠ 0) ∧ (H' r0 1 = 4) ∧ (H' r0 2 = (xparse B y).1.2.1) ∧ (H' r0 13 = (xparse B y).1.1) ∧ (H' r0 3 = H r0 3) ∧ (wKI H' r0 = 1)) ∨ ((0 ≤ z ∧ z ≤ 6) ∧ (0 ≤ a1 ∧ a1 ≤ H r0 6) ∧ (H' r0 6 = 0) ∧ ((xparse B y).1.1 = 0) ∧ (z = (xparse B y).2 0 3) ∧ (H' r0 1 = 0) ∧ (H' r0 2 = -1) ∧ (H' r0 13 = 0) ∧ (H' r0 3 ≠ -1) ∧ (wKI H' r0 = 1)))
set_option maxHeartbeats 4000000 in
theorem u_169 {kt : Nat → Option mc_E} {T : wq_T} {H : wq_H} {r0 : Nat} {a1 : Int} {rb : Nat} {B : Nat → Int} {y : Int} (hW : WT T H) (g0 : T.2.2.2 r0 = some 42) (i1 : (-2147483648) ≤ a1 ∧ a1 ≤ 2147483647) (qrb : H r0 5 = (rb : Int)) (grb : T.2.2.2 rb = some 43) (p0 : wKI H r0 = 1) (p1 : a1 = y) (hTM_rb : TM T H rb B) : wpc kt 10 169 [.ref r0, vI a1] T H (uq_169 r0 a1 rb B y T H) := by
  refine wp_enter e169 (Nat.le_of_ble_eq_true rfl) rfl ?_
  have f0 : wfr [(54, 0), (54, 1), (54, 2), (54, 3), (54, 4), (54, 5), (54, 6), (54, 7), (54, 8), (42, 0), (42, 1), (42, 2), (42, 3), (42, 4), (42, 6), (42, 7), (42, 8), (42, 9), (42, 10), (42, 11), (42, 12), (42, 13), (42, 14), (42, 15), (42, 16), (42, 17), (42, 18), (42, 19), (42, 28), (42, 32), (48, 999), (49, 999), (46, 999), (47, 999), (50, 999), (45, 999), (44, 999), (64, 999), (65, 999), (56, 999), (57, 999), (66, 999), (60, 999), (63, 999), (58, 999), (59, 999), (55, 999), (61, 999), (62, 999), (72, 999), (71, 999), (67, 999), (68, 999), (69, 999)] T H H := wfr.rf
  show wp _ _ 169 0 [(0, .ref r0), (1, vI a1)] [] _ H _
  have b271623 : 0 ≤ H r0 6 ∧ H r0 6 ≤ 900 := hW.box g0 (n := 33) rfl (by decide) rfl
  have b271624 : (-2147483648) ≤ H r0 13 ∧ H r0 13 ≤ 2147483647 := hW.box g0 (n := 33) rfl (by decide) rfl
  have _y1 : (xparse B a1).1.1 = (xparse B y).1.1 := by rw [p1]
  have _y2 : (xparse B a1).1.2.1 = (xparse B y).1.2.1 := by rw [p1]
  have _y3 : (xparse B a1).2 0 3 = (xparse B y).2 0 3 := by rw [p1]
  refine wp_of e169 c169_0 (rw_aload_n (pc' := 1) (v := .ref r0) rfl rfl rfl ?_)
  refine wp_of e169 c169_1 (rw_iconst (pc' := 2) rfl ?_)
  refine wp_of e169 c169_2 (xp_I (pc' := 5) lf_9_48 hW g0 sh_42 (by decide) (by decide) ty_42_0 rfl rfl (by omega) (by omega) ⟨by omega, by omega⟩ rfl (fun H271625 e271626 w271627 => ?_))
  have f271628 := f0.put' e271626 g0 rfl
  have k271629 : H271625 r0 0 = 0 := wq_u_s e271626
  refine wp_of e169 c169_5 (rw_iload_n (pc' := 6) (z := a1) rfl rfl ?_)
  refine wp_of e169 c169_6 (rw_if_lt (p1 := 17) (p2 := 9) (by decide) rfl ⟨by omega, by omega⟩ (fun c271630 => ?_) (fun c271630 => ?_))
  · refine wp_of e169 c169_17 (rw_aload_n (pc' := 18) (v := .ref r0) rfl rfl rfl ?_)
    refine wp_of e169 c169_18 (rw_iconst (pc' := 19) rfl ?_)
    refine wp_of e169 c169_19 (xc_V (pc' := 22) (r := r0) (as := [vI 2]) (st := []) (lm_9_54) rfl rfl (Nat.le_of_ble_eq_true rfl) w271627 g0 sh_42 (by decide) rfl (by decide) (u_170  w271627 g0 ⟨by omega, by omega⟩) (fun R271631 T271632 H271633 p271634 => ?_))
    obtain ⟨e271635, w271637, f271638, z271639, e271636, b271640, p271641⟩ := p271634
    subst e271635
    subst e271636
    obtain ⟨a271642, a271643, a271644⟩ := p271641
    have f271645 := f271628.tr f271638 rfl
    show wp _ _ 169 22 [(0, .ref r0), (1, vI a1)] [vI z271639] _ H271633 _
    have k271646 : wKI H271633 r0 = wKI H r0 := ((wKI_fr w271627 g0 f271638 rfl).trans (wKI_fr hW g0 ((wfr.rf (l := [(42, 0)])).put' e271626 g0 rfl) rfl))
    have k271647 : H271633 r0 6 = H r0 6 := ((f271638 r0 6 _ g0 rfl).trans (wq_u_j e271626 rfl))
    have k271648 : H271633 r0 13 = H r0 13 := ((f271638 r0 13 _ g0 rfl).trans (wq_u_j e271626 rfl))
    have k271649 : H271633 r0 3 = H r0 3 := ((f271638 r0 3 _ g0 rfl).trans (wq_u_j e271626 rfl))
    exact wp_ireturn e169 c169_22 rfl ⟨fun _ _ h => h, by omega, by omega, w271637, f271645, z271639, rfl, ⟨by omega, by omega⟩, (Or.inl ⟨by omega, by omega, by omega, by omega, by omega, by omega, by omega, by omega⟩)⟩
  · refine wp_of e169 c169_9 (rw_iload_n (pc' := 10) (z := a1) rfl rfl ?_)
    refine wp_of e169 c169_10 (rw_aload_n (pc' := 11) (v := .ref r0) rfl rfl rfl ?_)
    have k271650 : H271625 r0 6 = H r0 6 := (wq_u_j e271626 rfl)
    refine wp_of e169 c169_11 (xg_I (pc' := 14) lf_9_330 w271627 g0 sh_42 (by decide) (by decide) ty_42_6 rfl rfl (fun b271651 b271652 => ?_))
    refine wp_of e169 c169_14 (rw_icmp_le (p1 := 23) (p2 := 17) (by decide) rfl ⟨by omega, by omega⟩ ⟨by omega, by omega⟩ (fun c271653 => ?_) (fun c271653 => ?_))
    · refine wp_of e169 c169_23 (rw_aload_n (pc' := 24) (v := .ref r0) rfl rfl rfl ?_)
      refine wp_of e169 c169_24 (rw_iload_n (pc' := 25) (z := a1) rfl rfl ?_)
      refine wp_of e169 c169_25 (xp_I (pc' := 28) lf_9_61 w271627 g0 sh_42 (by decide) (by decide) ty_42_7 rfl rfl (by omega) (by omega) ⟨by omega, by omega⟩ rfl (fun H271654 e271655 w271656 => ?_))
      have f271657 := f271628.put' e271655 g0 rfl
      have k271658 : H271654 r0 7 = a1 := wq_u_s e271655
      refine wp_of e169 c169_28 (rw_aload_n (pc' := 29) (v := .ref r0) rfl rfl rfl ?_)
      refine wp_of e169 c169_29 (rw_iconst (pc' := 30) rfl ?_)
      refine wp_of e169 c169_30 (xp_I (pc' := 33) lf_9_330 w271656 g0 sh_42 (by decide) (by decide) ty_42_6 rfl rfl (by omega) (by omega) ⟨by omega, by omega⟩ rfl (fun H271659 e271660 w271661 => ?_))
      have f271662 := f271657.put' e271660 g0 rfl
      have k271663 : H271659 r0 6 = 0 := wq_u_s e271660
      refine wp_of e169 c169_33 (rw_aload_n (pc' := 34) (v := .ref r0) rfl rfl rfl ?_)
      refine wp_of e169 c169_34 (rw_iconst (pc' := 35) rfl ?_)
      refine wp_of e169 c169_35 (xp_I (pc' := 38) lf_9_78 w271661 g0 sh_42 (by decide) (by decide) ty_42_8 rfl rfl (by omega) (by omega) ⟨by omega, by omega⟩ rfl (fun H271664 e271665 w271666 => ?_))
      have f271667 := f271662.put' e271665 g0 rfl
      have k271668 : H271664 r0 8 = 0 := wq_u_s e271665
      refine wp_of e169 c169_38 (rw_aload_n (pc' := 39) (v := .ref r0) rfl rfl rfl ?_)
      refine wp_of e169 c169_39 (rw_iconst (pc' := 40) rfl ?_)
      refine wp_of e169 c169_40 (xp_I (pc' := 43) lf_9_104 w271666 g0 sh_42 (by decide) (by decide) ty_42_13 rfl rfl (by omega) (by omega) ⟨by omega, by omega⟩ rfl (fun H271669 e271670 w271671 => ?_))
      have f271672 := f271667.put' e271670 g0 rfl
      have k271673 : H271669 r0 13 = 0 := wq_u_s e271670
      refine wp_of e169 c169_43 (rw_aload_n (pc' := 44) (v := .ref r0) rfl rfl rfl ?_)
      refine wp_of e169 c169_44 (rw_iconst (pc' := 45) rfl ?_)
      refine wp_of e169 c169_45 (xp_I (pc' := 48) lf_9_293 w271671 g0 sh_42 (by decide) (by decide) ty_42_16 rfl rfl (by omega) (by omega) ⟨by omega, by omega⟩ rfl (fun H271674 e271675 w271676 => ?_))
      have f271677 := f271672.put' e271675 g0 rfl
      have k271678 : H271674 r0 16 = 0 := wq_u_s e271675
      refine wp_of e169 c169_48 (rw_aload_n (pc' := 49) (v := .ref r0) rfl rfl rfl ?_)
      have k271679 : wKI H271674 r0 = wKI H r0 := ((wKI_fr w271671 g0 ((wfr.rf (l := [(42, 16)])).put' e271675 g0 rfl) rfl).trans ((wKI_fr w271666 g0 ((wfr.rf (l := [(42, 13)])).put' e271670 g0 rfl) rfl).trans ((wKI_fr w271661 g0 ((wfr.rf (l := [(42, 8)])).put' e271665 g0 rfl) rfl).trans ((wKI_fr w271656 g0 ((wfr.rf (l := [(42, 6)])).put' e271660 g0 rfl) rfl).trans ((wKI_fr w271627 g0 ((wfr.rf (l := [(42, 7)])).put' e271655 g0 rfl) rfl).trans (wKI_fr hW g0 ((wfr.rf (l := [(42, 0)])).put' e271626 g0 rfl) rfl))))))
      have k271680 : H271674 r0 6 = H271659 r0 6 := ((wq_u_j e271675 rfl).trans ((wq_u_j e271670 rfl).trans (wq_u_j e271665 rfl)))
      have k271681 : H271674 r0 8 = H271664 r0 8 := ((wq_u_j e271675 rfl).trans (wq_u_j e271670 rfl))
      have k271682 : H271674 r0 7 = H271654 r0 7 := ((wq_u_j e271675 rfl).trans ((wq_u_j e271670 rfl).trans ((wq_u_j e271665 rfl).trans (wq_u_j e271660 rfl))))
      have k271683 : H271674 r0 13 = H271669 r0 13 := (wq_u_j e271675 rfl)
      have k271684 : H271674 r0 3 = H r0 3 := ((wq_u_j e271675 rfl).trans ((wq_u_j e271670 rfl).trans ((wq_u_j e271665 rfl).trans ((wq_u_j e271660 rfl).trans ((wq_u_j e271655 rfl).trans (wq_u_j e271626 rfl))))))
      have h271685 : TM T H271674 rb B := (TM_fr w271671 grb ((wfr.rf (l := [(42, 16)])).put' e271675 g0 rfl) rfl (TM_fr w271666 grb ((wfr.rf (l := [(42, 13)])).put' e271670 g0 rfl) rfl (TM_fr w271661 grb ((wfr.rf (l := [(42, 8)])).put' e271665 g0 rfl) rfl (TM_fr w271656 grb ((wfr.rf (l := [(42, 6)])).put' e271660 g0 rfl) rfl (TM_fr w271627 grb ((wfr.rf (l := [(42, 7)])).put' e271655 g0 rfl) rfl (TM_fr hW grb ((wfr.rf (l := [(42, 0)])).put' e271626 g0 rfl) rfl hTM_rb))))))
      have k271686 : H271674 r0 5 = H r0 5 := ((wq_u_j e271675 rfl).trans ((wq_u_j e271670 rfl).trans ((wq_u_j e271665 rfl).trans ((wq_u_j e271660 rfl).trans ((wq_u_j e271655 rfl).trans (wq_u_j e271626 rfl))))))
      have q271687 : H271674 r0 5 = (rb : Int) := k271686.trans qrb
      refine wp_of e169 c169_49 (rw_new10 (pc' := 52) (e := _) rfl rfl rfl (fun hfr => ?_))
      refine wp_of e169 c169_52 (rw_dup (pc' := 53) rfl rfl ?_)
      refine wp_of e169 c169_53 (rw_calI (pc' := 56) (nn := 27) (as := []) (st := [.ref (256 + T.2.1), .ref r0]) lm_9_333 rfl rfl (Nat.le_of_ble_eq_true rfl) (by omega) (if_pos rfl) rfl (((u_171 w271676 hfr).deep (by decide)).imp (fun R9 T9 H9 p9 => ?_)))
      obtain ⟨⟨w9, m9, g9, o9, pi9, n9, z9, e9⟩, dm9⟩ := p9
      subst e9
      show wp _ _ 169 56 [(0, .ref r0), (1, vI a1)] [.ref (256 + T.2.1), .ref r0] T9 H9 _
      have hb : ∀ a t, T.2.2.2 a = some t → a < 256 + T.2.1 := fun a t h => by
        by_cases q : a < 256 + T.2.1
        · exact q
        · have h1 := (hW.2 a t h).1
          rw [hfr a (by omega)] at h1
          cases h1
      have k9 : H9 r0 = H271674 r0 := o9 r0 (hb _ _ g0)
      have k96 : H9 r0 6 = H271674 r0 6 := congrFun k9 6
      have k98 : H9 r0 8 = H271674 r0 8 := congrFun k9 8
      have k93 : H9 r0 3 = H271674 r0 3 := congrFun k9 3
      have k97 : H9 r0 7 = H271674 r0 7 := congrFun k9 7
      have k913 : H9 r0 13 = H271674 r0 13 := congrFun k9 13
      have k916 : H9 r0 16 = H271674 r0 16 := congrFun k9 16
      have k95 : H9 r0 5 = H271674 r0 5 := congrFun k9 5
      have kki : wKI H9 r0 = wKI H271674 r0 := wKI_old w271676 g0 (fun a t h => o9 a (hb a t h))
      have hne : H9 r0 3 ≠ ((256 + T.2.1 : Nat) : Int) := by
        rcases w271676.opt g0 (t' := 54) (n := 33) (j := 3) (p := 0) (q := 0) rfl (by decide) rfl with h5 | ⟨pp, h5, h6⟩
        · omega
        · have := hb pp _ h6
          omega
      have tm9 : TM T9 H9 rb B := fun j hj => by
        rw [o9 rb (hb _ _ grb)]
        exact h271685 j hj
      refine (u_169_c (B := B) w9 (m9 _ _ g0) ⟨by omega, by omega⟩ g9 (k95.trans q271687) (m9 _ _ grb) (by omega) hne (by omega) (by omega) (by omega) tm9 (dm9 r0 g0 (by omega))).imp (fun r T2 H2 q => ?_)
      obtain ⟨eT, w2, f2, z2, er, bz, pa⟩ := q
      subst eT
      subst er
      have fr9 : wfr [(54, 0), (54, 1), (54, 2), (54, 3), (54, 4), (54, 5), (54, 6), (54, 7), (54, 8), (42, 0), (42, 1), (42, 2), (42, 3), (42, 4), (42, 6), (42, 7), (42, 8), (42, 9), (42, 10), (42, 11), (42, 12), (42, 13), (42, 14), (42, 15), (42, 16), (42, 17), (42, 18), (42, 19), (42, 28), (42, 32), (48, 999), (49, 999), (46, 999), (47, 999), (50, 999), (45, 999), (44, 999), (64, 999), (65, 999), (56, 999), (57, 999), (66, 999), (60, 999), (63, 999), (58, 999), (59, 999), (55, 999), (61, 999), (62, 999), (72, 999), (71, 999), (67, 999), (68, 999), (69, 999)] T H H2 := fun a j t ht hm => (f2 a j t (m9 _ _ ht) (wsub_of (l := [(54, 0), (54, 1), (54, 2), (54, 3), (54, 4), (54, 5), (54, 6), (54, 7), (54, 8), (42, 1), (42, 2), (42, 3), (42, 4), (42, 8), (42, 9), (42, 10), (42, 11), (42, 12), (42, 13), (42, 14), (42, 15), (42, 16), (42, 17), (42, 18), (42, 19), (42, 28), (42, 32), (48, 999), (49, 999), (46, 999), (47, 999), (50, 999), (45, 999), (44, 999), (64, 999), (65, 999), (56, 999), (57, 999), (66, 999), (60, 999), (63, 999), (58, 999), (59, 999), (55, 999), (61, 999), (62, 999), (72, 999), (71, 999), (67, 999), (68, 999), (69, 999)]) (l' := [(54, 0), (54, 1), (54, 2), (54, 3), (54, 4), (54, 5), (54, 6), (54, 7), (54, 8), (42, 0), (42, 1), (42, 2), (42, 3), (42, 4), (42, 6), (42, 7), (42, 8), (42, 9), (42, 10), (42, 11), (42, 12), (42, 13), (42, 14), (42, 15), (42, 16), (42, 17), (42, 18), (42, 19), (42, 28), (42, 32), (48, 999), (49, 999), (46, 999), (47, 999), (50, 999), (45, 999), (44, 999), (64, 999), (65, 999), (56, 999), (57, 999), (66, 999), (60, 999), (63, 999), (58, 999), (59, 999), (55, 999), (61, 999), (62, 999), (72, 999), (71, 999), (67, 999), (68, 999), (69, 999)]) rfl hm)).trans ((congrFun (o9 a (hb a t ht)) j).trans (f271677 a j t ht hm))
      rcases pa with ⟨y0, y1, y2, y3, y4, y5, y6, y7⟩ | ⟨y0, y1, y2, y3, y4, y5, y6, y7, y8⟩
      · exact ⟨m9, by omega, by omega, w2, fr9, z2, rfl, bz, Or.inr (Or.inl ⟨by omega, by omega, by omega, by omega, by omega, by omega, by omega, by omega, by omega⟩)⟩
      · exact ⟨m9, by omega, by omega, w2, fr9, z2, rfl, bz, Or.inr (Or.inr ⟨by omega, by omega, by omega, by omega, by omega, by omega, by omega, by omega, by omega, by omega⟩)⟩
    · refine wp_of e169 c169_17 (rw_aload_n (pc' := 18) (v := .ref r0) rfl rfl rfl ?_)
      refine wp_of e169 c169_18 (rw_iconst (pc' := 19) rfl ?_)
      refine wp_of e169 c169_19 (xc_V (pc' := 22) (r := r0) (as := [vI 2]) (st := []) (lm_9_54) rfl rfl (Nat.le_of_ble_eq_true rfl) w271627 g0 sh_42 (by decide) rfl (by decide) (u_170  w271627 g0 ⟨by omega, by omega⟩) (fun R271688 T271689 H271690 p271691 => ?_))
      obtain ⟨e271692, w271694, f271695, z271696, e271693, b271697, p271698⟩ := p271691
      subst e271692
      subst e271693
      obtain ⟨a271699, a271700, a271701⟩ := p271698
      have f271702 := f271628.tr f271695 rfl
      show wp _ _ 169 22 [(0, .ref r0), (1, vI a1)] [vI z271696] _ H271690 _
      have k271703 : wKI H271690 r0 = wKI H r0 := ((wKI_fr w271627 g0 f271695 rfl).trans (wKI_fr hW g0 ((wfr.rf (l := [(42, 0)])).put' e271626 g0 rfl) rfl))
      have k271704 : H271690 r0 6 = H271625 r0 6 := (f271695 r0 6 _ g0 rfl)
      have k271705 : H271690 r0 13 = H r0 13 := ((f271695 r0 13 _ g0 rfl).trans (wq_u_j e271626 rfl))
      have k271706 : H271690 r0 3 = H r0 3 := ((f271695 r0 3 _ g0 rfl).trans (wq_u_j e271626 rfl))
      exact wp_ireturn e169 c169_22 rfl ⟨fun _ _ h => h, by omega, by omega, w271694, f271702, z271696, rfl, ⟨by omega, by omega⟩, (Or.inl ⟨by omega, by omega, by omega, by omega, by omega, by omega, by omega, by omega⟩)⟩
