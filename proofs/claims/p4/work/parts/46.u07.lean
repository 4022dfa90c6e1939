/-! what methods do (own work, written by wip/gen3/sx3.py) -/
/-! StrikeAwakeModel.parish(I)I c -/
abbrev uq_169_c (r0 : Nat) (a1 : Int) (rp : Nat) (rb : Nat) (B : Nat → Int) (T : wq_T) (H : wq_H) : Option Value → wq_T → wq_H → Prop := fun r T' H' => T = T' ∧ WT T H' ∧ wfr [(54, 0), (54, 1), (54, 2), (54, 3), (54, 4), (54, 5), (54, 6), (54, 7), (54, 8), (42, 1), (42, 2), (42, 3), (42, 4), (42, 8), (42, 9), (42, 10), (42, 11), (42, 12), (42, 13), (42, 14), (42, 15), (42, 16), (42, 17), (42, 18), (42, 19), (42, 28), (42, 32), (48, 999), (49, 999), (46, 999), (47, 999), (50, 999), (45, 999), (44, 999), (64, 999), (65, 999), (56, 999), (57, 999), (66, 999), (60, 999), (63, 999), (58, 999), (59, 999), (55, 999), (61, 999), (62, 999), (72, 999), (71, 999), (67, 999), (68, 999), (69, 999)] T H H' ∧ ∃ z : Int, some (vI z) = r ∧ ((-2147483648) ≤ z ∧ z ≤ 2147483647) ∧ (((z = -1) ∧ ((xparse B a1).1.1 ≠ 0) ∧ (H' r0 1 = 4) ∧ (H' r0 2 = (xparse B a1).1.2.1) ∧ (H' r0 13 = (xparse B a1).1.1) ∧ (wKI H' r0 = 1) ∧ (H' r0 6 = H r0 6) ∧ (H' r0 3 = H r0 3)) ∨ ((0 ≤ z ∧ z ≤ 6) ∧ ((xparse B a1).1.1 = 0) ∧ (z = (xparse B a1).2 0 3) ∧ (H' r0 1 = 0) ∧ (H' r0 2 = -1) ∧ (H' r0 13 = 0) ∧ (wKI H' r0 = 1) ∧ (H' r0 6 = H r0 6) ∧ (H' r0 3 = (rp : Int))))
set_option maxHeartbeats 4000000 in
theorem u_169_c {kt : Nat → Option mc_E} {T : wq_T} {H : wq_H} {r0 : Nat} {a1 : Int} {rp : Nat} {rb : Nat} {B : Nat → Int} (hW : WT T H) (g0 : T.2.2.2 r0 = some 42) (i1 : 0 ≤ a1 ∧ a1 ≤ 900) (grp : T.2.2.2 rp = some 54) (qrb : H r0 5 = (rb : Int)) (grb : T.2.2.2 rb = some 43) (p0 : wKI H r0 = 1) (p1 : H r0 3 ≠ (rp : Int)) (p2 : H r0 8 = 0) (p3 : H r0 7 = a1) (p4 : H r0 13 = 0) (hTM_rb : TM T H rb B) (hDM_rp : DM T H rp r0 xD0) : wp kt 9 169 56 [(0, .ref r0), (1, vI a1)] [.ref rp, .ref r0] T H (uq_169_c r0 a1 rp rb B T H) := by
  have f0 : wfr [(54, 0), (54, 1), (54, 2), (54, 3), (54, 4), (54, 5), (54, 6), (54, 7), (54, 8), (42, 1), (42, 2), (42, 3), (42, 4), (42, 8), (42, 9), (42, 10), (42, 11), (42, 12), (42, 13), (42, 14), (42, 15), (42, 16), (42, 17), (42, 18), (42, 19), (42, 28), (42, 32), (48, 999), (49, 999), (46, 999), (47, 999), (50, 999), (45, 999), (44, 999), (64, 999), (65, 999), (56, 999), (57, 999), (66, 999), (60, 999), (63, 999), (58, 999), (59, 999), (55, 999), (61, 999), (62, 999), (72, 999), (71, 999), (67, 999), (68, 999), (69, 999)] T H H := wfr.rf
  show wp _ _ 169 56 [(0, .ref r0), (1, vI a1)] [.ref rp, .ref r0] _ H _
  have u484 := DM_k hDM_rp
  have b485 : 0 ≤ H r0 8 ∧ H r0 8 ≤ 900 := hW.box g0 (n := 33) rfl (by decide) rfl
  have b486 : 0 ≤ H r0 6 ∧ H r0 6 ≤ 900 := hW.box g0 (n := 33) rfl (by decide) rfl
  have b487 : 0 ≤ H r0 28 ∧ H r0 28 ≤ 1 := hW.box g0 (n := 33) rfl (by decide) rfl
  have b488 : 0 ≤ H r0 29 ∧ H r0 29 ≤ 20000 := hW.box g0 (n := 33) rfl (by decide) rfl
  have b489 : 0 ≤ H r0 7 ∧ H r0 7 ≤ 900 := hW.box g0 (n := 33) rfl (by decide) rfl
  have b490 : (-2147483648) ≤ H r0 13 ∧ H r0 13 ≤ 2147483647 := hW.box g0 (n := 33) rfl (by decide) rfl
  have hk := wKI_1.mp p0
  have hne := p1
  have _f1 : (xpf B a1 902 (xG 32 32 B a1 0) xD0).1.1 = (xparse B a1).1.1 := rfl
  have _f2 : (xpf B a1 902 (xG 32 32 B a1 0) xD0).1.2.1 = (xparse B a1).1.2.1 := rfl
  have _f3 : (xpf B a1 902 (xG 32 32 B a1 0) xD0).2 0 3 = (xparse B a1).2 0 3 := rfl
  refine wp_of e169 c169_56 (xp_R (pc' := 59) lf_9_166 hW g0 sh_42 (by decide) (by decide) rfl rfl (wok_3 ty_42_4 grp) rfl (fun H491 e492 w493 => ?_))
  have f494 := f0.put' e492 g0 rfl
  have q495 : H491 r0 4 = (rp : Int) := wq_u_s e492
  refine wp_of e169 c169_59 (rw_aload_n (pc' := 60) (v := .ref r0) rfl rfl rfl ?_)
  refine wp_of e169 c169_60 (rw_iconst (pc' := 61) rfl ?_)
  refine wp_of e169 c169_61 (xp_I (pc' := 64) lf_9_75 w493 g0 sh_42 (by decide) (by decide) ty_42_9 rfl rfl (by omega) (by omega) ⟨by omega, by omega⟩ rfl (fun H496 e497 w498 => ?_))
  have f499 := f494.put' e497 g0 rfl
  have k500 : H496 r0 9 = 0 := wq_u_s e497
  refine wp_of e169 c169_64 (rw_aload_n (pc' := 65) (v := .ref r0) rfl rfl rfl ?_)
  have k501 : H496 r0 5 = H r0 5 := ((wq_u_j e497 rfl).trans (wq_u_j e492 rfl))
  have q502 : H496 r0 5 = (rb : Int) := k501.trans qrb
  have k503 : H496 r0 8 = H r0 8 := ((wq_u_j e497 rfl).trans (wq_u_j e492 rfl))
  have k504 : H496 r0 7 = H r0 7 := ((wq_u_j e497 rfl).trans (wq_u_j e492 rfl))
  have k505 : H496 r0 13 = H r0 13 := ((wq_u_j e497 rfl).trans (wq_u_j e492 rfl))
  have h506 : TM T H496 rb B := (TM_fr w493 grb ((wfr.rf (l := [(42, 9)])).put' e497 g0 rfl) rfl (TM_fr hW grb ((wfr.rf (l := [(42, 4)])).put' e492 g0 rfl) rfl hTM_rb))
  refine wp_of e169 c169_65 (xc_V (pc' := 68) (r := r0) (as := []) (st := []) (lm_9_118) rfl rfl (Nat.le_of_ble_eq_true rfl) w498 g0 sh_42 (by decide) rfl (by decide) (u_172_k (B := B) (n := a1) (a := 0) (q := (xG 32 32 B a1 0)) w498 g0 q502 grb (by omega) (by omega) (by omega) (by omega) (by omega) (rfl) h506) (fun R507 T508 H509 p510 => ?_))
  obtain ⟨e511, w513, f514, e512, p515⟩ := p510
  subst e511
  subst e512
  have f517 := f499.tr f514 rfl
  show wp _ _ 169 68 [(0, .ref r0), (1, vI a1)] [] _ H509 _
  have u518 := RC_k p515
  refine wp_of e169 c169_68 (rw_aload_n (pc' := 69) (v := .ref r0) rfl rfl rfl ?_)
  have k519 : H509 r0 4 = H491 r0 4 := ((f514 r0 4 _ g0 rfl).trans (wq_u_j e497 rfl))
  have q520 : H509 r0 4 = (rp : Int) := k519.trans q495
  have k521 : H509 r0 5 = H496 r0 5 := (f514 r0 5 _ g0 rfl)
  have q522 : H509 r0 5 = (rb : Int) := k521.trans q502
  have h523 : DM T H509 rp r0 xD0 := (DM_fr w498 grp f514 rfl (DM_fr w493 grp ((wfr.rf (l := [(42, 9)])).put' e497 g0 rfl) rfl (DM_fr hW grp ((wfr.rf (l := [(42, 4)])).put' e492 g0 rfl) rfl hDM_rp)))
  refine wp_of e169 c169_69 (xc_V (pc' := 72) (r := r0) (as := []) (st := []) (lm_9_334) rfl rfl (Nat.le_of_ble_eq_true rfl) w513 g0 sh_42 (by decide) rfl (by decide) (u_176_k (B := B) (n := a1) (q := ((xG 32 32 B a1 0))) (d := xD0) (f := 902) w513 g0 q520 grp q522 grb (by omega) p515 h523) (fun R524 T525 H526 p527 => ?_))
  obtain ⟨e528, w530, f531, e529, p532⟩ := p527
  subst e528
  subst e529
  rcases p532 with ⟨a533, a534, a535, a536⟩ | ⟨a537, a538, a539⟩
  · have f540 := f517.tr f531 rfl
    show wp _ _ 169 72 [(0, .ref r0), (1, vI a1)] [] _ H526 _
    have u541 := DM_k a536
    refine wp_of e169 c169_72 (rw_aload_n (pc' := 73) (v := .ref r0) rfl rfl rfl ?_)
    refine wp_of e169 c169_73 (xg_I (pc' := 76) lf_9_104 w530 g0 sh_42 (by decide) (by decide) ty_42_13 rfl rfl (fun b542 b543 => ?_))
    refine wp_of e169 c169_76 (rw_if_le (p1 := 94) (p2 := 79) (by decide) rfl ⟨by omega, by omega⟩ (fun c544 => ?_) (fun c544 => ?_))
    · refine wp_of e169 c169_94 (rw_aload_n (pc' := 95) (v := .ref r0) rfl rfl rfl ?_)
      refine wp_of e169 c169_95 (rw_aload_n (pc' := 96) (v := .ref r0) rfl rfl rfl ?_)
      have k545 : H526 r0 4 = H509 r0 4 := (f531 r0 4 _ g0 rfl)
      have q546 : H526 r0 4 = (rp : Int) := k545.trans q520
      refine wp_of e169 c169_96 (xg_K (pc' := 99) lf_9_166 w530 g0 sh_42 (by decide) (by decide) rfl q546 rfl ?_)
      refine wp_of e169 c169_99 (xp_R (pc' := 102) lf_9_337 w530 g0 sh_42 (by decide) (by decide) rfl rfl (wok_3 ty_42_3 grp) rfl (fun H547 e548 w549 => ?_))
      have f550 := f540.put' e548 g0 rfl
      have q551 : H547 r0 3 = (rp : Int) := wq_u_s e548
      refine wp_of e169 c169_102 (rw_aload_n (pc' := 103) (v := .ref r0) rfl rfl rfl ?_)
      refine wp_of e169 c169_103 (rw_iconst (pc' := 104) rfl ?_)
      refine wp_of e169 c169_104 (xp_I (pc' := 107) lf_9_340 w549 g0 sh_42 (by decide) (by decide) ty_42_32 rfl rfl (by omega) (by omega) ⟨by omega, by omega⟩ rfl (fun H552 e553 w554 => ?_))
      have f555 := f550.put' e553 g0 rfl
      have k556 : H552 r0 32 = 0 := wq_u_s e553
      refine wp_of e169 c169_107 (rw_aload_n (pc' := 108) (v := .ref r0) rfl rfl rfl ?_)
      refine wp_of e169 c169_108 (rw_iconst (pc' := 109) rfl ?_)
      refine wp_of e169 c169_109 (rw_aload_n (pc' := 110) (v := .ref r0) rfl rfl rfl ?_)
      have k557 : H552 r0 3 = H547 r0 3 := (wq_u_j e553 rfl)
      have q558 : H552 r0 3 = (rp : Int) := k557.trans q551
      refine wp_of e169 c169_110 (xg_K (pc' := 113) lf_9_337 w554 g0 sh_42 (by decide) (by decide) rfl q558 rfl ?_)
      have k559 : H552 rp 0 = H526 rp 0 := ((wq_u_t e553 g0 grp rfl 0).trans (wq_u_t e548 g0 grp rfl 0))
      refine wp_of e169 c169_113 (xg_I (pc' := 116) lf_9_185 w554 grp sh_54 (by decide) (by decide) ty_54_0 rfl rfl (fun b560 b561 => ?_))
      refine wp_of e169 c169_116 (rw_ishl (pc' := 117) rfl ?_)
      obtain ⟨v562, e563⟩ : ∃ x : Int, x = wq_shl 1 (H552 rp 0) := ⟨_, rfl⟩
      rw [← e563]
      have b564 : -2147483648 ≤ v562 ∧ v562 ≤ 2147483647 := by
        rw [e563]
        exact wI_shl _ _
      refine wp_of e169 c169_117 (rw_iconst (pc' := 118) rfl ?_)
      refine wp_of e169 c169_118 (rw_isubw (pc' := 119) rfl ?_)
      obtain ⟨v565, e566⟩ : ∃ x : Int, x = wq_w (v562 - 1) := ⟨_, rfl⟩
      rw [← e566]
      have b567 : -2147483648 ≤ v565 ∧ v565 ≤ 2147483647 := by
        rw [e566]
        exact wI_w _
      have b568 : (-2147483648 ≤ v562 - 1 ∧ v562 - 1 ≤ 2147483647) → v565 = v562 - 1 := fun h => by rw [e566]; exact wq_w_id h
      refine wp_of e169 c169_119 (xp_I (pc' := 122) lf_9_343 w554 g0 sh_42 (by decide) (by decide) ty_42_19 rfl rfl (by omega) (by omega) ⟨by omega, by omega⟩ rfl (fun H569 e570 w571 => ?_))
      have f572 := f555.put' e570 g0 rfl
      have k573 : H569 r0 19 = v565 := wq_u_s e570
      refine wp_of e169 c169_122 (rw_iconst (pc' := 123) rfl ?_)
      refine wp_of e169 c169_123 (rw_istore_n (pc' := 124) (z := 0) (L' := [(2, vI 0), (0, .ref r0), (1, vI a1)]) rfl rfl rfl ?_)
      have lp830 : ∀ (n831 : Nat) (v833 : Int) (H834 : wq_H), WT T H834 → wfr [(44, 999)] T H569 H834 → (0 ≤ v833 ∧ v833 ≤ 24) → (24 - v833).toNat = n831 → wp kt 9 169 124 [(2, vI v833), (0, .ref r0)] [] T H834 (uq_169_c r0 a1 rp rb B T H) := by
        intro n831
        induction n831 using Nat.strongRecOn with
        | _ n831 ih832 =>
          intro v833 H834 w835 f836 b837 m838
          have f839 := f572.tr f836 rfl
          refine wp_of e169 c169_124 (rw_iload_n (pc' := 125) (z := v833) rfl rfl ?_)
          refine wp_of e169 c169_125 (rw_bipush (pc' := 127) (z := 24) rfl (by decide) ?_)
          refine wp_of e169 c169_127 (rw_icmp_ge (p1 := 166) (p2 := 130) (by decide) rfl ⟨by omega, by omega⟩ ⟨by omega, by omega⟩ (fun c840 => ?_) (fun c840 => ?_))
          · refine wp_of e169 c169_166 (rw_iconst (pc' := 167) rfl ?_)
            refine wp_of e169 c169_167 (rw_istore_n (pc' := 168) (z := 0) (L' := [(2, vI 0), (0, .ref r0)]) rfl rfl rfl ?_)
            have lp897 : ∀ (n898 : Nat) (v900 : Int) (H901 : wq_H), WT T H901 → wfr [(50, 999)] T H834 H901 → (0 ≤ v900 ∧ v900 ≤ 6) → (6 - v900).toNat = n898 → wp kt 9 169 168 [(2, vI v900), (0, .ref r0)] [] T H901 (uq_169_c r0 a1 rp rb B T H) := by
              intro n898
              induction n898 using Nat.strongRecOn with
              | _ n898 ih899 =>
                intro v900 H901 w902 f903 b904 m905
                have f906 := f839.tr f903 rfl
                refine wp_of e169 c169_168 (rw_iload_n (pc' := 169) (z := v900) rfl rfl ?_)
                refine wp_of e169 c169_169 (rw_bipush (pc' := 171) (z := 6) rfl (by decide) ?_)
                refine wp_of e169 c169_171 (rw_icmp_ge (p1 := 187) (p2 := 174) (by decide) rfl ⟨by omega, by omega⟩ ⟨by omega, by omega⟩ (fun c907 => ?_) (fun c907 => ?_))
                · have h909 : DM T H901 rp r0 ((xpf B a1 902 ((xG 32 32 B a1 0)) xD0).2) := (DM_fr w835 grp f903 rfl (DM_fr w571 grp f836 rfl (DM_fr w554 grp ((wfr.rf (l := [(42, 19)])).put' e570 g0 rfl) rfl (DM_fr w549 grp ((wfr.rf (l := [(42, 32)])).put' e553 g0 rfl) rfl (DM_fr w530 grp ((wfr.rf (l := [(42, 3)])).put' e548 g0 rfl) rfl a536)))))
                  have k908 : wPI H901 rp = 1 := wPI_dm h909
                  refine wp_of e169 c169_187 (rw_aload_n (pc' := 188) (v := .ref r0) rfl rfl rfl ?_)
                  have k910 : H901 r0 3 = H552 r0 3 := ((f903 r0 3 _ g0 rfl).trans ((f836 r0 3 _ g0 rfl).trans (wq_u_j e570 rfl)))
                  have q911 : H901 r0 3 = (rp : Int) := k910.trans q558
                  refine wp_of e169 c169_188 (xc_V (pc' := 191) (r := r0) (as := []) (st := []) (lm_9_350) rfl rfl (Nat.le_of_ble_eq_true rfl) w902 g0 sh_42 (by decide) rfl (by decide) (s_206 w902 g0 q911 grp (by omega)) (fun R912 T913 H914 p915 => ?_))
                  obtain ⟨e916, w918, f919, e917⟩ := p915
                  subst e916
                  subst e917
                  have f920 := f906.tr f919 rfl
                  show wp _ _ 169 191 [(2, vI v900), (0, .ref r0)] [] _ H914 _
                  refine wp_of e169 c169_191 (rw_aload_n (pc' := 192) (v := .ref r0) rfl rfl rfl ?_)
                  refine wp_of e169 c169_192 (rw_iconst (pc' := 193) rfl ?_)
                  refine wp_of e169 c169_193 (xp_Z (pc' := 196) lf_9_353 w918 g0 sh_42 (by decide) (by decide) ty_42_28 rfl rfl (by omega) (by omega) rfl (fun H921 e922 w923 => ?_))
                  have f924 := f920.put' e922 g0 rfl
                  have k925 : H921 r0 28 = 0 := wq_u_s e922
                  refine wp_of e169 c169_196 (rw_aload_n (pc' := 197) (v := .ref r0) rfl rfl rfl ?_)
                  refine wp_of e169 c169_197 (rw_aload_n (pc' := 198) (v := .ref r0) rfl rfl rfl ?_)
                  have k926 : H921 r0 3 = H901 r0 3 := ((wq_u_j e922 rfl).trans (f919 r0 3 _ g0 rfl))
                  have q927 : H921 r0 3 = (rp : Int) := k926.trans q911
                  refine wp_of e169 c169_198 (xg_K (pc' := 201) lf_9_337 w923 g0 sh_42 (by decide) (by decide) rfl q927 rfl ?_)
                  have k928 : H921 rp 3 = H526 rp 3 := ((wq_u_t e922 g0 grp rfl 3).trans ((f919 rp 3 _ grp rfl).trans ((f903 rp 3 _ grp rfl).trans ((f836 rp 3 _ grp rfl).trans ((wq_u_t e570 g0 grp rfl 3).trans ((wq_u_t e553 g0 grp rfl 3).trans (wq_u_t e548 g0 grp rfl 3)))))))
                  refine wp_of e169 c169_201 (xg_I (pc' := 204) lf_9_188 w923 grp sh_54 (by decide) (by decide) ty_54_3 rfl rfl (fun b929 b930 => ?_))
                  refine wp_of e169 c169_204 (xc_V (pc' := 207) (r := r0) (as := [vI (H921 rp 3)]) (st := []) (lm_9_58) rfl rfl (Nat.le_of_ble_eq_true rfl) w923 g0 sh_42 (by decide) rfl (by decide) (u_209  w923 g0 ⟨by omega, by omega⟩) (fun R931 T932 H933 p934 => ?_))
                  obtain ⟨e935, w937, f938, z939, e936, b940, p941⟩ := p934
                  subst e935
                  subst e936
                  obtain ⟨a942, a943, a944⟩ := p941
                  have f945 := f924.tr f938 rfl
                  show wp _ _ 169 207 [(2, vI v900), (0, .ref r0)] [vI z939] _ H933 _
                  have k946 : H933 r0 28 = H921 r0 28 := (f938 r0 28 _ g0 rfl)
                  have k947 : H933 r0 29 = H r0 29 := ((f938 r0 29 _ g0 rfl).trans ((wq_u_j e922 rfl).trans ((f919 r0 29 _ g0 rfl).trans ((f903 r0 29 _ g0 rfl).trans ((f836 r0 29 _ g0 rfl).trans ((wq_u_j e570 rfl).trans ((wq_u_j e553 rfl).trans ((wq_u_j e548 rfl).trans ((f531 r0 29 _ g0 rfl).trans ((f514 r0 29 _ g0 rfl).trans ((wq_u_j e497 rfl).trans (wq_u_j e492 rfl))))))))))))
                  have k948 : wKI H933 r0 = 1 := wKI_1.mpr (by omega)
                  have k949 : H933 r0 6 = H r0 6 := ((f938 r0 6 _ g0 rfl).trans ((wq_u_j e922 rfl).trans ((f919 r0 6 _ g0 rfl).trans ((f903 r0 6 _ g0 rfl).trans ((f836 r0 6 _ g0 rfl).trans ((wq_u_j e570 rfl).trans ((wq_u_j e553 rfl).trans ((wq_u_j e548 rfl).trans ((f531 r0 6 _ g0 rfl).trans ((f514 r0 6 _ g0 rfl).trans ((wq_u_j e497 rfl).trans (wq_u_j e492 rfl))))))))))))
                  have k950 : H933 r0 13 = H526 r0 13 := ((f938 r0 13 _ g0 rfl).trans ((wq_u_j e922 rfl).trans ((f919 r0 13 _ g0 rfl).trans ((f903 r0 13 _ g0 rfl).trans ((f836 r0 13 _ g0 rfl).trans ((wq_u_j e570 rfl).trans ((wq_u_j e553 rfl).trans (wq_u_j e548 rfl))))))))
                  have k951 : H933 r0 3 = H921 r0 3 := (f938 r0 3 _ g0 rfl)
                  have q952 : H933 r0 3 = (rp : Int) := k951.trans q927
                  exact wp_ireturn e169 c169_207 rfl ⟨rfl, w937, f945, z939, rfl, ⟨by omega, by omega⟩, (Or.inr ⟨by omega, by omega, by omega, by omega, by omega, by omega, by omega, by omega, by omega⟩)⟩
                · refine wp_of e169 c169_174 (rw_aload_n (pc' := 175) (v := .ref r0) rfl rfl rfl ?_)
                  refine wp_of e169 c169_175 (xg_R (pc' := 178) lf_9_36 w902 g0 sh_42 (by decide) (by decide) ty_42_26 rfl rfl (fun r953 q954 g955 => ?_))
                  refine wp_of e169 c169_178 (rw_iload_n (pc' := 179) (z := v900) rfl rfl ?_)
                  refine wp_of e169 c169_179 (rw_iconst (pc' := 180) rfl ?_)
                  refine wp_of e169 c169_180 (xs_I (pc' := 181) w902 g955 (by decide) sh_50 (by decide) (ty_50 _) (by omega) (by omega) ⟨by omega, by omega⟩ (by omega) (by omega) rfl (fun H956 e957 w958 => ?_))
                  have f959 := f906.put' e957 g955 rfl
                  have f960 := f903.put' e957 g955 rfl
                  refine wp_of e169 c169_181 (rw_iinc (pc' := 184) (z := v900) (L' := [(2, vI (v900 + 1)), (0, .ref r0)]) rfl rfl rfl rfl ?_)
                  refine wp_of e169 c169_184 (rw_goto (p1 := 168) (by decide) ?_)
                  exact wp_lc (ks := [2, 0]) (wl_c rfl (wl_c rfl wl_n)) rfl (by decide) (ih899 _ (by omega) (v900 + 1) H956 w958 f960 ⟨by omega, by omega⟩ rfl)
            exact wp_lc (ks := [2, 0]) (wl_c rfl (wl_c rfl wl_n)) rfl (by decide) (lp897 _ 0 H834 w835 wfr.rf ⟨by omega, by omega⟩ rfl)
          · refine wp_of e169 c169_130 (rw_aload_n (pc' := 131) (v := .ref r0) rfl rfl rfl ?_)
            refine wp_of e169 c169_131 (xg_R (pc' := 134) lf_9_17 w835 g0 sh_42 (by decide) (by decide) ty_42_20 rfl rfl (fun r961 q962 g963 => ?_))
            refine wp_of e169 c169_134 (rw_iload_n (pc' := 135) (z := v833) rfl rfl ?_)
            refine wp_of e169 c169_135 (rw_aload_n (pc' := 136) (v := .ref r0) rfl rfl rfl ?_)
            have k964 : H834 r0 19 = H569 r0 19 := (f836 r0 19 _ g0 rfl)
            refine wp_of e169 c169_136 (xg_I (pc' := 139) lf_9_343 w835 g0 sh_42 (by decide) (by decide) ty_42_19 rfl rfl (fun b965 b966 => ?_))
            refine wp_of e169 c169_139 (rw_iload_n (pc' := 140) (z := v833) rfl rfl ?_)
            refine wp_of e169 c169_140 (xc_S (pc' := 143) (as := [vI (H834 r0 19), vI v833]) (st := [vI v833, .ref r961]) (lm_9_346) rfl rfl (Nat.le_of_ble_eq_true rfl) rfl (by decide) (s_205 w835 ⟨by omega, by omega⟩ ⟨by omega, by omega⟩) (fun R967 T968 H969 p970 => ?_))
            obtain ⟨e971, e973, z974, e972, b975⟩ := p970
            subst e971
            subst e972
            subst e973
            show wp _ _ 169 143 [(2, vI v833), (0, .ref r0)] [vI z974, vI v833, .ref r961] _ H834 _
            refine wp_of e169 c169_143 (rw_if_eq (p1 := 158) (p2 := 146) (by decide) rfl ⟨by omega, by omega⟩ (fun c976 => ?_) (fun c976 => ?_))
            · refine wp_of e169 c169_158 (rw_iconst (pc' := 159) rfl ?_)
              refine wp_of e169 c169_159 (xs_I (pc' := 160) w835 g963 (by decide) sh_44 (by decide) (ty_44 _) (by omega) (by omega) ⟨by omega, by omega⟩ (by omega) (by omega) rfl (fun H977 e978 w979 => ?_))
              have f980 := f839.put' e978 g963 rfl
              have f981 := f836.put' e978 g963 rfl
              refine wp_of e169 c169_160 (rw_iinc (pc' := 163) (z := v833) (L' := [(2, vI (v833 + 1)), (0, .ref r0)]) rfl rfl rfl rfl ?_)
              refine wp_of e169 c169_163 (rw_goto (p1 := 124) (by decide) ?_)
              exact wp_lc (ks := [2, 0]) (wl_c rfl (wl_c rfl wl_n)) rfl (by decide) (ih832 _ (by omega) (v833 + 1) H977 w979 f981 ⟨by omega, by omega⟩ rfl)
            · refine wp_of e169 c169_146 (rw_aload_n (pc' := 147) (v := .ref r0) rfl rfl rfl ?_)
              have k982 : H834 r0 3 = H552 r0 3 := ((f836 r0 3 _ g0 rfl).trans (wq_u_j e570 rfl))
              have q983 : H834 r0 3 = (rp : Int) := k982.trans q558
              refine wp_of e169 c169_147 (xg_K (pc' := 150) lf_9_337 w835 g0 sh_42 (by decide) (by decide) rfl q983 rfl ?_)
              refine wp_of e169 c169_150 (xg_R (pc' := 153) lf_9_296 w835 grp sh_54 (by decide) (by decide) ty_54_21 rfl rfl (fun r984 q985 g986 => ?_))
              refine wp_of e169 c169_153 (rw_iload_n (pc' := 154) (z := v833) rfl rfl ?_)
              refine wp_of e169 c169_154 (xa_I (so := 0) (pc' := 155) w835 g986 sh_67 (by decide) (ty_67 _) (by omega) (by omega) rfl (fun b987 b988 => ?_))
              refine wp_of e169 c169_155 (rw_goto (p1 := 159) (by decide) ?_)
              refine wp_of e169 c169_159 (xs_I (pc' := 160) w835 g963 (by decide) sh_44 (by decide) (ty_44 _) (by omega) (by omega) ⟨by omega, by omega⟩ (by omega) (by omega) rfl (fun H989 e990 w991 => ?_))
              have f992 := f839.put' e990 g963 rfl
              have f993 := f836.put' e990 g963 rfl
              refine wp_of e169 c169_160 (rw_iinc (pc' := 163) (z := v833) (L' := [(2, vI (v833 + 1)), (0, .ref r0)]) rfl rfl rfl rfl ?_)
              refine wp_of e169 c169_163 (rw_goto (p1 := 124) (by decide) ?_)
              exact wp_lc (ks := [2, 0]) (wl_c rfl (wl_c rfl wl_n)) rfl (by decide) (ih832 _ (by omega) (v833 + 1) H989 w991 f993 ⟨by omega, by omega⟩ rfl)
      exact wp_lc (ks := [2, 0, 1]) (wl_c rfl (wl_c rfl wl_n)) rfl (by decide) (lp830 _ 0 H569 w571 wfr.rf ⟨by omega, by omega⟩ rfl)
    · exfalso
      omega
  · have f994 := f517.tr f531 rfl
    show wp _ _ 169 72 [(0, .ref r0), (1, vI a1)] [] _ H526 _
    have u995 := RO_k a539
    refine wp_of e169 c169_72 (rw_aload_n (pc' := 73) (v := .ref r0) rfl rfl rfl ?_)
    refine wp_of e169 c169_73 (xg_I (pc' := 76) lf_9_104 w530 g0 sh_42 (by decide) (by decide) ty_42_13 rfl rfl (fun b996 b997 => ?_))
    refine wp_of e169 c169_76 (rw_if_le (p1 := 94) (p2 := 79) (by decide) rfl ⟨by omega, by omega⟩ (fun c998 => ?_) (fun c998 => ?_))
    · exfalso
      omega
    · refine wp_of e169 c169_79 (rw_aload_n (pc' := 80) (v := .ref r0) rfl rfl rfl ?_)
      refine wp_of e169 c169_80 (rw_iconst (pc' := 81) rfl ?_)
      refine wp_of e169 c169_81 (xp_I (pc' := 84) lf_9_51 w530 g0 sh_42 (by decide) (by decide) ty_42_1 rfl rfl (by omega) (by omega) ⟨by omega, by omega⟩ rfl (fun H999 e1000 w1001 => ?_))
      have f1002 := f994.put' e1000 g0 rfl
      have k1003 : H999 r0 1 = 4 := wq_u_s e1000
      refine wp_of e169 c169_84 (rw_aload_n (pc' := 85) (v := .ref r0) rfl rfl rfl ?_)
      refine wp_of e169 c169_85 (rw_aload_n (pc' := 86) (v := .ref r0) rfl rfl rfl ?_)
      have k1004 : H999 r0 14 = H526 r0 14 := (wq_u_j e1000 rfl)
      refine wp_of e169 c169_86 (xg_I (pc' := 89) lf_9_107 w1001 g0 sh_42 (by decide) (by decide) ty_42_14 rfl rfl (fun b1005 b1006 => ?_))
      refine wp_of e169 c169_89 (xp_I (pc' := 92) lf_9_9 w1001 g0 sh_42 (by decide) (by decide) ty_42_2 rfl rfl (by omega) (by omega) ⟨by omega, by omega⟩ rfl (fun H1007 e1008 w1009 => ?_))
      have f1010 := f1002.put' e1008 g0 rfl
      have k1011 : H1007 r0 2 = H999 r0 14 := wq_u_s e1008
      refine wp_of e169 c169_92 (rw_iconst (pc' := 93) rfl ?_)
      have k1012 : H1007 r0 28 = H r0 28 := ((wq_u_j e1008 rfl).trans ((wq_u_j e1000 rfl).trans ((f531 r0 28 _ g0 rfl).trans ((f514 r0 28 _ g0 rfl).trans ((wq_u_j e497 rfl).trans (wq_u_j e492 rfl))))))
      have k1013 : H1007 r0 29 = H r0 29 := ((wq_u_j e1008 rfl).trans ((wq_u_j e1000 rfl).trans ((f531 r0 29 _ g0 rfl).trans ((f514 r0 29 _ g0 rfl).trans ((wq_u_j e497 rfl).trans (wq_u_j e492 rfl))))))
      have k1014 : wLM H1007 r0 = wLM H r0 := wLM_ot hW g0 (((wq_u_j e1008 rfl).trans ((wq_u_j e1000 rfl).trans ((f531 r0 3 _ g0 rfl).trans ((f514 r0 3 _ g0 rfl).trans ((wq_u_j e497 rfl).trans (wq_u_j e492 rfl))))))) (((wq_u_j e1008 rfl).trans ((wq_u_j e1000 rfl).trans ((f531 r0 21 _ g0 rfl).trans ((f514 r0 21 _ g0 rfl).trans ((wq_u_j e497 rfl).trans (wq_u_j e492 rfl))))))) (fun sp gs => funext (fun j => ((wq_u_t e1008 g0 gs rfl j).trans ((wq_u_t e1000 g0 gs rfl j).trans ((f531 sp j _ gs rfl).trans ((f514 sp j _ gs rfl).trans ((wq_u_t e497 g0 gs rfl j).trans (wq_u_t e492 g0 gs rfl j)))))))) (fun a ha ga => ((wq_u_t e1008 g0 ga rfl 3).trans ((wq_u_t e1000 g0 ga rfl 3).trans ((a538 a ha ga).trans ((f514 a 3 _ ga rfl).trans ((wq_u_t e497 g0 ga rfl 3).trans (wq_u_t e492 g0 ga rfl 3))))))) hne
      have k1015 : wKI H1007 r0 = 1 := wKI_1.mpr (by omega)
      have k1016 : H1007 r0 6 = H r0 6 := ((wq_u_j e1008 rfl).trans ((wq_u_j e1000 rfl).trans ((f531 r0 6 _ g0 rfl).trans ((f514 r0 6 _ g0 rfl).trans ((wq_u_j e497 rfl).trans (wq_u_j e492 rfl))))))
      have k1017 : H1007 r0 1 = H999 r0 1 := (wq_u_j e1008 rfl)
      have k1018 : H1007 r0 13 = H526 r0 13 := ((wq_u_j e1008 rfl).trans (wq_u_j e1000 rfl))
      have k1019 : H1007 r0 3 = H r0 3 := ((wq_u_j e1008 rfl).trans ((wq_u_j e1000 rfl).trans ((f531 r0 3 _ g0 rfl).trans ((f514 r0 3 _ g0 rfl).trans ((wq_u_j e497 rfl).trans (wq_u_j e492 rfl))))))
      exact wp_ireturn e169 c169_93 rfl ⟨rfl, w1009, f1010, -1, rfl, ⟨by omega, by omega⟩, (Or.inl ⟨by omega, by omega, by omega, by omega, by omega, by omega, by omega, by omega⟩)⟩
/-! StrikeAwakeModel.parish(I)I  -/
abbrev uq_169 (r0 : Nat) (a1 : Int) (rb : Nat) (B : Nat → Int) (y : Int) (T : wq_T) (H : wq_H) : Option Value → wq_T → wq_H → Prop := fun r T' H' => (∀ a t, T.2.2.2 a = some t → T'.2.2.2 a = some t) ∧ T'.2.1 ≤ T.2.1 + 19 ∧ T'.2.2.1 ≤ T.2.2.1 + 459 ∧ WT T' H' ∧ wfr [(54, 0), (54, 1), (54, 2), (54, 3), (54, 4), (54, 5), (54, 6), (54, 7), (54, 8), (42, 0), (42, 1), (42, 2), (42, 3), (42, 4), (42, 6), (42, 7), (42, 8), (42, 9), (42, 10), (42, 11), (42, 12), (42, 13), (42, 14), (42, 15), (42, 16), (42, 17), (42, 18), (42, 19), (42, 28), (42, 32), (48, 999), (49, 999), (46, 999), (47, 999), (50, 999), (45, 999), (44, 999), (64, 999), (65, 999), (56, 999), (57, 999), (66, 999), (60, 999), (63, 999), (58, 999), (59, 999), (55, 999), (61, 999), (62, 999), (72, 999), (71, 999), (67, 999), (68, 999), (69, 999)] T H H' ∧ ∃ z : Int, some (vI z) = r ∧ ((-2147483648) ≤ z ∧ z ≤ 2147483647) ∧ (((z = -1) ∧ (a1 < 0 ∨ H r0 6 < a1) ∧ (H' r0 6 = H r0 6) ∧ (H' r0 1 = 2) ∧ (H' r0 2 = -1) ∧ (H' r0 13 = H r0 13) ∧ (H' r0 3 = H r0 3) ∧ (wKI H' r0 = 1)) ∨ ((z = -1) ∧ (0 ≤ a1 ∧ a1 ≤ H r0 6) ∧ (H' r0 6 = 0) ∧ ((xparse B y).1.1 ≠ 0) ∧ (H' r0 1 = 4) ∧ (H' r0 2 = (xparse B y).1.2.1) ∧ (H' r0 13 = (xparse B y).1.1) ∧ (H' r0 3 = H r0 3) ∧ (wKI H' r0 = 1)) ∨ ((0 ≤ z ∧ z ≤ 6) ∧ (0 ≤ a1 ∧ a1 ≤ H r0 6) ∧ (H' r0 6 = 0) ∧ ((xparse B y).1.1 = 0) ∧ (z = (xparse B y).2 0 3) ∧ (H' r0 1 = 0) ∧ (H' r0 2 = -1) ∧ (H' r0 13 = 0) ∧ (H' r0 3 ≠ -1) ∧ (wKI H' r0 = 1)))
set_option maxHeartbeats 4000000 in
theorem u_169 {kt : Nat → Option mc_E} {T : wq_T} {H : wq_H} {r0 : Nat} {a1 : Int} {rb : Nat} {B : Nat → Int} {y : Int} (hW : WT T H) (g0 : T.2.2.2 r0 = some 42) (i1 : (-2147483648) ≤ a1 ∧ a1 ≤ 2147483647) (qrb : H r0 5 = (rb : Int)) (grb : T.2.2.2 rb = some 43) (p0 : wKI H r0 = 1) (p1 : a1 = y) (hTM_rb : TM T H rb B) : wpc kt 10 169 [.ref r0, vI a1] T H (uq_169 r0 a1 rb B y T H) := by
  refine wp_enter e169 (Nat.le_of_ble_eq_true rfl) rfl ?_
  have f0 : wfr [(54, 0), (54, 1), (54, 2), (54, 3), (54, 4), (54, 5), (54, 6), (54, 7), (54, 8), (42, 0), (42, 1), (42, 2), (42, 3), (42, 4), (42, 6), (42, 7), (42, 8), (42, 9), (42, 10), (42, 11), (42, 12), (42, 13), (42, 14), (42, 15), (42, 16), (42, 17), (42, 18), (42, 19), (42, 28), (42, 32), (48, 999), (49, 999), (46, 999), (47, 999), (50, 999), (45, 999), (44, 999), (64, 999), (65, 999), (56, 999), (57, 999), (66, 999), (60, 999), (63, 999), (58, 999), (59, 999), (55, 999), (61, 999), (62, 999), (72, 999), (71, 999), (67, 999), (68, 999), (69, 999)] T H H := wfr.rf
  show wp _ _ 169 0 [(0, .ref r0), (1, vI a1)] [] _ H _
  have b66 : 0 ≤ H r0 6 ∧ H r0 6 ≤ 900 := hW.box g0 (n := 33) rfl (by decide) rfl
  have b67 : (-2147483648) ≤ H r0 13 ∧ H r0 13 ≤ 2147483647 := hW.box g0 (n := 33) rfl (by decide) rfl
  have _y1 : (xparse B a1).1.1 = (xparse B y).1.1 := by rw [p1]
  have _y2 : (xparse B a1).1.2.1 = (xparse B y).1.2.1 := by rw [p1]
  have _y3 : (xparse B a1).2 0 3 = (xparse B y).2 0 3 := by rw [p1]
  refine wp_of e169 c169_0 (rw_aload_n (pc' := 1) (v := .ref r0) rfl rfl rfl ?_)
  refine wp_of e169 c169_1 (rw_iconst (pc' := 2) rfl ?_)
  refine wp_of e169 c169_2 (xp_I (pc' := 5) lf_9_48 hW g0 sh_42 (by decide) (by decide) ty_42_0 rfl rfl (by omega) (by omega) ⟨by omega, by omega⟩ rfl (fun H68 e69 w70 => ?_))
  have f71 := f0.put' e69 g0 rfl
  have k72 : H68 r0 0 = 0 := wq_u_s e69
  refine wp_of e169 c169_5 (rw_iload_n (pc' := 6) (z := a1) rfl rfl ?_)
  refine wp_of e169 c169_6 (rw_if_lt (p1 := 17) (p2 := 9) (by decide) rfl ⟨by omega, by omega⟩ (fun c73 => ?_) (fun c73 => ?_))
  · refine wp_of e169 c169_17 (rw_aload_n (pc' := 18) (v := .ref r0) rfl rfl rfl ?_)
    refine wp_of e169 c169_18 (rw_iconst (pc' := 19) rfl ?_)
    refine wp_of e169 c169_19 (xc_V (pc' := 22) (r := r0) (as := [vI 2]) (st := []) (lm_9_54) rfl rfl (Nat.le_of_ble_eq_true rfl) w70 g0 sh_42 (by decide) rfl (by decide) (u_170  w70 g0 ⟨by omega, by omega⟩) (fun R74 T75 H76 p77 => ?_))
    obtain ⟨e78, w80, f81, z82, e79, b83, p84⟩ := p77
    subst e78
    subst e79
    obtain ⟨a85, a86, a87⟩ := p84
    have f88 := f71.tr f81 rfl
    show wp _ _ 169 22 [(0, .ref r0), (1, vI a1)] [vI z82] _ H76 _
    have k89 : wKI H76 r0 = wKI H r0 := ((wKI_fr w70 g0 f81 rfl).trans (wKI_fr hW g0 ((wfr.rf (l := [(42, 0)])).put' e69 g0 rfl) rfl))
    have k90 : H76 r0 6 = H r0 6 := ((f81 r0 6 _ g0 rfl).trans (wq_u_j e69 rfl))
    have k91 : H76 r0 13 = H r0 13 := ((f81 r0 13 _ g0 rfl).trans (wq_u_j e69 rfl))
    have k92 : H76 r0 3 = H r0 3 := ((f81 r0 3 _ g0 rfl).trans (wq_u_j e69 rfl))
    exact wp_ireturn e169 c169_22 rfl ⟨fun _ _ h => h, by omega, by omega, w80, f88, z82, rfl, ⟨by omega, by omega⟩, (Or.inl ⟨by omega, by omega, by omega, by omega, by omega, by omega, by omega, by omega⟩)⟩
  · refine wp_of e169 c169_9 (rw_iload_n (pc' := 10) (z := a1) rfl rfl ?_)
    refine wp_of e169 c169_10 (rw_aload_n (pc' := 11) (v := .ref r0) rfl rfl rfl ?_)
    have k93 : H68 r0 6 = H r0 6 := (wq_u_j e69 rfl)
    refine wp_of e169 c169_11 (xg_I (pc' := 14) lf_9_330 w70 g0 sh_42 (by decide) (by decide) ty_42_6 rfl rfl (fun b94 b95 => ?_))
    refine wp_of e169 c169_14 (rw_icmp_le (p1 := 23) (p2 := 17) (by decide) rfl ⟨by omega, by omega⟩ ⟨by omega, by omega⟩ (fun c96 => ?_) (fun c96 => ?_))
    · refine wp_of e169 c169_23 (rw_aload_n (pc' := 24) (v := .ref r0) rfl rfl rfl ?_)
      refine wp_of e169 c169_24 (rw_iload_n (pc' := 25) (z := a1) rfl rfl ?_)
      refine wp_of e169 c169_25 (xp_I (pc' := 28) lf_9_61 w70 g0 sh_42 (by decide) (by decide) ty_42_7 rfl rfl (by omega) (by omega) ⟨by omega, by omega⟩ rfl (fun H97 e98 w99 => ?_))
      have f100 := f71.put' e98 g0 rfl
      have k101 : H97 r0 7 = a1 := wq_u_s e98
      refine wp_of e169 c169_28 (rw_aload_n (pc' := 29) (v := .ref r0) rfl rfl rfl ?_)
      refine wp_of e169 c169_29 (rw_iconst (pc' := 30) rfl ?_)
      refine wp_of e169 c169_30 (xp_I (pc' := 33) lf_9_330 w99 g0 sh_42 (by decide) (by decide) ty_42_6 rfl rfl (by omega) (by omega) ⟨by omega, by omega⟩ rfl (fun H102 e103 w104 => ?_))
      have f105 := f100.put' e103 g0 rfl
      have k106 : H102 r0 6 = 0 := wq_u_s e103
      refine wp_of e169 c169_33 (rw_aload_n (pc' := 34) (v := .ref r0) rfl rfl rfl ?_)
      refine wp_of e169 c169_34 (rw_iconst (pc' := 35) rfl ?_)
      refine wp_of e169 c169_35 (xp_I (pc' := 38) lf_9_78 w104 g0 sh_42 (by decide) (by decide) ty_42_8 rfl rfl (by omega) (by omega) ⟨by omega, by omega⟩ rfl (fun H107 e108 w109 => ?_))
      have f110 := f105.put' e108 g0 rfl
      have k111 : H107 r0 8 = 0 := wq_u_s e108
      refine wp_of e169 c169_38 (rw_aload_n (pc' := 39) (v := .ref r0) rfl rfl rfl ?_)
      refine wp_of e169 c169_39 (rw_iconst (pc' := 40) rfl ?_)
      refine wp_of e169 c169_40 (xp_I (pc' := 43) lf_9_104 w109 g0 sh_42 (by decide) (by decide) ty_42_13 rfl rfl (by omega) (by omega) ⟨by omega, by omega⟩ rfl (fun H112 e113 w114 => ?_))
      have f115 := f110.put' e113 g0 rfl
      have k116 : H112 r0 13 = 0 := wq_u_s e113
      refine wp_of e169 c169_43 (rw_aload_n (pc' := 44) (v := .ref r0) rfl rfl rfl ?_)
      refine wp_of e169 c169_44 (rw_iconst (pc' := 45) rfl ?_)
      refine wp_of e169 c169_45 (xp_I (pc' := 48) lf_9_293 w114 g0 sh_42 (by decide) (by decide) ty_42_16 rfl rfl (by omega) (by omega) ⟨by omega, by omega⟩ rfl (fun H117 e118 w119 => ?_))
      have f120 := f115.put' e118 g0 rfl
      have k121 : H117 r0 16 = 0 := wq_u_s e118
      refine wp_of e169 c169_48 (rw_aload_n (pc' := 49) (v := .ref r0) rfl rfl rfl ?_)
      have k122 : wKI H117 r0 = wKI H r0 := ((wKI_fr w114 g0 ((wfr.rf (l := [(42, 16)])).put' e118 g0 rfl) rfl).trans ((wKI_fr w109 g0 ((wfr.rf (l := [(42, 13)])).put' e113 g0 rfl) rfl).trans ((wKI_fr w104 g0 ((wfr.rf (l := [(42, 8)])).put' e108 g0 rfl) rfl).trans ((wKI_fr w99 g0 ((wfr.rf (l := [(42, 6)])).put' e103 g0 rfl) rfl).trans ((wKI_fr w70 g0 ((wfr.rf (l := [(42, 7)])).put' e98 g0 rfl) rfl).trans (wKI_fr hW g0 ((wfr.rf (l := [(42, 0)])).put' e69 g0 rfl) rfl))))))
      have k123 : H117 r0 6 = H102 r0 6 := ((wq_u_j e118 rfl).trans ((wq_u_j e113 rfl).trans (wq_u_j e108 rfl)))
      have k124 : H117 r0 8 = H107 r0 8 := ((wq_u_j e118 rfl).trans (wq_u_j e113 rfl))
      have k125 : H117 r0 7 = H97 r0 7 := ((wq_u_j e118 rfl).trans ((wq_u_j e113 rfl).trans ((wq_u_j e108 rfl).trans (wq_u_j e103 rfl))))
      have k126 : H117 r0 13 = H112 r0 13 := (wq_u_j e118 rfl)
      have k127 : H117 r0 3 = H r0 3 := ((wq_u_j e118 rfl).trans ((wq_u_j e113 rfl).trans ((wq_u_j e108 rfl).trans ((wq_u_j e103 rfl).trans ((wq_u_j e98 rfl).trans (wq_u_j e69 rfl))))))
      have h128 : TM T H117 rb B := (TM_fr w114 grb ((wfr.rf (l := [(42, 16)])).put' e118 g0 rfl) rfl (TM_fr w109 grb ((wfr.rf (l := [(42, 13)])).put' e113 g0 rfl) rfl (TM_fr w104 grb ((wfr.rf (l := [(42, 8)])).put' e108 g0 rfl) rfl (TM_fr w99 grb ((wfr.rf (l := [(42, 6)])).put' e103 g0 rfl) rfl (TM_fr w70 grb ((wfr.rf (l := [(42, 7)])).put' e98 g0 rfl) rfl (TM_fr hW grb ((wfr.rf (l := [(42, 0)])).put' e69 g0 rfl) rfl hTM_rb))))))
      have k129 : H117 r0 5 = H r0 5 := ((wq_u_j e118 rfl).trans ((wq_u_j e113 rfl).trans ((wq_u_j e108 rfl).trans ((wq_u_j e103 rfl).trans ((wq_u_j e98 rfl).trans (wq_u_j e69 rfl))))))
      have q130 : H117 r0 5 = (rb : Int) := k129.trans qrb
      refine wp_of e169 c169_49 (rw_new10 (pc' := 52) (e := _) rfl rfl rfl (fun hfr => ?_))
      refine wp_of e169 c169_52 (rw_dup (pc' := 53) rfl rfl ?_)
      refine wp_of e169 c169_53 (rw_calI (pc' := 56) (nn := 27) (as := []) (st := [.ref (256 + T.2.1), .ref r0]) lm_9_333 rfl rfl (Nat.le_of_ble_eq_true rfl) (by omega) (if_pos rfl) rfl (((u_171 w119 hfr).deep (by decide)).imp (fun R9 T9 H9 p9 => ?_)))
      obtain ⟨⟨w9, m9, g9, o9, pi9, n9, z9, e9⟩, dm9⟩ := p9
      subst e9
      show wp _ _ 169 56 [(0, .ref r0), (1, vI a1)] [.ref (256 + T.2.1), .ref r0] T9 H9 _
      have hb : ∀ a t, T.2.2.2 a = some t → a < 256 + T.2.1 := fun a t h => by
        by_cases q : a < 256 + T.2.1
        · exact q
        · have h1 := (hW.2 a t h).1
          rw [hfr a (by omega)] at h1
          cases h1
      have k9 : H9 r0 = H117 r0 := o9 r0 (hb _ _ g0)
      have k96 : H9 r0 6 = H117 r0 6 := congrFun k9 6
      have k98 : H9 r0 8 = H117 r0 8 := congrFun k9 8
      have k93 : H9 r0 3 = H117 r0 3 := congrFun k9 3
      have k97 : H9 r0 7 = H117 r0 7 := congrFun k9 7
      have k913 : H9 r0 13 = H117 r0 13 := congrFun k9 13
      have k916 : H9 r0 16 = H117 r0 16 := congrFun k9 16
      have k95 : H9 r0 5 = H117 r0 5 := congrFun k9 5
      have kki : wKI H9 r0 = wKI H117 r0 := wKI_old w119 g0 (fun a t h => o9 a (hb a t h))
      have hne : H9 r0 3 ≠ ((256 + T.2.1 : Nat) : Int) := by
        rcases w119.opt g0 (t' := 54) (n := 33) (j := 3) (p := 0) (q := 0) rfl (by decide) rfl with h5 | ⟨pp, h5, h6⟩
        · omega
        · have := hb pp _ h6
          omega
      have tm9 : TM T9 H9 rb B := fun j hj => by
        rw [o9 rb (hb _ _ grb)]
        exact h128 j hj
      refine (u_169_c (B := B) w9 (m9 _ _ g0) ⟨by omega, by omega⟩ g9 (k95.trans q130) (m9 _ _ grb) (by omega) hne (by omega) (by omega) (by omega) tm9 (dm9 r0 g0 (by omega))).imp (fun r T2 H2 q => ?_)
      obtain ⟨eT, w2, f2, z2, er, bz, pa⟩ := q
      subst eT
      subst er
      have fr9 : wfr [(54, 0), (54, 1), (54, 2), (54, 3), (54, 4), (54, 5), (54, 6), (54, 7), (54, 8), (42, 0), (42, 1), (42, 2), (42, 3), (42, 4), (42, 6), (42, 7), (42, 8), (42, 9), (42, 10), (42, 11), (42, 12), (42, 13), (42, 14), (42, 15), (42, 16), (42, 17), (42, 18), (42, 19), (42, 28), (42, 32), (48, 999), (49, 999), (46, 999), (47, 999), (50, 999), (45, 999), (44, 999), (64, 999), (65, 999), (56, 999), (57, 999), (66, 999), (60, 999), (63, 999), (58, 999), (59, 999), (55, 999), (61, 999), (62, 999), (72, 999), (71, 999), (67, 999), (68, 999), (69, 999)] T H H2 := fun a j t ht hm => (f2 a j t (m9 _ _ ht) (wsub_of (l := [(54, 0), (54, 1), (54, 2), (54, 3), (54, 4), (54, 5), (54, 6), (54, 7), (54, 8), (42, 1), (42, 2), (42, 3), (42, 4), (42, 8), (42, 9), (42, 10), (42, 11), (42, 12), (42, 13), (42, 14), (42, 15), (42, 16), (42, 17), (42, 18), (42, 19), (42, 28), (42, 32), (48, 999), (49, 999), (46, 999), (47, 999), (50, 999), (45, 999), (44, 999), (64, 999), (65, 999), (56, 999), (57, 999), (66, 999), (60, 999), (63, 999), (58, 999), (59, 999), (55, 999), (61, 999), (62, 999), (72, 999), (71, 999), (67, 999), (68, 999), (69, 999)]) (l' := [(54, 0), (54, 1), (54, 2), (54, 3), (54, 4), (54, 5), (54, 6), (54, 7), (54, 8), (42, 0), (42, 1), (42, 2), (42, 3), (42, 4), (42, 6), (42, 7), (42, 8), (42, 9), (42, 10), (42, 11), (42, 12), (42, 13), (42, 14), (42, 15), (42, 16), (42, 17), (42, 18), (42, 19), (42, 28), (42, 32), (48, 999), (49, 999), (46, 999), (47, 999), (50, 999), (45, 999), (44, 999), (64, 999), (65, 999), (56, 999), (57, 999), (66, 999), (60, 999), (63, 999), (58, 999), (59, 999), (55, 999), (61, 999), (62, 999), (72, 999), (71, 999), (67, 999), (68, 999), (69, 999)]) rfl hm)).trans ((congrFun (o9 a (hb a t ht)) j).trans (f120 a j t ht hm))
      rcases pa with ⟨y0, y1, y2, y3, y4, y5, y6, y7⟩ | ⟨y0, y1, y2, y3, y4, y5, y6, y7, y8⟩
      · exact ⟨m9, by omega, by omega, w2, fr9, z2, rfl, bz, Or.inr (Or.inl ⟨by omega, by omega, by omega, by omega, by omega, by omega, by omega, by omega, by omega⟩)⟩
      · exact ⟨m9, by omega, by omega, w2, fr9, z2, rfl, bz, Or.inr (Or.inr ⟨by omega, by omega, by omega, by omega, by omega, by omega, by omega, by omega, by omega, by omega⟩)⟩
    · refine wp_of e169 c169_17 (rw_aload_n (pc' := 18) (v := .ref r0) rfl rfl rfl ?_)
      refine wp_of e169 c169_18 (rw_iconst (pc' := 19) rfl ?_)
      refine wp_of e169 c169_19 (xc_V (pc' := 22) (r := r0) (as := [vI 2]) (st := []) (lm_9_54) rfl rfl (Nat.le_of_ble_eq_true rfl) w70 g0 sh_42 (by decide) rfl (by decide) (u_170  w70 g0 ⟨by omega, by omega⟩) (fun R131 T132 H133 p134 => ?_))
      obtain ⟨e135, w137, f138, z139, e136, b140, p141⟩ := p134
      subst e135
      subst e136
      obtain ⟨a142, a143, a144⟩ := p141
      have f145 := f71.tr f138 rfl
      show wp _ _ 169 22 [(0, .ref r0), (1, vI a1)] [vI z139] _ H133 _
      have k146 : wKI H133 r0 = wKI H r0 := ((wKI_fr w70 g0 f138 rfl).trans (wKI_fr hW g0 ((wfr.rf (l := [(42, 0)])).put' e69 g0 rfl) rfl))
      have k147 : H133 r0 6 = H68 r0 6 := (f138 r0 6 _ g0 rfl)
      have k148 : H133 r0 13 = H r0 13 := ((f138 r0 13 _ g0 rfl).trans (wq_u_j e69 rfl))
      have k149 : H133 r0 3 = H r0 3 := ((f138 r0 3 _ g0 rfl).trans (wq_u_j e69 rfl))
      exact wp_ireturn e169 c169_22 rfl ⟨fun _ _ h => h, by omega, by omega, w137, f145, z139, rfl, ⟨by omega, by omega⟩, (Or.inl ⟨by omega, by omega, by omega, by omega, by omega, by omega, by omega, by omega⟩)⟩
/-! StrikeAwakeModel.fault()I  -/
abbrev uq_210 (r0 : Nat) (T : wq_T) (H : wq_H) : Option Value → wq_T → wq_H → Prop := fun r T' H' => T = T' ∧ WT T H' ∧ wfr [(42, 0)] T H H' ∧ ∃ z : Int, some (vI z) = r ∧ ((-2147483648) ≤ z ∧ z ≤ 2147483647) ∧ (((z = H r0 13)))
set_option maxHeartbeats 4000000 in
theorem u_210 {kt : Nat → Option mc_E} {T : wq_T} {H : wq_H} {r0 : Nat} (hW : WT T H) (g0 : T.2.2.2 r0 = some 42) : wpc kt 1 210 [.ref r0] T H (uq_210 r0 T H) := by
  refine wp_enter e210 (Nat.le_of_ble_eq_true rfl) rfl ?_
  have f0 : wfr [(42, 0)] T H H := wfr.rf
  show wp _ _ 210 0 [(0, .ref r0)] [] _ H _
  have b9 : (-2147483648) ≤ H r0 13 ∧ H r0 13 ≤ 2147483647 := hW.box g0 (n := 33) rfl (by decide) rfl
  refine wp_of e210 c210_0 (rw_aload_n (pc' := 1) (v := .ref r0) rfl rfl rfl ?_)
  refine wp_of e210 c210_1 (rw_iconst (pc' := 2) rfl ?_)
  refine wp_of e210 c210_2 (xp_I (pc' := 5) lf_9_48 hW g0 sh_42 (by decide) (by decide) ty_42_0 rfl rfl (by omega) (by omega) ⟨by omega, by omega⟩ rfl (fun H10 e11 w12 => ?_))
  have f13 := f0.put' e11 g0 rfl
  have k14 : H10 r0 0 = 0 := wq_u_s e11
  refine wp_of e210 c210_5 (rw_aload_n (pc' := 6) (v := .ref r0) rfl rfl rfl ?_)
  have k15 : H10 r0 13 = H r0 13 := (wq_u_j e11 rfl)
  refine wp_of e210 c210_6 (xg_I (pc' := 9) lf_9_104 w12 g0 sh_42 (by decide) (by decide) ty_42_13 rfl rfl (fun b16 b17 => ?_))
  exact wp_ireturn e210 c210_9 rfl ⟨rfl, w12, f13, H10 r0 13, rfl, ⟨by omega, by omega⟩, (by omega)⟩
/-! StrikeAwakeModel.denied(I)Z  -/
abbrev uq_223 (r0 : Nat) (a1 : Int) (T : wq_T) (H : wq_H) : Option Value → wq_T → wq_H → Prop := fun r T' H' => T = T' ∧ WT T H' ∧ wfr [(42, 1), (42, 2)] T H H' ∧ ∃ z : Int, some (vI z) = r ∧ (0 ≤ z ∧ z ≤ 1) ∧ (((z = 0) ∧ (H' r0 1 = a1) ∧ (H' r0 2 = -1)))
set_option maxHeartbeats 4000000 in
theorem u_223 {kt : Nat → Option mc_E} {T : wq_T} {H : wq_H} {r0 : Nat} {a1 : Int} (hW : WT T H) (g0 : T.2.2.2 r0 = some 42) (i1 : (-2147483648) ≤ a1 ∧ a1 ≤ 2147483647) : wpc kt 2 223 [.ref r0, vI a1] T H (uq_223 r0 a1 T H) := by
  refine wp_enter e223 (Nat.le_of_ble_eq_true rfl) rfl ?_
  have f0 : wfr [(42, 1), (42, 2)] T H H := wfr.rf
  show wp _ _ 223 0 [(0, .ref r0), (1, vI a1)] [] _ H _
  refine wp_of e223 c223_0 (rw_aload_n (pc' := 1) (v := .ref r0) rfl rfl rfl ?_)
  refine wp_of e223 c223_1 (rw_iload_n (pc' := 2) (z := a1) rfl rfl ?_)
  refine wp_of e223 c223_2 (xc_V (pc' := 5) (r := r0) (as := [vI a1]) (st := []) (lm_9_54) rfl rfl (Nat.le_of_ble_eq_true rfl) hW g0 sh_42 (by decide) rfl (by decide) (u_170  hW g0 ⟨by omega, by omega⟩) (fun R16 T17 H18 p19 => ?_))
  obtain ⟨e20, w22, f23, z24, e21, b25, p26⟩ := p19
  subst e20
  subst e21
  obtain ⟨a27, a28, a29⟩ := p26
  have f30 := f0.tr f23 rfl
  show wp _ _ 223 5 [(0, .ref r0), (1, vI a1)] [vI z24] _ H18 _
  refine wp_of e223 c223_5 (rw_pop (pc' := 6) rfl rfl ?_)
  refine wp_of e223 c223_6 (rw_iconst (pc' := 7) rfl ?_)
  exact wp_zreturn e223 c223_7 rfl (by omega) ⟨rfl, w22, f30, 0, rfl, ⟨by omega, by omega⟩, ⟨by omega, by omega, by omega⟩⟩
/-! StrikeAwakeModel.granted()Z  -/
abbrev uq_224 (r0 : Nat) (T : wq_T) (H : wq_H) : Option Value → wq_T → wq_H → Prop := fun r T' H' => T = T' ∧ WT T H' ∧ wfr [(42, 1), (42, 2)] T H H' ∧ ∃ z : Int, some (vI z) = r ∧ (0 ≤ z ∧ z ≤ 1) ∧ (((z = 1) ∧ (H' r0 1 = 0) ∧ (H' r0 2 = -1)))
set_option maxHeartbeats 4000000 in
theorem u_224 {kt : Nat → Option mc_E} {T : wq_T} {H : wq_H} {r0 : Nat} (hW : WT T H) (g0 : T.2.2.2 r0 = some 42) : wpc kt 2 224 [.ref r0] T H (uq_224 r0 T H) := by
  refine wp_enter e224 (Nat.le_of_ble_eq_true rfl) rfl ?_
  have f0 : wfr [(42, 1), (42, 2)] T H H := wfr.rf
  show wp _ _ 224 0 [(0, .ref r0)] [] _ H _
  refine wp_of e224 c224_0 (rw_aload_n (pc' := 1) (v := .ref r0) rfl rfl rfl ?_)
  refine wp_of e224 c224_1 (rw_iconst (pc' := 2) rfl ?_)
  refine wp_of e224 c224_2 (xc_V (pc' := 5) (r := r0) (as := [vI 0]) (st := []) (lm_9_58) rfl rfl (Nat.le_of_ble_eq_true rfl) hW g0 sh_42 (by decide) rfl (by decide) (u_209  hW g0 ⟨by omega, by omega⟩) (fun R16 T17 H18 p19 => ?_))
  obtain ⟨e20, w22, f23, z24, e21, b25, p26⟩ := p19
  subst e20
  subst e21
  obtain ⟨a27, a28, a29⟩ := p26
  have f30 := f0.tr f23 rfl
  show wp _ _ 224 5 [(0, .ref r0)] [vI z24] _ H18 _
  refine wp_of e224 c224_5 (rw_pop (pc' := 6) rfl rfl ?_)
  refine wp_of e224 c224_6 (rw_iconst (pc' := 7) rfl ?_)
  exact wp_zreturn e224 c224_7 rfl (by omega) ⟨rfl, w22, f30, 1, rfl, ⟨by omega, by omega⟩, ⟨by omega, by omega, by omega⟩⟩
/-! StrikeAwakeModel.again()Z  -/
abbrev uq_290 (r0 : Nat) (T : wq_T) (H : wq_H) : Option Value → wq_T → wq_H → Prop := fun r T' H' => T = T' ∧ WT T H' ∧ wfr [(42, 0), (42, 1), (42, 2), (42, 32)] T H H' ∧ ∃ z : Int, some (vI z) = r ∧ (0 ≤ z ∧ z ≤ 1) ∧ (((z = 1) ∧ (H r0 3 ≠ -1)) ∨ ((z = 0) ∧ (H r0 3 = -1)))
set_option maxHeartbeats 4000000 in
theorem u_290 {kt : Nat → Option mc_E} {T : wq_T} {H : wq_H} {r0 : Nat} (hW : WT T H) (g0 : T.2.2.2 r0 = some 42) : wpc kt 3 290 [.ref r0] T H (uq_290 r0 T H) := by
  refine wp_enter e290 (Nat.le_of_ble_eq_true rfl) rfl ?_
  have f0 : wfr [(42, 0), (42, 1), (42, 2), (42, 32)] T H H := wfr.rf
  show wp _ _ 290 0 [(0, .ref r0)] [] _ H _
  refine wp_of e290 c290_0 (rw_aload_n (pc' := 1) (v := .ref r0) rfl rfl rfl ?_)
  refine wp_of e290 c290_1 (rw_iconst (pc' := 2) rfl ?_)
  refine wp_of e290 c290_2 (xp_I (pc' := 5) lf_9_48 hW g0 sh_42 (by decide) (by decide) ty_42_0 rfl rfl (by omega) (by omega) ⟨by omega, by omega⟩ rfl (fun H45 e46 w47 => ?_))
  have f48 := f0.put' e46 g0 rfl
  have k49 : H45 r0 0 = 0 := wq_u_s e46
  refine wp_of e290 c290_5 (rw_aload_n (pc' := 6) (v := .ref r0) rfl rfl rfl ?_)
  have k50 : H45 r0 3 = H r0 3 := (wq_u_j e46 rfl)
  refine wp_of e290 c290_6 (xg_O (pc' := 9) lf_9_337 w47 g0 sh_42 (by decide) (by decide) ty_42_3 rfl rfl (fun q52 => ?_) (fun r51 q52 g53 => ?_))
  · refine wp_of e290 c290_9 (rw_ifnonnull_n (p1 := 18) (p2 := 12) (by decide) rfl ?_)
    refine wp_of e290 c290_12 (rw_aload_n (pc' := 13) (v := .ref r0) rfl rfl rfl ?_)
    refine wp_of e290 c290_13 (rw_iconst (pc' := 14) rfl ?_)
    refine wp_of e290 c290_14 (xc_V (pc' := 17) (r := r0) (as := [vI 1]) (st := []) (lm_9_400) rfl rfl (Nat.le_of_ble_eq_true rfl) w47 g0 sh_42 (by decide) rfl (by decide) (u_223  w47 g0 ⟨by omega, by omega⟩) (fun R54 T55 H56 p57 => ?_))
    obtain ⟨e58, w60, f61, z62, e59, b63, p64⟩ := p57
    subst e58
    subst e59
    obtain ⟨a65, a66, a67⟩ := p64
    have f68 := f48.tr f61 rfl
    show wp _ _ 290 17 [(0, .ref r0)] [vI z62] _ H56 _
    have k69 : H56 r0 3 = H45 r0 3 := (f61 r0 3 _ g0 rfl)
    have q70 : H56 r0 3 = -1 := k69.trans q52
    exact wp_zreturn e290 c290_17 rfl (by omega) ⟨rfl, w60, f68, z62, rfl, ⟨by omega, by omega⟩, (Or.inr ⟨by omega, by omega⟩)⟩
  · refine wp_of e290 c290_9 (rw_ifnonnull_r (p1 := 18) (p2 := 12) (by decide) rfl ?_)
    refine wp_of e290 c290_18 (rw_aload_n (pc' := 19) (v := .ref r0) rfl rfl rfl ?_)
    refine wp_of e290 c290_19 (rw_iconst (pc' := 20) rfl ?_)
    refine wp_of e290 c290_20 (xp_I (pc' := 23) lf_9_340 w47 g0 sh_42 (by decide) (by decide) ty_42_32 rfl rfl (by omega) (by omega) ⟨by omega, by omega⟩ rfl (fun H71 e72 w73 => ?_))
    have f74 := f48.put' e72 g0 rfl
    have k75 : H71 r0 32 = 0 := wq_u_s e72
    refine wp_of e290 c290_23 (rw_aload_n (pc' := 24) (v := .ref r0) rfl rfl rfl ?_)
    refine wp_of e290 c290_24 (xc_V (pc' := 27) (r := r0) (as := []) (st := []) (lm_9_403) rfl rfl (Nat.le_of_ble_eq_true rfl) w73 g0 sh_42 (by decide) rfl (by decide) (u_224  w73 g0) (fun R76 T77 H78 p79 => ?_))
    obtain ⟨e80, w82, f83, z84, e81, b85, p86⟩ := p79
    subst e80
    subst e81
    obtain ⟨a87, a88, a89⟩ := p86
    have f90 := f74.tr f83 rfl
    show wp _ _ 290 27 [(0, .ref r0)] [vI z84] _ H78 _
    have k91 : H78 r0 3 = H45 r0 3 := ((f83 r0 3 _ g0 rfl).trans (wq_u_j e72 rfl))
    have q92 : H78 r0 3 = (r51 : Int) := k91.trans q52
    exact wp_zreturn e290 c290_27 rfl (by omega) ⟨rfl, w82, f90, z84, rfl, ⟨by omega, by omega⟩, (Or.inl ⟨by omega, by omega⟩)⟩
