/-! StrikeAwake$Reader.reserved()LStrikeAwake$Reserved;  -/
abbrev uq_18 (r0 : Nat) (tk : Nat) (rb : Nat) (B : Nat → Int) (n : Int) (q : Int) (T : wq_T) (H : wq_H) : Option Value → wq_T → wq_H → Prop := fun r T' H' => T = T' ∧ H = H' ∧ ((some .null = r ∧ (xre B n q ≥ 11)) ∨ ∃ b : Nat, some (.ref b) = r ∧ 16 ≤ b ∧ b < 27 ∧ (xre B n q = (b : Int) - 16))
set_option maxHeartbeats 4000000 in
theorem u_18 {kt : Nat → Option mc_E} {T : wq_T} {H : wq_H} {r0 : Nat} {tk : Nat} {rb : Nat} {B : Nat → Int} {n : Int} {q : Int} (hW : WT T H) (g0 : T.2.2.2 r0 = some 3) (qtk : H r0 0 = (tk : Int)) (gtk : T.2.2.2 tk = some 4) (qrb : H tk 0 = (rb : Int)) (grb : T.2.2.2 rb = some 2) (hTC_tk : TC T H tk B n q) : wpc kt 2 18 [.ref r0] T H (uq_18 r0 tk rb B n q T H) := by
  refine wp_enter e18 (Nat.le_of_ble_eq_true rfl) rfl ?_
  show wp _ _ 18 0 [(0, .ref r0)] [] _ H _
  have u2015 := TC_k hTC_tk
  have _x := @xre_b B n q
  have _i := TC_i hTC_tk
  refine wp_of e18 c18_0 (rw_iconst (pc' := 1) rfl ?_)
  refine wp_of e18 c18_1 (rw_istore_n (pc' := 2) (z := 0) (L' := [(1, vI 0), (0, .ref r0)]) rfl rfl rfl ?_)
  have lp2795 : ∀ (n2796 : Nat) (v2798 : Int), (0 ≤ v2798 ∧ v2798 ≤ 11) → (v2798 ≤ xre B n q) → (11 - v2798).toNat = n2796 → wp kt 1 18 2 [(1, vI v2798), (0, .ref r0)] [] T H (uq_18 r0 tk rb B n q T H) := by
    intro n2796
    induction n2796 using Nat.strongRecOn with
    | _ n2796 ih2797 =>
      intro v2798 b2801 x2802 m2803
      refine wp_of e18 c18_2 (rw_iload_n (pc' := 3) (z := v2798) rfl rfl ?_)
      refine wp_of e18 c18_3 (rw_gs (pc' := 6) (k := 1) rfl rfl rfl rfl ?_)
      refine wp_of e18 c18_6 (rw_alen (pc' := 7) (n := 11) (hW.sh hW.1.1 rfl) (by decide) rfl ?_)
      refine wp_of e18 c18_7 (rw_icmp_ge (p1 := 40) (p2 := 10) (by decide) rfl ⟨Int.le_trans (by decide) b2801.1, Int.le_trans b2801.2 (by decide)⟩ ⟨by decide, by decide⟩ (fun c2804 => ?_) (fun c2804 => ?_))
      · refine wp_of e18 c18_40 (rw_null (pc' := 41) rfl ?_)
        exact wp_areturn e18 c18_41 rfl rfl ⟨rfl, rfl, Or.inl ⟨rfl, by omega⟩⟩
      · refine wp_of e18 c18_10 (rw_aload_n (pc' := 11) (v := .ref r0) rfl rfl rfl ?_)
        refine wp_of e18 c18_11 (xg_K (pc' := 14) lf_1_12 hW g0 sh_3 (by decide) (by decide) rfl qtk rfl ?_)
        refine wp_of e18 c18_14 (rw_gs (pc' := 17) (k := 1) rfl rfl rfl rfl ?_)
        refine wp_of e18 c18_17 (rw_iload_n (pc' := 18) (z := v2798) rfl rfl ?_)
        have c2806 : v2798 = 0 ∨ v2798 = 1 ∨ v2798 = 2 ∨ v2798 = 3 ∨ v2798 = 4 ∨ v2798 = 5 ∨ v2798 = 6 ∨ v2798 = 7 ∨ v2798 = 8 ∨ v2798 = 9 ∨ v2798 = 10 := by omega
        rcases c2806 with c2806 | c2806 | c2806 | c2806 | c2806 | c2806 | c2806 | c2806 | c2806 | c2806 | c2806
        · subst c2806
          have k2808 : H 1 (0 : Int).toNat = ((16 : Nat) : Int) := (hW.2 1 _ hW.1.1).2.2 0 (by decide) |> fun z => by have z1 : (16 : Int) ≤ H 1 0 ∧ H 1 0 ≤ 16 := z; exact Int.le_antisymm z1.2 z1.1
          refine wp_of e18 c18_18 (rw_aaload (pc' := 19) (n := 11) (b := 16) (hW.sh hW.1.1 rfl) (by decide) (by decide) (by decide) rfl k2808 rfl ?_)
          have k2809 : H 16 0 = ((32 : Nat) : Int) := (hW.2 16 _ (hW.1.2.2 0 (by decide))).2.2 0 (by decide) |> fun z => by have z1 : (32 : Int) ≤ H 16 0 ∧ H 16 0 ≤ 32 := z; omega
          refine wp_of e18 c18_19 (rw_getR (pc' := 22) (n := 2) (b := 32) (e := _) (lf_1_181).choose_spec.1 (lf_1_181).choose_spec.2.1 (hW.sh (hW.1.2.2 0 (by decide)) rfl) (by decide) rfl k2809 rfl ?_)
          refine wp_of e18 c18_22 (xc_V (pc' := 25) (r := tk) (as := [.ref 32]) (st := []) (lm_1_185) rfl rfl (Nat.le_of_ble_eq_true rfl) hW gtk sh_4 (by decide) rfl (by decide) (u_19 (kk := 12343) hW gtk rfl (by decide +kernel)) (fun R2810 T2811 H2812 p2813 => ?_))
          obtain ⟨e2814, e2816, z2817, e2815, b2818, p2819⟩ := p2813
          subst e2814
          subst e2815
          subst e2816
          rcases p2819 with ⟨a2820, a2821⟩ | ⟨a2822, a2823⟩
          · show wp _ _ 18 25 [(1, vI 0), (0, .ref r0)] [vI z2817] _ H _
            refine wp_of e18 c18_25 (rw_if_eq (p1 := 34) (p2 := 28) (by decide) rfl ⟨Int.le_trans (by decide) b2818.1, Int.le_trans b2818.2 (by decide)⟩ (fun c2824 => ?_) (fun c2824 => ?_))
            · exfalso
              omega
            · have := @xre_le B n q 0 12343 rfl (by decide)
              refine wp_of e18 c18_28 (rw_gs (pc' := 31) (k := 1) rfl rfl rfl rfl ?_)
              refine wp_of e18 c18_31 (rw_iload_n (pc' := 32) (z := 0) rfl rfl ?_)
              have k2826 : H 1 (0 : Int).toNat = ((16 : Nat) : Int) := (hW.2 1 _ hW.1.1).2.2 0 (by decide) |> fun z => by have z1 : (16 : Int) ≤ H 1 0 ∧ H 1 0 ≤ 16 := z; exact Int.le_antisymm z1.2 z1.1
              refine wp_of e18 c18_32 (rw_aaload (pc' := 33) (n := 11) (b := 16) (hW.sh hW.1.1 rfl) (by decide) (by decide) (by decide) rfl k2826 rfl ?_)
              exact wp_areturn e18 c18_33 rfl rfl ⟨rfl, rfl, Or.inr ⟨16, rfl, by decide, by decide, by omega⟩⟩
          · show wp _ _ 18 25 [(1, vI 0), (0, .ref r0)] [vI z2817] _ H _
            refine wp_of e18 c18_25 (rw_if_eq (p1 := 34) (p2 := 28) (by decide) rfl ⟨Int.le_trans (by decide) b2818.1, Int.le_trans b2818.2 (by decide)⟩ (fun c2827 => ?_) (fun c2827 => ?_))
            · have := @xre_at B n q 0 12343 rfl (by decide)
              refine wp_of e18 c18_34 (rw_iinc (pc' := 37) (z := 0) (L' := [(1, vI (0 + 1)), (0, .ref r0)]) rfl rfl rfl rfl ?_)
              refine wp_of e18 c18_37 (rw_goto (p1 := 2) (by decide) ?_)
              exact wp_lc (ks := [1, 0]) (wl_c rfl (wl_c rfl wl_n)) rfl (by decide) (ih2797 _ (by omega) (0 + 1) ⟨by omega, by omega⟩ (by omega) rfl)
            · exfalso
              omega
        · subst c2806
          have k2829 : H 1 (1 : Int).toNat = ((17 : Nat) : Int) := (hW.2 1 _ hW.1.1).2.2 1 (by decide) |> fun z => by have z1 : (17 : Int) ≤ H 1 1 ∧ H 1 1 ≤ 17 := z; exact Int.le_antisymm z1.2 z1.1
          refine wp_of e18 c18_18 (rw_aaload (pc' := 19) (n := 11) (b := 17) (hW.sh hW.1.1 rfl) (by decide) (by decide) (by decide) rfl k2829 rfl ?_)
          have k2830 : H 17 0 = ((33 : Nat) : Int) := (hW.2 17 _ (hW.1.2.2 1 (by decide))).2.2 0 (by decide) |> fun z => by have z1 : (33 : Int) ≤ H 17 0 ∧ H 17 0 ≤ 33 := z; omega
          refine wp_of e18 c18_19 (rw_getR (pc' := 22) (n := 2) (b := 33) (e := _) (lf_1_181).choose_spec.1 (lf_1_181).choose_spec.2.1 (hW.sh (hW.1.2.2 1 (by decide)) rfl) (by decide) rfl k2830 rfl ?_)
          refine wp_of e18 c18_22 (xc_V (pc' := 25) (r := tk) (as := [.ref 33]) (st := []) (lm_1_185) rfl rfl (Nat.le_of_ble_eq_true rfl) hW gtk sh_4 (by decide) rfl (by decide) (u_19 (kk := 542723566) hW gtk rfl (by decide +kernel)) (fun R2831 T2832 H2833 p2834 => ?_))
          obtain ⟨e2835, e2837, z2838, e2836, b2839, p2840⟩ := p2834
          subst e2835
          subst e2836
          subst e2837
          rcases p2840 with ⟨a2841, a2842⟩ | ⟨a2843, a2844⟩
          · show wp _ _ 18 25 [(1, vI 1), (0, .ref r0)] [vI z2838] _ H _
            refine wp_of e18 c18_25 (rw_if_eq (p1 := 34) (p2 := 28) (by decide) rfl ⟨Int.le_trans (by decide) b2839.1, Int.le_trans b2839.2 (by decide)⟩ (fun c2845 => ?_) (fun c2845 => ?_))
            · exfalso
              omega
            · have := @xre_le B n q 1 542723566 rfl (by decide)
              refine wp_of e18 c18_28 (rw_gs (pc' := 31) (k := 1) rfl rfl rfl rfl ?_)
              refine wp_of e18 c18_31 (rw_iload_n (pc' := 32) (z := 1) rfl rfl ?_)
              have k2847 : H 1 (1 : Int).toNat = ((17 : Nat) : Int) := (hW.2 1 _ hW.1.1).2.2 1 (by decide) |> fun z => by have z1 : (17 : Int) ≤ H 1 1 ∧ H 1 1 ≤ 17 := z; exact Int.le_antisymm z1.2 z1.1
              refine wp_of e18 c18_32 (rw_aaload (pc' := 33) (n := 11) (b := 17) (hW.sh hW.1.1 rfl) (by decide) (by decide) (by decide) rfl k2847 rfl ?_)
              exact wp_areturn e18 c18_33 rfl rfl ⟨rfl, rfl, Or.inr ⟨17, rfl, by decide, by decide, by omega⟩⟩
          · show wp _ _ 18 25 [(1, vI 1), (0, .ref r0)] [vI z2838] _ H _
            refine wp_of e18 c18_25 (rw_if_eq (p1 := 34) (p2 := 28) (by decide) rfl ⟨Int.le_trans (by decide) b2839.1, Int.le_trans b2839.2 (by decide)⟩ (fun c2848 => ?_) (fun c2848 => ?_))
            · have := @xre_at B n q 1 542723566 rfl (by decide)
              refine wp_of e18 c18_34 (rw_iinc (pc' := 37) (z := 1) (L' := [(1, vI (1 + 1)), (0, .ref r0)]) rfl rfl rfl rfl ?_)
              refine wp_of e18 c18_37 (rw_goto (p1 := 2) (by decide) ?_)
              exact wp_lc (ks := [1, 0]) (wl_c rfl (wl_c rfl wl_n)) rfl (by decide) (ih2797 _ (by omega) (1 + 1) ⟨by omega, by omega⟩ (by omega) rfl)
            · exfalso
              omega
        · subst c2806
          have k2850 : H 1 (2 : Int).toNat = ((18 : Nat) : Int) := (hW.2 1 _ hW.1.1).2.2 2 (by decide) |> fun z => by have z1 : (18 : Int) ≤ H 1 2 ∧ H 1 2 ≤ 18 := z; exact Int.le_antisymm z1.2 z1.1
          refine wp_of e18 c18_18 (rw_aaload (pc' := 19) (n := 11) (b := 18) (hW.sh hW.1.1 rfl) (by decide) (by decide) (by decide) rfl k2850 rfl ?_)
          have k2851 : H 18 0 = ((34 : Nat) : Int) := (hW.2 18 _ (hW.1.2.2 2 (by decide))).2.2 0 (by decide) |> fun z => by have z1 : (34 : Int) ≤ H 18 0 ∧ H 18 0 ≤ 34 := z; omega
          refine wp_of e18 c18_19 (rw_getR (pc' := 22) (n := 2) (b := 34) (e := _) (lf_1_181).choose_spec.1 (lf_1_181).choose_spec.2.1 (hW.sh (hW.1.2.2 2 (by decide)) rfl) (by decide) rfl k2851 rfl ?_)
          refine wp_of e18 c18_22 (xc_V (pc' := 25) (r := tk) (as := [.ref 34]) (st := []) (lm_1_185) rfl rfl (Nat.le_of_ble_eq_true rfl) hW gtk sh_4 (by decide) rfl (by decide) (u_19 (kk := 643584494) hW gtk rfl (by decide +kernel)) (fun R2852 T2853 H2854 p2855 => ?_))
          obtain ⟨e2856, e2858, z2859, e2857, b2860, p2861⟩ := p2855
          subst e2856
          subst e2857
          subst e2858
          rcases p2861 with ⟨a2862, a2863⟩ | ⟨a2864, a2865⟩
          · show wp _ _ 18 25 [(1, vI 2), (0, .ref r0)] [vI z2859] _ H _
            refine wp_of e18 c18_25 (rw_if_eq (p1 := 34) (p2 := 28) (by decide) rfl ⟨Int.le_trans (by decide) b2860.1, Int.le_trans b2860.2 (by decide)⟩ (fun c2866 => ?_) (fun c2866 => ?_))
            · exfalso
              omega
            · have := @xre_le B n q 2 643584494 rfl (by decide)
              refine wp_of e18 c18_28 (rw_gs (pc' := 31) (k := 1) rfl rfl rfl rfl ?_)
              refine wp_of e18 c18_31 (rw_iload_n (pc' := 32) (z := 2) rfl rfl ?_)
              have k2868 : H 1 (2 : Int).toNat = ((18 : Nat) : Int) := (hW.2 1 _ hW.1.1).2.2 2 (by decide) |> fun z => by have z1 : (18 : Int) ≤ H 1 2 ∧ H 1 2 ≤ 18 := z; exact Int.le_antisymm z1.2 z1.1
              refine wp_of e18 c18_32 (rw_aaload (pc' := 33) (n := 11) (b := 18) (hW.sh hW.1.1 rfl) (by decide) (by decide) (by decide) rfl k2868 rfl ?_)
              exact wp_areturn e18 c18_33 rfl rfl ⟨rfl, rfl, Or.inr ⟨18, rfl, by decide, by decide, by omega⟩⟩
          · show wp _ _ 18 25 [(1, vI 2), (0, .ref r0)] [vI z2859] _ H _
            refine wp_of e18 c18_25 (rw_if_eq (p1 := 34) (p2 := 28) (by decide) rfl ⟨Int.le_trans (by decide) b2860.1, Int.le_trans b2860.2 (by decide)⟩ (fun c2869 => ?_) (fun c2869 => ?_))
            · have := @xre_at B n q 2 643584494 rfl (by decide)
              refine wp_of e18 c18_34 (rw_iinc (pc' := 37) (z := 2) (L' := [(1, vI (2 + 1)), (0, .ref r0)]) rfl rfl rfl rfl ?_)
              refine wp_of e18 c18_37 (rw_goto (p1 := 2) (by decide) ?_)
              exact wp_lc (ks := [1, 0]) (wl_c rfl (wl_c rfl wl_n)) rfl (by decide) (ih2797 _ (by omega) (2 + 1) ⟨by omega, by omega⟩ (by omega) rfl)
            · exfalso
              omega
        · subst c2806
          have k2871 : H 1 (3 : Int).toNat = ((19 : Nat) : Int) := (hW.2 1 _ hW.1.1).2.2 3 (by decide) |> fun z => by have z1 : (19 : Int) ≤ H 1 3 ∧ H 1 3 ≤ 19 := z; exact Int.le_antisymm z1.2 z1.1
          refine wp_of e18 c18_18 (rw_aaload (pc' := 19) (n := 11) (b := 19) (hW.sh hW.1.1 rfl) (by decide) (by decide) (by decide) rfl k2871 rfl ?_)
          have k2872 : H 19 0 = ((35 : Nat) : Int) := (hW.2 19 _ (hW.1.2.2 3 (by decide))).2.2 0 (by decide) |> fun z => by have z1 : (35 : Int) ≤ H 19 0 ∧ H 19 0 ≤ 35 := z; omega
          refine wp_of e18 c18_19 (rw_getR (pc' := 22) (n := 2) (b := 35) (e := _) (lf_1_181).choose_spec.1 (lf_1_181).choose_spec.2.1 (hW.sh (hW.1.2.2 3 (by decide)) rfl) (by decide) rfl k2872 rfl ?_)
          refine wp_of e18 c18_22 (xc_V (pc' := 25) (r := tk) (as := [.ref 35]) (st := []) (lm_1_185) rfl rfl (Nat.le_of_ble_eq_true rfl) hW gtk sh_4 (by decide) rfl (by decide) (u_19 (kk := 1574484) hW gtk rfl (by decide +kernel)) (fun R2873 T2874 H2875 p2876 => ?_))
          obtain ⟨e2877, e2879, z2880, e2878, b2881, p2882⟩ := p2876
          subst e2877
          subst e2878
          subst e2879
          rcases p2882 with ⟨a2883, a2884⟩ | ⟨a2885, a2886⟩
          · show wp _ _ 18 25 [(1, vI 3), (0, .ref r0)] [vI z2880] _ H _
            refine wp_of e18 c18_25 (rw_if_eq (p1 := 34) (p2 := 28) (by decide) rfl ⟨Int.le_trans (by decide) b2881.1, Int.le_trans b2881.2 (by decide)⟩ (fun c2887 => ?_) (fun c2887 => ?_))
            · exfalso
              omega
            · have := @xre_le B n q 3 1574484 rfl (by decide)
              refine wp_of e18 c18_28 (rw_gs (pc' := 31) (k := 1) rfl rfl rfl rfl ?_)
              refine wp_of e18 c18_31 (rw_iload_n (pc' := 32) (z := 3) rfl rfl ?_)
              have k2889 : H 1 (3 : Int).toNat = ((19 : Nat) : Int) := (hW.2 1 _ hW.1.1).2.2 3 (by decide) |> fun z => by have z1 : (19 : Int) ≤ H 1 3 ∧ H 1 3 ≤ 19 := z; exact Int.le_antisymm z1.2 z1.1
              refine wp_of e18 c18_32 (rw_aaload (pc' := 33) (n := 11) (b := 19) (hW.sh hW.1.1 rfl) (by decide) (by decide) (by decide) rfl k2889 rfl ?_)
              exact wp_areturn e18 c18_33 rfl rfl ⟨rfl, rfl, Or.inr ⟨19, rfl, by decide, by decide, by omega⟩⟩
          · show wp _ _ 18 25 [(1, vI 3), (0, .ref r0)] [vI z2880] _ H _
            refine wp_of e18 c18_25 (rw_if_eq (p1 := 34) (p2 := 28) (by decide) rfl ⟨Int.le_trans (by decide) b2881.1, Int.le_trans b2881.2 (by decide)⟩ (fun c2890 => ?_) (fun c2890 => ?_))
            · have := @xre_at B n q 3 1574484 rfl (by decide)
              refine wp_of e18 c18_34 (rw_iinc (pc' := 37) (z := 3) (L' := [(1, vI (3 + 1)), (0, .ref r0)]) rfl rfl rfl rfl ?_)
              refine wp_of e18 c18_37 (rw_goto (p1 := 2) (by decide) ?_)
              exact wp_lc (ks := [1, 0]) (wl_c rfl (wl_c rfl wl_n)) rfl (by decide) (ih2797 _ (by omega) (3 + 1) ⟨by omega, by omega⟩ (by omega) rfl)
            · exfalso
              omega
        · subst c2806
          have k2892 : H 1 (4 : Int).toNat = ((20 : Nat) : Int) := (hW.2 1 _ hW.1.1).2.2 4 (by decide) |> fun z => by have z1 : (20 : Int) ≤ H 1 4 ∧ H 1 4 ≤ 20 := z; exact Int.le_antisymm z1.2 z1.1
          refine wp_of e18 c18_18 (rw_aaload (pc' := 19) (n := 11) (b := 20) (hW.sh hW.1.1 rfl) (by decide) (by decide) (by decide) rfl k2892 rfl ?_)
          have k2893 : H 20 0 = ((36 : Nat) : Int) := (hW.2 20 _ (hW.1.2.2 4 (by decide))).2.2 0 (by decide) |> fun z => by have z1 : (36 : Int) ≤ H 20 0 ∧ H 20 0 ≤ 36 := z; omega
          refine wp_of e18 c18_19 (rw_getR (pc' := 22) (n := 2) (b := 36) (e := _) (lf_1_181).choose_spec.1 (lf_1_181).choose_spec.2.1 (hW.sh (hW.1.2.2 4 (by decide)) rfl) (by decide) rfl k2893 rfl ?_)
          refine wp_of e18 c18_22 (xc_V (pc' := 25) (r := tk) (as := [.ref 36]) (st := []) (lm_1_185) rfl rfl (Nat.le_of_ble_eq_true rfl) hW gtk sh_4 (by decide) rfl (by decide) (u_19 (kk := 81486) hW gtk rfl (by decide +kernel)) (fun R2894 T2895 H2896 p2897 => ?_))
          obtain ⟨e2898, e2900, z2901, e2899, b2902, p2903⟩ := p2897
          subst e2898
          subst e2899
          subst e2900
          rcases p2903 with ⟨a2904, a2905⟩ | ⟨a2906, a2907⟩
          · show wp _ _ 18 25 [(1, vI 4), (0, .ref r0)] [vI z2901] _ H _
            refine wp_of e18 c18_25 (rw_if_eq (p1 := 34) (p2 := 28) (by decide) rfl ⟨Int.le_trans (by decide) b2902.1, Int.le_trans b2902.2 (by decide)⟩ (fun c2908 => ?_) (fun c2908 => ?_))
            · exfalso
              omega
            · have := @xre_le B n q 4 81486 rfl (by decide)
              refine wp_of e18 c18_28 (rw_gs (pc' := 31) (k := 1) rfl rfl rfl rfl ?_)
              refine wp_of e18 c18_31 (rw_iload_n (pc' := 32) (z := 4) rfl rfl ?_)
              have k2910 : H 1 (4 : Int).toNat = ((20 : Nat) : Int) := (hW.2 1 _ hW.1.1).2.2 4 (by decide) |> fun z => by have z1 : (20 : Int) ≤ H 1 4 ∧ H 1 4 ≤ 20 := z; exact Int.le_antisymm z1.2 z1.1
              refine wp_of e18 c18_32 (rw_aaload (pc' := 33) (n := 11) (b := 20) (hW.sh hW.1.1 rfl) (by decide) (by decide) (by decide) rfl k2910 rfl ?_)
              exact wp_areturn e18 c18_33 rfl rfl ⟨rfl, rfl, Or.inr ⟨20, rfl, by decide, by decide, by omega⟩⟩
          · show wp _ _ 18 25 [(1, vI 4), (0, .ref r0)] [vI z2901] _ H _
            refine wp_of e18 c18_25 (rw_if_eq (p1 := 34) (p2 := 28) (by decide) rfl ⟨Int.le_trans (by decide) b2902.1, Int.le_trans b2902.2 (by decide)⟩ (fun c2911 => ?_) (fun c2911 => ?_))
            · have := @xre_at B n q 4 81486 rfl (by decide)
              refine wp_of e18 c18_34 (rw_iinc (pc' := 37) (z := 4) (L' := [(1, vI (4 + 1)), (0, .ref r0)]) rfl rfl rfl rfl ?_)
              refine wp_of e18 c18_37 (rw_goto (p1 := 2) (by decide) ?_)
              exact wp_lc (ks := [1, 0]) (wl_c rfl (wl_c rfl wl_n)) rfl (by decide) (ih2797 _ (by omega) (4 + 1) ⟨by omega, by omega⟩ (by omega) rfl)
            · exfalso
              omega
        · subst c2806
          have k2913 : H 1 (5 : Int).toNat = ((21 : Nat) : Int) := (hW.2 1 _ hW.1.1).2.2 5 (by decide) |> fun z => by have z1 : (21 : Int) ≤ H 1 5 ∧ H 1 5 ≤ 21 := z; exact Int.le_antisymm z1.2 z1.1
          refine wp_of e18 c18_18 (rw_aaload (pc' := 19) (n := 11) (b := 21) (hW.sh hW.1.1 rfl) (by decide) (by decide) (by decide) rfl k2913 rfl ?_)
          have k2914 : H 21 0 = ((37 : Nat) : Int) := (hW.2 21 _ (hW.1.2.2 5 (by decide))).2.2 0 (by decide) |> fun z => by have z1 : (37 : Int) ≤ H 21 0 ∧ H 21 0 ≤ 37 := z; omega
          refine wp_of e18 c18_19 (rw_getR (pc' := 22) (n := 2) (b := 37) (e := _) (lf_1_181).choose_spec.1 (lf_1_181).choose_spec.2.1 (hW.sh (hW.1.2.2 5 (by decide)) rfl) (by decide) rfl k2914 rfl ?_)
          refine wp_of e18 c18_22 (xc_V (pc' := 25) (r := tk) (as := [.ref 37]) (st := []) (lm_1_185) rfl rfl (Nat.le_of_ble_eq_true rfl) hW gtk sh_4 (by decide) rfl (by decide) (u_19 (kk := 659117163) hW gtk rfl (by decide +kernel)) (fun R2915 T2916 H2917 p2918 => ?_))
          obtain ⟨e2919, e2921, z2922, e2920, b2923, p2924⟩ := p2918
          subst e2919
          subst e2920
          subst e2921
          rcases p2924 with ⟨a2925, a2926⟩ | ⟨a2927, a2928⟩
          · show wp _ _ 18 25 [(1, vI 5), (0, .ref r0)] [vI z2922] _ H _
            refine wp_of e18 c18_25 (rw_if_eq (p1 := 34) (p2 := 28) (by decide) rfl ⟨Int.le_trans (by decide) b2923.1, Int.le_trans b2923.2 (by decide)⟩ (fun c2929 => ?_) (fun c2929 => ?_))
            · exfalso
              omega
            · have := @xre_le B n q 5 659117163 rfl (by decide)
              refine wp_of e18 c18_28 (rw_gs (pc' := 31) (k := 1) rfl rfl rfl rfl ?_)
              refine wp_of e18 c18_31 (rw_iload_n (pc' := 32) (z := 5) rfl rfl ?_)
              have k2931 : H 1 (5 : Int).toNat = ((21 : Nat) : Int) := (hW.2 1 _ hW.1.1).2.2 5 (by decide) |> fun z => by have z1 : (21 : Int) ≤ H 1 5 ∧ H 1 5 ≤ 21 := z; exact Int.le_antisymm z1.2 z1.1
              refine wp_of e18 c18_32 (rw_aaload (pc' := 33) (n := 11) (b := 21) (hW.sh hW.1.1 rfl) (by decide) (by decide) (by decide) rfl k2931 rfl ?_)
              exact wp_areturn e18 c18_33 rfl rfl ⟨rfl, rfl, Or.inr ⟨21, rfl, by decide, by decide, by omega⟩⟩
          · show wp _ _ 18 25 [(1, vI 5), (0, .ref r0)] [vI z2922] _ H _
            refine wp_of e18 c18_25 (rw_if_eq (p1 := 34) (p2 := 28) (by decide) rfl ⟨Int.le_trans (by decide) b2923.1, Int.le_trans b2923.2 (by decide)⟩ (fun c2932 => ?_) (fun c2932 => ?_))
            · have := @xre_at B n q 5 659117163 rfl (by decide)
              refine wp_of e18 c18_34 (rw_iinc (pc' := 37) (z := 5) (L' := [(1, vI (5 + 1)), (0, .ref r0)]) rfl rfl rfl rfl ?_)
              refine wp_of e18 c18_37 (rw_goto (p1 := 2) (by decide) ?_)
              exact wp_lc (ks := [1, 0]) (wl_c rfl (wl_c rfl wl_n)) rfl (by decide) (ih2797 _ (by omega) (5 + 1) ⟨by omega, by omega⟩ (by omega) rfl)
            · exfalso
              omega
        · subst c2806
          have k2934 : H 1 (6 : Int).toNat = ((22 : Nat) : Int) := (hW.2 1 _ hW.1.1).2.2 6 (by decide) |> fun z => by have z1 : (22 : Int) ≤ H 1 6 ∧ H 1 6 ≤ 22 := z; exact Int.le_antisymm z1.2 z1.1
          refine wp_of e18 c18_18 (rw_aaload (pc' := 19) (n := 11) (b := 22) (hW.sh hW.1.1 rfl) (by decide) (by decide) (by decide) rfl k2934 rfl ?_)
          have k2935 : H 22 0 = ((38 : Nat) : Int) := (hW.2 22 _ (hW.1.2.2 6 (by decide))).2.2 0 (by decide) |> fun z => by have z1 : (38 : Int) ≤ H 22 0 ∧ H 22 0 ≤ 38 := z; omega
          refine wp_of e18 c18_19 (rw_getR (pc' := 22) (n := 2) (b := 38) (e := _) (lf_1_181).choose_spec.1 (lf_1_181).choose_spec.2.1 (hW.sh (hW.1.2.2 6 (by decide)) rfl) (by decide) rfl k2935 rfl ?_)
          refine wp_of e18 c18_22 (xc_V (pc' := 25) (r := tk) (as := [.ref 38]) (st := []) (lm_1_185) rfl rfl (Nat.le_of_ble_eq_true rfl) hW gtk sh_4 (by decide) rfl (by decide) (u_19 (kk := 671108) hW gtk rfl (by decide +kernel)) (fun R2936 T2937 H2938 p2939 => ?_))
          obtain ⟨e2940, e2942, z2943, e2941, b2944, p2945⟩ := p2939
          subst e2940
          subst e2941
          subst e2942
          rcases p2945 with ⟨a2946, a2947⟩ | ⟨a2948, a2949⟩
          · show wp _ _ 18 25 [(1, vI 6), (0, .ref r0)] [vI z2943] _ H _
            refine wp_of e18 c18_25 (rw_if_eq (p1 := 34) (p2 := 28) (by decide) rfl ⟨Int.le_trans (by decide) b2944.1, Int.le_trans b2944.2 (by decide)⟩ (fun c2950 => ?_) (fun c2950 => ?_))
            · exfalso
              omega
            · have := @xre_le B n q 6 671108 rfl (by decide)
              refine wp_of e18 c18_28 (rw_gs (pc' := 31) (k := 1) rfl rfl rfl rfl ?_)
              refine wp_of e18 c18_31 (rw_iload_n (pc' := 32) (z := 6) rfl rfl ?_)
              have k2952 : H 1 (6 : Int).toNat = ((22 : Nat) : Int) := (hW.2 1 _ hW.1.1).2.2 6 (by decide) |> fun z => by have z1 : (22 : Int) ≤ H 1 6 ∧ H 1 6 ≤ 22 := z; exact Int.le_antisymm z1.2 z1.1
              refine wp_of e18 c18_32 (rw_aaload (pc' := 33) (n := 11) (b := 22) (hW.sh hW.1.1 rfl) (by decide) (by decide) (by decide) rfl k2952 rfl ?_)
              exact wp_areturn e18 c18_33 rfl rfl ⟨rfl, rfl, Or.inr ⟨22, rfl, by decide, by decide, by omega⟩⟩
          · show wp _ _ 18 25 [(1, vI 6), (0, .ref r0)] [vI z2943] _ H _
            refine wp_of e18 c18_25 (rw_if_eq (p1 := 34) (p2 := 28) (by decide) rfl ⟨Int.le_trans (by decide) b2944.1, Int.le_trans b2944.2 (by decide)⟩ (fun c2953 => ?_) (fun c2953 => ?_))
            · have := @xre_at B n q 6 671108 rfl (by decide)
              refine wp_of e18 c18_34 (rw_iinc (pc' := 37) (z := 6) (L' := [(1, vI (6 + 1)), (0, .ref r0)]) rfl rfl rfl rfl ?_)
              refine wp_of e18 c18_37 (rw_goto (p1 := 2) (by decide) ?_)
              exact wp_lc (ks := [1, 0]) (wl_c rfl (wl_c rfl wl_n)) rfl (by decide) (ih2797 _ (by omega) (6 + 1) ⟨by omega, by omega⟩ (by omega) rfl)
            · exfalso
              omega
        · subst c2806
          have k2955 : H 1 (7 : Int).toNat = ((23 : Nat) : Int) := (hW.2 1 _ hW.1.1).2.2 7 (by decide) |> fun z => by have z1 : (23 : Int) ≤ H 1 7 ∧ H 1 7 ≤ 23 := z; exact Int.le_antisymm z1.2 z1.1
          refine wp_of e18 c18_18 (rw_aaload (pc' := 19) (n := 11) (b := 23) (hW.sh hW.1.1 rfl) (by decide) (by decide) (by decide) rfl k2955 rfl ?_)
          have k2956 : H 23 0 = ((39 : Nat) : Int) := (hW.2 23 _ (hW.1.2.2 7 (by decide))).2.2 0 (by decide) |> fun z => by have z1 : (39 : Int) ≤ H 23 0 ∧ H 23 0 ≤ 39 := z; omega
          refine wp_of e18 c18_19 (rw_getR (pc' := 22) (n := 2) (b := 39) (e := _) (lf_1_181).choose_spec.1 (lf_1_181).choose_spec.2.1 (hW.sh (hW.1.2.2 7 (by decide)) rfl) (by decide) rfl k2956 rfl ?_)
          refine wp_of e18 c18_22 (xc_V (pc' := 25) (r := tk) (as := [.ref 39]) (st := []) (lm_1_185) rfl rfl (Nat.le_of_ble_eq_true rfl) hW gtk sh_4 (by decide) rfl (by decide) (u_19 (kk := 15931570) hW gtk rfl (by decide +kernel)) (fun R2957 T2958 H2959 p2960 => ?_))
          obtain ⟨e2961, e2963, z2964, e2962, b2965, p2966⟩ := p2960
          subst e2961
          subst e2962
          subst e2963
          rcases p2966 with ⟨a2967, a2968⟩ | ⟨a2969, a2970⟩
          · show wp _ _ 18 25 [(1, vI 7), (0, .ref r0)] [vI z2964] _ H _
            refine wp_of e18 c18_25 (rw_if_eq (p1 := 34) (p2 := 28) (by decide) rfl ⟨Int.le_trans (by decide) b2965.1, Int.le_trans b2965.2 (by decide)⟩ (fun c2971 => ?_) (fun c2971 => ?_))
            · exfalso
              omega
            · have := @xre_le B n q 7 15931570 rfl (by decide)
              refine wp_of e18 c18_28 (rw_gs (pc' := 31) (k := 1) rfl rfl rfl rfl ?_)
              refine wp_of e18 c18_31 (rw_iload_n (pc' := 32) (z := 7) rfl rfl ?_)
              have k2973 : H 1 (7 : Int).toNat = ((23 : Nat) : Int) := (hW.2 1 _ hW.1.1).2.2 7 (by decide) |> fun z => by have z1 : (23 : Int) ≤ H 1 7 ∧ H 1 7 ≤ 23 := z; exact Int.le_antisymm z1.2 z1.1
              refine wp_of e18 c18_32 (rw_aaload (pc' := 33) (n := 11) (b := 23) (hW.sh hW.1.1 rfl) (by decide) (by decide) (by decide) rfl k2973 rfl ?_)
              exact wp_areturn e18 c18_33 rfl rfl ⟨rfl, rfl, Or.inr ⟨23, rfl, by decide, by decide, by omega⟩⟩
          · show wp _ _ 18 25 [(1, vI 7), (0, .ref r0)] [vI z2964] _ H _
            refine wp_of e18 c18_25 (rw_if_eq (p1 := 34) (p2 := 28) (by decide) rfl ⟨Int.le_trans (by decide) b2965.1, Int.le_trans b2965.2 (by decide)⟩ (fun c2974 => ?_) (fun c2974 => ?_))
            · have := @xre_at B n q 7 15931570 rfl (by decide)
              refine wp_of e18 c18_34 (rw_iinc (pc' := 37) (z := 7) (L' := [(1, vI (7 + 1)), (0, .ref r0)]) rfl rfl rfl rfl ?_)
              refine wp_of e18 c18_37 (rw_goto (p1 := 2) (by decide) ?_)
              exact wp_lc (ks := [1, 0]) (wl_c rfl (wl_c rfl wl_n)) rfl (by decide) (ih2797 _ (by omega) (7 + 1) ⟨by omega, by omega⟩ (by omega) rfl)
            · exfalso
              omega
        · subst c2806
          have k2976 : H 1 (8 : Int).toNat = ((24 : Nat) : Int) := (hW.2 1 _ hW.1.1).2.2 8 (by decide) |> fun z => by have z1 : (24 : Int) ≤ H 1 8 ∧ H 1 8 ≤ 24 := z; exact Int.le_antisymm z1.2 z1.1
          refine wp_of e18 c18_18 (rw_aaload (pc' := 19) (n := 11) (b := 24) (hW.sh hW.1.1 rfl) (by decide) (by decide) (by decide) rfl k2976 rfl ?_)
          have k2977 : H 24 0 = ((40 : Nat) : Int) := (hW.2 24 _ (hW.1.2.2 8 (by decide))).2.2 0 (by decide) |> fun z => by have z1 : (40 : Int) ≤ H 24 0 ∧ H 24 0 ≤ 40 := z; omega
          refine wp_of e18 c18_19 (rw_getR (pc' := 22) (n := 2) (b := 40) (e := _) (lf_1_181).choose_spec.1 (lf_1_181).choose_spec.2.1 (hW.sh (hW.1.2.2 8 (by decide)) rfl) (by decide) rfl k2977 rfl ?_)
          refine wp_of e18 c18_22 (xc_V (pc' := 25) (r := tk) (as := [.ref 40]) (st := []) (lm_1_185) rfl rfl (Nat.le_of_ble_eq_true rfl) hW gtk sh_4 (by decide) rfl (by decide) (u_19 (kk := 8423732) hW gtk rfl (by decide +kernel)) (fun R2978 T2979 H2980 p2981 => ?_))
          obtain ⟨e2982, e2984, z2985, e2983, b2986, p2987⟩ := p2981
          subst e2982
          subst e2983
          subst e2984
          rcases p2987 with ⟨a2988, a2989⟩ | ⟨a2990, a2991⟩
          · show wp _ _ 18 25 [(1, vI 8), (0, .ref r0)] [vI z2985] _ H _
            refine wp_of e18 c18_25 (rw_if_eq (p1 := 34) (p2 := 28) (by decide) rfl ⟨Int.le_trans (by decide) b2986.1, Int.le_trans b2986.2 (by decide)⟩ (fun c2992 => ?_) (fun c2992 => ?_))
            · exfalso
              omega
            · have := @xre_le B n q 8 8423732 rfl (by decide)
              refine wp_of e18 c18_28 (rw_gs (pc' := 31) (k := 1) rfl rfl rfl rfl ?_)
              refine wp_of e18 c18_31 (rw_iload_n (pc' := 32) (z := 8) rfl rfl ?_)
              have k2994 : H 1 (8 : Int).toNat = ((24 : Nat) : Int) := (hW.2 1 _ hW.1.1).2.2 8 (by decide) |> fun z => by have z1 : (24 : Int) ≤ H 1 8 ∧ H 1 8 ≤ 24 := z; exact Int.le_antisymm z1.2 z1.1
              refine wp_of e18 c18_32 (rw_aaload (pc' := 33) (n := 11) (b := 24) (hW.sh hW.1.1 rfl) (by decide) (by decide) (by decide) rfl k2994 rfl ?_)
              exact wp_areturn e18 c18_33 rfl rfl ⟨rfl, rfl, Or.inr ⟨24, rfl, by decide, by decide, by omega⟩⟩
          · show wp _ _ 18 25 [(1, vI 8), (0, .ref r0)] [vI z2985] _ H _
            refine wp_of e18 c18_25 (rw_if_eq (p1 := 34) (p2 := 28) (by decide) rfl ⟨Int.le_trans (by decide) b2986.1, Int.le_trans b2986.2 (by decide)⟩ (fun c2995 => ?_) (fun c2995 => ?_))
            · have := @xre_at B n q 8 8423732 rfl (by decide)
              refine wp_of e18 c18_34 (rw_iinc (pc' := 37) (z := 8) (L' := [(1, vI (8 + 1)), (0, .ref r0)]) rfl rfl rfl rfl ?_)
              refine wp_of e18 c18_37 (rw_goto (p1 := 2) (by decide) ?_)
              exact wp_lc (ks := [1, 0]) (wl_c rfl (wl_c rfl wl_n)) rfl (by decide) (ih2797 _ (by omega) (8 + 1) ⟨by omega, by omega⟩ (by omega) rfl)
            · exfalso
              omega
        · subst c2806
          have k2997 : H 1 (9 : Int).toNat = ((25 : Nat) : Int) := (hW.2 1 _ hW.1.1).2.2 9 (by decide) |> fun z => by have z1 : (25 : Int) ≤ H 1 9 ∧ H 1 9 ≤ 25 := z; exact Int.le_antisymm z1.2 z1.1
          refine wp_of e18 c18_18 (rw_aaload (pc' := 19) (n := 11) (b := 25) (hW.sh hW.1.1 rfl) (by decide) (by decide) (by decide) rfl k2997 rfl ?_)
          have k2998 : H 25 0 = ((41 : Nat) : Int) := (hW.2 25 _ (hW.1.2.2 9 (by decide))).2.2 0 (by decide) |> fun z => by have z1 : (41 : Int) ≤ H 25 0 ∧ H 25 0 ≤ 41 := z; omega
          refine wp_of e18 c18_19 (rw_getR (pc' := 22) (n := 2) (b := 41) (e := _) (lf_1_181).choose_spec.1 (lf_1_181).choose_spec.2.1 (hW.sh (hW.1.2.2 9 (by decide)) rfl) (by decide) rfl k2998 rfl ?_)
          refine wp_of e18 c18_22 (xc_V (pc' := 25) (r := tk) (as := [.ref 41]) (st := []) (lm_1_185) rfl rfl (Nat.le_of_ble_eq_true rfl) hW gtk sh_4 (by decide) rfl (by decide) (u_19 (kk := 14384) hW gtk rfl (by decide +kernel)) (fun R2999 T3000 H3001 p3002 => ?_))
          obtain ⟨e3003, e3005, z3006, e3004, b3007, p3008⟩ := p3002
          subst e3003
          subst e3004
          subst e3005
          rcases p3008 with ⟨a3009, a3010⟩ | ⟨a3011, a3012⟩
          · show wp _ _ 18 25 [(1, vI 9), (0, .ref r0)] [vI z3006] _ H _
            refine wp_of e18 c18_25 (rw_if_eq (p1 := 34) (p2 := 28) (by decide) rfl ⟨Int.le_trans (by decide) b3007.1, Int.le_trans b3007.2 (by decide)⟩ (fun c3013 => ?_) (fun c3013 => ?_))
            · exfalso
              omega
            · have := @xre_le B n q 9 14384 rfl (by decide)
              refine wp_of e18 c18_28 (rw_gs (pc' := 31) (k := 1) rfl rfl rfl rfl ?_)
              refine wp_of e18 c18_31 (rw_iload_n (pc' := 32) (z := 9) rfl rfl ?_)
              have k3015 : H 1 (9 : Int).toNat = ((25 : Nat) : Int) := (hW.2 1 _ hW.1.1).2.2 9 (by decide) |> fun z => by have z1 : (25 : Int) ≤ H 1 9 ∧ H 1 9 ≤ 25 := z; exact Int.le_antisymm z1.2 z1.1
              refine wp_of e18 c18_32 (rw_aaload (pc' := 33) (n := 11) (b := 25) (hW.sh hW.1.1 rfl) (by decide) (by decide) (by decide) rfl k3015 rfl ?_)
              exact wp_areturn e18 c18_33 rfl rfl ⟨rfl, rfl, Or.inr ⟨25, rfl, by decide, by decide, by omega⟩⟩
          · show wp _ _ 18 25 [(1, vI 9), (0, .ref r0)] [vI z3006] _ H _
            refine wp_of e18 c18_25 (rw_if_eq (p1 := 34) (p2 := 28) (by decide) rfl ⟨Int.le_trans (by decide) b3007.1, Int.le_trans b3007.2 (by decide)⟩ (fun c3016 => ?_) (fun c3016 => ?_))
            · have := @xre_at B n q 9 14384 rfl (by decide)
              refine wp_of e18 c18_34 (rw_iinc (pc' := 37) (z := 9) (L' := [(1, vI (9 + 1)), (0, .ref r0)]) rfl rfl rfl rfl ?_)
              refine wp_of e18 c18_37 (rw_goto (p1 := 2) (by decide) ?_)
              exact wp_lc (ks := [1, 0]) (wl_c rfl (wl_c rfl wl_n)) rfl (by decide) (ih2797 _ (by omega) (9 + 1) ⟨by omega, by omega⟩ (by omega) rfl)
            · exfalso
              omega
        · subst c2806
          have k3018 : H 1 (10 : Int).toNat = ((26 : Nat) : Int) := (hW.2 1 _ hW.1.1).2.2 10 (by decide) |> fun z => by have z1 : (26 : Int) ≤ H 1 10 ∧ H 1 10 ≤ 26 := z; exact Int.le_antisymm z1.2 z1.1
          refine wp_of e18 c18_18 (rw_aaload (pc' := 19) (n := 11) (b := 26) (hW.sh hW.1.1 rfl) (by decide) (by decide) (by decide) rfl k3018 rfl ?_)
          have k3019 : H 26 0 = ((42 : Nat) : Int) := (hW.2 26 _ (hW.1.2.2 10 (by decide))).2.2 0 (by decide) |> fun z => by have z1 : (42 : Int) ≤ H 26 0 ∧ H 26 0 ≤ 42 := z; omega
          refine wp_of e18 c18_19 (rw_getR (pc' := 22) (n := 2) (b := 42) (e := _) (lf_1_181).choose_spec.1 (lf_1_181).choose_spec.2.1 (hW.sh (hW.1.2.2 10 (by decide)) rfl) (by decide) rfl k3019 rfl ?_)
          refine wp_of e18 c18_22 (xc_V (pc' := 25) (r := tk) (as := [.ref 42]) (st := []) (lm_1_185) rfl rfl (Nat.le_of_ble_eq_true rfl) hW gtk sh_4 (by decide) rfl (by decide) (u_19 (kk := 56377) hW gtk rfl (by decide +kernel)) (fun R3020 T3021 H3022 p3023 => ?_))
          obtain ⟨e3024, e3026, z3027, e3025, b3028, p3029⟩ := p3023
          subst e3024
          subst e3025
          subst e3026
          rcases p3029 with ⟨a3030, a3031⟩ | ⟨a3032, a3033⟩
          · show wp _ _ 18 25 [(1, vI 10), (0, .ref r0)] [vI z3027] _ H _
            refine wp_of e18 c18_25 (rw_if_eq (p1 := 34) (p2 := 28) (by decide) rfl ⟨Int.le_trans (by decide) b3028.1, Int.le_trans b3028.2 (by decide)⟩ (fun c3034 => ?_) (fun c3034 => ?_))
            · exfalso
              omega
            · have := @xre_le B n q 10 56377 rfl (by decide)
              refine wp_of e18 c18_28 (rw_gs (pc' := 31) (k := 1) rfl rfl rfl rfl ?_)
              refine wp_of e18 c18_31 (rw_iload_n (pc' := 32) (z := 10) rfl rfl ?_)
              have k3036 : H 1 (10 : Int).toNat = ((26 : Nat) : Int) := (hW.2 1 _ hW.1.1).2.2 10 (by decide) |> fun z => by have z1 : (26 : Int) ≤ H 1 10 ∧ H 1 10 ≤ 26 := z; exact Int.le_antisymm z1.2 z1.1
              refine wp_of e18 c18_32 (rw_aaload (pc' := 33) (n := 11) (b := 26) (hW.sh hW.1.1 rfl) (by decide) (by decide) (by decide) rfl k3036 rfl ?_)
              exact wp_areturn e18 c18_33 rfl rfl ⟨rfl, rfl, Or.inr ⟨26, rfl, by decide, by decide, by omega⟩⟩
          · show wp _ _ 18 25 [(1, vI 10), (0, .ref r0)] [vI z3027] _ H _
            refine wp_of e18 c18_25 (rw_if_eq (p1 := 34) (p2 := 28) (by decide) rfl ⟨Int.le_trans (by decide) b3028.1, Int.le_trans b3028.2 (by decide)⟩ (fun c3037 => ?_) (fun c3037 => ?_))
            · have := @xre_at B n q 10 56377 rfl (by decide)
              refine wp_of e18 c18_34 (rw_iinc (pc' := 37) (z := 10) (L' := [(1, vI (10 + 1)), (0, .ref r0)]) rfl rfl rfl rfl ?_)
              refine wp_of e18 c18_37 (rw_goto (p1 := 2) (by decide) ?_)
              exact wp_lc (ks := [1, 0]) (wl_c rfl (wl_c rfl wl_n)) rfl (by decide) (ih2797 _ (by omega) (10 + 1) ⟨by omega, by omega⟩ (by omega) rfl)
            · exfalso
              omega
  exact wp_lc (ks := [1, 0]) (wl_c rfl (wl_c rfl wl_n)) rfl (by decide) (lp2795 _ 0 ⟨by decide, by decide⟩ (by omega) rfl)
