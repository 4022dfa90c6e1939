/-! StrikeAwake$Grounds.barringHour(LStrikeAwake$Parish;LStrikeAwake$Walk;I)I  -/
abbrev uq_136 (r0 : Nat) (r1 : Nat) (r2 : Nat) (a3 : Int) (e : xD) (d : xD) (n : Int) (T : wq_T) (H : wq_H) : Option Value → wq_T → wq_H → Prop := fun r T' H' => T = T' ∧ WT T H' ∧ wfr [(6, 5), (8, 999), (10, 999), (9, 999), (7, 999), (11, 999)] T H H' ∧ ∃ z : Int, some (vI z) = r ∧ ((-1000) ≤ z ∧ z ≤ 23) ∧ (((XBO e d (a3).toNat (xlots d).toNat z)))
set_option maxHeartbeats 4000000 in
theorem u_136 {kt : Nat → Option mc_E} {T : wq_T} {H : wq_H} {r0 : Nat} {r1 : Nat} {r2 : Nat} {a3 : Int} {e : xD} {d : xD} {n : Int} (hW : WT T H) (g0 : T.2.2.2 r0 = some 25) (g1 : T.2.2.2 r1 = some 27) (g2 : T.2.2.2 r2 = some 6) (i3 : 0 ≤ a3 ∧ a3 ≤ 3) (p0 : ∀ i, i ≠ 13 → e i = d i) (p1 : XW d) (p2 : e 0 3 = d 0 3) (p3 : e 0 0 = d 0 0) (p4 : n = xlots d) (p5 : n ≤ 20000) (p6 : a3 < d 0 6) (hCU_r1 : CU T H r1 e d n) : wpc kt 4 136 [.ref r0, .ref r1, .ref r2, vI a3] T H (uq_136 r0 r1 r2 a3 e d n T H) := by
  refine wp_enter e136 (Nat.le_of_ble_eq_true rfl) rfl ?_
  have f0 : wfr [(6, 5), (8, 999), (10, 999), (9, 999), (7, 999), (11, 999)] T H H := wfr.rf
  show wp _ _ 136 0 [(0, .ref r0), (1, .ref r1), (2, .ref r2), (3, vI a3)] [] _ H _
  have u1886 := CU_k hCU_r1
  have b1887 : (-9223372036854775808) ≤ H r1 18 ∧ H r1 18 ≤ 9223372036854775807 := hW.box g1 (n := 19) rfl (by decide) rfl
  have h1888 : DA4 T H r1 (d 0 6) (d 14) := (by have h := hCU_r1.1.2.2.2.2.2.1; rw [p0 14 (by decide), p0 0 (by decide)] at h; exact h)
  have h1889 : DA5 T H r1 (d 0 6) (d 15) := (by have h := hCU_r1.1.2.2.2.2.2.2.1; rw [p0 15 (by decide), p0 0 (by decide)] at h; exact h)
  have _k := CU_k hCU_r1
  have _xc := p1.2.1
  unfold XC at _xc
  have _d0 := p0 0 (by decide)
  have _e3 : e 0 3 = d 0 3 := by rw [_d0]
  have _e4 : e 0 4 = d 0 4 := by rw [_d0]
  have _e5 : e 0 5 = d 0 5 := by rw [_d0]
  have _c18 := hCU_r1.2.2
  have _x0 : 0 ≤ xlots d := (xpr_b hCU_r1.2.1.1 _ _).1
  refine wp_of e136 c136_0 (rw_aload_n (pc' := 1) (v := .ref r1) rfl rfl rfl ?_)
  refine wp_of e136 c136_1 (xg_R (pc' := 4) lf_6_15 hW g1 sh_27 (by decide) (by decide) ty_27_0 rfl rfl (fun r1890 q1891 g1892 => ?_))
  refine wp_of e136 c136_4 (rw_aload_n (pc' := 5) (v := .ref r1) rfl rfl rfl ?_)
  refine wp_of e136 c136_5 (xg_R (pc' := 8) lf_6_21 hW g1 sh_27 (by decide) (by decide) ty_27_4 rfl rfl (fun r1893 q1894 g1895 => ?_))
  refine wp_of e136 c136_8 (rw_iload_n (pc' := 9) (z := a3) rfl rfl ?_)
  refine wp_of e136 c136_9 (xa_I (so := 0) (pc' := 10) hW g1895 sh_32 (by decide) (ty_32 _) (i3.1) (Int.lt_of_le_of_lt i3.2 (by decide)) rfl (fun b1896 b1897 => ?_))
  have := DA_at h1888 q1894 (k := (a3.toNat)) (by omega)
  have _x14 := p1.2.2.2.2.2.1 (a3.toNat) (by omega)
  unfold xwB at _x14
  refine wp_of e136 c136_10 (xa_R (pc' := 11) (by decide) hW g1892 sh_28 (by decide) (ty_28 _) (b1896) (Int.lt_of_le_of_lt b1897 (by decide)) rfl (fun r1898 q1899 g1900 => ?_))
  have _z := CS_at (hCU_r1).2.1 q1891 q1899 (k := ((H r1893 (a3.toNat))).toNat) (by omega) (by omega)
  have _l := @xsp_len d ((H r1893 (a3.toNat))).toNat (hCU_r1).2.1.1
  have h1901 : PS T H r1898 d ((H r1893 (a3.toNat))).toNat (xsp d ((H r1893 (a3.toNat))).toNat) := _z.1
  have _n := h1901.1
  have _kt : ((H r1893 (a3.toNat))).toNat = (d 14 (a3).toNat).toNat := by omega
  have _k3 : ((((H r1893 (a3.toNat))).toNat : Nat) : Int) < d 0 3 := by omega
  refine wp_of e136 c136_11 (rw_astore (pc' := 13) (v := .ref r1898) (L' := [(4, .ref r1898), (0, .ref r0), (1, .ref r1), (2, .ref r2), (3, vI a3)]) rfl rfl rfl rfl ?_)
  refine wp_of e136 c136_13 (rw_aload_n (pc' := 14) (v := .ref r1) rfl rfl rfl ?_)
  refine wp_of e136 c136_14 (xg_R (pc' := 17) lf_6_25 hW g1 sh_27 (by decide) (by decide) ty_27_5 rfl rfl (fun r1902 q1903 g1904 => ?_))
  refine wp_of e136 c136_17 (rw_iload_n (pc' := 18) (z := a3) rfl rfl ?_)
  refine wp_of e136 c136_18 (xa_I (so := 0) (pc' := 19) hW g1904 sh_33 (by decide) (ty_33 _) (i3.1) (Int.lt_of_le_of_lt i3.2 (by decide)) rfl (fun b1905 b1906 => ?_))
  have := DA_at h1889 q1903 (k := (a3.toNat)) (by omega)
  have _x15 := p1.2.2.2.2.2.2.1 (a3.toNat) (by omega)
  unfold xhB at _x15
  refine wp_of e136 c136_19 (rw_istore (pc' := 21) (z := H r1902 (a3.toNat)) (L' := [(5, vI (H r1902 (a3.toNat))), (4, .ref r1898), (0, .ref r0), (1, .ref r1), (2, .ref r2), (3, vI a3)]) rfl rfl rfl ?_)
  refine wp_of e136 c136_21 (rw_sipush (pc' := 24) (z := -1000) rfl (by decide) ?_)
  refine wp_of e136 c136_24 (rw_istore (pc' := 26) (z := -1000) (L' := [(6, vI (-1000)), (5, vI (H r1902 (a3.toNat))), (4, .ref r1898), (0, .ref r0), (1, .ref r1), (2, .ref r2), (3, vI a3)]) rfl rfl rfl ?_)
  refine wp_of e136 c136_26 (rw_aload_n (pc' := 27) (v := .ref r2) rfl rfl rfl ?_)
  refine wp_of e136 c136_27 (rw_aload_n (pc' := 28) (v := .ref r1) rfl rfl rfl ?_)
  refine wp_of e136 c136_28 (xc_V (pc' := 31) (r := r2) (as := [.ref r1]) (st := []) (lm_6_28) rfl rfl (Nat.le_of_ble_eq_true rfl) hW g2 sh_6 (by decide) rfl (by decide) (u_87 (e := e) (d := d) (n := n) hW g2 g1 (by assumption) (by assumption) (by omega) hCU_r1) (fun R1907 T1908 H1909 p1910 => ?_))
  obtain ⟨e1911, w1913, f1914, e1912, p1915⟩ := p1910
  subst e1911
  subst e1912
  have f1917 := f0.tr f1914 rfl
  show wp _ _ 136 31 [(6, vI (-1000)), (5, vI (H r1902 (a3.toNat))), (4, .ref r1898), (0, .ref r0), (1, .ref r1), (2, .ref r2), (3, vI a3)] [] _ H1909 _
  refine wp_of e136 c136_31 (rw_iconst (pc' := 32) rfl ?_)
  refine wp_of e136 c136_32 (rw_istore (pc' := 34) (z := 0) (L' := [(7, vI 0), (6, vI (-1000)), (5, vI (H r1902 (a3.toNat))), (4, .ref r1898), (0, .ref r0), (1, .ref r1), (2, .ref r2), (3, vI a3)]) rfl rfl rfl ?_)
  have k2684 : H1909 r1 18 = H r1 18 := (f1914 r1 18 _ g1 rfl)
  have lp2678 : ∀ (n2679 : Nat) (v2681 : Int) (v2682 : Int) (H2683 : wq_H), WT T H2683 → wfr [(8, 999), (10, 999), (9, 999), (7, 999), (11, 999)] T H1909 H2683 → (0 ≤ v2681 ∧ v2681 ≤ 20000) → ((-1000) ≤ v2682 ∧ v2682 ≤ 23) → WRc T H2683 r2 d (xlot d v2681) → (v2681 ≤ xlots d) → (XBR (xtq d (a3).toNat) (xfv e d) (v2681).toNat v2682) → (20000 - v2681).toNat = n2679 → wp kt 3 136 34 [(7, vI v2681), (6, vI v2682), (5, vI (H r1902 (a3.toNat))), (4, .ref r1898), (1, .ref r1), (2, .ref r2), (3, vI a3)] [] T H2683 (uq_136 r0 r1 r2 a3 e d n T H) := by
    intro n2679
    induction n2679 using Nat.strongRecOn with
    | _ n2679 ih2680 =>
      intro v2681 v2682 H2683 w2685 f2686 b2687 b2688 h2690 x2691 x2692 m2689
      have f2693 := f1917.tr f2686 rfl
      have k2694 : H2683 r1 18 = H1909 r1 18 := (f2686 r1 18 _ g1 rfl)
      refine wp_of e136 c136_34 (rw_iload (pc' := 36) (z := v2681) rfl rfl ?_)
      refine wp_of e136 c136_36 (rw_i2l (pc' := 37) rfl ⟨Int.le_trans (by decide) b2687.1, Int.le_trans b2687.2 (by decide)⟩ ?_)
      refine wp_of e136 c136_37 (rw_aload_n (pc' := 38) (v := .ref r1) rfl rfl rfl ?_)
      refine wp_of e136 c136_38 (xg_L (pc' := 41) lf_6_34 w2685 g1 sh_27 (by decide) (by decide) ty_27_18 rfl rfl (fun b2695 b2696 => ?_))
      refine wp_of e136 c136_41 (rw_lcmp (pc' := 42) rfl ⟨Int.le_trans (by decide) b2687.1, Int.le_trans b2687.2 (by decide)⟩ ⟨b2695, b2696⟩ ?_)
      have b2697 := wq_cmp_b v2681 (H2683 r1 18)
      refine wp_of e136 c136_42 (rw_if_ge (p1 := 125) (p2 := 45) (by decide) rfl ⟨by omega, by omega⟩ (fun c2698 => ?_) (fun c2698 => ?_))
      · have _z : XBO e d (a3).toNat (xlots d).toNat v2682 := ⟨v2682, by rw [show (xlots d).toNat = (v2681).toNat by omega]; assumption, Or.inr ⟨by omega, rfl⟩⟩
        refine wp_of e136 c136_125 (rw_iload (pc' := 127) (z := v2682) rfl rfl ?_)
        exact wp_ireturn e136 c136_127 rfl ⟨rfl, w2685, f2693, v2682, rfl, ⟨b2688.1, b2688.2⟩, (_z)⟩
      · refine wp_of e136 c136_45 (rw_iload (pc' := 47) (z := v2681) rfl rfl ?_)
        refine wp_of e136 c136_47 (rw_sipush (pc' := 50) (z := 20000) rfl (by decide) ?_)
        refine wp_of e136 c136_50 (rw_icmp_ge (p1 := 125) (p2 := 53) (by decide) rfl ⟨Int.le_trans (by decide) b2687.1, Int.le_trans b2687.2 (by decide)⟩ ⟨by decide, by decide⟩ (fun c2699 => ?_) (fun c2699 => ?_))
        · have _z : XBO e d (a3).toNat (xlots d).toNat v2682 := ⟨v2682, by rw [show (xlots d).toNat = (v2681).toNat by omega]; assumption, Or.inr ⟨by omega, rfl⟩⟩
          refine wp_of e136 c136_125 (rw_iload (pc' := 127) (z := v2682) rfl rfl ?_)
          exact wp_ireturn e136 c136_127 rfl ⟨rfl, w2685, f2693, v2682, rfl, ⟨b2688.1, b2688.2⟩, (_z)⟩
        · have h2700 : WR T H2683 r2 d (xlot d v2681) := WRc_at h2690 (by omega)
          have _sl : SL d (xlot d v2681) := SL_lot p1.1 (by omega) (by omega)
          refine wp_of e136 c136_53 (rw_aload (pc' := 55) (v := .ref r1898) rfl rfl rfl ?_)
          refine wp_of e136 c136_55 (xg_R (pc' := 58) lf_6_38 w2685 g1900 sh_35 (by decide) (by decide) ty_35_2 rfl rfl (fun r2701 q2702 g2703 => ?_))
          refine wp_of e136 c136_58 (rw_aload_n (pc' := 59) (v := .ref r2) rfl rfl rfl ?_)
          refine wp_of e136 c136_59 (rw_aload_n (pc' := 60) (v := .ref r1) rfl rfl rfl ?_)
          have k2704 : H2683 r1 4 = H r1 4 := ((f2686 r1 4 _ g1 rfl).trans (f1914 r1 4 _ g1 rfl))
          have q2705 : H2683 r1 4 = (r1893 : Int) := k2704.trans q1894
          refine wp_of e136 c136_60 (xg_K (pc' := 63) lf_6_21 w2685 g1 sh_27 (by decide) (by decide) rfl q2705 rfl ?_)
          refine wp_of e136 c136_63 (rw_iload_n (pc' := 64) (z := a3) rfl rfl ?_)
          have k2706 : H2683 r1893 (a3.toNat) = H r1893 (a3.toNat) := ((f2686 r1893 (a3.toNat) _ g1895 rfl).trans (f1914 r1893 (a3.toNat) _ g1895 rfl))
          refine wp_of e136 c136_64 (xa_I (so := 0) (pc' := 65) w2685 g1895 sh_32 (by decide) (ty_32 _) (i3.1) (Int.lt_of_le_of_lt i3.2 (by decide)) rfl (fun b2707 b2708 => ?_))
          have h2709 : DA4 T H2683 r1 (d 0 6) (d 14) := (DA4_fr w1913 g1 f2686 rfl (DA4_fr hW g1 f1914 rfl h1888))
          have := DA_at h2709 q2705 (k := (a3.toNat)) (by omega)
          have _x14 := p1.2.2.2.2.2.1 (a3.toNat) (by omega)
          unfold xwB at _x14
          have h2710 : WP0 T H2683 r2 (d 0 3) (xlot d v2681) := (h2700).2.1
          refine wp_of e136 c136_65 (xc_V (pc' := 68) (r := r2) (as := [vI (H2683 r1893 (a3.toNat))]) (st := [.ref r2701]) (lm_6_43) rfl rfl (Nat.le_of_ble_eq_true rfl) w2685 g2 sh_6 (by decide) rfl (by decide) (u_89 (d := d) (g := ((xlot d v2681))) w2685 g2 ⟨b2707, b2708⟩ (by omega) h2710) (fun R2711 T2712 H2713 p2714 => ?_))
          obtain ⟨e2715, e2717, z2718, e2716, b2719, p2720⟩ := p2714
          subst e2715
          subst e2716
          subst e2717
          show wp _ _ 136 68 [(7, vI v2681), (6, vI v2682), (5, vI (H r1902 (a3.toNat))), (4, .ref r1898), (1, .ref r1), (2, .ref r2), (3, vI a3)] [vI z2718, .ref r2701] _ H2683 _
          have h2722 : PS T H2683 r1898 d ((H r1893 (a3.toNat))).toNat (xsp d ((H r1893 (a3.toNat))).toNat) := (PS_fr w1913 g1900 f2686 rfl (PS_fr hW g1900 f1914 rfl h1901))
          have _ge : xlot d v2681 (H2683 r1893 (a3.toNat)).toNat = xlot d v2681 ((H r1893 (a3.toNat))).toNat := congrArg (xlot d v2681) (by omega)
          have _sk := _sl ((H r1893 (a3.toNat))).toNat (by omega)
          have _a := DA_at (h2722).2.2.2.1 q2702 (k := (z2718).toNat) (by omega)
          have _x : xr3 d ((H r1893 (a3.toNat))).toNat (xsp d ((H r1893 (a3.toNat))).toNat) (z2718).toNat = xsb d (xlot d v2681) ((H r1893 (a3.toNat))).toNat := by
            unfold xr3 xsb xpt
            rw [show xlot d v2681 ((H r1893 (a3.toNat))).toNat = z2718 by omega]
          refine wp_of e136 c136_68 (xa_I (so := 0) (pc' := 69) w2685 g2703 sh_38 (by decide) (ty_38 _) (b2719.1) (Int.lt_of_le_of_lt b2719.2 (by decide)) rfl (fun b2723 b2724 => ?_))
          refine wp_of e136 c136_69 (rw_istore (pc' := 71) (z := H2683 r2701 (z2718.toNat)) (L' := [(8, vI (H2683 r2701 (z2718.toNat))), (7, vI v2681), (6, vI v2682), (5, vI (H r1902 (a3.toNat))), (4, .ref r1898), (1, .ref r1), (2, .ref r2), (3, vI a3)]) rfl rfl rfl ?_)
          refine wp_of e136 c136_71 (rw_aload_n (pc' := 72) (v := .ref r2) rfl rfl rfl ?_)
          refine wp_of e136 c136_72 (xc_V (pc' := 75) (r := r2) (as := []) (st := []) (lm_6_47) rfl rfl (Nat.le_of_ble_eq_true rfl) w2685 g2 sh_6 (by decide) rfl (by decide) (u_80 (d := d) (g := ((xlot d v2681))) w2685 g2 (by assumption) h2700) (fun R2725 T2726 H2727 p2728 => ?_))
          obtain ⟨e2729, e2731, z2732, e2730, b2733, p2734⟩ := p2728
          subst e2729
          subst e2730
          subst e2731
          rcases p2734 with ⟨a2735, a2736⟩ | ⟨a2737, a2738⟩
          · show wp _ _ 136 75 [(8, vI (H2683 r2701 (z2718.toNat))), (7, vI v2681), (6, vI v2682), (5, vI (H r1902 (a3.toNat))), (4, .ref r1898), (1, .ref r1), (2, .ref r2), (3, vI a3)] [vI z2732] _ H2683 _
            refine wp_of e136 c136_75 (rw_if_ne (p1 := 114) (p2 := 78) (by decide) rfl ⟨Int.le_trans (by decide) b2733.1, Int.le_trans b2733.2 (by decide)⟩ (fun c2739 => ?_) (fun c2739 => ?_))
            · have _q : XBR (xtq d (a3).toNat) (xfv e d) (v2681 + 1).toNat v2682 := by
                rw [show (v2681 + 1).toNat = (v2681).toNat + 1 by omega]
                exact XBR_n (by first | exact xtq_nq (by omega) (by assumption) | exact xtq_nt (fun c9 => by have := _ts.mpr c9; omega)) (by assumption : XBR (xtq d (a3).toNat) (xfv e d) (v2681).toNat v2682)
              refine wp_of e136 c136_114 (rw_aload_n (pc' := 115) (v := .ref r2) rfl rfl rfl ?_)
              refine wp_of e136 c136_115 (rw_aload_n (pc' := 116) (v := .ref r1) rfl rfl rfl ?_)
              have h2740 : CU T H2683 r1 e d n := (CU_fr w1913 g1 f2686 rfl (CU_fr hW g1 f1914 rfl hCU_r1))
              refine wp_of e136 c136_116 (xc_V (pc' := 119) (r := r2) (as := [.ref r1]) (st := []) (lm_6_61) rfl rfl (Nat.le_of_ble_eq_true rfl) w2685 g2 sh_6 (by decide) rfl (by decide) (u_91 (e := e) (d := d) (n := n) (a := v2681) w2685 g2 g1 (by assumption) (by assumption) (by omega) (by omega) (by omega) h2740 h2700) (fun R2741 T2742 H2743 p2744 => ?_))
              obtain ⟨e2745, w2747, f2748, e2746, p2749⟩ := p2744
              subst e2745
              subst e2746
              have f2751 := f2693.tr f2748 rfl
              have f2752 := f2686.tr f2748 rfl
              show wp _ _ 136 119 [(8, vI (H2683 r2701 (z2718.toNat))), (7, vI v2681), (6, vI v2682), (5, vI (H r1902 (a3.toNat))), (4, .ref r1898), (1, .ref r1), (2, .ref r2), (3, vI a3)] [] _ H2743 _
              have h2753 : WRc T H2743 r2 d (xlot d (v2681 + 1)) := Or.inr p2749
              refine wp_of e136 c136_119 (rw_iinc (pc' := 122) (z := v2681) (L' := [(7, vI (v2681 + 1)), (8, vI (H2683 r2701 (z2718.toNat))), (6, vI v2682), (5, vI (H r1902 (a3.toNat))), (4, .ref r1898), (1, .ref r1), (2, .ref r2), (3, vI a3)]) rfl rfl rfl rfl ?_)
              refine wp_of e136 c136_122 (rw_goto (p1 := 34) (by decide) ?_)
              have k2754 : H2743 r1 18 = H2683 r1 18 := (f2748 r1 18 _ g1 rfl)
              exact wp_lc (ks := [7, 8, 6, 5, 4, 1, 2, 3]) (wl_c rfl (wl_c rfl (wl_c rfl (wl_c rfl (wl_c rfl (wl_c rfl (wl_c rfl wl_n))))))) rfl (by decide) (ih2680 _ (by omega) (v2681 + 1) v2682 H2743 w2747 f2752 ⟨by omega, by omega⟩ ⟨b2688.1, b2688.2⟩ h2753 (by omega) (_q) rfl)
            · exfalso
              omega
          · show wp _ _ 136 75 [(8, vI (H2683 r2701 (z2718.toNat))), (7, vI v2681), (6, vI v2682), (5, vI (H r1902 (a3.toNat))), (4, .ref r1898), (1, .ref r1), (2, .ref r2), (3, vI a3)] [vI z2732] _ H2683 _
            refine wp_of e136 c136_75 (rw_if_ne (p1 := 114) (p2 := 78) (by decide) rfl ⟨Int.le_trans (by decide) b2733.1, Int.le_trans b2733.2 (by decide)⟩ (fun c2755 => ?_) (fun c2755 => ?_))
            · exfalso
              omega
            · refine wp_of e136 c136_78 (rw_iload (pc' := 80) (z := H2683 r2701 (z2718.toNat)) rfl rfl ?_)
              refine wp_of e136 c136_80 (rw_iload (pc' := 82) (z := H r1902 (a3.toNat)) rfl rfl ?_)
              refine wp_of e136 c136_82 (rw_iand (pc' := 83) rfl ?_)
              obtain ⟨v2756, e2757⟩ : ∃ x : Int, x = wq_and (H2683 r2701 (z2718.toNat)) (H r1902 (a3.toNat)) := ⟨_, rfl⟩
              rw [← e2757]
              have b2758 : -2147483648 ≤ v2756 ∧ v2756 ≤ 2147483647 := by
                rw [e2757]
                exact wI_and _ _
              refine wp_of e136 c136_83 (rw_iload (pc' := 85) (z := H r1902 (a3.toNat)) rfl rfl ?_)
              have _ts := xts_i (A := (H2683 r2701 (z2718.toNat))) (S := (H r1902 (a3.toNat))) (t := (a3).toNat) (K := ((H r1893 (a3.toNat))).toNat) (v := v2681) _kt (by omega) (by omega) (by omega)
              rw [← e2757] at _ts
              refine wp_of e136 c136_85 (rw_icmp_ne (p1 := 114) (p2 := 88) (by decide) rfl ⟨b2758.1, b2758.2⟩ ⟨b1905, b1906⟩ (fun c2759 => ?_) (fun c2759 => ?_))
              · have _q : XBR (xtq d (a3).toNat) (xfv e d) (v2681 + 1).toNat v2682 := by
                  rw [show (v2681 + 1).toNat = (v2681).toNat + 1 by omega]
                  exact XBR_n (by first | exact xtq_nq (by omega) (by assumption) | exact xtq_nt (fun c9 => by have := _ts.mpr c9; omega)) (by assumption : XBR (xtq d (a3).toNat) (xfv e d) (v2681).toNat v2682)
                refine wp_of e136 c136_114 (rw_aload_n (pc' := 115) (v := .ref r2) rfl rfl rfl ?_)
                refine wp_of e136 c136_115 (rw_aload_n (pc' := 116) (v := .ref r1) rfl rfl rfl ?_)
                have h2760 : CU T H2683 r1 e d n := (CU_fr w1913 g1 f2686 rfl (CU_fr hW g1 f1914 rfl hCU_r1))
                refine wp_of e136 c136_116 (xc_V (pc' := 119) (r := r2) (as := [.ref r1]) (st := []) (lm_6_61) rfl rfl (Nat.le_of_ble_eq_true rfl) w2685 g2 sh_6 (by decide) rfl (by decide) (u_91 (e := e) (d := d) (n := n) (a := v2681) w2685 g2 g1 (by assumption) (by assumption) (by omega) (by omega) (by omega) h2760 h2700) (fun R2761 T2762 H2763 p2764 => ?_))
                obtain ⟨e2765, w2767, f2768, e2766, p2769⟩ := p2764
                subst e2765
                subst e2766
                have f2771 := f2693.tr f2768 rfl
                have f2772 := f2686.tr f2768 rfl
                show wp _ _ 136 119 [(8, vI (H2683 r2701 (z2718.toNat))), (7, vI v2681), (6, vI v2682), (5, vI (H r1902 (a3.toNat))), (4, .ref r1898), (1, .ref r1), (2, .ref r2), (3, vI a3)] [] _ H2763 _
                have h2773 : WRc T H2763 r2 d (xlot d (v2681 + 1)) := Or.inr p2769
                refine wp_of e136 c136_119 (rw_iinc (pc' := 122) (z := v2681) (L' := [(7, vI (v2681 + 1)), (8, vI (H2683 r2701 (z2718.toNat))), (6, vI v2682), (5, vI (H r1902 (a3.toNat))), (4, .ref r1898), (1, .ref r1), (2, .ref r2), (3, vI a3)]) rfl rfl rfl rfl ?_)
                refine wp_of e136 c136_122 (rw_goto (p1 := 34) (by decide) ?_)
                have k2774 : H2763 r1 18 = H2683 r1 18 := (f2768 r1 18 _ g1 rfl)
                exact wp_lc (ks := [7, 8, 6, 5, 4, 1, 2, 3]) (wl_c rfl (wl_c rfl (wl_c rfl (wl_c rfl (wl_c rfl (wl_c rfl (wl_c rfl wl_n))))))) rfl (by decide) (ih2680 _ (by omega) (v2681 + 1) v2682 H2763 w2767 f2772 ⟨by omega, by omega⟩ ⟨b2688.1, b2688.2⟩ h2773 (by omega) (_q) rfl)
              · have _ft : xtq d (a3).toNat (v2681).toNat > 0 := xtq_yi (by omega) (by assumption) (_ts.mp (by omega))
                refine wp_of e136 c136_88 (rw_aload_n (pc' := 89) (v := .ref r2) rfl rfl rfl ?_)
                refine wp_of e136 c136_89 (rw_aload_n (pc' := 90) (v := .ref r1) rfl rfl rfl ?_)
                have k2775 : H2683 r1 16 = H r1 16 := ((f2686 r1 16 _ g1 rfl).trans (f1914 r1 16 _ g1 rfl))
                have k2776 : H2683 r1 9 = H r1 9 := ((f2686 r1 9 _ g1 rfl).trans (f1914 r1 9 _ g1 rfl))
                have h2777 : CU T H2683 r1 e d n := (CU_fr w1913 g1 f2686 rfl (CU_fr hW g1 f1914 rfl hCU_r1))
                refine wp_of e136 c136_90 (xc_V (pc' := 93) (r := r2) (as := [.ref r1]) (st := []) (lm_6_51) rfl rfl (Nat.le_of_ble_eq_true rfl) w2685 g2 sh_6 (by decide) rfl (by decide) (u_81 (e := e) (d := d) (n := n) (g := ((xlot d v2681))) w2685 g2 g1 (by assumption) (by assumption) (by omega) (by omega) h2777 h2700) (fun R2778 T2779 H2780 p2781 => ?_))
                obtain ⟨e2782, e2784, z2785, e2783, b2786, p2787⟩ := p2781
                subst e2782
                subst e2783
                subst e2784
                show wp _ _ 136 93 [(8, vI (H2683 r2701 (z2718.toNat))), (7, vI v2681), (6, vI v2682), (5, vI (H r1902 (a3.toNat))), (4, .ref r1898), (1, .ref r1), (2, .ref r2), (3, vI a3)] [vI z2785] _ H2683 _
                have _fv : xfv e d (v2681).toNat z2785 := xfv_i (by omega) (by assumption)
                refine wp_of e136 c136_93 (rw_istore (pc' := 95) (z := z2785) (L' := [(9, vI z2785), (8, vI (H2683 r2701 (z2718.toNat))), (7, vI v2681), (6, vI v2682), (5, vI (H r1902 (a3.toNat))), (4, .ref r1898), (1, .ref r1), (2, .ref r2), (3, vI a3)]) rfl rfl rfl ?_)
                refine wp_of e136 c136_95 (rw_iload (pc' := 97) (z := z2785) rfl rfl ?_)
                refine wp_of e136 c136_97 (rw_bipush (pc' := 99) (z := 24) rfl (by decide) ?_)
                refine wp_of e136 c136_99 (rw_icmp_ne (p1 := 105) (p2 := 102) (by decide) rfl ⟨Int.le_trans (by decide) b2786.1, Int.le_trans b2786.2 (by decide)⟩ ⟨by decide, by decide⟩ (fun c2789 => ?_) (fun c2789 => ?_))
                · refine wp_of e136 c136_105 (rw_iload (pc' := 107) (z := v2682) rfl rfl ?_)
                  refine wp_of e136 c136_107 (rw_iload (pc' := 109) (z := z2785) rfl rfl ?_)
                  refine wp_of e136 c136_109 (rw_math2 (pc' := 112) (z := max v2682 z2785) rfl rfl ⟨by omega, by omega⟩ ⟨by omega, by omega⟩ (Or.inr ⟨rfl, rfl⟩) (Nat.le_of_ble_eq_true rfl) rfl ?_)
                  obtain ⟨v2790, e2791⟩ : ∃ x : Int, x = max v2682 z2785 := ⟨_, rfl⟩
                  rw [← e2791]
                  have b2792 : v2790 = v2682 ∨ v2790 = z2785 := by
                    rw [e2791]
                    omega
                  have b2793 : v2682 ≤ v2790 ∧ z2785 ≤ v2790 := by
                    rw [e2791]
                    omega
                  refine wp_of e136 c136_112 (rw_istore (pc' := 114) (z := v2790) (L' := [(6, vI v2790), (9, vI z2785), (8, vI (H2683 r2701 (z2718.toNat))), (7, vI v2681), (5, vI (H r1902 (a3.toNat))), (4, .ref r1898), (1, .ref r1), (2, .ref r2), (3, vI a3)]) rfl rfl rfl ?_)
                  have _q : XBR (xtq d (a3).toNat) (xfv e d) (v2681 + 1).toNat v2790 := by
                    rw [show (v2681 + 1).toNat = (v2681).toNat + 1 by omega]
                    exact XBR_y _ft _fv (by omega) (by assumption : XBR (xtq d (a3).toNat) (xfv e d) (v2681).toNat v2682) (by omega)
                  refine wp_of e136 c136_114 (rw_aload_n (pc' := 115) (v := .ref r2) rfl rfl rfl ?_)
                  refine wp_of e136 c136_115 (rw_aload_n (pc' := 116) (v := .ref r1) rfl rfl rfl ?_)
                  refine wp_of e136 c136_116 (xc_V (pc' := 119) (r := r2) (as := [.ref r1]) (st := []) (lm_6_61) rfl rfl (Nat.le_of_ble_eq_true rfl) w2685 g2 sh_6 (by decide) rfl (by decide) (u_91 (e := e) (d := d) (n := n) (a := v2681) w2685 g2 g1 (by assumption) (by assumption) (by omega) (by omega) (by omega) h2777 h2700) (fun R2794 T2795 H2796 p2797 => ?_))
                  obtain ⟨e2798, w2800, f2801, e2799, p2802⟩ := p2797
                  subst e2798
                  subst e2799
                  have f2804 := f2693.tr f2801 rfl
                  have f2805 := f2686.tr f2801 rfl
                  show wp _ _ 136 119 [(6, vI v2790), (9, vI z2785), (8, vI (H2683 r2701 (z2718.toNat))), (7, vI v2681), (5, vI (H r1902 (a3.toNat))), (4, .ref r1898), (1, .ref r1), (2, .ref r2), (3, vI a3)] [] _ H2796 _
                  have h2806 : WRc T H2796 r2 d (xlot d (v2681 + 1)) := Or.inr p2802
                  refine wp_of e136 c136_119 (rw_iinc (pc' := 122) (z := v2681) (L' := [(7, vI (v2681 + 1)), (6, vI v2790), (9, vI z2785), (8, vI (H2683 r2701 (z2718.toNat))), (5, vI (H r1902 (a3.toNat))), (4, .ref r1898), (1, .ref r1), (2, .ref r2), (3, vI a3)]) rfl rfl rfl rfl ?_)
                  refine wp_of e136 c136_122 (rw_goto (p1 := 34) (by decide) ?_)
                  have k2807 : H2796 r1 18 = H2683 r1 18 := (f2801 r1 18 _ g1 rfl)
                  exact wp_lc (ks := [7, 6, 9, 8, 5, 4, 1, 2, 3]) (wl_c rfl (wl_c rfl (wl_c rfl (wl_c rfl (wl_c rfl (wl_c rfl (wl_c rfl wl_n))))))) rfl (by decide) (ih2680 _ (by omega) (v2681 + 1) v2790 H2796 w2800 f2805 ⟨by omega, by omega⟩ ⟨by omega, by omega⟩ h2806 (by omega) (_q) rfl)
                · have _z : XBO e d (a3).toNat (xlots d).toNat (-2) := ⟨24, XBR_t (n := (v2681).toNat) (by omega) _ft (by rw [← (show z2785 = 24 by omega)]; exact _fv) (fun j => xfv_ex), Or.inl ⟨rfl, rfl⟩⟩
                  refine wp_of e136 c136_102 (rw_bipush (pc' := 104) (z := -2) rfl (by decide) ?_)
                  exact wp_ireturn e136 c136_104 rfl ⟨rfl, w2685, f2693, -2, rfl, ⟨by decide, by decide⟩, (_z)⟩
  exact wp_lc (ks := [7, 6, 5, 4, 0, 1, 2, 3]) (wl_c rfl (wl_c rfl (wl_c rfl (wl_c rfl (wl_c rfl (wl_c rfl (wl_c rfl wl_n))))))) rfl (by decide) (lp2678 _ 0 (-1000) H1909 w1913 wfr.rf ⟨by decide, by decide⟩ ⟨by decide, by decide⟩ p1915 (by omega) (XBR_0) rfl)
/-! StrikeAwake$Census.hasTold(LStrikeAwake$Parish;I)Z  -/
abbrev uq_134 (r0 : Nat) (r1 : Nat) (a2 : Int) (e : xD) (d : xD) (n : Int) (T : wq_T) (H : wq_H) : Option Value → wq_T → wq_H → Prop := fun r T' H' => T = T' ∧ H = H' ∧ ∃ z : Int, some (vI z) = r ∧ (0 ≤ z ∧ z ≤ 1) ∧ (((z = 1) ∧ (XLX e d (a2).toNat (xlots d).toNat)) ∨ ((z = 0) ∧ (¬ XLX e d (a2).toNat (xlots d).toNat)))
set_option maxHeartbeats 4000000 in
theorem u_134 {kt : Nat → Option mc_E} {T : wq_T} {H : wq_H} {r0 : Nat} {r1 : Nat} {a2 : Int} {e : xD} {d : xD} {n : Int} (hW : WT T H) (g0 : T.2.2.2 r0 = some 12) (g1 : T.2.2.2 r1 = some 27) (i2 : 0 ≤ a2 ∧ a2 ≤ 3) (p0 : ∀ i, i ≠ 13 → e i = d i) (p1 : XW d) (p2 : e 0 3 = d 0 3) (p3 : a2 < d 0 6) (hCU_r1 : CU T H r1 e d n) (hHV1_r0 : HV1 T H r0 (d 0 3) (fun p i => xhc e d p i (xlots d).toNat)) : wpc kt 1 134 [.ref r0, .ref r1, vI a2] T H (uq_134 r0 r1 a2 e d n T H) := by
  refine wp_enter e134 (Nat.le_of_ble_eq_true rfl) rfl ?_
  show wp _ _ 134 0 [(0, .ref r0), (1, .ref r1), (2, vI a2)] [] _ H _
  have u1208 := CU_k hCU_r1
  have h1209 : DA4 T H r1 (d 0 6) (d 14) := (by have h := hCU_r1.1.2.2.2.2.2.1; rw [p0 14 (by decide), p0 0 (by decide)] at h; exact h)
  have h1210 : DA5 T H r1 (d 0 6) (d 15) := (by have h := hCU_r1.1.2.2.2.2.2.2.1; rw [p0 15 (by decide), p0 0 (by decide)] at h; exact h)
  have _k := CU_k hCU_r1
  have _xc := p1.2.1
  unfold XC at _xc
  have _d0 := p0 0 (by decide)
  have _e3 : e 0 3 = d 0 3 := by rw [_d0]
  have _e4 : e 0 4 = d 0 4 := by rw [_d0]
  have _e5 : e 0 5 = d 0 5 := by rw [_d0]
  have _c18 := hCU_r1.2.2
  have _x0 : 0 ≤ xlots d := (xpr_b hCU_r1.2.1.1 _ _).1
  refine wp_of e134 c134_0 (rw_aload_n (pc' := 1) (v := .ref r1) rfl rfl rfl ?_)
  refine wp_of e134 c134_1 (xg_R (pc' := 4) lf_4_144 hW g1 sh_27 (by decide) (by decide) ty_27_4 rfl rfl (fun r1211 q1212 g1213 => ?_))
  refine wp_of e134 c134_4 (rw_iload_n (pc' := 5) (z := a2) rfl rfl ?_)
  refine wp_of e134 c134_5 (xa_I (so := 0) (pc' := 6) hW g1213 sh_32 (by decide) (ty_32 _) (i2.1) (Int.lt_of_le_of_lt i2.2 (by decide)) rfl (fun b1214 b1215 => ?_))
  have := DA_at h1209 q1212 (k := (a2.toNat)) (by omega)
  have _x14 := p1.2.2.2.2.2.1 (a2.toNat) (by omega)
  unfold xwB at _x14
  refine wp_of e134 c134_6 (rw_istore_n (pc' := 7) (z := H r1211 (a2.toNat)) (L' := [(3, vI (H r1211 (a2.toNat))), (0, .ref r0), (1, .ref r1), (2, vI a2)]) rfl rfl rfl ?_)
  refine wp_of e134 c134_7 (rw_aload_n (pc' := 8) (v := .ref r1) rfl rfl rfl ?_)
  refine wp_of e134 c134_8 (xg_R (pc' := 11) lf_4_147 hW g1 sh_27 (by decide) (by decide) ty_27_5 rfl rfl (fun r1216 q1217 g1218 => ?_))
  refine wp_of e134 c134_11 (rw_iload_n (pc' := 12) (z := a2) rfl rfl ?_)
  refine wp_of e134 c134_12 (xa_I (so := 0) (pc' := 13) hW g1218 sh_33 (by decide) (ty_33 _) (i2.1) (Int.lt_of_le_of_lt i2.2 (by decide)) rfl (fun b1219 b1220 => ?_))
  have := DA_at h1210 q1217 (k := (a2.toNat)) (by omega)
  have _x15 := p1.2.2.2.2.2.2.1 (a2.toNat) (by omega)
  unfold xhB at _x15
  refine wp_of e134 c134_13 (rw_istore (pc' := 15) (z := H r1216 (a2.toNat)) (L' := [(4, vI (H r1216 (a2.toNat))), (3, vI (H r1211 (a2.toNat))), (0, .ref r0), (1, .ref r1), (2, vI a2)]) rfl rfl rfl ?_)
  refine wp_of e134 c134_15 (rw_aload_n (pc' := 16) (v := .ref r1) rfl rfl rfl ?_)
  refine wp_of e134 c134_16 (xg_R (pc' := 19) lf_4_78 hW g1 sh_27 (by decide) (by decide) ty_27_0 rfl rfl (fun r1221 q1222 g1223 => ?_))
  refine wp_of e134 c134_19 (rw_iload_n (pc' := 20) (z := H r1211 (a2.toNat)) rfl rfl ?_)
  refine wp_of e134 c134_20 (xa_R (pc' := 21) (by decide) hW g1223 sh_28 (by decide) (ty_28 _) (b1214) (Int.lt_of_le_of_lt b1215 (by decide)) rfl (fun r1224 q1225 g1226 => ?_))
  have _z := CS_at (hCU_r1).2.1 q1222 q1225 (k := ((H r1211 (a2.toNat))).toNat) (by omega) (by omega)
  have _l := @xsp_len d ((H r1211 (a2.toNat))).toNat (hCU_r1).2.1.1
  have h1227 : PS T H r1224 d ((H r1211 (a2.toNat))).toNat (xsp d ((H r1211 (a2.toNat))).toNat) := _z.1
  have _n := h1227.1
  have _kt : ((H r1211 (a2.toNat))).toNat = (d 14 (a2).toNat).toNat := by omega
  have _k3 : ((((H r1211 (a2.toNat))).toNat : Nat) : Int) < d 0 3 := by omega
  refine wp_of e134 c134_21 (rw_astore (pc' := 23) (v := .ref r1224) (L' := [(5, .ref r1224), (4, vI (H r1216 (a2.toNat))), (3, vI (H r1211 (a2.toNat))), (0, .ref r0), (1, .ref r1), (2, vI a2)]) rfl rfl rfl rfl ?_)
  refine wp_of e134 c134_23 (rw_iconst (pc' := 24) rfl ?_)
  refine wp_of e134 c134_24 (rw_istore (pc' := 26) (z := 0) (L' := [(6, vI 0), (5, .ref r1224), (4, vI (H r1216 (a2.toNat))), (3, vI (H r1211 (a2.toNat))), (0, .ref r0), (1, .ref r1), (2, vI a2)]) rfl rfl rfl ?_)
  have lp1396 : ∀ (n1397 : Nat) (v1399 : Int), (0 ≤ v1399 ∧ v1399 ≤ 40) → (v1399 ≤ ((xsp d ((H r1211 (a2.toNat))).toNat).length : Int)) → (∀ i : Nat, (i : Int) < v1399 → ¬ (0 < xhc e d ((H r1211 (a2.toNat))).toNat i (xlots d).toNat ∧ wq_and (xas d ((H r1211 (a2.toNat))).toNat ((xsp d ((H r1211 (a2.toNat))).toNat).getD i (0, 0))) (d 15 (a2).toNat) = d 15 (a2).toNat)) → (40 - v1399).toNat = n1397 → wp kt 0 134 26 [(6, vI v1399), (5, .ref r1224), (4, vI (H r1216 (a2.toNat))), (3, vI (H r1211 (a2.toNat))), (0, .ref r0)] [] T H (uq_134 r0 r1 a2 e d n T H) := by
    intro n1397
    induction n1397 using Nat.strongRecOn with
    | _ n1397 ih1398 =>
      intro v1399 b1402 x1404 x1405 m1403
      refine wp_of e134 c134_26 (rw_iload (pc' := 28) (z := v1399) rfl rfl ?_)
      refine wp_of e134 c134_28 (rw_aload (pc' := 30) (v := .ref r1224) rfl rfl rfl ?_)
      refine wp_of e134 c134_30 (xg_I (pc' := 33) lf_4_116 hW g1226 sh_35 (by decide) (by decide) ty_35_15 rfl rfl (fun b1406 b1407 => ?_))
      refine wp_of e134 c134_33 (rw_icmp_ge (p1 := 72) (p2 := 36) (by decide) rfl ⟨Int.le_trans (by decide) b1402.1, Int.le_trans b1402.2 (by decide)⟩ ⟨Int.le_trans (by decide) b1406, Int.le_trans b1407 (by decide)⟩ (fun c1408 => ?_) (fun c1408 => ?_))
      · have _z : ¬ XLX e d (a2).toNat (xlots d).toNat := XLX_n _kt p1.1 _k3 (by omega) (fun i hi => ‹∀ i : Nat, (i : Int) < v1399 → ¬ (0 < xhc e d ((H r1211 (a2.toNat))).toNat i (xlots d).toNat ∧ wq_and (xas d ((H r1211 (a2.toNat))).toNat ((xsp d ((H r1211 (a2.toNat))).toNat).getD i (0, 0))) (d 15 (a2).toNat) = d 15 (a2).toNat)› i (by omega))
        refine wp_of e134 c134_72 (rw_iconst (pc' := 73) rfl ?_)
        exact wp_zreturn e134 c134_73 rfl (by omega) ⟨rfl, rfl, 0, rfl, ⟨by decide, by decide⟩, (Or.inr ⟨by omega, _z⟩)⟩
      · refine wp_of e134 c134_36 (rw_aload_n (pc' := 37) (v := .ref r0) rfl rfl rfl ?_)
        refine wp_of e134 c134_37 (xg_R (pc' := 40) lf_4_17 hW g0 sh_12 (by decide) (by decide) ty_12_1 rfl rfl (fun r1409 q1410 g1411 => ?_))
        refine wp_of e134 c134_40 (rw_iload_n (pc' := 41) (z := H r1211 (a2.toNat)) rfl rfl ?_)
        refine wp_of e134 c134_41 (xa_R (pc' := 42) (by decide) hW g1411 sh_14 (by decide) (ty_14 _) (b1214) (Int.lt_of_le_of_lt b1215 (by decide)) rfl (fun r1412 q1413 g1414 => ?_))
        refine wp_of e134 c134_42 (rw_iload (pc' := 44) (z := v1399) rfl rfl ?_)
        have _hl : H r1412 (v1399).toNat = xhc e d ((H r1211 (a2.toNat))).toNat (v1399).toNat (xlots d).toNat := hHV1_r0 _ _ ((H r1211 (a2.toNat))).toNat (v1399).toNat q1410 (by omega) (by omega) (by omega) q1413
        refine wp_of e134 c134_44 (xa_I (so := 0) (pc' := 45) hW g1414 sh_15 (by decide) (ty_15 _) (b1402.1) (by omega) rfl (fun b1415 b1416 => ?_))
        refine wp_of e134 c134_45 (rw_if_le (p1 := 66) (p2 := 48) (by decide) rfl ⟨b1415, b1416⟩ (fun c1417 => ?_) (fun c1417 => ?_))
        · refine wp_of e134 c134_66 (rw_iinc (pc' := 69) (z := v1399) (L' := [(6, vI (v1399 + 1)), (5, .ref r1224), (4, vI (H r1216 (a2.toNat))), (3, vI (H r1211 (a2.toNat))), (0, .ref r0)]) rfl rfl rfl rfl ?_)
          refine wp_of e134 c134_69 (rw_goto (p1 := 26) (by decide) ?_)
          exact wp_lc (ks := [6, 5, 4, 3, 0]) (wl_c rfl (wl_c rfl (wl_c rfl (wl_c rfl (wl_c rfl wl_n))))) rfl (by decide) (ih1398 _ (by omega) (v1399 + 1) ⟨by omega, by omega⟩ (by omega) (fun i hi => by
            by_cases c0 : (i : Int) < v1399
            · exact ‹∀ i : Nat, (i : Int) < v1399 → ¬ (0 < xhc e d ((H r1211 (a2.toNat))).toNat i (xlots d).toNat ∧ wq_and (xas d ((H r1211 (a2.toNat))).toNat ((xsp d ((H r1211 (a2.toNat))).toNat).getD i (0, 0))) (d 15 (a2).toNat) = d 15 (a2).toNat)› i c0
            · rw [show i = (v1399).toNat by omega]
              first | exact fun c9 => by have := c9.1; omega | exact fun c9 => by have := _xe.trans c9.2; omega) rfl)
        · refine wp_of e134 c134_48 (rw_aload (pc' := 50) (v := .ref r1224) rfl rfl rfl ?_)
          refine wp_of e134 c134_50 (xg_R (pc' := 53) lf_4_138 hW g1226 sh_35 (by decide) (by decide) ty_35_2 rfl rfl (fun r1418 q1419 g1420 => ?_))
          refine wp_of e134 c134_53 (rw_iload (pc' := 55) (z := v1399) rfl rfl ?_)
          have _a := DA_at (h1227).2.2.2.1 q1419 (k := (v1399).toNat) (by omega)
          have _x : xr3 d ((H r1211 (a2.toNat))).toNat (xsp d ((H r1211 (a2.toNat))).toNat) (v1399).toNat = xas d ((H r1211 (a2.toNat))).toNat ((xsp d ((H r1211 (a2.toNat))).toNat).getD (v1399).toNat (0, 0)) := rfl
          refine wp_of e134 c134_55 (xa_I (so := 0) (pc' := 56) hW g1420 sh_38 (by decide) (ty_38 _) (b1402.1) (by omega) rfl (fun b1421 b1422 => ?_))
          refine wp_of e134 c134_56 (rw_iload (pc' := 58) (z := H r1216 (a2.toNat)) rfl rfl ?_)
          refine wp_of e134 c134_58 (rw_iand (pc' := 59) rfl ?_)
          obtain ⟨v1423, e1424⟩ : ∃ x : Int, x = wq_and (H r1418 (v1399.toNat)) (H r1216 (a2.toNat)) := ⟨_, rfl⟩
          rw [← e1424]
          have b1425 : -2147483648 ≤ v1423 ∧ v1423 ≤ 2147483647 := by
            rw [e1424]
            exact wI_and _ _
          refine wp_of e134 c134_59 (rw_iload (pc' := 61) (z := H r1216 (a2.toNat)) rfl rfl ?_)
          have _xe : v1423 = wq_and (xas d ((H r1211 (a2.toNat))).toNat ((xsp d ((H r1211 (a2.toNat))).toNat).getD (v1399).toNat (0, 0))) (d 15 (a2).toNat) := by
            rw [e1424, show H r1418 (v1399.toNat) = xas d ((H r1211 (a2.toNat))).toNat ((xsp d ((H r1211 (a2.toNat))).toNat).getD (v1399).toNat (0, 0)) by omega, show (H r1216 (a2.toNat)) = d 15 (a2).toNat by omega]
          refine wp_of e134 c134_61 (rw_icmp_ne (p1 := 66) (p2 := 64) (by decide) rfl ⟨b1425.1, b1425.2⟩ ⟨b1219, b1220⟩ (fun c1426 => ?_) (fun c1426 => ?_))
          · refine wp_of e134 c134_66 (rw_iinc (pc' := 69) (z := v1399) (L' := [(6, vI (v1399 + 1)), (5, .ref r1224), (4, vI (H r1216 (a2.toNat))), (3, vI (H r1211 (a2.toNat))), (0, .ref r0)]) rfl rfl rfl rfl ?_)
            refine wp_of e134 c134_69 (rw_goto (p1 := 26) (by decide) ?_)
            exact wp_lc (ks := [6, 5, 4, 3, 0]) (wl_c rfl (wl_c rfl (wl_c rfl (wl_c rfl (wl_c rfl wl_n))))) rfl (by decide) (ih1398 _ (by omega) (v1399 + 1) ⟨by omega, by omega⟩ (by omega) (fun i hi => by
              by_cases c0 : (i : Int) < v1399
              · exact ‹∀ i : Nat, (i : Int) < v1399 → ¬ (0 < xhc e d ((H r1211 (a2.toNat))).toNat i (xlots d).toNat ∧ wq_and (xas d ((H r1211 (a2.toNat))).toNat ((xsp d ((H r1211 (a2.toNat))).toNat).getD i (0, 0))) (d 15 (a2).toNat) = d 15 (a2).toNat)› i c0
              · rw [show i = (v1399).toNat by omega]
                first | exact fun c9 => by have := c9.1; omega | exact fun c9 => by have := _xe.trans c9.2; omega) rfl)
          · have _z : XLX e d (a2).toNat (xlots d).toNat := XLX_y (i := (v1399).toNat) _kt (by omega) (by rw [← _xe]; omega)
            refine wp_of e134 c134_64 (rw_iconst (pc' := 65) rfl ?_)
            exact wp_zreturn e134 c134_65 rfl (by omega) ⟨rfl, rfl, 1, rfl, ⟨by decide, by decide⟩, (Or.inl ⟨by omega, _z⟩)⟩
  exact wp_lc (ks := [6, 5, 4, 3, 0, 1, 2]) (wl_c rfl (wl_c rfl (wl_c rfl (wl_c rfl (wl_c rfl wl_n))))) rfl (by decide) (lp1396 _ 0 ⟨by decide, by decide⟩ (by omega) (fun i hi => by omega) rfl)
/-! StrikeAwake$Census.nextFrom(ILStrikeAwake$Parish;)I  -/
abbrev uq_124 (r0 : Nat) (a1 : Int) (r2 : Nat) (e : xD) (d : xD) (n : Int) (T : wq_T) (H : wq_H) : Option Value → wq_T → wq_H → Prop := fun r T' H' => T = T' ∧ H = H' ∧ ∃ z : Int, some (vI z) = r ∧ ((-1) ≤ z ∧ z ≤ 19999) ∧ (((XNX (xwf e d) (xlots d).toNat a1 z)))
set_option maxHeartbeats 4000000 in
theorem u_124 {kt : Nat → Option mc_E} {T : wq_T} {H : wq_H} {r0 : Nat} {a1 : Int} {r2 : Nat} {e : xD} {d : xD} {n : Int} (hW : WT T H) (g0 : T.2.2.2 r0 = some 12) (i1 : 0 ≤ a1 ∧ a1 ≤ 2147483647) (g2 : T.2.2.2 r2 = some 27) (p0 : ∀ i, i ≠ 13 → e i = d i) (p1 : XW d) (p2 : e 0 3 = d 0 3) (p3 : n = xlots d) (p4 : n ≤ 20000) (hCU_r2 : CU T H r2 e d n) (hCEM_r0 : CEM T H r0 (xwf e d) (xlots d).toNat) : wpc kt 2 124 [.ref r0, vI a1, .ref r2] T H (uq_124 r0 a1 r2 e d n T H) := by
  refine wp_enter e124 (Nat.le_of_ble_eq_true rfl) rfl ?_
  show wp _ _ 124 0 [(0, .ref r0), (1, vI a1), (2, .ref r2)] [] _ H _
  have u1047 := CU_k hCU_r2
  have b1048 : (-9223372036854775808) ≤ H r2 18 ∧ H r2 18 ≤ 9223372036854775807 := hW.box g2 (n := 19) rfl (by decide) rfl
  have _k := CU_k hCU_r2
  have _xc := p1.2.1
  unfold XC at _xc
  have _d0 := p0 0 (by decide)
  have _e3 : e 0 3 = d 0 3 := by rw [_d0]
  have _e4 : e 0 4 = d 0 4 := by rw [_d0]
  have _e5 : e 0 5 = d 0 5 := by rw [_d0]
  have _c18 := hCU_r2.2.2
  have _x0 : 0 ≤ xlots d := (xpr_b hCU_r2.2.1.1 _ _).1
  refine wp_of e124 c124_0 (rw_iload_n (pc' := 1) (z := a1) rfl rfl ?_)
  refine wp_of e124 c124_1 (rw_istore_n (pc' := 2) (z := a1) (L' := [(3, vI a1), (0, .ref r0), (1, vI a1), (2, .ref r2)]) rfl rfl rfl ?_)
  have lp1072 : ∀ (n1073 : Nat) (v1075 : Int), (0 ≤ v1075 ∧ v1075 ≤ 2147483647) → (a1 ≤ v1075) → ((∀ j : Nat, a1 ≤ (j : Int) → (j : Int) < v1075 → xwf e d j ≤ 0)) → (2147483647 - v1075).toNat = n1073 → wp kt 1 124 2 [(3, vI v1075), (0, .ref r0), (2, .ref r2)] [] T H (uq_124 r0 a1 r2 e d n T H) := by
    intro n1073
    induction n1073 using Nat.strongRecOn with
    | _ n1073 ih1074 =>
      intro v1075 b1078 x1080 x1081 m1079
      refine wp_of e124 c124_2 (rw_iload_n (pc' := 3) (z := v1075) rfl rfl ?_)
      refine wp_of e124 c124_3 (rw_i2l (pc' := 4) rfl ⟨Int.le_trans (by decide) b1078.1, b1078.2⟩ ?_)
      refine wp_of e124 c124_4 (rw_aload_n (pc' := 5) (v := .ref r2) rfl rfl rfl ?_)
      refine wp_of e124 c124_5 (xg_L (pc' := 8) lf_4_45 hW g2 sh_27 (by decide) (by decide) ty_27_18 rfl rfl (fun b1082 b1083 => ?_))
      refine wp_of e124 c124_8 (rw_lcmp (pc' := 9) rfl ⟨Int.le_trans (by decide) b1078.1, Int.le_trans b1078.2 (by decide)⟩ ⟨b1082, b1083⟩ ?_)
      have b1084 := wq_cmp_b v1075 (H r2 18)
      refine wp_of e124 c124_9 (rw_if_ge (p1 := 35) (p2 := 12) (by decide) rfl ⟨by omega, by omega⟩ (fun c1085 => ?_) (fun c1085 => ?_))
      · have _z : XNX (xwf e d) (xlots d).toNat a1 (-1) := Or.inl ⟨rfl, fun j h1 h2 => ‹(∀ j : Nat, a1 ≤ (j : Int) → (j : Int) < v1075 → xwf e d j ≤ 0)› j h1 (by omega)⟩
        refine wp_of e124 c124_35 (rw_iconst (pc' := 36) rfl ?_)
        exact wp_ireturn e124 c124_36 rfl ⟨rfl, rfl, -1, rfl, ⟨by decide, by decide⟩, (_z)⟩
      · refine wp_of e124 c124_12 (rw_iload_n (pc' := 13) (z := v1075) rfl rfl ?_)
        refine wp_of e124 c124_13 (rw_sipush (pc' := 16) (z := 20000) rfl (by decide) ?_)
        refine wp_of e124 c124_16 (rw_icmp_ge (p1 := 35) (p2 := 19) (by decide) rfl ⟨Int.le_trans (by decide) b1078.1, b1078.2⟩ ⟨by decide, by decide⟩ (fun c1086 => ?_) (fun c1086 => ?_))
        · have _z : XNX (xwf e d) (xlots d).toNat a1 (-1) := Or.inl ⟨rfl, fun j h1 h2 => ‹(∀ j : Nat, a1 ≤ (j : Int) → (j : Int) < v1075 → xwf e d j ≤ 0)› j h1 (by omega)⟩
          refine wp_of e124 c124_35 (rw_iconst (pc' := 36) rfl ?_)
          exact wp_ireturn e124 c124_36 rfl ⟨rfl, rfl, -1, rfl, ⟨by decide, by decide⟩, (_z)⟩
        · refine wp_of e124 c124_19 (rw_aload_n (pc' := 20) (v := .ref r0) rfl rfl rfl ?_)
          refine wp_of e124 c124_20 (rw_iload_n (pc' := 21) (z := v1075) rfl rfl ?_)
          refine wp_of e124 c124_21 (xc_V (pc' := 24) (r := r0) (as := [vI v1075]) (st := []) (lm_4_113) rfl rfl (Nat.le_of_ble_eq_true rfl) hW g0 sh_12 (by decide) rfl (by decide) (u_95 (f := ((xwf e d))) (N := ((xlots d).toNat)) hW g0 ⟨b1078.1, by omega⟩ hCEM_r0) (fun R1087 T1088 H1089 p1090 => ?_))
          obtain ⟨e1091, e1093, z1094, e1092, b1095, p1096⟩ := p1090
          subst e1091
          subst e1092
          subst e1093
          rcases p1096 with ⟨a1097, a1098, a1099⟩ | ⟨a1100, a1101⟩
          · show wp _ _ 124 24 [(3, vI v1075), (0, .ref r0), (2, .ref r2)] [vI z1094] _ H _
            refine wp_of e124 c124_24 (rw_if_eq (p1 := 29) (p2 := 27) (by decide) rfl ⟨Int.le_trans (by decide) b1095.1, Int.le_trans b1095.2 (by decide)⟩ (fun c1102 => ?_) (fun c1102 => ?_))
            · exfalso
              omega
            · have _z : XNX (xwf e d) (xlots d).toNat a1 v1075 := Or.inr ⟨by omega, by omega, by omega, by omega, by assumption⟩
              refine wp_of e124 c124_27 (rw_iload_n (pc' := 28) (z := v1075) rfl rfl ?_)
              exact wp_ireturn e124 c124_28 rfl ⟨rfl, rfl, v1075, rfl, ⟨Int.le_trans (by decide) b1078.1, by omega⟩, (_z)⟩
          · show wp _ _ 124 24 [(3, vI v1075), (0, .ref r0), (2, .ref r2)] [vI z1094] _ H _
            refine wp_of e124 c124_24 (rw_if_eq (p1 := 29) (p2 := 27) (by decide) rfl ⟨Int.le_trans (by decide) b1095.1, Int.le_trans b1095.2 (by decide)⟩ (fun c1103 => ?_) (fun c1103 => ?_))
            · refine wp_of e124 c124_29 (rw_iinc (pc' := 32) (z := v1075) (L' := [(3, vI (v1075 + 1)), (0, .ref r0), (2, .ref r2)]) rfl rfl rfl rfl ?_)
              refine wp_of e124 c124_32 (rw_goto (p1 := 2) (by decide) ?_)
              exact wp_lc (ks := [3, 0, 2]) (wl_c rfl (wl_c rfl (wl_c rfl wl_n))) rfl (by decide) (ih1074 _ (by omega) (v1075 + 1) ⟨by omega, by omega⟩ (by omega) (fun j h1 h2 => by
                by_cases c0 : (j : Int) < v1075
                · exact ‹(∀ j : Nat, a1 ≤ (j : Int) → (j : Int) < v1075 → xwf e d j ≤ 0)› j h1 c0
                · rw [show j = (v1075).toNat by omega]
                  omega) rfl)
            · exfalso
              omega
  exact wp_lc (ks := [3, 0, 1, 2]) (wl_c rfl (wl_c rfl (wl_c rfl wl_n))) rfl (by decide) (lp1072 _ a1 ⟨i1.1, i1.2⟩ (by omega) (fun j h1 h2 => by omega) rfl)
/-! java/lang/Integer.bitCount(I)I  -/
abbrev uq_126 (a0 : Int) (T : wq_T) (H : wq_H) : Option Value → wq_T → wq_H → Prop := fun r T' H' => T = T' ∧ H = H' ∧ ∃ z : Int, some (vI z) = r ∧ (0 ≤ z ∧ z ≤ 32) ∧ (((z = ((nbf 24 (a0).toNat : Nat) : Int))))
set_option maxHeartbeats 4000000 in
theorem u_126 {kt : Nat → Option mc_E} {T : wq_T} {H : wq_H} {a0 : Int} (hW : WT T H) (i0 : 0 ≤ a0 ∧ a0 ≤ 16777215) (p0 : nbf 24 (a0).toNat ≤ 3) : wpc kt 1 126 [vI a0] T H (uq_126 a0 T H) := by
  refine wp_enter e126 (Nat.le_of_ble_eq_true rfl) rfl ?_
  show wp _ _ 126 0 [(0, vI a0)] [] _ H _
  refine wp_of e126 c126_0 (rw_iload_n (pc' := 1) (z := a0) rfl rfl ?_)
  refine wp_of e126 c126_1 (rw_iload_n (pc' := 2) (z := a0) rfl rfl ?_)
  refine wp_of e126 c126_2 (rw_iconst (pc' := 3) rfl ?_)
  refine wp_of e126 c126_3 (rw_iushr (pc' := 4) rfl ?_)
  obtain ⟨v1027, e1028⟩ : ∃ x : Int, x = wq_ushr a0 1 := ⟨_, rfl⟩
  rw [← e1028]
  have b1029 : -2147483648 ≤ v1027 ∧ v1027 ≤ 2147483647 := by
    rw [e1028]
    exact wI_ushr _ _
  refine wp_of e126 c126_4 (rw_ldc_wI (pc' := 7) (z := 1431655765) rfl rfl rfl ?_)
  refine wp_of e126 c126_7 (rw_iand (pc' := 8) rfl ?_)
  obtain ⟨v1030, e1031⟩ : ∃ x : Int, x = wq_and v1027 1431655765 := ⟨_, rfl⟩
  rw [← e1031]
  have b1032 : 0 ≤ v1030 ∧ v1030 ≤ 1431655765 := by
    rw [e1031]
    exact wq_and_b _ (by omega) (by omega)
  refine wp_of e126 c126_8 (rw_isub (pc' := 9) rfl ?_)
  refine wp_of e126 c126_9 (rw_istore_n (pc' := 10) (z := a0 - v1030) (L' := [(0, vI (a0 - v1030))]) rfl rfl rfl ?_)
  refine wp_of e126 c126_10 (rw_iload_n (pc' := 11) (z := a0 - v1030) rfl rfl ?_)
  refine wp_of e126 c126_11 (rw_ldc_wI (pc' := 14) (z := 858993459) rfl rfl rfl ?_)
  refine wp_of e126 c126_14 (rw_iand (pc' := 15) rfl ?_)
  obtain ⟨v1033, e1034⟩ : ∃ x : Int, x = wq_and (a0 - v1030) 858993459 := ⟨_, rfl⟩
  rw [← e1034]
  have b1035 : 0 ≤ v1033 ∧ v1033 ≤ 858993459 := by
    rw [e1034]
    exact wq_and_b _ (by omega) (by omega)
  refine wp_of e126 c126_15 (rw_iload_n (pc' := 16) (z := a0 - v1030) rfl rfl ?_)
  refine wp_of e126 c126_16 (rw_iconst (pc' := 17) rfl ?_)
  refine wp_of e126 c126_17 (rw_iushr (pc' := 18) rfl ?_)
  obtain ⟨v1036, e1037⟩ : ∃ x : Int, x = wq_ushr (a0 - v1030) 2 := ⟨_, rfl⟩
  rw [← e1037]
  have b1038 : -2147483648 ≤ v1036 ∧ v1036 ≤ 2147483647 := by
    rw [e1037]
    exact wI_ushr _ _
  refine wp_of e126 c126_18 (rw_ldc_wI (pc' := 21) (z := 858993459) rfl rfl rfl ?_)
  refine wp_of e126 c126_21 (rw_iand (pc' := 22) rfl ?_)
  obtain ⟨v1039, e1040⟩ : ∃ x : Int, x = wq_and v1036 858993459 := ⟨_, rfl⟩
  rw [← e1040]
  have b1041 : 0 ≤ v1039 ∧ v1039 ≤ 858993459 := by
    rw [e1040]
    exact wq_and_b _ (by omega) (by omega)
  refine wp_of e126 c126_22 (rw_iadd (pc' := 23) rfl ?_)
  refine wp_of e126 c126_23 (rw_istore_n (pc' := 24) (z := v1033 + v1039) (L' := [(0, vI (v1033 + v1039))]) rfl rfl rfl ?_)
  refine wp_of e126 c126_24 (rw_iload_n (pc' := 25) (z := v1033 + v1039) rfl rfl ?_)
  refine wp_of e126 c126_25 (rw_iload_n (pc' := 26) (z := v1033 + v1039) rfl rfl ?_)
  refine wp_of e126 c126_26 (rw_iconst (pc' := 27) rfl ?_)
  refine wp_of e126 c126_27 (rw_iushr (pc' := 28) rfl ?_)
  obtain ⟨v1042, e1043⟩ : ∃ x : Int, x = wq_ushr (v1033 + v1039) 4 := ⟨_, rfl⟩
  rw [← e1043]
  have b1044 : -2147483648 ≤ v1042 ∧ v1042 ≤ 2147483647 := by
    rw [e1043]
    exact wI_ushr _ _
  refine wp_of e126 c126_28 (rw_iaddw (pc' := 29) rfl ?_)
  obtain ⟨v1045, e1046⟩ : ∃ x : Int, x = wq_w ((v1033 + v1039) + v1042) := ⟨_, rfl⟩
  rw [← e1046]
  have b1047 : -2147483648 ≤ v1045 ∧ v1045 ≤ 2147483647 := by
    rw [e1046]
    exact wI_w _
  have b1048 : (-2147483648 ≤ (v1033 + v1039) + v1042 ∧ (v1033 + v1039) + v1042 ≤ 2147483647) → v1045 = (v1033 + v1039) + v1042 := fun h => by rw [e1046]; exact wq_w_id h
  refine wp_of e126 c126_29 (rw_ldc_wI (pc' := 32) (z := 252645135) rfl rfl rfl ?_)
  refine wp_of e126 c126_32 (rw_iand (pc' := 33) rfl ?_)
  obtain ⟨v1049, e1050⟩ : ∃ x : Int, x = wq_and v1045 252645135 := ⟨_, rfl⟩
  rw [← e1050]
  have b1051 : 0 ≤ v1049 ∧ v1049 ≤ 252645135 := by
    rw [e1050]
    exact wq_and_b _ (by omega) (by omega)
  refine wp_of e126 c126_33 (rw_istore_n (pc' := 34) (z := v1049) (L' := [(0, vI v1049)]) rfl rfl rfl ?_)
  refine wp_of e126 c126_34 (rw_iload_n (pc' := 35) (z := v1049) rfl rfl ?_)
  refine wp_of e126 c126_35 (rw_iload_n (pc' := 36) (z := v1049) rfl rfl ?_)
  refine wp_of e126 c126_36 (rw_bipush (pc' := 38) (z := 8) rfl (by decide) ?_)
  refine wp_of e126 c126_38 (rw_iushr (pc' := 39) rfl ?_)
  obtain ⟨v1052, e1053⟩ : ∃ x : Int, x = wq_ushr v1049 8 := ⟨_, rfl⟩
  rw [← e1053]
  have b1054 : -2147483648 ≤ v1052 ∧ v1052 ≤ 2147483647 := by
    rw [e1053]
    exact wI_ushr _ _
  refine wp_of e126 c126_39 (rw_iaddw (pc' := 40) rfl ?_)
  obtain ⟨v1055, e1056⟩ : ∃ x : Int, x = wq_w (v1049 + v1052) := ⟨_, rfl⟩
  rw [← e1056]
  have b1057 : -2147483648 ≤ v1055 ∧ v1055 ≤ 2147483647 := by
    rw [e1056]
    exact wI_w _
  have b1058 : (-2147483648 ≤ v1049 + v1052 ∧ v1049 + v1052 ≤ 2147483647) → v1055 = v1049 + v1052 := fun h => by rw [e1056]; exact wq_w_id h
  refine wp_of e126 c126_40 (rw_istore_n (pc' := 41) (z := v1055) (L' := [(0, vI v1055)]) rfl rfl rfl ?_)
  refine wp_of e126 c126_41 (rw_iload_n (pc' := 42) (z := v1055) rfl rfl ?_)
  refine wp_of e126 c126_42 (rw_iload_n (pc' := 43) (z := v1055) rfl rfl ?_)
  refine wp_of e126 c126_43 (rw_bipush (pc' := 45) (z := 16) rfl (by decide) ?_)
  refine wp_of e126 c126_45 (rw_iushr (pc' := 46) rfl ?_)
  obtain ⟨v1059, e1060⟩ : ∃ x : Int, x = wq_ushr v1055 16 := ⟨_, rfl⟩
  rw [← e1060]
  have b1061 : -2147483648 ≤ v1059 ∧ v1059 ≤ 2147483647 := by
    rw [e1060]
    exact wI_ushr _ _
  refine wp_of e126 c126_46 (rw_iaddw (pc' := 47) rfl ?_)
  obtain ⟨v1062, e1063⟩ : ∃ x : Int, x = wq_w (v1055 + v1059) := ⟨_, rfl⟩
  rw [← e1063]
  have b1064 : -2147483648 ≤ v1062 ∧ v1062 ≤ 2147483647 := by
    rw [e1063]
    exact wI_w _
  have b1065 : (-2147483648 ≤ v1055 + v1059 ∧ v1055 + v1059 ≤ 2147483647) → v1062 = v1055 + v1059 := fun h => by rw [e1063]; exact wq_w_id h
  refine wp_of e126 c126_47 (rw_istore_n (pc' := 48) (z := v1062) (L' := [(0, vI v1062)]) rfl rfl rfl ?_)
  refine wp_of e126 c126_48 (rw_iload_n (pc' := 49) (z := v1062) rfl rfl ?_)
  refine wp_of e126 c126_49 (rw_bipush (pc' := 51) (z := 63) rfl (by decide) ?_)
  refine wp_of e126 c126_51 (rw_iand (pc' := 52) rfl ?_)
  obtain ⟨v1066, e1067⟩ : ∃ x : Int, x = wq_and v1062 63 := ⟨_, rfl⟩
  rw [← e1067]
  have b1068 : 0 ≤ v1066 ∧ v1066 ≤ 63 := by
    rw [e1067]
    exact wq_and_b _ (by omega) (by omega)
  have _z : v1066 = ((nbf 24 (a0).toNat : Nat) : Int) := by
    rw [e1067, e1063, e1060, e1056, e1053, e1050, e1046, e1043, e1040, e1037, e1034, e1031, e1028]
    have all : (xg 24 3).all (fun n => decide ((wq_and (wq_w ((wq_w ((wq_and (wq_w (((wq_and ((n : Int) - (wq_and (wq_ushr (n : Int) 1) 1431655765)) 858993459) + (wq_and (wq_ushr ((n : Int) - (wq_and (wq_ushr (n : Int) 1) 1431655765)) 2) 858993459)) + (wq_ushr ((wq_and ((n : Int) - (wq_and (wq_ushr (n : Int) 1) 1431655765)) 858993459) + (wq_and (wq_ushr ((n : Int) - (wq_and (wq_ushr (n : Int) 1) 1431655765)) 2) 858993459)) 4))) 252645135) + (wq_ushr (wq_and (wq_w (((wq_and ((n : Int) - (wq_and (wq_ushr (n : Int) 1) 1431655765)) 858993459) + (wq_and (wq_ushr ((n : Int) - (wq_and (wq_ushr (n : Int) 1) 1431655765)) 2) 858993459)) + (wq_ushr ((wq_and ((n : Int) - (wq_and (wq_ushr (n : Int) 1) 1431655765)) 858993459) + (wq_and (wq_ushr ((n : Int) - (wq_and (wq_ushr (n : Int) 1) 1431655765)) 2) 858993459)) 4))) 252645135) 8))) + (wq_ushr (wq_w ((wq_and (wq_w (((wq_and ((n : Int) - (wq_and (wq_ushr (n : Int) 1) 1431655765)) 858993459) + (wq_and (wq_ushr ((n : Int) - (wq_and (wq_ushr (n : Int) 1) 1431655765)) 2) 858993459)) + (wq_ushr ((wq_and ((n : Int) - (wq_and (wq_ushr (n : Int) 1) 1431655765)) 858993459) + (wq_and (wq_ushr ((n : Int) - (wq_and (wq_ushr (n : Int) 1) 1431655765)) 2) 858993459)) 4))) 252645135) + (wq_ushr (wq_and (wq_w (((wq_and ((n : Int) - (wq_and (wq_ushr (n : Int) 1) 1431655765)) 858993459) + (wq_and (wq_ushr ((n : Int) - (wq_and (wq_ushr (n : Int) 1) 1431655765)) 2) 858993459)) + (wq_ushr ((wq_and ((n : Int) - (wq_and (wq_ushr (n : Int) 1) 1431655765)) 858993459) + (wq_and (wq_ushr ((n : Int) - (wq_and (wq_ushr (n : Int) 1) 1431655765)) 2) 858993459)) 4))) 252645135) 8))) 16))) 63) = ((nbf 24 n : Nat) : Int))) = true := by decide +kernel
    have h := of_decide_eq_true (List.all_eq_true.mp all (a0).toNat (xg_mem 24 3 (a0).toNat (by have : (2 : Nat) ^ 24 = 16777216 := by decide
                                                                                                omega) p0))
    rw [Int.toNat_of_nonneg (by omega)] at h
    exact h
  exact wp_ireturn e126 c126_52 rfl ⟨rfl, rfl, v1066, rfl, ⟨b1068.1, by omega⟩, (by assumption)⟩
/-! StrikeAwake$Grounds.flawsOf(LStrikeAwake$Parish;LStrikeAwake$Walk;)J  -/
abbrev uq_140 (r0 : Nat) (r1 : Nat) (e : xD) (d : xD) (n : Int) (g : Nat → Int) (T : wq_T) (H : wq_H) : Option Value → wq_T → wq_H → Prop := fun r T' H' => T = T' ∧ H = H' ∧ ∃ z : Int, some (vL z) = r ∧ ((-9223372036854775808) ≤ z ∧ z ≤ 9223372036854775807) ∧ (((z = xfZ (xvy e d g) 24)))
set_option maxHeartbeats 4000000 in
theorem u_140 {kt : Nat → Option mc_E} {T : wq_T} {H : wq_H} {r0 : Nat} {r1 : Nat} {e : xD} {d : xD} {n : Int} {g : Nat → Int} (hW : WT T H) (g0 : T.2.2.2 r0 = some 27) (g1 : T.2.2.2 r1 = some 6) (p0 : ∀ i, i ≠ 13 → e i = d i) (p1 : XW d) (p2 : e 0 3 = d 0 3) (p3 : e 0 0 = d 0 0) (hCU_r0 : CU T H r0 e d n) (hWR_r1 : WR T H r1 d g) : wpc kt 2 140 [.ref r0, .ref r1] T H (uq_140 r0 r1 e d n g T H) := by
  refine wp_enter e140 (Nat.le_of_ble_eq_true rfl) rfl ?_
  show wp _ _ 140 0 [(0, .ref r0), (1, .ref r1)] [] _ H _
  have u1380 := CU_k hCU_r0
  have b1381 : 0 ≤ H r0 16 ∧ H r0 16 ≤ 24 := hW.box g0 (n := 19) rfl (by decide) rfl
  have h1382 : ST T H r0 (e 13) := hCU_r0.1.2.2.1
  have h1383 : SV T H r0 (e 13) 24 := hCU_r0.1.2.2.2.1
  have _k := CU_k hCU_r0
  have _xc := p1.2.1
  unfold XC at _xc
  have _d0 := p0 0 (by decide)
  have _e3 : e 0 3 = d 0 3 := by rw [_d0]
  have _e4 : e 0 4 = d 0 4 := by rw [_d0]
  have _e5 : e 0 5 = d 0 5 := by rw [_d0]
  have _w5 := hWR_r1.1
  have _c16 := hCU_r0.1.1.2.2.2.2.2.2.2.2.2.2.2.1
  refine wp_of e140 c140_0 (rw_lconst (pc' := 1) (z := 0) rfl rfl ?_)
  refine wp_of e140 c140_1 (rw_lstore_n (pc' := 2) (z := 0) (L' := [(2, vL 0), (0, .ref r0), (1, .ref r1)]) rfl rfl rfl ?_)
  refine wp_of e140 c140_2 (rw_iconst (pc' := 3) rfl ?_)
  refine wp_of e140 c140_3 (rw_istore (pc' := 5) (z := 0) (L' := [(4, vI 0), (2, vL 0), (0, .ref r0), (1, .ref r1)]) rfl rfl rfl ?_)
  have lp1720 : ∀ (n1721 : Nat) (v1723 : Int) (v1724 : Int) (u1725 : Nat), (0 ≤ v1723 ∧ v1723 ≤ 24) → ((-9223372036854775808) ≤ v1724 ∧ v1724 ≤ 9223372036854775807) → (u1725 ≤ 24) → (xcn (e 13) u1725 = v1723) → (v1724 = xfZ (xvy e d g) u1725) → (24 - v1723).toNat = n1721 → wp kt 1 140 5 [(4, vI v1723), (2, vL v1724), (0, .ref r0), (1, .ref r1)] [] T H (uq_140 r0 r1 e d n g T H) := by
    intro n1721
    induction n1721 using Nat.strongRecOn with
    | _ n1721 ih1722 =>
      intro v1723 v1724 u1725 b1728 b1729 x1731 x1732 x1733 m1730
      refine wp_of e140 c140_5 (rw_iload (pc' := 7) (z := v1723) rfl rfl ?_)
      refine wp_of e140 c140_7 (rw_aload_n (pc' := 8) (v := .ref r0) rfl rfl rfl ?_)
      refine wp_of e140 c140_8 (xg_I (pc' := 11) lf_6_88 hW g0 sh_27 (by decide) (by decide) ty_27_16 rfl rfl (fun b1734 b1735 => ?_))
      refine wp_of e140 c140_11 (rw_icmp_ge (p1 := 75) (p2 := 14) (by decide) rfl ⟨Int.le_trans (by decide) b1728.1, Int.le_trans b1728.2 (by decide)⟩ ⟨Int.le_trans (by decide) b1734, Int.le_trans b1735 (by decide)⟩ (fun c1736 => ?_) (fun c1736 => ?_))
      · have _z : v1724 = xfZ (xvy e d g) 24 := by
          rw [xfZ_gap (u := u1725) (h := 24) (by omega) (fun j p q => xvy_0 (by have := xcn_mono (f := e 13) (m := u1725) j p; have := xcn_lt (f := e 13) (m := j) (n := 24) q; omega))]
          assumption
        refine wp_of e140 c140_75 (rw_lload_n (pc' := 76) (z := v1724) rfl rfl ?_)
        exact wp_lreturn e140 c140_76 rfl ⟨rfl, rfl, v1724, rfl, ⟨b1729.1, b1729.2⟩, (_z)⟩
      · obtain ⟨h9, _a, _b, _c, _e, _f⟩ := xcn_nx (f := e 13) (u := u1725) 24 (by omega) (by omega)
        have _zq : ∀ j : Nat, u1725 ≤ j → j < h9 → xvy e d g j = 0 := fun j p q => xvy_0 (_f j p q)
        have _n : xcn (e 13) (h9 + 1) = xcn (e 13) h9 + 1 := by
          show xcn (e 13) h9 + (if e 13 h9 > 0 then 1 else 0) = _
          rw [if_pos _c]
        have _yb := xvy_b (e := e) (d := d) (g := g) (h := h9)
        refine wp_of e140 c140_14 (rw_aload_n (pc' := 15) (v := .ref r0) rfl rfl rfl ?_)
        refine wp_of e140 c140_15 (xg_R (pc' := 18) lf_6_91 hW g0 sh_27 (by decide) (by decide) ty_27_2 rfl rfl (fun r1737 q1738 g1739 => ?_))
        refine wp_of e140 c140_18 (rw_iload (pc' := 20) (z := v1723) rfl rfl ?_)
        refine wp_of e140 c140_20 (xa_I (so := 0) (pc' := 21) hW g1739 sh_30 (by decide) (ty_30 _) (b1728.1) (by omega) rfl (fun b1740 b1741 => ?_))
        have _v := SV_at h1383 q1738 (h := h9) (by omega) _c
        rw [show xcn (e 13) h9 = v1723 by omega] at _v
        refine wp_of e140 c140_21 (rw_istore (pc' := 23) (z := H r1737 (v1723.toNat)) (L' := [(5, vI (H r1737 (v1723.toNat))), (4, vI v1723), (2, vL v1724), (0, .ref r0), (1, .ref r1)]) rfl rfl rfl ?_)
        refine wp_of e140 c140_23 (rw_aload_n (pc' := 24) (v := .ref r0) rfl rfl rfl ?_)
        refine wp_of e140 c140_24 (rw_iload (pc' := 26) (z := H r1737 (v1723.toNat)) rfl rfl ?_)
        refine wp_of e140 c140_26 (rw_aload_n (pc' := 27) (v := .ref r1) rfl rfl rfl ?_)
        refine wp_of e140 c140_27 (rw_iload (pc' := 29) (z := H r1737 (v1723.toNat)) rfl rfl ?_)
        refine wp_of e140 c140_29 (xc_V (pc' := 32) (r := r1) (as := [vI (H r1737 (v1723.toNat))]) (st := [vI (H r1737 (v1723.toNat)), .ref r0]) (lm_6_94) rfl rfl (Nat.le_of_ble_eq_true rfl) hW g1 sh_6 (by decide) rfl (by decide) (u_72 (d := d) (g := g) hW g1 ⟨b1740, b1741⟩ (by assumption) hWR_r1) (fun R1742 T1743 H1744 p1745 => ?_))
        obtain ⟨e1746, e1748, z1749, e1747, b1750, p1751⟩ := p1745
        subst e1746
        subst e1747
        subst e1748
        show wp _ _ 140 32 [(5, vI (H r1737 (v1723.toNat))), (4, vI v1723), (2, vL v1724), (0, .ref r0), (1, .ref r1)] [vI z1749, vI (H r1737 (v1723.toNat)), .ref r0] _ H _
        refine wp_of e140 c140_32 (xc_V (pc' := 35) (r := r0) (as := [vI (H r1737 (v1723.toNat)), vI z1749]) (st := []) (lm_6_97) rfl rfl (Nat.le_of_ble_eq_true rfl) hW g0 sh_27 (by decide) rfl (by decide) (u_76 (e := e) (d := d) (n := n) hW g0 ⟨b1740, b1741⟩ ⟨b1750.1, b1750.2⟩ (by assumption) (by assumption) hCU_r0) (fun R1753 T1754 H1755 p1756 => ?_))
        obtain ⟨e1757, e1759, z1760, e1758, b1761, p1762⟩ := p1756
        subst e1757
        subst e1758
        subst e1759
        show wp _ _ 140 35 [(5, vI (H r1737 (v1723.toNat))), (4, vI v1723), (2, vL v1724), (0, .ref r0), (1, .ref r1)] [vI z1760] _ H _
        refine wp_of e140 c140_35 (rw_istore (pc' := 37) (z := z1760) (L' := [(6, vI z1760), (5, vI (H r1737 (v1723.toNat))), (4, vI v1723), (2, vL v1724), (0, .ref r0), (1, .ref r1)]) rfl rfl rfl ?_)
        have _vb : z1760 = xvy e d g h9 := by
          unfold xvy
          have := (‹_ = ((xdue d g ((H r1737 (v1723.toNat))).toNat : Nat) : Int)› : _)
          rw [show h9 = ((H r1737 (v1723.toNat))).toNat by omega, ← this]
          assumption
        have _gp : xfZ (xvy e d g) h9 = v1724 := by
          rw [xfZ_gap _a _zq]
          exact (by assumption : v1724 = xfZ (xvy e d g) u1725).symm
        refine wp_of e140 c140_37 (rw_iload (pc' := 39) (z := z1760) rfl rfl ?_)
        refine wp_of e140 c140_39 (rw_iconst (pc' := 40) rfl ?_)
        refine wp_of e140 c140_40 (rw_icmp_ne (p1 := 53) (p2 := 43) (by decide) rfl ⟨Int.le_trans (by decide) b1761.1, Int.le_trans b1761.2 (by decide)⟩ ⟨by decide, by decide⟩ (fun c1764 => ?_) (fun c1764 => ?_))
        · refine wp_of e140 c140_53 (rw_iload (pc' := 55) (z := z1760) rfl rfl ?_)
          refine wp_of e140 c140_55 (rw_iconst (pc' := 56) rfl ?_)
          refine wp_of e140 c140_56 (rw_icmp_ne (p1 := 69) (p2 := 59) (by decide) rfl ⟨Int.le_trans (by decide) b1761.1, Int.le_trans b1761.2 (by decide)⟩ ⟨by decide, by decide⟩ (fun c1765 => ?_) (fun c1765 => ?_))
          · have _q : v1724 = xfZ (xvy e d g) (h9 + 1) := by
              rw [xfZ_n ⟨by omega, by omega⟩]
              exact _gp.symm
            refine wp_of e140 c140_69 (rw_iinc (pc' := 72) (z := v1723) (L' := [(4, vI (v1723 + 1)), (6, vI z1760), (5, vI (H r1737 (v1723.toNat))), (2, vL v1724), (0, .ref r0), (1, .ref r1)]) rfl rfl rfl rfl ?_)
            refine wp_of e140 c140_72 (rw_goto (p1 := 5) (by decide) ?_)
            exact wp_lc (ks := [4, 6, 5, 2, 0, 1]) (wl_c rfl (wl_c rfl (wl_c rfl (wl_c rfl wl_n)))) rfl (by decide) (ih1722 _ (by omega) (v1723 + 1) v1724 ((h9 + 1)) ⟨by omega, by omega⟩ ⟨b1729.1, b1729.2⟩ (by omega) (by omega) (_q) rfl)
          · refine wp_of e140 c140_59 (rw_lload_n (pc' := 60) (z := v1724) rfl rfl ?_)
            refine wp_of e140 c140_60 (rw_lconst (pc' := 61) (z := 1) rfl rfl ?_)
            refine wp_of e140 c140_61 (rw_iload (pc' := 63) (z := H r1737 (v1723.toNat)) rfl rfl ?_)
            refine wp_of e140 c140_63 (rw_bipush (pc' := 65) (z := 32) rfl (by decide) ?_)
            refine wp_of e140 c140_65 (rw_iadd (pc' := 66) rfl ?_)
            refine wp_of e140 c140_66 (rw_lshl (pc' := 67) rfl ?_)
            obtain ⟨v1766, e1767⟩ : ∃ x : Int, x = wl_shl 1 ((H r1737 (v1723.toNat)) + 32) := ⟨_, rfl⟩
            rw [← e1767]
            have b1768 : -9223372036854775808 ≤ v1766 ∧ v1766 ≤ 9223372036854775807 := by
              rw [e1767]
              exact wL_shl _ _
            refine wp_of e140 c140_67 (rw_lor (pc' := 68) rfl ?_)
            obtain ⟨v1769, e1770⟩ : ∃ x : Int, x = wl_or v1724 v1766 := ⟨_, rfl⟩
            rw [← e1770]
            have b1771 : -9223372036854775808 ≤ v1769 ∧ v1769 ≤ 9223372036854775807 := by
              rw [e1770]
              exact wL_or _ _
            refine wp_of e140 c140_68 (rw_lstore_n (pc' := 69) (z := v1769) (L' := [(2, vL v1769), (6, vI z1760), (5, vI (H r1737 (v1723.toNat))), (4, vI v1723), (0, .ref r0), (1, .ref r1)]) rfl rfl rfl ?_)
            have _q : v1769 = xfZ (xvy e d g) (h9 + 1) := by
              first
              | exact xfZ_2 (by omega) (by omega) _gp.symm e1770 e1767 (by omega)
              | exact xfZ_1 (by omega) (by omega) _gp.symm e1770 e1767 (by omega)
            refine wp_of e140 c140_69 (rw_iinc (pc' := 72) (z := v1723) (L' := [(4, vI (v1723 + 1)), (2, vL v1769), (6, vI z1760), (5, vI (H r1737 (v1723.toNat))), (0, .ref r0), (1, .ref r1)]) rfl rfl rfl rfl ?_)
            refine wp_of e140 c140_72 (rw_goto (p1 := 5) (by decide) ?_)
            exact wp_lc (ks := [4, 2, 6, 5, 0, 1]) (wl_c rfl (wl_c rfl (wl_c rfl (wl_c rfl wl_n)))) rfl (by decide) (ih1722 _ (by omega) (v1723 + 1) v1769 ((h9 + 1)) ⟨by omega, by omega⟩ ⟨b1771.1, b1771.2⟩ (by omega) (by omega) (_q) rfl)
        · refine wp_of e140 c140_43 (rw_lload_n (pc' := 44) (z := v1724) rfl rfl ?_)
          refine wp_of e140 c140_44 (rw_lconst (pc' := 45) (z := 1) rfl rfl ?_)
          refine wp_of e140 c140_45 (rw_iload (pc' := 47) (z := H r1737 (v1723.toNat)) rfl rfl ?_)
          refine wp_of e140 c140_47 (rw_lshl (pc' := 48) rfl ?_)
          obtain ⟨v1772, e1773⟩ : ∃ x : Int, x = wl_shl 1 (H r1737 (v1723.toNat)) := ⟨_, rfl⟩
          rw [← e1773]
          have b1774 : -9223372036854775808 ≤ v1772 ∧ v1772 ≤ 9223372036854775807 := by
            rw [e1773]
            exact wL_shl _ _
          refine wp_of e140 c140_48 (rw_lor (pc' := 49) rfl ?_)
          obtain ⟨v1775, e1776⟩ : ∃ x : Int, x = wl_or v1724 v1772 := ⟨_, rfl⟩
          rw [← e1776]
          have b1777 : -9223372036854775808 ≤ v1775 ∧ v1775 ≤ 9223372036854775807 := by
            rw [e1776]
            exact wL_or _ _
          refine wp_of e140 c140_49 (rw_lstore_n (pc' := 50) (z := v1775) (L' := [(2, vL v1775), (6, vI z1760), (5, vI (H r1737 (v1723.toNat))), (4, vI v1723), (0, .ref r0), (1, .ref r1)]) rfl rfl rfl ?_)
          refine wp_of e140 c140_50 (rw_goto (p1 := 69) (by decide) ?_)
          have _q : v1775 = xfZ (xvy e d g) (h9 + 1) := by
            first
            | exact xfZ_2 (by omega) (by omega) _gp.symm e1776 e1773 (by omega)
            | exact xfZ_1 (by omega) (by omega) _gp.symm e1776 e1773 (by omega)
          refine wp_of e140 c140_69 (rw_iinc (pc' := 72) (z := v1723) (L' := [(4, vI (v1723 + 1)), (2, vL v1775), (6, vI z1760), (5, vI (H r1737 (v1723.toNat))), (0, .ref r0), (1, .ref r1)]) rfl rfl rfl rfl ?_)
          refine wp_of e140 c140_72 (rw_goto (p1 := 5) (by decide) ?_)
          exact wp_lc (ks := [4, 2, 6, 5, 0, 1]) (wl_c rfl (wl_c rfl (wl_c rfl (wl_c rfl wl_n)))) rfl (by decide) (ih1722 _ (by omega) (v1723 + 1) v1775 ((h9 + 1)) ⟨by omega, by omega⟩ ⟨b1777.1, b1777.2⟩ (by omega) (by omega) (_q) rfl)
  exact wp_lc (ks := [4, 2, 0, 1]) (wl_c rfl (wl_c rfl (wl_c rfl (wl_c rfl wl_n)))) rfl (by decide) (lp1720 _ 0 0 0 ⟨by decide, by decide⟩ ⟨by decide, by decide⟩ (by omega) (rfl) (xfZ_0.symm) rfl)
/-! StrikeAwake$Grounds.gather(LStrikeAwake$Parish;LStrikeAwake$Walk;)V  -/
abbrev uq_139 (r0 : Nat) (r1 : Nat) (r2 : Nat) (e : xD) (d : xD) (n : Int) (T : wq_T) (H : wq_H) : Option Value → wq_T → wq_H → Prop := fun r T' H' => T = T' ∧ WT T H' ∧ wfr [(25, 1), (25, 2), (6, 5), (8, 999), (10, 999), (26, 999), (9, 999), (7, 999), (11, 999)] T H H' ∧ none = r ∧ (((H' r0 1 = xcn (xnq d) (xlots d).toNat) ∧ GF0 T H' r0 (xcn (xnq d) (xlots d).toNat) (xgf e d (xlots d).toNat)))
set_option maxHeartbeats 4000000 in
theorem u_139 {kt : Nat → Option mc_E} {T : wq_T} {H : wq_H} {r0 : Nat} {r1 : Nat} {r2 : Nat} {e : xD} {d : xD} {n : Int} (hW : WT T H) (g0 : T.2.2.2 r0 = some 25) (g1 : T.2.2.2 r1 = some 27) (g2 : T.2.2.2 r2 = some 6) (p0 : ∀ i, i ≠ 13 → e i = d i) (p1 : XW d) (p2 : e 0 3 = d 0 3) (p3 : n = xlots d) (p4 : n ≤ 5000) (p5 : 0 < xlots d) (hCU_r1 : CU T H r1 e d n) : wpc kt 4 139 [.ref r0, .ref r1, .ref r2] T H (uq_139 r0 r1 r2 e d n T H) := by
  refine wp_enter e139 (Nat.le_of_ble_eq_true rfl) rfl ?_
  have f0 : wfr [(25, 1), (25, 2), (6, 5), (8, 999), (10, 999), (26, 999), (9, 999), (7, 999), (11, 999)] T H H := wfr.rf
  show wp _ _ 139 0 [(0, .ref r0), (1, .ref r1), (2, .ref r2)] [] _ H _
  have u1681 := CU_k hCU_r1
  have b1682 : (-9223372036854775808) ≤ H r1 18 ∧ H r1 18 ≤ 9223372036854775807 := hW.box g1 (n := 19) rfl (by decide) rfl
  have _k := CU_k hCU_r1
  have _xc := p1.2.1
  unfold XC at _xc
  have _d0 := p0 0 (by decide)
  have _e3 : e 0 3 = d 0 3 := by rw [_d0]
  have _e4 : e 0 4 = d 0 4 := by rw [_d0]
  have _e5 : e 0 5 = d 0 5 := by rw [_d0]
  have _c18 := hCU_r1.2.2
  have _x0 : 0 ≤ xlots d := (xpr_b hCU_r1.2.1.1 _ _).1
  have _nb := xcn_b (f := xnq d) (xlots d).toNat
  refine wp_of e139 c139_0 (rw_aload_n (pc' := 1) (v := .ref r0) rfl rfl rfl ?_)
  refine wp_of e139 c139_1 (rw_iconst (pc' := 2) rfl ?_)
  refine wp_of e139 c139_2 (xp_I (pc' := 5) lf_6_68 hW g0 sh_25 (by decide) (by decide) ty_25_1 rfl rfl (by decide) (by decide) ⟨by decide, by decide⟩ rfl (fun H1683 e1684 w1685 => ?_))
  have f1686 := f0.put' e1684 g0 rfl
  have k1687 : H1683 r0 1 = 0 := wq_u_s e1684
  refine wp_of e139 c139_5 (rw_aload_n (pc' := 6) (v := .ref r0) rfl rfl rfl ?_)
  refine wp_of e139 c139_6 (rw_iconst (pc' := 7) rfl ?_)
  refine wp_of e139 c139_7 (xp_I (pc' := 10) lf_6_81 w1685 g0 sh_25 (by decide) (by decide) ty_25_2 rfl rfl (by decide) (by decide) ⟨by decide, by decide⟩ rfl (fun H1688 e1689 w1690 => ?_))
  have f1691 := f1686.put' e1689 g0 rfl
  have k1692 : H1688 r0 2 = 0 := wq_u_s e1689
  refine wp_of e139 c139_10 (rw_aload_n (pc' := 11) (v := .ref r2) rfl rfl rfl ?_)
  refine wp_of e139 c139_11 (rw_aload_n (pc' := 12) (v := .ref r1) rfl rfl rfl ?_)
  have h1693 : CU T H1688 r1 e d n := (CU_fr w1685 g1 ((wfr.rf (l := [(25, 2)])).put' e1689 g0 rfl) rfl (CU_fr hW g1 ((wfr.rf (l := [(25, 1)])).put' e1684 g0 rfl) rfl hCU_r1))
  refine wp_of e139 c139_12 (xc_V (pc' := 15) (r := r2) (as := [.ref r1]) (st := []) (lm_6_28) rfl rfl (Nat.le_of_ble_eq_true rfl) w1690 g2 sh_6 (by decide) rfl (by decide) (u_87 (e := e) (d := d) (n := n) w1690 g2 g1 (by assumption) (by assumption) (by omega) h1693) (fun R1694 T1695 H1696 p1697 => ?_))
  obtain ⟨e1698, w1700, f1701, e1699, p1702⟩ := p1697
  subst e1698
  subst e1699
  have f1704 := f1691.tr f1701 rfl
  show wp _ _ 139 15 [(0, .ref r0), (1, .ref r1), (2, .ref r2)] [] _ H1696 _
  refine wp_of e139 c139_15 (rw_iconst (pc' := 16) rfl ?_)
  refine wp_of e139 c139_16 (rw_istore_n (pc' := 17) (z := 0) (L' := [(3, vI 0), (0, .ref r0), (1, .ref r1), (2, .ref r2)]) rfl rfl rfl ?_)
  have k2295 : H1696 r1 18 = H r1 18 := ((f1701 r1 18 _ g1 rfl).trans ((wq_u_t e1689 g0 g1 rfl 18).trans (wq_u_t e1684 g0 g1 rfl 18)))
  have k2296 : H1696 r0 1 = H1683 r0 1 := ((f1701 r0 1 _ g0 rfl).trans (wq_u_j e1689 rfl))
  have lp2290 : ∀ (n2291 : Nat) (v2293 : Int) (H2294 : wq_H), WT T H2294 → wfr [(25, 1), (8, 999), (10, 999), (26, 999), (9, 999), (7, 999), (11, 999)] T H1696 H2294 → (0 ≤ v2293 ∧ v2293 ≤ 5000) → WRc T H2294 r2 d (xlot d v2293) → GF0 T H2294 r0 (xcn (xnq d) (v2293).toNat) (xgf e d (xlots d).toNat) → (v2293 ≤ xlots d) → (H2294 r0 1 = xcn (xnq d) (v2293).toNat) → (5000 - v2293).toNat = n2291 → wp kt 3 139 17 [(3, vI v2293), (0, .ref r0), (1, .ref r1), (2, .ref r2)] [] T H2294 (uq_139 r0 r1 r2 e d n T H) := by
    intro n2291
    induction n2291 using Nat.strongRecOn with
    | _ n2291 ih2292 =>
      intro v2293 H2294 w2297 f2298 b2299 h2301 h2302 x2303 x2304 m2300
      have f2305 := f1704.tr f2298 rfl
      have k2306 : H2294 r1 18 = H1696 r1 18 := (f2298 r1 18 _ g1 rfl)
      refine wp_of e139 c139_17 (rw_iload_n (pc' := 18) (z := v2293) rfl rfl ?_)
      refine wp_of e139 c139_18 (rw_i2l (pc' := 19) rfl ⟨Int.le_trans (by decide) b2299.1, Int.le_trans b2299.2 (by decide)⟩ ?_)
      refine wp_of e139 c139_19 (rw_aload_n (pc' := 20) (v := .ref r1) rfl rfl rfl ?_)
      refine wp_of e139 c139_20 (xg_L (pc' := 23) lf_6_34 w2297 g1 sh_27 (by decide) (by decide) ty_27_18 rfl rfl (fun b2307 b2308 => ?_))
      refine wp_of e139 c139_23 (rw_lcmp (pc' := 24) rfl ⟨Int.le_trans (by decide) b2299.1, Int.le_trans b2299.2 (by decide)⟩ ⟨b2307, b2308⟩ ?_)
      have b2309 := wq_cmp_b v2293 (H2294 r1 18)
      refine wp_of e139 c139_24 (rw_if_ge (p1 := 76) (p2 := 27) (by decide) rfl ⟨by omega, by omega⟩ (fun c2310 => ?_) (fun c2310 => ?_))
      · exact wp_return e139 c139_76 rfl ⟨rfl, w2297, f2305, rfl, ⟨by rw [show (xlots d).toNat = (v2293).toNat by omega]; assumption, DA_cg h2302 (by rw [show (xlots d).toNat = (v2293).toNat by omega]) rfl⟩⟩
      · refine wp_of e139 c139_27 (rw_iload_n (pc' := 28) (z := v2293) rfl rfl ?_)
        refine wp_of e139 c139_28 (rw_sipush (pc' := 31) (z := 5000) rfl (by decide) ?_)
        refine wp_of e139 c139_31 (rw_icmp_ge (p1 := 76) (p2 := 34) (by decide) rfl ⟨Int.le_trans (by decide) b2299.1, Int.le_trans b2299.2 (by decide)⟩ ⟨by decide, by decide⟩ (fun c2311 => ?_) (fun c2311 => ?_))
        · exact wp_return e139 c139_76 rfl ⟨rfl, w2297, f2305, rfl, ⟨by rw [show (xlots d).toNat = (v2293).toNat by omega]; assumption, DA_cg h2302 (by rw [show (xlots d).toNat = (v2293).toNat by omega]) rfl⟩⟩
        · have h2312 : WR T H2294 r2 d (xlot d v2293) := WRc_at h2301 (by omega)
          have _cv : (((v2293).toNat : Nat) : Int) = v2293 := by omega
          have _xs := xcn_s (f := xnq d) (i := v2293) (by omega)
          refine wp_of e139 c139_34 (rw_aload_n (pc' := 35) (v := .ref r2) rfl rfl rfl ?_)
          refine wp_of e139 c139_35 (xc_V (pc' := 38) (r := r2) (as := []) (st := []) (lm_6_47) rfl rfl (Nat.le_of_ble_eq_true rfl) w2297 g2 sh_6 (by decide) rfl (by decide) (u_80 (d := d) (g := ((xlot d v2293))) w2297 g2 (by assumption) h2312) (fun R2313 T2314 H2315 p2316 => ?_))
          obtain ⟨e2317, e2319, z2320, e2318, b2321, p2322⟩ := p2316
          subst e2317
          subst e2318
          subst e2319
          rcases p2322 with ⟨a2323, a2324⟩ | ⟨a2325, a2326⟩
          · show wp _ _ 139 38 [(3, vI v2293), (0, .ref r0), (1, .ref r1), (2, .ref r2)] [vI z2320] _ H2294 _
            refine wp_of e139 c139_38 (rw_if_ne (p1 := 65) (p2 := 41) (by decide) rfl ⟨Int.le_trans (by decide) b2321.1, Int.le_trans b2321.2 (by decide)⟩ (fun c2327 => ?_) (fun c2327 => ?_))
            · refine wp_of e139 c139_65 (rw_aload_n (pc' := 66) (v := .ref r2) rfl rfl rfl ?_)
              refine wp_of e139 c139_66 (rw_aload_n (pc' := 67) (v := .ref r1) rfl rfl rfl ?_)
              have h2328 : CU T H2294 r1 e d n := (CU_fr w1700 g1 f2298 rfl (CU_fr w1690 g1 f1701 rfl h1693))
              refine wp_of e139 c139_67 (xc_V (pc' := 70) (r := r2) (as := [.ref r1]) (st := []) (lm_6_61) rfl rfl (Nat.le_of_ble_eq_true rfl) w2297 g2 sh_6 (by decide) rfl (by decide) (u_91 (e := e) (d := d) (n := n) (a := v2293) w2297 g2 g1 (by assumption) (by assumption) (by omega) (by omega) (by omega) h2328 h2312) (fun R2329 T2330 H2331 p2332 => ?_))
              obtain ⟨e2333, w2335, f2336, e2334, p2337⟩ := p2332
              subst e2333
              subst e2334
              have f2339 := f2305.tr f2336 rfl
              have f2340 := f2298.tr f2336 rfl
              show wp _ _ 139 70 [(3, vI v2293), (0, .ref r0), (1, .ref r1), (2, .ref r2)] [] _ H2331 _
              have _hp : ¬ xnq d (v2293).toNat > 0 := fun q => by
                have h1 := xnq_i.mp q
                unfold XNQ at h1
                rw [_cv] at h1
                omega
              rw [if_neg _hp] at _xs
              have h2341 : WRc T H2331 r2 d (xlot d (v2293 + 1)) := Or.inr p2337
              have h2342 : GF0 T H2331 r0 (xcn (xnq d) (v2293).toNat) (xgf e d (xlots d).toNat) := (GF0_fr w2297 g0 f2336 rfl h2302)
              have h2343 : GF0 T H2331 r0 (xcn (xnq d) (v2293 + 1).toNat) (xgf e d (xlots d).toNat) := DA_cg h2342 (by omega) rfl
              refine wp_of e139 c139_70 (rw_iinc (pc' := 73) (z := v2293) (L' := [(3, vI (v2293 + 1)), (0, .ref r0), (1, .ref r1), (2, .ref r2)]) rfl rfl rfl rfl ?_)
              refine wp_of e139 c139_73 (rw_goto (p1 := 17) (by decide) ?_)
              have k2344 : H2331 r1 18 = H2294 r1 18 := (f2336 r1 18 _ g1 rfl)
              have k2345 : H2331 r0 1 = H2294 r0 1 := (f2336 r0 1 _ g0 rfl)
              exact wp_lc (ks := [3, 0, 1, 2]) (wl_c rfl (wl_c rfl (wl_c rfl (wl_c rfl wl_n)))) rfl (by decide) (ih2292 _ (by omega) (v2293 + 1) H2331 w2335 f2340 ⟨by omega, by omega⟩ h2341 h2343 (by omega) (by omega) rfl)
            · exfalso
              omega
          · show wp _ _ 139 38 [(3, vI v2293), (0, .ref r0), (1, .ref r1), (2, .ref r2)] [vI z2320] _ H2294 _
            refine wp_of e139 c139_38 (rw_if_ne (p1 := 65) (p2 := 41) (by decide) rfl ⟨Int.le_trans (by decide) b2321.1, Int.le_trans b2321.2 (by decide)⟩ (fun c2346 => ?_) (fun c2346 => ?_))
            · exfalso
              omega
            · refine wp_of e139 c139_41 (rw_aload_n (pc' := 42) (v := .ref r0) rfl rfl rfl ?_)
              refine wp_of e139 c139_42 (xg_R (pc' := 45) lf_6_9 w2297 g0 sh_25 (by decide) (by decide) ty_25_0 rfl rfl (fun r2347 q2348 g2349 => ?_))
              refine wp_of e139 c139_45 (rw_aload_n (pc' := 46) (v := .ref r0) rfl rfl rfl ?_)
              refine wp_of e139 c139_46 (xg_I (pc' := 49) lf_6_68 w2297 g0 sh_25 (by decide) (by decide) ty_25_1 rfl rfl (fun b2350 b2351 => ?_))
              refine wp_of e139 c139_49 (rw_aload_n (pc' := 50) (v := .ref r1) rfl rfl rfl ?_)
              refine wp_of e139 c139_50 (rw_aload_n (pc' := 51) (v := .ref r2) rfl rfl rfl ?_)
              have k2352 : H2294 r1 16 = H r1 16 := ((f2298 r1 16 _ g1 rfl).trans ((f1701 r1 16 _ g1 rfl).trans ((wq_u_t e1689 g0 g1 rfl 16).trans (wq_u_t e1684 g0 g1 rfl 16))))
              have h2353 : CU T H2294 r1 e d n := (CU_fr w1700 g1 f2298 rfl (CU_fr w1690 g1 f1701 rfl h1693))
              refine wp_of e139 c139_51 (xc_S (pc' := 54) (as := [.ref r1, .ref r2]) (st := [vI (H2294 r0 1), .ref r2347]) (lm_6_84) rfl rfl (Nat.le_of_ble_eq_true rfl) rfl (by decide) (u_140 (e := e) (d := d) (n := n) (g := ((xlot d v2293))) w2297 g1 g2 (by assumption) (by assumption) (by omega) (by omega) h2353 h2312) (fun R2354 T2355 H2356 p2357 => ?_))
              obtain ⟨e2358, e2360, z2361, e2359, b2362, p2363⟩ := p2357
              subst e2358
              subst e2359
              subst e2360
              show wp _ _ 139 54 [(3, vI v2293), (0, .ref r0), (1, .ref r1), (2, .ref r2)] [vL z2361, vI (H2294 r0 1), .ref r2347] _ H2294 _
              have _hp : xnq d (v2293).toNat > 0 := xnq_i.mpr (by
                unfold XNQ
                rw [_cv]
                assumption)
              rw [if_pos _hp] at _xs
              have _hi : xcn (xnq d) (v2293).toNat = (((H2294 r0 1).toNat : Nat) : Int) := by omega
              have _fl : z2361 = xgf e d (xlots d).toNat (H2294 r0 1).toNat := by
                unfold xgf
                rw [xith_e _hp _hi (xlots d).toNat (by omega), _cv]
                assumption
              refine wp_of e139 c139_54 (xs_L (pc' := 55) w2297 g2349 (by decide) sh_26 (by decide) (ty_26 _) (b2362.1) (b2362.2) ⟨b2362.1, b2362.2⟩ (b2350) (by omega) rfl (fun H2365 e2366 w2367 => ?_))
              have f2368 := f2305.put' e2366 g2349 rfl
              have f2369 := f2298.put' e2366 g2349 rfl
              have h2370 : GF0 T H2365 r0 (xcn (xnq d) (v2293).toNat + 1) (xgf e d (xlots d).toNat) := DAo_put h2302 q2348 g0 g2349 (by decide) e2366 (k := ((H2294 r0 1).toNat)) (by omega) rfl _fl.symm (fun _ _ => rfl)
              refine wp_of e139 c139_55 (rw_aload_n (pc' := 56) (v := .ref r0) rfl rfl rfl ?_)
              refine wp_of e139 c139_56 (rw_dup (pc' := 57) rfl rfl ?_)
              have k2371 : H2365 r0 1 = H2294 r0 1 := (wq_u_t e2366 g2349 g0 rfl 1)
              refine wp_of e139 c139_57 (xg_I (pc' := 60) lf_6_68 w2367 g0 sh_25 (by decide) (by decide) ty_25_1 rfl rfl (fun b2372 b2373 => ?_))
              refine wp_of e139 c139_60 (rw_iconst (pc' := 61) rfl ?_)
              refine wp_of e139 c139_61 (rw_iadd (pc' := 62) rfl ?_)
              refine wp_of e139 c139_62 (xp_I (pc' := 65) lf_6_68 w2367 g0 sh_25 (by decide) (by decide) ty_25_1 rfl rfl (by omega) (by omega) ⟨by omega, by omega⟩ rfl (fun H2374 e2375 w2376 => ?_))
              have f2377 := f2368.put' e2375 g0 rfl
              have f2378 := f2369.put' e2375 g0 rfl
              have k2379 : H2374 r0 1 = (H2365 r0 1) + 1 := wq_u_s e2375
              refine wp_of e139 c139_65 (rw_aload_n (pc' := 66) (v := .ref r2) rfl rfl rfl ?_)
              refine wp_of e139 c139_66 (rw_aload_n (pc' := 67) (v := .ref r1) rfl rfl rfl ?_)
              have h2380 : CU T H2374 r1 e d n := (CU_fr w2367 g1 ((wfr.rf (l := [(25, 1)])).put' e2375 g0 rfl) rfl (CU_fr w2297 g1 ((wfr.rf (l := [(26, 999)])).put' e2366 g2349 rfl) rfl h2353))
              have h2381 : WR T H2374 r2 d (xlot d v2293) := (WR_fr w2367 g2 ((wfr.rf (l := [(25, 1)])).put' e2375 g0 rfl) rfl (WR_fr w2297 g2 ((wfr.rf (l := [(26, 999)])).put' e2366 g2349 rfl) rfl h2312))
              refine wp_of e139 c139_67 (xc_V (pc' := 70) (r := r2) (as := [.ref r1]) (st := []) (lm_6_61) rfl rfl (Nat.le_of_ble_eq_true rfl) w2376 g2 sh_6 (by decide) rfl (by decide) (u_91 (e := e) (d := d) (n := n) (a := v2293) w2376 g2 g1 (by assumption) (by assumption) (by omega) (by omega) (by omega) h2380 h2381) (fun R2382 T2383 H2384 p2385 => ?_))
              obtain ⟨e2386, w2388, f2389, e2387, p2390⟩ := p2385
              subst e2386
              subst e2387
              have f2392 := f2377.tr f2389 rfl
              have f2393 := f2378.tr f2389 rfl
              show wp _ _ 139 70 [(3, vI v2293), (0, .ref r0), (1, .ref r1), (2, .ref r2)] [] _ H2384 _
              have h2394 : WRc T H2384 r2 d (xlot d (v2293 + 1)) := Or.inr p2390
              have h2395 : GF0 T H2384 r0 (xcn (xnq d) (v2293).toNat + 1) (xgf e d (xlots d).toNat) := (GF0_fr w2376 g0 f2389 rfl (GF0_fr w2367 g0 ((wfr.rf (l := [(25, 1)])).put' e2375 g0 rfl) rfl h2370))
              have h2396 : GF0 T H2384 r0 (xcn (xnq d) (v2293 + 1).toNat) (xgf e d (xlots d).toNat) := DA_cg h2395 (by omega) rfl
              refine wp_of e139 c139_70 (rw_iinc (pc' := 73) (z := v2293) (L' := [(3, vI (v2293 + 1)), (0, .ref r0), (1, .ref r1), (2, .ref r2)]) rfl rfl rfl rfl ?_)
              refine wp_of e139 c139_73 (rw_goto (p1 := 17) (by decide) ?_)
              have k2397 : H2384 r1 18 = H2294 r1 18 := ((f2389 r1 18 _ g1 rfl).trans ((wq_u_t e2375 g0 g1 rfl 18).trans (wq_u_t e2366 g2349 g1 rfl 18)))
              have k2398 : H2384 r0 1 = H2374 r0 1 := (f2389 r0 1 _ g0 rfl)
              exact wp_lc (ks := [3, 0, 1, 2]) (wl_c rfl (wl_c rfl (wl_c rfl (wl_c rfl wl_n)))) rfl (by decide) (ih2292 _ (by omega) (v2293 + 1) H2384 w2388 f2393 ⟨by omega, by omega⟩ h2394 h2396 (by omega) (by omega) rfl)
  have h2399 : GF0 T H1696 r0 (xcn (xnq d) ((0 : Int)).toNat) (xgf e d (xlots d).toNat) := DAo_0 (w1700.ref g0 (n := 3) (p := 0) (q := 0) rfl (by decide) rfl) (Int.le_refl _)
  exact wp_lc (ks := [3, 0, 1, 2]) (wl_c rfl (wl_c rfl (wl_c rfl (wl_c rfl wl_n)))) rfl (by decide) (lp2290 _ 0 H1696 w1700 wfr.rf ⟨by decide, by decide⟩ p1702 h2399 (by omega) (by show H1696 r0 1 = (0 : Int); omega) rfl)
