/-! what methods do (own work, written by wip/gen3/sx3.py) -/
/-! StrikeAwakeModel.readPerson()V k -/
abbrev uq_187_k (r0 : Nat) (rp : Nat) (rb : Nat) (B : Nat → Int) (n : Int) (q : Int) (d : xD) (T : wq_T) (H : wq_H) : Option Value → wq_T → wq_H → Prop := fun r T' H' => T = T' ∧ WT T H' ∧ wfr [(54, 3), (42, 8), (42, 9), (42, 10), (42, 11), (42, 12), (42, 13), (42, 14), (42, 15), (56, 999), (57, 999), (60, 999), (63, 999), (58, 999), (59, 999), (55, 999), (61, 999), (62, 999)] T H H' ∧ none = r ∧ ((((xl1 B n q d).1 = 0) ∧ (q ≤ (xl1 B n q d).2.2) ∧ (∀ a, a ≠ rp → T.2.2.2 a = some 54 → H' a 3 = H a 3) ∧ RC T H' r0 B n (xl1 B n q d).2.2 ∧ DM T H' rp r0 (xdper B n (xN B n q) d)) ∨ (((xl1 B n q d).1 ≠ 0) ∧ (∀ a, a ≠ rp → T.2.2.2 a = some 54 → H' a 3 = H a 3) ∧ RO T H' r0 ((xl1 B n q d).1) ((xl1 B n q d).2.1)))
set_option maxHeartbeats 60000000 in
theorem u_187_k_t200k {kt : Nat → Option mc_E} {T : wq_T} {H : wq_H} {r0 : Nat} {rp : Nat} {rb : Nat} {B : Nat → Int} {n : Int} {q : Int} {d : xD} (hW : WT T H) (g0 : T.2.2.2 r0 = some 42) (qrp : H r0 4 = (rp : Int)) (grp : T.2.2.2 rp = some 54) (qrb : H r0 5 = (rb : Int)) (grb : T.2.2.2 rb = some 43) (p0 : xK B n q = 1) (hRC_r0 : RC T H r0 B n q) (hDM_rp : DM T H rp r0 d) : ∀ (v2781 : Int) (v2782 : Int) (v2783 : Int) (v2784 : Int) (v2785 : Int) (v2786 : Int) (v2787 : Int) (v2788 : Int) (v2789 : Int) (H2790 : wq_H), WT T H2790 → wfr [(42, 8), (42, 9), (42, 10), (42, 11), (42, 12), (42, 13), (42, 14), (42, 15)] T H H2790 → ((-9223372036854775808) ≤ v2781 ∧ v2781 ≤ 9223372036854775807) → (0 ≤ v2782 ∧ v2782 ≤ 23) → (0 ≤ v2783 ∧ v2783 ≤ 30) → (0 ≤ v2784 ∧ v2784 ≤ 12) → (0 ≤ v2785 ∧ v2785 ≤ 16) → ((-1) ≤ v2786 ∧ v2786 ≤ 23) → (0 ≤ v2787 ∧ v2787 ≤ 23) → (0 ≤ v2788 ∧ v2788 ≤ 24) → (0 ≤ v2789 ∧ v2789 ≤ 1) → RC T H2790 r0 B n (xl1 B n q d).2.2 → DM T H2790 rp r0 d → ((xl1 B n q d).1 = 0) → (q ≤ (xl1 B n q d).2.2) → (v2781 = xY B n (xN B n q)) → (v2782 = xV B n (xN B n (xN B n (xN B n q)))) → (v2783 = xV B n (xN B n (xN B n (xN B n (xN B n (xN B n q)))))) → (v2784 = xV B n (xN B n (xN B n (xN B n (xN B n (xN B n (xN B n (xN B n q)))))))) → (v2785 = xV B n (xN B n (xN B n (xN B n (xN B n (xN B n (xN B n (xN B n (xN B n (xN B n q)))))))))) → (v2782 ≤ v2783 ∧ v2783 ≤ v2782 + 7 ∧ v2783 ≤ 23) → (v2784 ≤ v2785 ∧ v2785 ≤ v2784 + 4 ∧ v2785 ≤ 12) → (v2787 ≤ v2788) → (xhb B n (xN B n (xN B n (xN B n (xN B n (xN B n (xN B n (xN B n (xN B n (xN B n (xN B n q)))))))))) = v2786) → (xnf B n (xqa B n (xN B n (xN B n (xN B n (xN B n (xN B n (xN B n (xN B n (xN B n (xN B n (xN B n q))))))))))) = v2787) → (xnt B n (xqa B n (xN B n (xN B n (xN B n (xN B n (xN B n (xN B n (xN B n (xN B n (xN B n (xN B n q))))))))))) = v2788) → (xaw B n (xqb B n (xqa B n (xN B n (xN B n (xN B n (xN B n (xN B n (xN B n (xN B n (xN B n (xN B n (xN B n q)))))))))))) = v2789) → (d 0 3 ≤ 5) → wp kt 4 187 200 [(0, .ref r0), (1, vL v2781), (3, vI v2782), (4, vI v2783), (5, vI v2784), (6, vI v2785), (7, vI v2786), (9, vI v2787), (10, vI v2788), (11, vI v2789)] [] T H2790 (uq_187_k r0 rp rb B n q d T H) := by
  have f0 : wfr [(54, 3), (42, 8), (42, 9), (42, 10), (42, 11), (42, 12), (42, 13), (42, 14), (42, 15), (56, 999), (57, 999), (60, 999), (63, 999), (58, 999), (59, 999), (55, 999), (61, 999), (62, 999)] T H H := wfr.rf
  have u2762 := RC_k hRC_r0
  have u2763 := DM_k hDM_rp
  have h2764 : MA9 T H rp (d 1) := hDM_rp.2.2.2.1
  have h2765 : MA10 T H rp (d 2) := hDM_rp.2.2.2.2.1
  have h2766 : MA11 T H rp (d 3) := hDM_rp.2.2.2.2.2.1
  have h2767 : MA12 T H rp (d 4) := hDM_rp.2.2.2.2.2.2.1
  have h2768 : MA13 T H rp (d 5) := hDM_rp.2.2.2.2.2.2.2.1
  have h2769 : MA14 T H rp (d 6) := hDM_rp.2.2.2.2.2.2.2.2.1
  have h2770 : MA15 T H rp (d 7) := hDM_rp.2.2.2.2.2.2.2.2.2.1
  have h2771 : MA16 T H rp (d 8) := hDM_rp.2.2.2.2.2.2.2.2.2.2.1
  have h2772 : MA17 T H rp (d 9) := hDM_rp.2.2.2.2.2.2.2.2.2.2.2.1
  have h2773 : MA18 T H rp (d 10) := hDM_rp.2.2.2.2.2.2.2.2.2.2.2.2.1
  have h2774 : MA19 T H rp (d 11) := hDM_rp.2.2.2.2.2.2.2.2.2.2.2.2.2.1
  have h2775 : MA20 T H rp (d 12) := hDM_rp.2.2.2.2.2.2.2.2.2.2.2.2.2.2.1
  have h2776 : MA21 T H rp (d 13) := hDM_rp.2.2.2.2.2.2.2.2.2.2.2.2.2.2.2.1
  have h2777 : MA22 T H rp (d 14) := hDM_rp.2.2.2.2.2.2.2.2.2.2.2.2.2.2.2.2.1
  have h2778 : MA23 T H rp (d 15) := hDM_rp.2.2.2.2.2.2.2.2.2.2.2.2.2.2.2.2.2.1
  have h2779 : MA25 T H rp (d 17) := hDM_rp.2.2.2.2.2.2.2.2.2.2.2.2.2.2.2.2.2.2.1
  have h2780 : MA26 T H rp (d 16) := hDM_rp.2.2.2.2.2.2.2.2.2.2.2.2.2.2.2.2.2.2.2
  intro v2781 v2782 v2783 v2784 v2785 v2786 v2787 v2788 v2789 H2790 w2791 f2792 b2794 b2795 b2796 b2797 b2798 b2799 b2800 b2801 b2802 h2803 h2804 x2805 x2806 x2807 x2808 x2809 x2810 x2811 x2812 x2813 x2814 x2815 x2816 x2817 x2818 x2819
  have f2820 : wfr [(54, 3), (42, 8), (42, 9), (42, 10), (42, 11), (42, 12), (42, 13), (42, 14), (42, 15), (56, 999), (57, 999), (60, 999), (63, 999), (58, 999), (59, 999), (55, 999), (61, 999), (62, 999)] T H H2790 := wfr.rf.tr f2792 rfl
  have u2821 := RC_k h2803
  have u2822 := DM_k h2804
  refine wp_of e187 c187_200 (rw_aload_n (pc' := 201) (v := .ref r0) rfl rfl rfl ?_)
  have k2823 : H2790 r0 4 = H r0 4 := (f2792 r0 4 _ g0 rfl)
  have q2824 : H2790 r0 4 = (rp : Int) := k2823.trans qrp
  refine wp_of e187 c187_201 (xg_K (pc' := 204) lf_9_166 w2791 g0 sh_42 (by decide) (by decide) rfl q2824 rfl ?_)
  refine wp_of e187 c187_204 (xg_I (pc' := 207) lf_9_188 w2791 grp sh_54 (by decide) (by decide) ty_54_3 rfl rfl (fun b2825 b2826 => ?_))
  refine wp_of e187 c187_207 (rw_istore (pc' := 209) (z := H2790 rp 3) (L' := [(12, vI (H2790 rp 3)), (0, .ref r0), (1, vL v2781), (3, vI v2782), (4, vI v2783), (5, vI v2784), (6, vI v2785), (7, vI v2786), (9, vI v2787), (10, vI v2788), (11, vI v2789)]) rfl rfl rfl ?_)
  have _k := @xdper_k ((H2790 rp 3)).toNat d B n (xN B n q) (by omega)
  refine wp_of e187 c187_209 (rw_aload_n (pc' := 210) (v := .ref r0) rfl rfl rfl ?_)
  refine wp_of e187 c187_210 (xg_K (pc' := 213) lf_9_166 w2791 g0 sh_42 (by decide) (by decide) rfl q2824 rfl ?_)
  refine wp_of e187 c187_213 (xg_R (pc' := 216) lf_9_243 w2791 grp sh_54 (by decide) (by decide) ty_54_9 rfl rfl (fun r2827 q2828 g2829 => ?_))
  refine wp_of e187 c187_216 (rw_iload (pc' := 218) (z := H2790 rp 3) rfl rfl ?_)
  refine wp_of e187 c187_218 (rw_lload_n (pc' := 219) (z := v2781) rfl rfl ?_)
  have h2830 : MA9 T H2790 rp (d 1) := (MA9_fr hW grp f2792 rfl h2764)
  refine wp_of e187 c187_219 (xs_L (pc' := 220) w2791 g2829 (by decide) sh_55 (by decide) (ty_55 _) (by omega) (by omega) ⟨by omega, by omega⟩ (by omega) (by omega) rfl (fun H2831 e2832 w2833 => ?_))
  have f2834 := f2820.put' e2832 g2829 rfl
  have h2835 : MA9 T H2831 rp (xdper B n (xN B n q) d 1) := MA_put h2830 q2828 grp g2829 (by decide) e2832 (by omega) (fun j hj => xdper_n (k := ((H2790 rp 3).toNat)) (by omega) (by omega) hj)
  refine wp_of e187 c187_220 (rw_aload_n (pc' := 221) (v := .ref r0) rfl rfl rfl ?_)
  have k2836 : H2831 r0 4 = H2790 r0 4 := (wq_u_t e2832 g2829 g0 rfl 4)
  have q2837 : H2831 r0 4 = (rp : Int) := k2836.trans q2824
  refine wp_of e187 c187_221 (xg_K (pc' := 224) lf_9_166 w2833 g0 sh_42 (by decide) (by decide) rfl q2837 rfl ?_)
  refine wp_of e187 c187_224 (xg_R (pc' := 227) lf_9_247 w2833 grp sh_54 (by decide) (by decide) ty_54_10 rfl rfl (fun r2838 q2839 g2840 => ?_))
  refine wp_of e187 c187_227 (rw_iload (pc' := 229) (z := H2790 rp 3) rfl rfl ?_)
  refine wp_of e187 c187_229 (rw_iload_n (pc' := 230) (z := v2782) rfl rfl ?_)
  have h2841 : MA10 T H2831 rp (d 2) := (MA10_fr w2791 grp ((wfr.rf (l := [(55, 999)])).put' e2832 g2829 rfl) rfl (MA10_fr hW grp f2792 rfl h2765))
  refine wp_of e187 c187_230 (xs_I (pc' := 231) w2833 g2840 (by decide) sh_56 (by decide) (ty_56 _) (by omega) (by omega) ⟨by omega, by omega⟩ (by omega) (by omega) rfl (fun H2842 e2843 w2844 => ?_))
  have f2845 := f2834.put' e2843 g2840 rfl
  have h2846 : MA10 T H2842 rp (xdper B n (xN B n q) d 2) := MA_put h2841 q2839 grp g2840 (by decide) e2843 (by omega) (fun j hj => xdper_n (k := ((H2790 rp 3).toNat)) (by omega) (by omega) hj)
  refine wp_of e187 c187_231 (rw_aload_n (pc' := 232) (v := .ref r0) rfl rfl rfl ?_)
  have k2847 : H2842 r0 4 = H2831 r0 4 := (wq_u_t e2843 g2840 g0 rfl 4)
  have q2848 : H2842 r0 4 = (rp : Int) := k2847.trans q2837
  refine wp_of e187 c187_232 (xg_K (pc' := 235) lf_9_166 w2844 g0 sh_42 (by decide) (by decide) rfl q2848 rfl ?_)
  refine wp_of e187 c187_235 (xg_R (pc' := 238) lf_9_250 w2844 grp sh_54 (by decide) (by decide) ty_54_11 rfl rfl (fun r2849 q2850 g2851 => ?_))
  refine wp_of e187 c187_238 (rw_iload (pc' := 240) (z := H2790 rp 3) rfl rfl ?_)
  refine wp_of e187 c187_240 (rw_iload (pc' := 242) (z := v2783) rfl rfl ?_)
  have h2852 : MA11 T H2842 rp (d 3) := (MA11_fr w2833 grp ((wfr.rf (l := [(56, 999)])).put' e2843 g2840 rfl) rfl (MA11_fr w2791 grp ((wfr.rf (l := [(55, 999)])).put' e2832 g2829 rfl) rfl (MA11_fr hW grp f2792 rfl h2766)))
  refine wp_of e187 c187_242 (xs_I (pc' := 243) w2844 g2851 (by decide) sh_57 (by decide) (ty_57 _) (by omega) (by omega) ⟨by omega, by omega⟩ (by omega) (by omega) rfl (fun H2853 e2854 w2855 => ?_))
  have f2856 := f2845.put' e2854 g2851 rfl
  have h2857 : MA11 T H2853 rp (xdper B n (xN B n q) d 3) := MA_put h2852 q2850 grp g2851 (by decide) e2854 (by omega) (fun j hj => xdper_n (k := ((H2790 rp 3).toNat)) (by omega) (by omega) hj)
  refine wp_of e187 c187_243 (rw_aload_n (pc' := 244) (v := .ref r0) rfl rfl rfl ?_)
  have k2858 : H2853 r0 4 = H2842 r0 4 := (wq_u_t e2854 g2851 g0 rfl 4)
  have q2859 : H2853 r0 4 = (rp : Int) := k2858.trans q2848
  refine wp_of e187 c187_244 (xg_K (pc' := 247) lf_9_166 w2855 g0 sh_42 (by decide) (by decide) rfl q2859 rfl ?_)
  refine wp_of e187 c187_247 (xg_R (pc' := 250) lf_9_253 w2855 grp sh_54 (by decide) (by decide) ty_54_12 rfl rfl (fun r2860 q2861 g2862 => ?_))
  refine wp_of e187 c187_250 (rw_iload (pc' := 252) (z := H2790 rp 3) rfl rfl ?_)
  refine wp_of e187 c187_252 (rw_iload (pc' := 254) (z := v2784) rfl rfl ?_)
  have h2863 : MA12 T H2853 rp (d 4) := (MA12_fr w2844 grp ((wfr.rf (l := [(57, 999)])).put' e2854 g2851 rfl) rfl (MA12_fr w2833 grp ((wfr.rf (l := [(56, 999)])).put' e2843 g2840 rfl) rfl (MA12_fr w2791 grp ((wfr.rf (l := [(55, 999)])).put' e2832 g2829 rfl) rfl (MA12_fr hW grp f2792 rfl h2767))))
  refine wp_of e187 c187_254 (xs_I (pc' := 255) w2855 g2862 (by decide) sh_58 (by decide) (ty_58 _) (by omega) (by omega) ⟨by omega, by omega⟩ (by omega) (by omega) rfl (fun H2864 e2865 w2866 => ?_))
  have f2867 := f2856.put' e2865 g2862 rfl
  have h2868 : MA12 T H2864 rp (xdper B n (xN B n q) d 4) := MA_put h2863 q2861 grp g2862 (by decide) e2865 (by omega) (fun j hj => xdper_n (k := ((H2790 rp 3).toNat)) (by omega) (by omega) hj)
  refine wp_of e187 c187_255 (rw_aload_n (pc' := 256) (v := .ref r0) rfl rfl rfl ?_)
  have k2869 : H2864 r0 4 = H2853 r0 4 := (wq_u_t e2865 g2862 g0 rfl 4)
  have q2870 : H2864 r0 4 = (rp : Int) := k2869.trans q2859
  refine wp_of e187 c187_256 (xg_K (pc' := 259) lf_9_166 w2866 g0 sh_42 (by decide) (by decide) rfl q2870 rfl ?_)
  refine wp_of e187 c187_259 (xg_R (pc' := 262) lf_9_256 w2866 grp sh_54 (by decide) (by decide) ty_54_13 rfl rfl (fun r2871 q2872 g2873 => ?_))
  refine wp_of e187 c187_262 (rw_iload (pc' := 264) (z := H2790 rp 3) rfl rfl ?_)
  refine wp_of e187 c187_264 (rw_iload (pc' := 266) (z := v2785) rfl rfl ?_)
  have h2874 : MA13 T H2864 rp (d 5) := (MA13_fr w2855 grp ((wfr.rf (l := [(58, 999)])).put' e2865 g2862 rfl) rfl (MA13_fr w2844 grp ((wfr.rf (l := [(57, 999)])).put' e2854 g2851 rfl) rfl (MA13_fr w2833 grp ((wfr.rf (l := [(56, 999)])).put' e2843 g2840 rfl) rfl (MA13_fr w2791 grp ((wfr.rf (l := [(55, 999)])).put' e2832 g2829 rfl) rfl (MA13_fr hW grp f2792 rfl h2768)))))
  refine wp_of e187 c187_266 (xs_I (pc' := 267) w2866 g2873 (by decide) sh_59 (by decide) (ty_59 _) (by omega) (by omega) ⟨by omega, by omega⟩ (by omega) (by omega) rfl (fun H2875 e2876 w2877 => ?_))
  have f2878 := f2867.put' e2876 g2873 rfl
  have h2879 : MA13 T H2875 rp (xdper B n (xN B n q) d 5) := MA_put h2874 q2872 grp g2873 (by decide) e2876 (by omega) (fun j hj => xdper_n (k := ((H2790 rp 3).toNat)) (by omega) (by omega) hj)
  refine wp_of e187 c187_267 (rw_aload_n (pc' := 268) (v := .ref r0) rfl rfl rfl ?_)
  have k2880 : H2875 r0 4 = H2864 r0 4 := (wq_u_t e2876 g2873 g0 rfl 4)
  have q2881 : H2875 r0 4 = (rp : Int) := k2880.trans q2870
  refine wp_of e187 c187_268 (xg_K (pc' := 271) lf_9_166 w2877 g0 sh_42 (by decide) (by decide) rfl q2881 rfl ?_)
  refine wp_of e187 c187_271 (xg_R (pc' := 274) lf_9_259 w2877 grp sh_54 (by decide) (by decide) ty_54_14 rfl rfl (fun r2882 q2883 g2884 => ?_))
  refine wp_of e187 c187_274 (rw_iload (pc' := 276) (z := H2790 rp 3) rfl rfl ?_)
  refine wp_of e187 c187_276 (rw_iload (pc' := 278) (z := v2786) rfl rfl ?_)
  have h2885 : MA14 T H2875 rp (d 6) := (MA14_fr w2866 grp ((wfr.rf (l := [(59, 999)])).put' e2876 g2873 rfl) rfl (MA14_fr w2855 grp ((wfr.rf (l := [(58, 999)])).put' e2865 g2862 rfl) rfl (MA14_fr w2844 grp ((wfr.rf (l := [(57, 999)])).put' e2854 g2851 rfl) rfl (MA14_fr w2833 grp ((wfr.rf (l := [(56, 999)])).put' e2843 g2840 rfl) rfl (MA14_fr w2791 grp ((wfr.rf (l := [(55, 999)])).put' e2832 g2829 rfl) rfl (MA14_fr hW grp f2792 rfl h2769))))))
  refine wp_of e187 c187_278 (xs_I (pc' := 279) w2877 g2884 (by decide) sh_60 (by decide) (ty_60 _) (by omega) (by omega) ⟨by omega, by omega⟩ (by omega) (by omega) rfl (fun H2886 e2887 w2888 => ?_))
  have f2889 := f2878.put' e2887 g2884 rfl
  have h2890 : MA14 T H2886 rp (xdper B n (xN B n q) d 6) := MA_put h2885 q2883 grp g2884 (by decide) e2887 (by omega) (fun j hj => xdper_n (k := ((H2790 rp 3).toNat)) (by omega) (by omega) hj)
  refine wp_of e187 c187_279 (rw_aload_n (pc' := 280) (v := .ref r0) rfl rfl rfl ?_)
  have k2891 : H2886 r0 4 = H2875 r0 4 := (wq_u_t e2887 g2884 g0 rfl 4)
  have q2892 : H2886 r0 4 = (rp : Int) := k2891.trans q2881
  refine wp_of e187 c187_280 (xg_K (pc' := 283) lf_9_166 w2888 g0 sh_42 (by decide) (by decide) rfl q2892 rfl ?_)
  refine wp_of e187 c187_283 (xg_R (pc' := 286) lf_9_261 w2888 grp sh_54 (by decide) (by decide) ty_54_15 rfl rfl (fun r2893 q2894 g2895 => ?_))
  refine wp_of e187 c187_286 (rw_iload (pc' := 288) (z := H2790 rp 3) rfl rfl ?_)
  refine wp_of e187 c187_288 (rw_iload (pc' := 290) (z := v2787) rfl rfl ?_)
  have h2896 : MA15 T H2886 rp (d 7) := (MA15_fr w2877 grp ((wfr.rf (l := [(60, 999)])).put' e2887 g2884 rfl) rfl (MA15_fr w2866 grp ((wfr.rf (l := [(59, 999)])).put' e2876 g2873 rfl) rfl (MA15_fr w2855 grp ((wfr.rf (l := [(58, 999)])).put' e2865 g2862 rfl) rfl (MA15_fr w2844 grp ((wfr.rf (l := [(57, 999)])).put' e2854 g2851 rfl) rfl (MA15_fr w2833 grp ((wfr.rf (l := [(56, 999)])).put' e2843 g2840 rfl) rfl (MA15_fr w2791 grp ((wfr.rf (l := [(55, 999)])).put' e2832 g2829 rfl) rfl (MA15_fr hW grp f2792 rfl h2770)))))))
  refine wp_of e187 c187_290 (xs_I (pc' := 291) w2888 g2895 (by decide) sh_61 (by decide) (ty_61 _) (by omega) (by omega) ⟨by omega, by omega⟩ (by omega) (by omega) rfl (fun H2897 e2898 w2899 => ?_))
  have f2900 := f2889.put' e2898 g2895 rfl
  have h2901 : MA15 T H2897 rp (xdper B n (xN B n q) d 7) := MA_put h2896 q2894 grp g2895 (by decide) e2898 (by omega) (fun j hj => xdper_n (k := ((H2790 rp 3).toNat)) (by omega) (by omega) hj)
  refine wp_of e187 c187_291 (rw_aload_n (pc' := 292) (v := .ref r0) rfl rfl rfl ?_)
  have k2902 : H2897 r0 4 = H2886 r0 4 := (wq_u_t e2898 g2895 g0 rfl 4)
  have q2903 : H2897 r0 4 = (rp : Int) := k2902.trans q2892
  refine wp_of e187 c187_292 (xg_K (pc' := 295) lf_9_166 w2899 g0 sh_42 (by decide) (by decide) rfl q2903 rfl ?_)
  refine wp_of e187 c187_295 (xg_R (pc' := 298) lf_9_264 w2899 grp sh_54 (by decide) (by decide) ty_54_16 rfl rfl (fun r2904 q2905 g2906 => ?_))
  refine wp_of e187 c187_298 (rw_iload (pc' := 300) (z := H2790 rp 3) rfl rfl ?_)
  refine wp_of e187 c187_300 (rw_iload (pc' := 302) (z := v2788) rfl rfl ?_)
  have h2907 : MA16 T H2897 rp (d 8) := (MA16_fr w2888 grp ((wfr.rf (l := [(61, 999)])).put' e2898 g2895 rfl) rfl (MA16_fr w2877 grp ((wfr.rf (l := [(60, 999)])).put' e2887 g2884 rfl) rfl (MA16_fr w2866 grp ((wfr.rf (l := [(59, 999)])).put' e2876 g2873 rfl) rfl (MA16_fr w2855 grp ((wfr.rf (l := [(58, 999)])).put' e2865 g2862 rfl) rfl (MA16_fr w2844 grp ((wfr.rf (l := [(57, 999)])).put' e2854 g2851 rfl) rfl (MA16_fr w2833 grp ((wfr.rf (l := [(56, 999)])).put' e2843 g2840 rfl) rfl (MA16_fr w2791 grp ((wfr.rf (l := [(55, 999)])).put' e2832 g2829 rfl) rfl (MA16_fr hW grp f2792 rfl h2771))))))))
  refine wp_of e187 c187_302 (xs_I (pc' := 303) w2899 g2906 (by decide) sh_62 (by decide) (ty_62 _) (by omega) (by omega) ⟨by omega, by omega⟩ (by omega) (by omega) rfl (fun H2908 e2909 w2910 => ?_))
  have f2911 := f2900.put' e2909 g2906 rfl
  have h2912 : MA16 T H2908 rp (xdper B n (xN B n q) d 8) := MA_put h2907 q2905 grp g2906 (by decide) e2909 (by omega) (fun j hj => xdper_n (k := ((H2790 rp 3).toNat)) (by omega) (by omega) hj)
  refine wp_of e187 c187_303 (rw_aload_n (pc' := 304) (v := .ref r0) rfl rfl rfl ?_)
  have k2913 : H2908 r0 4 = H2897 r0 4 := (wq_u_t e2909 g2906 g0 rfl 4)
  have q2914 : H2908 r0 4 = (rp : Int) := k2913.trans q2903
  refine wp_of e187 c187_304 (xg_K (pc' := 307) lf_9_166 w2910 g0 sh_42 (by decide) (by decide) rfl q2914 rfl ?_)
  refine wp_of e187 c187_307 (xg_R (pc' := 310) lf_9_267 w2910 grp sh_54 (by decide) (by decide) ty_54_17 rfl rfl (fun r2915 q2916 g2917 => ?_))
  refine wp_of e187 c187_310 (rw_iload (pc' := 312) (z := H2790 rp 3) rfl rfl ?_)
  refine wp_of e187 c187_312 (rw_iload (pc' := 314) (z := v2789) rfl rfl ?_)
  have h2918 : MA17 T H2908 rp (d 9) := (MA17_fr w2899 grp ((wfr.rf (l := [(62, 999)])).put' e2909 g2906 rfl) rfl (MA17_fr w2888 grp ((wfr.rf (l := [(61, 999)])).put' e2898 g2895 rfl) rfl (MA17_fr w2877 grp ((wfr.rf (l := [(60, 999)])).put' e2887 g2884 rfl) rfl (MA17_fr w2866 grp ((wfr.rf (l := [(59, 999)])).put' e2876 g2873 rfl) rfl (MA17_fr w2855 grp ((wfr.rf (l := [(58, 999)])).put' e2865 g2862 rfl) rfl (MA17_fr w2844 grp ((wfr.rf (l := [(57, 999)])).put' e2854 g2851 rfl) rfl (MA17_fr w2833 grp ((wfr.rf (l := [(56, 999)])).put' e2843 g2840 rfl) rfl (MA17_fr w2791 grp ((wfr.rf (l := [(55, 999)])).put' e2832 g2829 rfl) rfl (MA17_fr hW grp f2792 rfl h2772)))))))))
  refine wp_of e187 c187_314 (xs_Z (pc' := 315) w2910 g2917 (by decide) sh_63 (by decide) (ty_63 _) (by omega) (by omega) ⟨by omega, by omega⟩ (by omega) (by omega) rfl (fun H2919 e2920 w2921 => ?_))
  have f2922 := f2911.put' e2920 g2917 rfl
  have h2923 : MA17 T H2919 rp (xdper B n (xN B n q) d 9) := MA_put h2918 q2916 grp g2917 (by decide) e2920 (by omega) (fun j hj => xdper_n (k := ((H2790 rp 3).toNat)) (by omega) (by omega) hj)
  refine wp_of e187 c187_315 (rw_aload_n (pc' := 316) (v := .ref r0) rfl rfl rfl ?_)
  have k2924 : H2919 r0 4 = H2908 r0 4 := (wq_u_t e2920 g2917 g0 rfl 4)
  have q2925 : H2919 r0 4 = (rp : Int) := k2924.trans q2914
  refine wp_of e187 c187_316 (xg_K (pc' := 319) lf_9_166 w2921 g0 sh_42 (by decide) (by decide) rfl q2925 rfl ?_)
  refine wp_of e187 c187_319 (rw_dup (pc' := 320) rfl rfl ?_)
  have k2926 : H2919 rp 3 = H2790 rp 3 := ((wq_u_t e2920 g2917 grp rfl 3).trans ((wq_u_t e2909 g2906 grp rfl 3).trans ((wq_u_t e2898 g2895 grp rfl 3).trans ((wq_u_t e2887 g2884 grp rfl 3).trans ((wq_u_t e2876 g2873 grp rfl 3).trans ((wq_u_t e2865 g2862 grp rfl 3).trans ((wq_u_t e2854 g2851 grp rfl 3).trans ((wq_u_t e2843 g2840 grp rfl 3).trans (wq_u_t e2832 g2829 grp rfl 3)))))))))
  refine wp_of e187 c187_320 (xg_I (pc' := 323) lf_9_188 w2921 grp sh_54 (by decide) (by decide) ty_54_3 rfl rfl (fun b2927 b2928 => ?_))
  refine wp_of e187 c187_323 (rw_iconst (pc' := 324) rfl ?_)
  refine wp_of e187 c187_324 (rw_iadd (pc' := 325) rfl ?_)
  refine wp_of e187 c187_325 (xp_I (pc' := 328) lf_9_188 w2921 grp sh_54 (by decide) (by decide) ty_54_3 rfl rfl (by omega) (by omega) ⟨by omega, by omega⟩ rfl (fun H2929 e2930 w2931 => ?_))
  have f2932 := f2922.put' e2930 grp rfl
  have k2933 : H2929 rp 3 = (H2919 rp 3) + 1 := wq_u_s e2930
  have k2934 : H2929 rp 0 = H2790 rp 0 := ((wq_u_j e2930 rfl).trans ((wq_u_t e2920 g2917 grp rfl 0).trans ((wq_u_t e2909 g2906 grp rfl 0).trans ((wq_u_t e2898 g2895 grp rfl 0).trans ((wq_u_t e2887 g2884 grp rfl 0).trans ((wq_u_t e2876 g2873 grp rfl 0).trans ((wq_u_t e2865 g2862 grp rfl 0).trans ((wq_u_t e2854 g2851 grp rfl 0).trans ((wq_u_t e2843 g2840 grp rfl 0).trans (wq_u_t e2832 g2829 grp rfl 0))))))))))
  have k2935 : H2929 rp 1 = H2790 rp 1 := ((wq_u_j e2930 rfl).trans ((wq_u_t e2920 g2917 grp rfl 1).trans ((wq_u_t e2909 g2906 grp rfl 1).trans ((wq_u_t e2898 g2895 grp rfl 1).trans ((wq_u_t e2887 g2884 grp rfl 1).trans ((wq_u_t e2876 g2873 grp rfl 1).trans ((wq_u_t e2865 g2862 grp rfl 1).trans ((wq_u_t e2854 g2851 grp rfl 1).trans ((wq_u_t e2843 g2840 grp rfl 1).trans (wq_u_t e2832 g2829 grp rfl 1))))))))))
  have k2936 : H2929 rp 2 = H2790 rp 2 := ((wq_u_j e2930 rfl).trans ((wq_u_t e2920 g2917 grp rfl 2).trans ((wq_u_t e2909 g2906 grp rfl 2).trans ((wq_u_t e2898 g2895 grp rfl 2).trans ((wq_u_t e2887 g2884 grp rfl 2).trans ((wq_u_t e2876 g2873 grp rfl 2).trans ((wq_u_t e2865 g2862 grp rfl 2).trans ((wq_u_t e2854 g2851 grp rfl 2).trans ((wq_u_t e2843 g2840 grp rfl 2).trans (wq_u_t e2832 g2829 grp rfl 2))))))))))
  have k2937 : H2929 rp 4 = H2790 rp 4 := ((wq_u_j e2930 rfl).trans ((wq_u_t e2920 g2917 grp rfl 4).trans ((wq_u_t e2909 g2906 grp rfl 4).trans ((wq_u_t e2898 g2895 grp rfl 4).trans ((wq_u_t e2887 g2884 grp rfl 4).trans ((wq_u_t e2876 g2873 grp rfl 4).trans ((wq_u_t e2865 g2862 grp rfl 4).trans ((wq_u_t e2854 g2851 grp rfl 4).trans ((wq_u_t e2843 g2840 grp rfl 4).trans (wq_u_t e2832 g2829 grp rfl 4))))))))))
  have k2938 : H2929 rp 5 = H2790 rp 5 := ((wq_u_j e2930 rfl).trans ((wq_u_t e2920 g2917 grp rfl 5).trans ((wq_u_t e2909 g2906 grp rfl 5).trans ((wq_u_t e2898 g2895 grp rfl 5).trans ((wq_u_t e2887 g2884 grp rfl 5).trans ((wq_u_t e2876 g2873 grp rfl 5).trans ((wq_u_t e2865 g2862 grp rfl 5).trans ((wq_u_t e2854 g2851 grp rfl 5).trans ((wq_u_t e2843 g2840 grp rfl 5).trans (wq_u_t e2832 g2829 grp rfl 5))))))))))
  have k2939 : H2929 rp 6 = H2790 rp 6 := ((wq_u_j e2930 rfl).trans ((wq_u_t e2920 g2917 grp rfl 6).trans ((wq_u_t e2909 g2906 grp rfl 6).trans ((wq_u_t e2898 g2895 grp rfl 6).trans ((wq_u_t e2887 g2884 grp rfl 6).trans ((wq_u_t e2876 g2873 grp rfl 6).trans ((wq_u_t e2865 g2862 grp rfl 6).trans ((wq_u_t e2854 g2851 grp rfl 6).trans ((wq_u_t e2843 g2840 grp rfl 6).trans (wq_u_t e2832 g2829 grp rfl 6))))))))))
  have k2940 : H2929 rp 7 = H2790 rp 7 := ((wq_u_j e2930 rfl).trans ((wq_u_t e2920 g2917 grp rfl 7).trans ((wq_u_t e2909 g2906 grp rfl 7).trans ((wq_u_t e2898 g2895 grp rfl 7).trans ((wq_u_t e2887 g2884 grp rfl 7).trans ((wq_u_t e2876 g2873 grp rfl 7).trans ((wq_u_t e2865 g2862 grp rfl 7).trans ((wq_u_t e2854 g2851 grp rfl 7).trans ((wq_u_t e2843 g2840 grp rfl 7).trans (wq_u_t e2832 g2829 grp rfl 7))))))))))
  have k2941 : H2929 rp 8 = H2790 rp 8 := ((wq_u_j e2930 rfl).trans ((wq_u_t e2920 g2917 grp rfl 8).trans ((wq_u_t e2909 g2906 grp rfl 8).trans ((wq_u_t e2898 g2895 grp rfl 8).trans ((wq_u_t e2887 g2884 grp rfl 8).trans ((wq_u_t e2876 g2873 grp rfl 8).trans ((wq_u_t e2865 g2862 grp rfl 8).trans ((wq_u_t e2854 g2851 grp rfl 8).trans ((wq_u_t e2843 g2840 grp rfl 8).trans (wq_u_t e2832 g2829 grp rfl 8))))))))))
  have k2942 : H2929 r0 16 = H2790 r0 16 := ((wq_u_t e2930 grp g0 rfl 16).trans ((wq_u_t e2920 g2917 g0 rfl 16).trans ((wq_u_t e2909 g2906 g0 rfl 16).trans ((wq_u_t e2898 g2895 g0 rfl 16).trans ((wq_u_t e2887 g2884 g0 rfl 16).trans ((wq_u_t e2876 g2873 g0 rfl 16).trans ((wq_u_t e2865 g2862 g0 rfl 16).trans ((wq_u_t e2854 g2851 g0 rfl 16).trans ((wq_u_t e2843 g2840 g0 rfl 16).trans (wq_u_t e2832 g2829 g0 rfl 16))))))))))
  have _l := @xdper_v B n (xN B n q) d
  have h2943 : RC T H2929 r0 B n (xl1 B n q d).2.2 := (RC_fr w2921 g0 ((wfr.rf (l := [(54, 3)])).put' e2930 grp rfl) rfl (RC_fr w2910 g0 ((wfr.rf (l := [(63, 999)])).put' e2920 g2917 rfl) rfl (RC_fr w2899 g0 ((wfr.rf (l := [(62, 999)])).put' e2909 g2906 rfl) rfl (RC_fr w2888 g0 ((wfr.rf (l := [(61, 999)])).put' e2898 g2895 rfl) rfl (RC_fr w2877 g0 ((wfr.rf (l := [(60, 999)])).put' e2887 g2884 rfl) rfl (RC_fr w2866 g0 ((wfr.rf (l := [(59, 999)])).put' e2876 g2873 rfl) rfl (RC_fr w2855 g0 ((wfr.rf (l := [(58, 999)])).put' e2865 g2862 rfl) rfl (RC_fr w2844 g0 ((wfr.rf (l := [(57, 999)])).put' e2854 g2851 rfl) rfl (RC_fr w2833 g0 ((wfr.rf (l := [(56, 999)])).put' e2843 g2840 rfl) rfl (RC_fr w2791 g0 ((wfr.rf (l := [(55, 999)])).put' e2832 g2829 rfl) rfl h2803))))))))))
  have h2944 : MA9 T H2929 rp (xdper B n (xN B n q) d 1) := (MA9_fr w2921 grp ((wfr.rf (l := [(54, 3)])).put' e2930 grp rfl) rfl (MA9_fr w2910 grp ((wfr.rf (l := [(63, 999)])).put' e2920 g2917 rfl) rfl (MA9_fr w2899 grp ((wfr.rf (l := [(62, 999)])).put' e2909 g2906 rfl) rfl (MA9_fr w2888 grp ((wfr.rf (l := [(61, 999)])).put' e2898 g2895 rfl) rfl (MA9_fr w2877 grp ((wfr.rf (l := [(60, 999)])).put' e2887 g2884 rfl) rfl (MA9_fr w2866 grp ((wfr.rf (l := [(59, 999)])).put' e2876 g2873 rfl) rfl (MA9_fr w2855 grp ((wfr.rf (l := [(58, 999)])).put' e2865 g2862 rfl) rfl (MA9_fr w2844 grp ((wfr.rf (l := [(57, 999)])).put' e2854 g2851 rfl) rfl (MA9_fr w2833 grp ((wfr.rf (l := [(56, 999)])).put' e2843 g2840 rfl) rfl h2835)))))))))
  have h2945 : MA10 T H2929 rp (xdper B n (xN B n q) d 2) := (MA10_fr w2921 grp ((wfr.rf (l := [(54, 3)])).put' e2930 grp rfl) rfl (MA10_fr w2910 grp ((wfr.rf (l := [(63, 999)])).put' e2920 g2917 rfl) rfl (MA10_fr w2899 grp ((wfr.rf (l := [(62, 999)])).put' e2909 g2906 rfl) rfl (MA10_fr w2888 grp ((wfr.rf (l := [(61, 999)])).put' e2898 g2895 rfl) rfl (MA10_fr w2877 grp ((wfr.rf (l := [(60, 999)])).put' e2887 g2884 rfl) rfl (MA10_fr w2866 grp ((wfr.rf (l := [(59, 999)])).put' e2876 g2873 rfl) rfl (MA10_fr w2855 grp ((wfr.rf (l := [(58, 999)])).put' e2865 g2862 rfl) rfl (MA10_fr w2844 grp ((wfr.rf (l := [(57, 999)])).put' e2854 g2851 rfl) rfl h2846))))))))
  have h2946 : MA11 T H2929 rp (xdper B n (xN B n q) d 3) := (MA11_fr w2921 grp ((wfr.rf (l := [(54, 3)])).put' e2930 grp rfl) rfl (MA11_fr w2910 grp ((wfr.rf (l := [(63, 999)])).put' e2920 g2917 rfl) rfl (MA11_fr w2899 grp ((wfr.rf (l := [(62, 999)])).put' e2909 g2906 rfl) rfl (MA11_fr w2888 grp ((wfr.rf (l := [(61, 999)])).put' e2898 g2895 rfl) rfl (MA11_fr w2877 grp ((wfr.rf (l := [(60, 999)])).put' e2887 g2884 rfl) rfl (MA11_fr w2866 grp ((wfr.rf (l := [(59, 999)])).put' e2876 g2873 rfl) rfl (MA11_fr w2855 grp ((wfr.rf (l := [(58, 999)])).put' e2865 g2862 rfl) rfl h2857)))))))
  have h2947 : MA12 T H2929 rp (xdper B n (xN B n q) d 4) := (MA12_fr w2921 grp ((wfr.rf (l := [(54, 3)])).put' e2930 grp rfl) rfl (MA12_fr w2910 grp ((wfr.rf (l := [(63, 999)])).put' e2920 g2917 rfl) rfl (MA12_fr w2899 grp ((wfr.rf (l := [(62, 999)])).put' e2909 g2906 rfl) rfl (MA12_fr w2888 grp ((wfr.rf (l := [(61, 999)])).put' e2898 g2895 rfl) rfl (MA12_fr w2877 grp ((wfr.rf (l := [(60, 999)])).put' e2887 g2884 rfl) rfl (MA12_fr w2866 grp ((wfr.rf (l := [(59, 999)])).put' e2876 g2873 rfl) rfl h2868))))))
  have h2948 : MA13 T H2929 rp (xdper B n (xN B n q) d 5) := (MA13_fr w2921 grp ((wfr.rf (l := [(54, 3)])).put' e2930 grp rfl) rfl (MA13_fr w2910 grp ((wfr.rf (l := [(63, 999)])).put' e2920 g2917 rfl) rfl (MA13_fr w2899 grp ((wfr.rf (l := [(62, 999)])).put' e2909 g2906 rfl) rfl (MA13_fr w2888 grp ((wfr.rf (l := [(61, 999)])).put' e2898 g2895 rfl) rfl (MA13_fr w2877 grp ((wfr.rf (l := [(60, 999)])).put' e2887 g2884 rfl) rfl h2879)))))
  have h2949 : MA14 T H2929 rp (xdper B n (xN B n q) d 6) := (MA14_fr w2921 grp ((wfr.rf (l := [(54, 3)])).put' e2930 grp rfl) rfl (MA14_fr w2910 grp ((wfr.rf (l := [(63, 999)])).put' e2920 g2917 rfl) rfl (MA14_fr w2899 grp ((wfr.rf (l := [(62, 999)])).put' e2909 g2906 rfl) rfl (MA14_fr w2888 grp ((wfr.rf (l := [(61, 999)])).put' e2898 g2895 rfl) rfl h2890))))
  have h2950 : MA15 T H2929 rp (xdper B n (xN B n q) d 7) := (MA15_fr w2921 grp ((wfr.rf (l := [(54, 3)])).put' e2930 grp rfl) rfl (MA15_fr w2910 grp ((wfr.rf (l := [(63, 999)])).put' e2920 g2917 rfl) rfl (MA15_fr w2899 grp ((wfr.rf (l := [(62, 999)])).put' e2909 g2906 rfl) rfl h2901)))
  have h2951 : MA16 T H2929 rp (xdper B n (xN B n q) d 8) := (MA16_fr w2921 grp ((wfr.rf (l := [(54, 3)])).put' e2930 grp rfl) rfl (MA16_fr w2910 grp ((wfr.rf (l := [(63, 999)])).put' e2920 g2917 rfl) rfl h2912))
  have h2952 : MA17 T H2929 rp (xdper B n (xN B n q) d 9) := (MA17_fr w2921 grp ((wfr.rf (l := [(54, 3)])).put' e2930 grp rfl) rfl h2923)
  have h2953 : MA18 T H2929 rp (d 10) := (MA18_fr w2921 grp ((wfr.rf (l := [(54, 3)])).put' e2930 grp rfl) rfl (MA18_fr w2910 grp ((wfr.rf (l := [(63, 999)])).put' e2920 g2917 rfl) rfl (MA18_fr w2899 grp ((wfr.rf (l := [(62, 999)])).put' e2909 g2906 rfl) rfl (MA18_fr w2888 grp ((wfr.rf (l := [(61, 999)])).put' e2898 g2895 rfl) rfl (MA18_fr w2877 grp ((wfr.rf (l := [(60, 999)])).put' e2887 g2884 rfl) rfl (MA18_fr w2866 grp ((wfr.rf (l := [(59, 999)])).put' e2876 g2873 rfl) rfl (MA18_fr w2855 grp ((wfr.rf (l := [(58, 999)])).put' e2865 g2862 rfl) rfl (MA18_fr w2844 grp ((wfr.rf (l := [(57, 999)])).put' e2854 g2851 rfl) rfl (MA18_fr w2833 grp ((wfr.rf (l := [(56, 999)])).put' e2843 g2840 rfl) rfl (MA18_fr w2791 grp ((wfr.rf (l := [(55, 999)])).put' e2832 g2829 rfl) rfl (MA18_fr hW grp f2792 rfl h2773)))))))))))
  have h2954 : MA19 T H2929 rp (d 11) := (MA19_fr w2921 grp ((wfr.rf (l := [(54, 3)])).put' e2930 grp rfl) rfl (MA19_fr w2910 grp ((wfr.rf (l := [(63, 999)])).put' e2920 g2917 rfl) rfl (MA19_fr w2899 grp ((wfr.rf (l := [(62, 999)])).put' e2909 g2906 rfl) rfl (MA19_fr w2888 grp ((wfr.rf (l := [(61, 999)])).put' e2898 g2895 rfl) rfl (MA19_fr w2877 grp ((wfr.rf (l := [(60, 999)])).put' e2887 g2884 rfl) rfl (MA19_fr w2866 grp ((wfr.rf (l := [(59, 999)])).put' e2876 g2873 rfl) rfl (MA19_fr w2855 grp ((wfr.rf (l := [(58, 999)])).put' e2865 g2862 rfl) rfl (MA19_fr w2844 grp ((wfr.rf (l := [(57, 999)])).put' e2854 g2851 rfl) rfl (MA19_fr w2833 grp ((wfr.rf (l := [(56, 999)])).put' e2843 g2840 rfl) rfl (MA19_fr w2791 grp ((wfr.rf (l := [(55, 999)])).put' e2832 g2829 rfl) rfl (MA19_fr hW grp f2792 rfl h2774)))))))))))
  have h2955 : MA20 T H2929 rp (d 12) := (MA20_fr w2921 grp ((wfr.rf (l := [(54, 3)])).put' e2930 grp rfl) rfl (MA20_fr w2910 grp ((wfr.rf (l := [(63, 999)])).put' e2920 g2917 rfl) rfl (MA20_fr w2899 grp ((wfr.rf (l := [(62, 999)])).put' e2909 g2906 rfl) rfl (MA20_fr w2888 grp ((wfr.rf (l := [(61, 999)])).put' e2898 g2895 rfl) rfl (MA20_fr w2877 grp ((wfr.rf (l := [(60, 999)])).put' e2887 g2884 rfl) rfl (MA20_fr w2866 grp ((wfr.rf (l := [(59, 999)])).put' e2876 g2873 rfl) rfl (MA20_fr w2855 grp ((wfr.rf (l := [(58, 999)])).put' e2865 g2862 rfl) rfl (MA20_fr w2844 grp ((wfr.rf (l := [(57, 999)])).put' e2854 g2851 rfl) rfl (MA20_fr w2833 grp ((wfr.rf (l := [(56, 999)])).put' e2843 g2840 rfl) rfl (MA20_fr w2791 grp ((wfr.rf (l := [(55, 999)])).put' e2832 g2829 rfl) rfl (MA20_fr hW grp f2792 rfl h2775)))))))))))
  have h2956 : MA21 T H2929 rp (d 13) := (MA21_fr w2921 grp ((wfr.rf (l := [(54, 3)])).put' e2930 grp rfl) rfl (MA21_fr w2910 grp ((wfr.rf (l := [(63, 999)])).put' e2920 g2917 rfl) rfl (MA21_fr w2899 grp ((wfr.rf (l := [(62, 999)])).put' e2909 g2906 rfl) rfl (MA21_fr w2888 grp ((wfr.rf (l := [(61, 999)])).put' e2898 g2895 rfl) rfl (MA21_fr w2877 grp ((wfr.rf (l := [(60, 999)])).put' e2887 g2884 rfl) rfl (MA21_fr w2866 grp ((wfr.rf (l := [(59, 999)])).put' e2876 g2873 rfl) rfl (MA21_fr w2855 grp ((wfr.rf (l := [(58, 999)])).put' e2865 g2862 rfl) rfl (MA21_fr w2844 grp ((wfr.rf (l := [(57, 999)])).put' e2854 g2851 rfl) rfl (MA21_fr w2833 grp ((wfr.rf (l := [(56, 999)])).put' e2843 g2840 rfl) rfl (MA21_fr w2791 grp ((wfr.rf (l := [(55, 999)])).put' e2832 g2829 rfl) rfl (MA21_fr hW grp f2792 rfl h2776)))))))))))
  have h2957 : MA22 T H2929 rp (d 14) := (MA22_fr w2921 grp ((wfr.rf (l := [(54, 3)])).put' e2930 grp rfl) rfl (MA22_fr w2910 grp ((wfr.rf (l := [(63, 999)])).put' e2920 g2917 rfl) rfl (MA22_fr w2899 grp ((wfr.rf (l := [(62, 999)])).put' e2909 g2906 rfl) rfl (MA22_fr w2888 grp ((wfr.rf (l := [(61, 999)])).put' e2898 g2895 rfl) rfl (MA22_fr w2877 grp ((wfr.rf (l := [(60, 999)])).put' e2887 g2884 rfl) rfl (MA22_fr w2866 grp ((wfr.rf (l := [(59, 999)])).put' e2876 g2873 rfl) rfl (MA22_fr w2855 grp ((wfr.rf (l := [(58, 999)])).put' e2865 g2862 rfl) rfl (MA22_fr w2844 grp ((wfr.rf (l := [(57, 999)])).put' e2854 g2851 rfl) rfl (MA22_fr w2833 grp ((wfr.rf (l := [(56, 999)])).put' e2843 g2840 rfl) rfl (MA22_fr w2791 grp ((wfr.rf (l := [(55, 999)])).put' e2832 g2829 rfl) rfl (MA22_fr hW grp f2792 rfl h2777)))))))))))
  have h2958 : MA23 T H2929 rp (d 15) := (MA23_fr w2921 grp ((wfr.rf (l := [(54, 3)])).put' e2930 grp rfl) rfl (MA23_fr w2910 grp ((wfr.rf (l := [(63, 999)])).put' e2920 g2917 rfl) rfl (MA23_fr w2899 grp ((wfr.rf (l := [(62, 999)])).put' e2909 g2906 rfl) rfl (MA23_fr w2888 grp ((wfr.rf (l := [(61, 999)])).put' e2898 g2895 rfl) rfl (MA23_fr w2877 grp ((wfr.rf (l := [(60, 999)])).put' e2887 g2884 rfl) rfl (MA23_fr w2866 grp ((wfr.rf (l := [(59, 999)])).put' e2876 g2873 rfl) rfl (MA23_fr w2855 grp ((wfr.rf (l := [(58, 999)])).put' e2865 g2862 rfl) rfl (MA23_fr w2844 grp ((wfr.rf (l := [(57, 999)])).put' e2854 g2851 rfl) rfl (MA23_fr w2833 grp ((wfr.rf (l := [(56, 999)])).put' e2843 g2840 rfl) rfl (MA23_fr w2791 grp ((wfr.rf (l := [(55, 999)])).put' e2832 g2829 rfl) rfl (MA23_fr hW grp f2792 rfl h2778)))))))))))
  have h2959 : MA25 T H2929 rp (d 17) := (MA25_fr w2921 grp ((wfr.rf (l := [(54, 3)])).put' e2930 grp rfl) rfl (MA25_fr w2910 grp ((wfr.rf (l := [(63, 999)])).put' e2920 g2917 rfl) rfl (MA25_fr w2899 grp ((wfr.rf (l := [(62, 999)])).put' e2909 g2906 rfl) rfl (MA25_fr w2888 grp ((wfr.rf (l := [(61, 999)])).put' e2898 g2895 rfl) rfl (MA25_fr w2877 grp ((wfr.rf (l := [(60, 999)])).put' e2887 g2884 rfl) rfl (MA25_fr w2866 grp ((wfr.rf (l := [(59, 999)])).put' e2876 g2873 rfl) rfl (MA25_fr w2855 grp ((wfr.rf (l := [(58, 999)])).put' e2865 g2862 rfl) rfl (MA25_fr w2844 grp ((wfr.rf (l := [(57, 999)])).put' e2854 g2851 rfl) rfl (MA25_fr w2833 grp ((wfr.rf (l := [(56, 999)])).put' e2843 g2840 rfl) rfl (MA25_fr w2791 grp ((wfr.rf (l := [(55, 999)])).put' e2832 g2829 rfl) rfl (MA25_fr hW grp f2792 rfl h2779)))))))))))
  have h2960 : MA26 T H2929 rp (d 16) := (MA26_fr w2921 grp ((wfr.rf (l := [(54, 3)])).put' e2930 grp rfl) rfl (MA26_fr w2910 grp ((wfr.rf (l := [(63, 999)])).put' e2920 g2917 rfl) rfl (MA26_fr w2899 grp ((wfr.rf (l := [(62, 999)])).put' e2909 g2906 rfl) rfl (MA26_fr w2888 grp ((wfr.rf (l := [(61, 999)])).put' e2898 g2895 rfl) rfl (MA26_fr w2877 grp ((wfr.rf (l := [(60, 999)])).put' e2887 g2884 rfl) rfl (MA26_fr w2866 grp ((wfr.rf (l := [(59, 999)])).put' e2876 g2873 rfl) rfl (MA26_fr w2855 grp ((wfr.rf (l := [(58, 999)])).put' e2865 g2862 rfl) rfl (MA26_fr w2844 grp ((wfr.rf (l := [(57, 999)])).put' e2854 g2851 rfl) rfl (MA26_fr w2833 grp ((wfr.rf (l := [(56, 999)])).put' e2843 g2840 rfl) rfl (MA26_fr w2791 grp ((wfr.rf (l := [(55, 999)])).put' e2832 g2829 rfl) rfl (MA26_fr hW grp f2792 rfl h2780)))))))))))
  exact wp_return e187 c187_328 rfl ⟨rfl, w2931, f2932, rfl, (Or.inl ⟨by omega, by omega, (fun a ha ga => ((wq_u_a e2930 ha 3).trans ((wq_u_t e2920 g2917 ga rfl 3).trans ((wq_u_t e2909 g2906 ga rfl 3).trans ((wq_u_t e2898 g2895 ga rfl 3).trans ((wq_u_t e2887 g2884 ga rfl 3).trans ((wq_u_t e2876 g2873 ga rfl 3).trans ((wq_u_t e2865 g2862 ga rfl 3).trans ((wq_u_t e2854 g2851 ga rfl 3).trans ((wq_u_t e2843 g2840 ga rfl 3).trans ((wq_u_t e2832 g2829 ga rfl 3).trans (f2792 a 3 _ ga rfl)))))))))))), h2943, DM_mk hDM_rp.1 ⟨by omega, by omega, by omega, by omega, by omega, by omega, by omega, by omega, by omega, by omega, by omega, by omega⟩ (xdP_per hDM_rp.2.2.1 (k := ((H2790 rp 3)).toNat) (by omega) ⟨by omega, by omega, by omega, by omega, by omega, by omega, by omega, by omega, by omega, by omega, by omega, by omega, by omega, by omega, by omega⟩) h2944 h2945 h2946 h2947 h2948 h2949 h2950 h2951 h2952 h2953 h2954 h2955 h2956 h2957 h2958 h2959 h2960 ⟨rfl, rfl, rfl, rfl, rfl, rfl, rfl, rfl, rfl, (by unfold xdper; rw [wq_u_row (by decide), wq_u_row (by decide), wq_u_row (by decide), wq_u_row (by decide), wq_u_row (by decide), wq_u_row (by decide), wq_u_row (by decide), wq_u_row (by decide), wq_u_row (by decide), wq_u_row (by decide)]), (by unfold xdper; rw [wq_u_row (by decide), wq_u_row (by decide), wq_u_row (by decide), wq_u_row (by decide), wq_u_row (by decide), wq_u_row (by decide), wq_u_row (by decide), wq_u_row (by decide), wq_u_row (by decide), wq_u_row (by decide)]), (by unfold xdper; rw [wq_u_row (by decide), wq_u_row (by decide), wq_u_row (by decide), wq_u_row (by decide), wq_u_row (by decide), wq_u_row (by decide), wq_u_row (by decide), wq_u_row (by decide), wq_u_row (by decide), wq_u_row (by decide)]), (by unfold xdper; rw [wq_u_row (by decide), wq_u_row (by decide), wq_u_row (by decide), wq_u_row (by decide), wq_u_row (by decide), wq_u_row (by decide), wq_u_row (by decide), wq_u_row (by decide), wq_u_row (by decide), wq_u_row (by decide)]), (by unfold xdper; rw [wq_u_row (by decide), wq_u_row (by decide), wq_u_row (by decide), wq_u_row (by decide), wq_u_row (by decide), wq_u_row (by decide), wq_u_row (by decide), wq_u_row (by decide), wq_u_row (by decide), wq_u_row (by decide)]), (by unfold xdper; rw [wq_u_row (by decide), wq_u_row (by decide), wq_u_row (by decide), wq_u_row (by decide), wq_u_row (by decide), wq_u_row (by decide), wq_u_row (by decide), wq_u_row (by decide), wq_u_row (by decide), wq_u_row (by decide)]), (by unfold xdper; rw [wq_u_row (by decide), wq_u_row (by decide), wq_u_row (by decide), wq_u_row (by decide), wq_u_row (by decide), wq_u_row (by decide), wq_u_row (by decide), wq_u_row (by decide), wq_u_row (by decide), wq_u_row (by decide)]), (by unfold xdper; rw [wq_u_row (by decide), wq_u_row (by decide), wq_u_row (by decide), wq_u_row (by decide), wq_u_row (by decide), wq_u_row (by decide), wq_u_row (by decide), wq_u_row (by decide), wq_u_row (by decide), wq_u_row (by decide)])⟩⟩)⟩
set_option maxHeartbeats 60000000 in
theorem u_187_k_t183o {kt : Nat → Option mc_E} {T : wq_T} {H : wq_H} {r0 : Nat} {rp : Nat} {rb : Nat} {B : Nat → Int} {n : Int} {q : Int} {d : xD} (hW : WT T H) (g0 : T.2.2.2 r0 = some 42) (qrp : H r0 4 = (rp : Int)) (grp : T.2.2.2 rp = some 54) (qrb : H r0 5 = (rb : Int)) (grb : T.2.2.2 rb = some 43) (p0 : xK B n q = 1) (hRC_r0 : RC T H r0 B n q) (hDM_rp : DM T H rp r0 d) : ∀ (v2980 : Int) (v2981 : Int) (v2982 : Int) (v2983 : Int) (v2984 : Int) (v2985 : Int) (v2986 : Int) (v2987 : Int) (H2988 : wq_H) (fo2992 : Int) (po2993 : Int), WT T H2988 → wfr [(42, 8), (42, 9), (42, 10), (42, 11), (42, 12), (42, 13), (42, 14), (42, 15)] T H H2988 → ((-9223372036854775808) ≤ v2980 ∧ v2980 ≤ 9223372036854775807) → (0 ≤ v2981 ∧ v2981 ≤ 23) → (0 ≤ v2982 ∧ v2982 ≤ 30) → (0 ≤ v2983 ∧ v2983 ≤ 12) → (0 ≤ v2984 ∧ v2984 ≤ 16) → ((-1) ≤ v2985 ∧ v2985 ≤ 23) → (0 ≤ v2986 ∧ v2986 ≤ 23) → (0 ≤ v2987 ∧ v2987 ≤ 24) → RO T H2988 r0 fo2992 po2993 → ((xl1 B n q d).1 = fo2992) → ((xl1 B n q d).2.1 = po2993) → wp kt 4 187 183 [(0, .ref r0), (1, vL v2980), (3, vI v2981), (4, vI v2982), (5, vI v2983), (6, vI v2984), (7, vI v2985), (9, vI v2986), (10, vI v2987)] [] T H2988 (uq_187_k r0 rp rb B n q d T H) := by
  have f0 : wfr [(54, 3), (42, 8), (42, 9), (42, 10), (42, 11), (42, 12), (42, 13), (42, 14), (42, 15), (56, 999), (57, 999), (60, 999), (63, 999), (58, 999), (59, 999), (55, 999), (61, 999), (62, 999)] T H H := wfr.rf
  have u2961 := RC_k hRC_r0
  have u2962 := DM_k hDM_rp
  have h2963 : MA9 T H rp (d 1) := hDM_rp.2.2.2.1
  have h2964 : MA10 T H rp (d 2) := hDM_rp.2.2.2.2.1
  have h2965 : MA11 T H rp (d 3) := hDM_rp.2.2.2.2.2.1
  have h2966 : MA12 T H rp (d 4) := hDM_rp.2.2.2.2.2.2.1
  have h2967 : MA13 T H rp (d 5) := hDM_rp.2.2.2.2.2.2.2.1
  have h2968 : MA14 T H rp (d 6) := hDM_rp.2.2.2.2.2.2.2.2.1
  have h2969 : MA15 T H rp (d 7) := hDM_rp.2.2.2.2.2.2.2.2.2.1
  have h2970 : MA16 T H rp (d 8) := hDM_rp.2.2.2.2.2.2.2.2.2.2.1
  have h2971 : MA17 T H rp (d 9) := hDM_rp.2.2.2.2.2.2.2.2.2.2.2.1
  have h2972 : MA18 T H rp (d 10) := hDM_rp.2.2.2.2.2.2.2.2.2.2.2.2.1
  have h2973 : MA19 T H rp (d 11) := hDM_rp.2.2.2.2.2.2.2.2.2.2.2.2.2.1
  have h2974 : MA20 T H rp (d 12) := hDM_rp.2.2.2.2.2.2.2.2.2.2.2.2.2.2.1
  have h2975 : MA21 T H rp (d 13) := hDM_rp.2.2.2.2.2.2.2.2.2.2.2.2.2.2.2.1
  have h2976 : MA22 T H rp (d 14) := hDM_rp.2.2.2.2.2.2.2.2.2.2.2.2.2.2.2.2.1
  have h2977 : MA23 T H rp (d 15) := hDM_rp.2.2.2.2.2.2.2.2.2.2.2.2.2.2.2.2.2.1
  have h2978 : MA25 T H rp (d 17) := hDM_rp.2.2.2.2.2.2.2.2.2.2.2.2.2.2.2.2.2.2.1
  have h2979 : MA26 T H rp (d 16) := hDM_rp.2.2.2.2.2.2.2.2.2.2.2.2.2.2.2.2.2.2.2
  intro v2980 v2981 v2982 v2983 v2984 v2985 v2986 v2987 H2988 fo2992 po2993 w2989 f2990 b2994 b2995 b2996 b2997 b2998 b2999 b3000 b3001 h3002 x3003 x3004
  have f3005 : wfr [(54, 3), (42, 8), (42, 9), (42, 10), (42, 11), (42, 12), (42, 13), (42, 14), (42, 15), (56, 999), (57, 999), (60, 999), (63, 999), (58, 999), (59, 999), (55, 999), (61, 999), (62, 999)] T H H2988 := wfr.rf.tr f2990 rfl
  have u3006 := RO_k h3002
  refine wp_of e187 c187_183 (rw_aload_n (pc' := 184) (v := .ref r0) rfl rfl rfl ?_)
  refine wp_of e187 c187_184 (rw_ldcS (pc' := 186) (k := 85) rfl rfl rfl rfl ?_)
  have k3007 : H2988 r0 5 = H r0 5 := (f2990 r0 5 _ g0 rfl)
  have q3008 : H2988 r0 5 = (rb : Int) := k3007.trans qrb
  refine wp_of e187 c187_186 (xc_V (pc' := 189) (r := r0) (as := [.ref 85]) (st := []) (lm_9_240) rfl rfl (Nat.le_of_ble_eq_true rfl) w2989 g0 sh_42 (by decide) rfl (by decide) (u_192_o (fo := fo2992) (po := po2993) (kk := 56377) w2989 g0 rfl q3008 grb (by decide +kernel) h3002) (fun R3009 T3010 H3011 p3012 => ?_))
  obtain ⟨e3013, e3015, z3016, e3014, b3017, p3018⟩ := p3012
  subst e3013
  subst e3014
  subst e3015
  obtain ⟨a3019, a3020⟩ := p3018
  show wp _ _ 187 189 [(0, .ref r0), (1, vL v2980), (3, vI v2981), (4, vI v2982), (5, vI v2983), (6, vI v2984), (7, vI v2985), (9, vI v2986), (10, vI v2987)] [vI z3016] _ H2988 _
  have u3021 := RO_k a3020
  refine wp_of e187 c187_189 (rw_istore (pc' := 191) (z := z3016) (L' := [(11, vI z3016), (0, .ref r0), (1, vL v2980), (3, vI v2981), (4, vI v2982), (5, vI v2983), (6, vI v2984), (7, vI v2985), (9, vI v2986), (10, vI v2987)]) rfl rfl rfl ?_)
  refine wp_of e187 c187_191 (rw_aload_n (pc' := 192) (v := .ref r0) rfl rfl rfl ?_)
  refine wp_of e187 c187_192 (xg_I (pc' := 195) lf_9_75 w2989 g0 sh_42 (by decide) (by decide) ty_42_9 rfl rfl (fun b3022 b3023 => ?_))
  refine wp_of e187 c187_195 (rw_iconst (pc' := 196) rfl ?_)
  refine wp_of e187 c187_196 (rw_icmp_ne (p1 := 200) (p2 := 199) (by decide) rfl ⟨by omega, by omega⟩ ⟨by omega, by omega⟩ (fun c3024 => ?_) (fun c3024 => ?_))
  · exfalso
    omega
  · exact wp_return e187 c187_199 rfl ⟨rfl, w2989, f3005, rfl, (Or.inr ⟨by omega, (fun a ha ga => (f2990 a 3 _ ga rfl)), RO_eq a3020 (by omega) (by omega)⟩)⟩
set_option maxHeartbeats 60000000 in
theorem u_187_k_t134o {kt : Nat → Option mc_E} {T : wq_T} {H : wq_H} {r0 : Nat} {rp : Nat} {rb : Nat} {B : Nat → Int} {n : Int} {q : Int} {d : xD} (hW : WT T H) (g0 : T.2.2.2 r0 = some 42) (qrp : H r0 4 = (rp : Int)) (grp : T.2.2.2 rp = some 54) (qrb : H r0 5 = (rb : Int)) (grb : T.2.2.2 rb = some 43) (p0 : xK B n q = 1) (hRC_r0 : RC T H r0 B n q) (hDM_rp : DM T H rp r0 d) : ∀ (v3044 : Int) (v3045 : Int) (v3046 : Int) (v3047 : Int) (v3048 : Int) (v3049 : Int) (H3050 : wq_H) (fo3054 : Int) (po3055 : Int), WT T H3050 → wfr [(42, 8), (42, 9), (42, 10), (42, 11), (42, 12), (42, 13), (42, 14), (42, 15)] T H H3050 → ((-9223372036854775808) ≤ v3044 ∧ v3044 ≤ 9223372036854775807) → (0 ≤ v3045 ∧ v3045 ≤ 23) → (0 ≤ v3046 ∧ v3046 ≤ 30) → (0 ≤ v3047 ∧ v3047 ≤ 12) → (0 ≤ v3048 ∧ v3048 ≤ 16) → ((-1) ≤ v3049 ∧ v3049 ≤ 23) → RO T H3050 r0 fo3054 po3055 → ((xl1 B n q d).1 = fo3054) → ((xl1 B n q d).2.1 = po3055) → wp kt 4 187 134 [(0, .ref r0), (1, vL v3044), (3, vI v3045), (4, vI v3046), (5, vI v3047), (6, vI v3048), (7, vI v3049)] [] T H3050 (uq_187_k r0 rp rb B n q d T H) := by
  have f0 : wfr [(54, 3), (42, 8), (42, 9), (42, 10), (42, 11), (42, 12), (42, 13), (42, 14), (42, 15), (56, 999), (57, 999), (60, 999), (63, 999), (58, 999), (59, 999), (55, 999), (61, 999), (62, 999)] T H H := wfr.rf
  have u3025 := RC_k hRC_r0
  have u3026 := DM_k hDM_rp
  have h3027 : MA9 T H rp (d 1) := hDM_rp.2.2.2.1
  have h3028 : MA10 T H rp (d 2) := hDM_rp.2.2.2.2.1
  have h3029 : MA11 T H rp (d 3) := hDM_rp.2.2.2.2.2.1
  have h3030 : MA12 T H rp (d 4) := hDM_rp.2.2.2.2.2.2.1
  have h3031 : MA13 T H rp (d 5) := hDM_rp.2.2.2.2.2.2.2.1
  have h3032 : MA14 T H rp (d 6) := hDM_rp.2.2.2.2.2.2.2.2.1
  have h3033 : MA15 T H rp (d 7) := hDM_rp.2.2.2.2.2.2.2.2.2.1
  have h3034 : MA16 T H rp (d 8) := hDM_rp.2.2.2.2.2.2.2.2.2.2.1
  have h3035 : MA17 T H rp (d 9) := hDM_rp.2.2.2.2.2.2.2.2.2.2.2.1
  have h3036 : MA18 T H rp (d 10) := hDM_rp.2.2.2.2.2.2.2.2.2.2.2.2.1
  have h3037 : MA19 T H rp (d 11) := hDM_rp.2.2.2.2.2.2.2.2.2.2.2.2.2.1
  have h3038 : MA20 T H rp (d 12) := hDM_rp.2.2.2.2.2.2.2.2.2.2.2.2.2.2.1
  have h3039 : MA21 T H rp (d 13) := hDM_rp.2.2.2.2.2.2.2.2.2.2.2.2.2.2.2.1
  have h3040 : MA22 T H rp (d 14) := hDM_rp.2.2.2.2.2.2.2.2.2.2.2.2.2.2.2.2.1
  have h3041 : MA23 T H rp (d 15) := hDM_rp.2.2.2.2.2.2.2.2.2.2.2.2.2.2.2.2.2.1
  have h3042 : MA25 T H rp (d 17) := hDM_rp.2.2.2.2.2.2.2.2.2.2.2.2.2.2.2.2.2.2.1
  have h3043 : MA26 T H rp (d 16) := hDM_rp.2.2.2.2.2.2.2.2.2.2.2.2.2.2.2.2.2.2.2
  intro v3044 v3045 v3046 v3047 v3048 v3049 H3050 fo3054 po3055 w3051 f3052 b3056 b3057 b3058 b3059 b3060 b3061 h3062 x3063 x3064
  have f3065 : wfr [(54, 3), (42, 8), (42, 9), (42, 10), (42, 11), (42, 12), (42, 13), (42, 14), (42, 15), (56, 999), (57, 999), (60, 999), (63, 999), (58, 999), (59, 999), (55, 999), (61, 999), (62, 999)] T H H3050 := wfr.rf.tr f3052 rfl
  have u3066 := RO_k h3062
  refine wp_of e187 c187_134 (rw_aload_n (pc' := 135) (v := .ref r0) rfl rfl rfl ?_)
  refine wp_of e187 c187_135 (rw_ldcS (pc' := 137) (k := 84) rfl rfl rfl rfl ?_)
  have k3067 : H3050 r0 5 = H r0 5 := (f3052 r0 5 _ g0 rfl)
  have q3068 : H3050 r0 5 = (rb : Int) := k3067.trans qrb
  refine wp_of e187 c187_137 (xc_V (pc' := 140) (r := r0) (as := [.ref 84]) (st := []) (lm_9_240) rfl rfl (Nat.le_of_ble_eq_true rfl) w3051 g0 sh_42 (by decide) rfl (by decide) (u_192_o (fo := fo3054) (po := po3055) (kk := 14384) w3051 g0 rfl q3068 grb (by decide +kernel) h3062) (fun R3069 T3070 H3071 p3072 => ?_))
  obtain ⟨e3073, e3075, z3076, e3074, b3077, p3078⟩ := p3072
  subst e3073
  subst e3074
  subst e3075
  obtain ⟨a3079, a3080⟩ := p3078
  show wp _ _ 187 140 [(0, .ref r0), (1, vL v3044), (3, vI v3045), (4, vI v3046), (5, vI v3047), (6, vI v3048), (7, vI v3049)] [vI z3076] _ H3050 _
  have u3081 := RO_k a3080
  refine wp_of e187 c187_140 (rw_istore (pc' := 142) (z := z3076) (L' := [(8, vI z3076), (0, .ref r0), (1, vL v3044), (3, vI v3045), (4, vI v3046), (5, vI v3047), (6, vI v3048), (7, vI v3049)]) rfl rfl rfl ?_)
  refine wp_of e187 c187_142 (rw_iload (pc' := 144) (z := z3076) rfl rfl ?_)
  refine wp_of e187 c187_144 (rw_if_eq (p1 := 157) (p2 := 147) (by decide) rfl ⟨by omega, by omega⟩ (fun c3082 => ?_) (fun c3082 => ?_))
  · refine wp_of e187 c187_157 (rw_iconst (pc' := 158) rfl ?_)
    refine wp_of e187 c187_158 (rw_istore (pc' := 160) (z := 0) (L' := [(9, vI 0), (8, vI z3076), (0, .ref r0), (1, vL v3044), (3, vI v3045), (4, vI v3046), (5, vI v3047), (6, vI v3048), (7, vI v3049)]) rfl rfl rfl ?_)
    refine wp_of e187 c187_160 (rw_iload (pc' := 162) (z := z3076) rfl rfl ?_)
    refine wp_of e187 c187_162 (rw_if_eq (p1 := 180) (p2 := 165) (by decide) rfl ⟨by omega, by omega⟩ (fun c3083 => ?_) (fun c3083 => ?_))
    · refine wp_of e187 c187_180 (rw_iconst (pc' := 181) rfl ?_)
      refine wp_of e187 c187_181 (rw_istore (pc' := 183) (z := 0) (L' := [(10, vI 0), (9, vI 0), (8, vI z3076), (0, .ref r0), (1, vL v3044), (3, vI v3045), (4, vI v3046), (5, vI v3047), (6, vI v3048), (7, vI v3049)]) rfl rfl rfl ?_)
      exact wp_lc (ks := [10, 9, 8, 0, 1, 3, 4, 5, 6, 7]) (wl_c rfl (wl_c rfl (wl_c rfl (wl_c rfl (wl_c rfl (wl_c rfl (wl_c rfl (wl_c rfl (wl_c rfl wl_n))))))))) rfl (by decide) (u_187_k_t183o hW g0 qrp grp qrb grb p0 hRC_r0 hDM_rp v3044 v3045 v3046 v3047 v3048 v3049 0 0 H3050 fo3054 po3055 w3051 f3052 ⟨by omega, by omega⟩ ⟨by omega, by omega⟩ ⟨by omega, by omega⟩ ⟨by omega, by omega⟩ ⟨by omega, by omega⟩ ⟨by omega, by omega⟩ ⟨by omega, by omega⟩ ⟨by omega, by omega⟩ a3080 (by omega) (by omega))
    · exfalso
      omega
  · exfalso
    omega
set_option maxHeartbeats 60000000 in
theorem u_187_k_t112k {kt : Nat → Option mc_E} {T : wq_T} {H : wq_H} {r0 : Nat} {rp : Nat} {rb : Nat} {B : Nat → Int} {n : Int} {q : Int} {d : xD} (hW : WT T H) (g0 : T.2.2.2 r0 = some 42) (qrp : H r0 4 = (rp : Int)) (grp : T.2.2.2 rp = some 54) (qrb : H r0 5 = (rb : Int)) (grb : T.2.2.2 rb = some 43) (p0 : xK B n q = 1) (hRC_r0 : RC T H r0 B n q) (hDM_rp : DM T H rp r0 d) : ∀ (v3103 : Int) (v3104 : Int) (v3105 : Int) (v3106 : Int) (v3107 : Int) (H3108 : wq_H), WT T H3108 → wfr [(42, 8), (42, 9), (42, 10), (42, 11), (42, 12), (42, 13), (42, 14), (42, 15)] T H H3108 → ((-9223372036854775808) ≤ v3103 ∧ v3103 ≤ 9223372036854775807) → (0 ≤ v3104 ∧ v3104 ≤ 23) → (0 ≤ v3105 ∧ v3105 ≤ 30) → (0 ≤ v3106 ∧ v3106 ≤ 12) → (0 ≤ v3107 ∧ v3107 ≤ 16) → RC T H3108 r0 B n (xN B n (xN B n (xN B n (xN B n (xN B n (xN B n (xN B n (xN B n (xN B n (xN B n q)))))))))) → DM T H3108 rp r0 d → (xl1 B n q d = xcs B n (xN B n (xN B n (xN B n (xN B n (xN B n (xN B n (xN B n (xN B n (xN B n (xN B n q))))))))))) → (q ≤ (xN B n (xN B n (xN B n (xN B n (xN B n (xN B n (xN B n (xN B n (xN B n (xN B n q))))))))))) → (v3103 = xY B n (xN B n q)) → (v3104 = xV B n (xN B n (xN B n (xN B n q)))) → (v3105 = xV B n (xN B n (xN B n (xN B n (xN B n (xN B n q)))))) → (v3106 = xV B n (xN B n (xN B n (xN B n (xN B n (xN B n (xN B n (xN B n q)))))))) → (v3107 = xV B n (xN B n (xN B n (xN B n (xN B n (xN B n (xN B n (xN B n (xN B n (xN B n q)))))))))) → (v3104 ≤ v3105 ∧ v3105 ≤ v3104 + 7 ∧ v3105 ≤ 23) → (v3106 ≤ v3107 ∧ v3107 ≤ v3106 + 4 ∧ v3107 ≤ 12) → (d 0 3 ≤ 5) → wp kt 4 187 112 [(0, .ref r0), (1, vL v3103), (3, vI v3104), (4, vI v3105), (5, vI v3106), (6, vI v3107)] [] T H3108 (uq_187_k r0 rp rb B n q d T H) := by
  have f0 : wfr [(54, 3), (42, 8), (42, 9), (42, 10), (42, 11), (42, 12), (42, 13), (42, 14), (42, 15), (56, 999), (57, 999), (60, 999), (63, 999), (58, 999), (59, 999), (55, 999), (61, 999), (62, 999)] T H H := wfr.rf
  have u3084 := RC_k hRC_r0
  have u3085 := DM_k hDM_rp
  have h3086 : MA9 T H rp (d 1) := hDM_rp.2.2.2.1
  have h3087 : MA10 T H rp (d 2) := hDM_rp.2.2.2.2.1
  have h3088 : MA11 T H rp (d 3) := hDM_rp.2.2.2.2.2.1
  have h3089 : MA12 T H rp (d 4) := hDM_rp.2.2.2.2.2.2.1
  have h3090 : MA13 T H rp (d 5) := hDM_rp.2.2.2.2.2.2.2.1
  have h3091 : MA14 T H rp (d 6) := hDM_rp.2.2.2.2.2.2.2.2.1
  have h3092 : MA15 T H rp (d 7) := hDM_rp.2.2.2.2.2.2.2.2.2.1
  have h3093 : MA16 T H rp (d 8) := hDM_rp.2.2.2.2.2.2.2.2.2.2.1
  have h3094 : MA17 T H rp (d 9) := hDM_rp.2.2.2.2.2.2.2.2.2.2.2.1
  have h3095 : MA18 T H rp (d 10) := hDM_rp.2.2.2.2.2.2.2.2.2.2.2.2.1
  have h3096 : MA19 T H rp (d 11) := hDM_rp.2.2.2.2.2.2.2.2.2.2.2.2.2.1
  have h3097 : MA20 T H rp (d 12) := hDM_rp.2.2.2.2.2.2.2.2.2.2.2.2.2.2.1
  have h3098 : MA21 T H rp (d 13) := hDM_rp.2.2.2.2.2.2.2.2.2.2.2.2.2.2.2.1
  have h3099 : MA22 T H rp (d 14) := hDM_rp.2.2.2.2.2.2.2.2.2.2.2.2.2.2.2.2.1
  have h3100 : MA23 T H rp (d 15) := hDM_rp.2.2.2.2.2.2.2.2.2.2.2.2.2.2.2.2.2.1
  have h3101 : MA25 T H rp (d 17) := hDM_rp.2.2.2.2.2.2.2.2.2.2.2.2.2.2.2.2.2.2.1
  have h3102 : MA26 T H rp (d 16) := hDM_rp.2.2.2.2.2.2.2.2.2.2.2.2.2.2.2.2.2.2.2
  intro v3103 v3104 v3105 v3106 v3107 H3108 w3109 f3110 b3112 b3113 b3114 b3115 b3116 h3117 h3118 x3119 x3120 x3121 x3122 x3123 x3124 x3125 x3126 x3127 x3128
  have f3129 : wfr [(54, 3), (42, 8), (42, 9), (42, 10), (42, 11), (42, 12), (42, 13), (42, 14), (42, 15), (56, 999), (57, 999), (60, 999), (63, 999), (58, 999), (59, 999), (55, 999), (61, 999), (62, 999)] T H H3108 := wfr.rf.tr f3110 rfl
  have u3130 := RC_k h3117
  have u3131 := DM_k h3118
  refine wp_of e187 c187_112 (rw_aload_n (pc' := 113) (v := .ref r0) rfl rfl rfl ?_)
  refine wp_of e187 c187_113 (rw_ldcS (pc' := 115) (k := 83) rfl rfl rfl rfl ?_)
  have k3132 : H3108 r0 5 = H r0 5 := (f3110 r0 5 _ g0 rfl)
  have q3133 : H3108 r0 5 = (rb : Int) := k3132.trans qrb
  refine wp_of e187 c187_115 (xc_V (pc' := 118) (r := r0) (as := [.ref 83]) (st := []) (lm_9_240) rfl rfl (Nat.le_of_ble_eq_true rfl) w3109 g0 sh_42 (by decide) rfl (by decide) (u_192_k (B := B) (n := n) (q := ((xN B n (xN B n (xN B n (xN B n (xN B n (xN B n (xN B n (xN B n (xN B n (xN B n q)))))))))))) (kk := 8423732) w3109 g0 rfl q3133 grb (by decide +kernel) h3117) (fun R3134 T3135 H3136 p3137 => ?_))
  obtain ⟨e3138, w3140, f3141, z3142, e3139, b3143, p3144⟩ := p3137
  subst e3138
  subst e3139
  rcases p3144 with ⟨a3145, a3146, a3147⟩ | ⟨a3148, a3149, a3150⟩
  · have f3151 := f3129.tr f3141 rfl
    have f3152 := f3110.tr f3141 rfl
    show wp _ _ 187 118 [(0, .ref r0), (1, vL v3103), (3, vI v3104), (4, vI v3105), (5, vI v3106), (6, vI v3107)] [vI z3142] _ H3136 _
    have u3153 := RC_k a3147
    refine wp_of e187 c187_118 (rw_if_eq (p1 := 131) (p2 := 121) (by decide) rfl ⟨by omega, by omega⟩ (fun c3154 => ?_) (fun c3154 => ?_))
    · exfalso
      omega
    · refine wp_of e187 c187_121 (rw_aload_n (pc' := 122) (v := .ref r0) rfl rfl rfl ?_)
      refine wp_of e187 c187_122 (rw_iconst (pc' := 123) rfl ?_)
      refine wp_of e187 c187_123 (rw_bipush (pc' := 125) (z := 23) rfl (by decide) ?_)
      have k3155 : H3136 r0 5 = H3108 r0 5 := (f3141 r0 5 _ g0 rfl)
      have q3156 : H3136 r0 5 = (rb : Int) := k3155.trans q3133
      refine wp_of e187 c187_125 (xc_V (pc' := 128) (r := r0) (as := [vI 0, vI 23]) (st := []) (lm_9_137) rfl rfl (Nat.le_of_ble_eq_true rfl) w3140 g0 sh_42 (by decide) rfl (by decide) (u_184_k (B := B) (n := n) (q := ((xN B n ((xN B n (xN B n (xN B n (xN B n (xN B n (xN B n (xN B n (xN B n (xN B n (xN B n q)))))))))))))) (lo := 0) (hi := 23) w3140 g0 ⟨by omega, by omega⟩ ⟨by omega, by omega⟩ q3156 grb (by omega) (by omega) a3147) (fun R3157 T3158 H3159 p3160 => ?_))
      obtain ⟨e3161, w3163, f3164, z3165, e3162, b3166, p3167⟩ := p3160
      subst e3161
      subst e3162
      rcases p3167 with ⟨a3168, a3169, a3170, a3171⟩ | ⟨a3172, a3173, a3174⟩
      · have f3175 := f3151.tr f3164 rfl
        have f3176 := f3152.tr f3164 rfl
        show wp _ _ 187 128 [(0, .ref r0), (1, vL v3103), (3, vI v3104), (4, vI v3105), (5, vI v3106), (6, vI v3107)] [vI z3165] _ H3159 _
        have u3177 := RC_k a3171
        refine wp_of e187 c187_128 (rw_goto (p1 := 132) (by decide) ?_)
        refine wp_of e187 c187_132 (rw_istore (pc' := 134) (z := z3165) (L' := [(7, vI z3165), (0, .ref r0), (1, vL v3103), (3, vI v3104), (4, vI v3105), (5, vI v3106), (6, vI v3107)]) rfl rfl rfl ?_)
        have _ea : xqa B n ((xN B n (xN B n (xN B n (xN B n (xN B n (xN B n (xN B n (xN B n (xN B n (xN B n q))))))))))) = ((xN B n ((xN B n ((xN B n (xN B n (xN B n (xN B n (xN B n (xN B n (xN B n (xN B n (xN B n (xN B n q))))))))))))))) := by
          unfold xqa
          first | rw [if_pos (by omega)] | rw [if_neg (by omega)]
        have _eh : xhb B n ((xN B n (xN B n (xN B n (xN B n (xN B n (xN B n (xN B n (xN B n (xN B n (xN B n q))))))))))) = z3165 := by
          unfold xhb
          first | (rw [if_pos (by omega)] <;> omega) | (rw [if_neg (by omega)] <;> omega)
        refine wp_of e187 c187_134 (rw_aload_n (pc' := 135) (v := .ref r0) rfl rfl rfl ?_)
        refine wp_of e187 c187_135 (rw_ldcS (pc' := 137) (k := 84) rfl rfl rfl rfl ?_)
        have k3178 : H3159 r0 5 = H3136 r0 5 := (f3164 r0 5 _ g0 rfl)
        have q3179 : H3159 r0 5 = (rb : Int) := k3178.trans q3156
        refine wp_of e187 c187_137 (xc_V (pc' := 140) (r := r0) (as := [.ref 84]) (st := []) (lm_9_240) rfl rfl (Nat.le_of_ble_eq_true rfl) w3163 g0 sh_42 (by decide) rfl (by decide) (u_192_k (B := B) (n := n) (q := ((xN B n ((xN B n ((xN B n (xN B n (xN B n (xN B n (xN B n (xN B n (xN B n (xN B n (xN B n (xN B n q)))))))))))))))) (kk := 14384) w3163 g0 rfl q3179 grb (by decide +kernel) a3171) (fun R3180 T3181 H3182 p3183 => ?_))
        obtain ⟨e3184, w3186, f3187, z3188, e3185, b3189, p3190⟩ := p3183
        subst e3184
        subst e3185
        rcases p3190 with ⟨a3191, a3192, a3193⟩ | ⟨a3194, a3195, a3196⟩
        · have f3197 := f3175.tr f3187 rfl
          have f3198 := f3176.tr f3187 rfl
          show wp _ _ 187 140 [(7, vI z3165), (0, .ref r0), (1, vL v3103), (3, vI v3104), (4, vI v3105), (5, vI v3106), (6, vI v3107)] [vI z3188] _ H3182 _
          have u3199 := RC_k a3193
          refine wp_of e187 c187_140 (rw_istore (pc' := 142) (z := z3188) (L' := [(8, vI z3188), (7, vI z3165), (0, .ref r0), (1, vL v3103), (3, vI v3104), (4, vI v3105), (5, vI v3106), (6, vI v3107)]) rfl rfl rfl ?_)
          refine wp_of e187 c187_142 (rw_iload (pc' := 144) (z := z3188) rfl rfl ?_)
          refine wp_of e187 c187_144 (rw_if_eq (p1 := 157) (p2 := 147) (by decide) rfl ⟨by omega, by omega⟩ (fun c3200 => ?_) (fun c3200 => ?_))
          · exfalso
            omega
          · refine wp_of e187 c187_147 (rw_aload_n (pc' := 148) (v := .ref r0) rfl rfl rfl ?_)
            refine wp_of e187 c187_148 (rw_iconst (pc' := 149) rfl ?_)
            refine wp_of e187 c187_149 (rw_bipush (pc' := 151) (z := 23) rfl (by decide) ?_)
            have k3201 : H3182 r0 5 = H3159 r0 5 := (f3187 r0 5 _ g0 rfl)
            have q3202 : H3182 r0 5 = (rb : Int) := k3201.trans q3179
            refine wp_of e187 c187_151 (xc_V (pc' := 154) (r := r0) (as := [vI 0, vI 23]) (st := []) (lm_9_137) rfl rfl (Nat.le_of_ble_eq_true rfl) w3186 g0 sh_42 (by decide) rfl (by decide) (u_184_k (B := B) (n := n) (q := ((xN B n ((xN B n ((xN B n ((xN B n (xN B n (xN B n (xN B n (xN B n (xN B n (xN B n (xN B n (xN B n (xN B n q)))))))))))))))))) (lo := 0) (hi := 23) w3186 g0 ⟨by omega, by omega⟩ ⟨by omega, by omega⟩ q3202 grb (by omega) (by omega) a3193) (fun R3203 T3204 H3205 p3206 => ?_))
            obtain ⟨e3207, w3209, f3210, z3211, e3208, b3212, p3213⟩ := p3206
            subst e3207
            subst e3208
            rcases p3213 with ⟨a3214, a3215, a3216, a3217⟩ | ⟨a3218, a3219, a3220⟩
            · have f3221 := f3197.tr f3210 rfl
              have f3222 := f3198.tr f3210 rfl
              show wp _ _ 187 154 [(8, vI z3188), (7, vI z3165), (0, .ref r0), (1, vL v3103), (3, vI v3104), (4, vI v3105), (5, vI v3106), (6, vI v3107)] [vI z3211] _ H3205 _
              have u3223 := RC_k a3217
              refine wp_of e187 c187_154 (rw_goto (p1 := 158) (by decide) ?_)
              refine wp_of e187 c187_158 (rw_istore (pc' := 160) (z := z3211) (L' := [(9, vI z3211), (8, vI z3188), (7, vI z3165), (0, .ref r0), (1, vL v3103), (3, vI v3104), (4, vI v3105), (5, vI v3106), (6, vI v3107)]) rfl rfl rfl ?_)
              refine wp_of e187 c187_160 (rw_iload (pc' := 162) (z := z3188) rfl rfl ?_)
              refine wp_of e187 c187_162 (rw_if_eq (p1 := 180) (p2 := 165) (by decide) rfl ⟨by omega, by omega⟩ (fun c3224 => ?_) (fun c3224 => ?_))
              · exfalso
                omega
              · refine wp_of e187 c187_165 (rw_aload_n (pc' := 166) (v := .ref r0) rfl rfl rfl ?_)
                refine wp_of e187 c187_166 (rw_ldcS (pc' := 168) (k := 87) rfl rfl rfl rfl ?_)
                refine wp_of e187 c187_168 (rw_iload (pc' := 170) (z := z3211) rfl rfl ?_)
                refine wp_of e187 c187_170 (rw_iconst (pc' := 171) rfl ?_)
                refine wp_of e187 c187_171 (rw_iadd (pc' := 172) rfl ?_)
                refine wp_of e187 c187_172 (rw_bipush (pc' := 174) (z := 24) rfl (by decide) ?_)
                have k3225 : H3205 r0 5 = H3182 r0 5 := (f3210 r0 5 _ g0 rfl)
                have q3226 : H3205 r0 5 = (rb : Int) := k3225.trans q3202
                refine wp_of e187 c187_174 (xc_V (pc' := 177) (r := r0) (as := [.ref 87, vI (z3211 + 1), vI 24]) (st := []) (lm_9_216) rfl rfl (Nat.le_of_ble_eq_true rfl) w3209 g0 sh_42 (by decide) rfl (by decide) (u_182_k (B := B) (n := n) (q := ((xN B n ((xN B n ((xN B n ((xN B n ((xN B n (xN B n (xN B n (xN B n (xN B n (xN B n (xN B n (xN B n (xN B n (xN B n q)))))))))))))))))))) (kk := 655) (lo := (xV B n (xN B n ((xN B n ((xN B n ((xN B n (xN B n (xN B n (xN B n (xN B n (xN B n (xN B n (xN B n (xN B n (xN B n q)))))))))))))))) + 1)) (hi := (min (xV B n (xN B n ((xN B n ((xN B n ((xN B n (xN B n (xN B n (xN B n (xN B n (xN B n (xN B n (xN B n (xN B n (xN B n q)))))))))))))))) + 24) 24)) w3209 g0 rfl ⟨by omega, by omega⟩ ⟨by omega, by omega⟩ q3226 grb (by decide +kernel) (by omega) (by omega) a3217) (fun R3227 T3228 H3229 p3230 => ?_))
                obtain ⟨e3231, w3233, f3234, z3235, e3232, b3236, p3237⟩ := p3230
                subst e3231
                subst e3232
                rcases p3237 with ⟨a3238, a3239, a3240, a3241, a3242, a3243⟩ | ⟨a3244, a3245, a3246⟩ | ⟨a3247, a3248, a3249, a3250⟩
                · have f3251 := f3221.tr f3234 rfl
                  have f3252 := f3222.tr f3234 rfl
                  show wp _ _ 187 177 [(9, vI z3211), (8, vI z3188), (7, vI z3165), (0, .ref r0), (1, vL v3103), (3, vI v3104), (4, vI v3105), (5, vI v3106), (6, vI v3107)] [vI z3235] _ H3229 _
                  have u3253 := RC_k a3243
                  refine wp_of e187 c187_177 (rw_goto (p1 := 181) (by decide) ?_)
                  refine wp_of e187 c187_181 (rw_istore (pc' := 183) (z := z3235) (L' := [(10, vI z3235), (9, vI z3211), (8, vI z3188), (7, vI z3165), (0, .ref r0), (1, vL v3103), (3, vI v3104), (4, vI v3105), (5, vI v3106), (6, vI v3107)]) rfl rfl rfl ?_)
                  have _eb : xqb B n ((xN B n ((xN B n ((xN B n (xN B n (xN B n (xN B n (xN B n (xN B n (xN B n (xN B n (xN B n (xN B n q))))))))))))))) = ((xN B n (xN B n ((xN B n ((xN B n ((xN B n ((xN B n ((xN B n (xN B n (xN B n (xN B n (xN B n (xN B n (xN B n (xN B n (xN B n (xN B n q)))))))))))))))))))))) := by
                    unfold xqb
                    first | rw [if_pos (by omega)] | rw [if_neg (by omega)]
                  have _enf : xnf B n ((xN B n ((xN B n ((xN B n (xN B n (xN B n (xN B n (xN B n (xN B n (xN B n (xN B n (xN B n (xN B n q))))))))))))))) = z3211 := by
                    unfold xnf
                    first | (rw [if_pos (by omega)] <;> omega) | (rw [if_neg (by omega)] <;> omega)
                  have _ent : xnt B n ((xN B n ((xN B n ((xN B n (xN B n (xN B n (xN B n (xN B n (xN B n (xN B n (xN B n (xN B n (xN B n q))))))))))))))) = z3235 := by
                    unfold xnt
                    first | (rw [if_pos (by omega)] <;> omega) | (rw [if_neg (by omega)] <;> omega)
                  refine wp_of e187 c187_183 (rw_aload_n (pc' := 184) (v := .ref r0) rfl rfl rfl ?_)
                  refine wp_of e187 c187_184 (rw_ldcS (pc' := 186) (k := 85) rfl rfl rfl rfl ?_)
                  have k3254 : H3229 r0 5 = H3205 r0 5 := (f3234 r0 5 _ g0 rfl)
                  have q3255 : H3229 r0 5 = (rb : Int) := k3254.trans q3226
                  refine wp_of e187 c187_186 (xc_V (pc' := 189) (r := r0) (as := [.ref 85]) (st := []) (lm_9_240) rfl rfl (Nat.le_of_ble_eq_true rfl) w3233 g0 sh_42 (by decide) rfl (by decide) (u_192_k (B := B) (n := n) (q := ((xN B n (xN B n ((xN B n ((xN B n ((xN B n ((xN B n ((xN B n (xN B n (xN B n (xN B n (xN B n (xN B n (xN B n (xN B n (xN B n (xN B n q))))))))))))))))))))))) (kk := 56377) w3233 g0 rfl q3255 grb (by decide +kernel) a3243) (fun R3256 T3257 H3258 p3259 => ?_))
                  obtain ⟨e3260, w3262, f3263, z3264, e3261, b3265, p3266⟩ := p3259
                  subst e3260
                  subst e3261
                  rcases p3266 with ⟨a3267, a3268, a3269⟩ | ⟨a3270, a3271, a3272⟩
                  · have f3273 := f3251.tr f3263 rfl
                    have f3274 := f3252.tr f3263 rfl
                    show wp _ _ 187 189 [(10, vI z3235), (9, vI z3211), (8, vI z3188), (7, vI z3165), (0, .ref r0), (1, vL v3103), (3, vI v3104), (4, vI v3105), (5, vI v3106), (6, vI v3107)] [vI z3264] _ H3258 _
                    have u3275 := RC_k a3269
                    refine wp_of e187 c187_189 (rw_istore (pc' := 191) (z := z3264) (L' := [(11, vI z3264), (10, vI z3235), (9, vI z3211), (8, vI z3188), (7, vI z3165), (0, .ref r0), (1, vL v3103), (3, vI v3104), (4, vI v3105), (5, vI v3106), (6, vI v3107)]) rfl rfl rfl ?_)
                    have _ec : xqc B n ((xN B n (xN B n ((xN B n ((xN B n ((xN B n ((xN B n ((xN B n (xN B n (xN B n (xN B n (xN B n (xN B n (xN B n (xN B n (xN B n (xN B n q)))))))))))))))))))))) = ((xN B n ((xN B n (xN B n ((xN B n ((xN B n ((xN B n ((xN B n ((xN B n (xN B n (xN B n (xN B n (xN B n (xN B n (xN B n (xN B n (xN B n (xN B n q)))))))))))))))))))))))) := by
                      unfold xqc
                      first | rw [if_pos (by omega)] | rw [if_neg (by omega)]
                    have _ew : xaw B n ((xN B n (xN B n ((xN B n ((xN B n ((xN B n ((xN B n ((xN B n (xN B n (xN B n (xN B n (xN B n (xN B n (xN B n (xN B n (xN B n (xN B n q)))))))))))))))))))))) = z3264 := by
                      unfold xaw
                      first | (rw [if_pos (by omega)] <;> omega) | (rw [if_neg (by omega)] <;> omega)
                    refine wp_of e187 c187_191 (rw_aload_n (pc' := 192) (v := .ref r0) rfl rfl rfl ?_)
                    refine wp_of e187 c187_192 (xg_I (pc' := 195) lf_9_75 w3262 g0 sh_42 (by decide) (by decide) ty_42_9 rfl rfl (fun b3276 b3277 => ?_))
                    refine wp_of e187 c187_195 (rw_iconst (pc' := 196) rfl ?_)
                    refine wp_of e187 c187_196 (rw_icmp_ne (p1 := 200) (p2 := 199) (by decide) rfl ⟨by omega, by omega⟩ ⟨by omega, by omega⟩ (fun c3278 => ?_) (fun c3278 => ?_))
                    · have o3279 : (xl1 B n q d) = (0, (xN B n (xN B n (xN B n (xN B n (xN B n (xN B n (xN B n (xN B n (xN B n (xN B n q)))))))))), (xN B n ((xN B n (xN B n ((xN B n ((xN B n ((xN B n ((xN B n ((xN B n (xN B n (xN B n (xN B n (xN B n (xN B n (xN B n (xN B n (xN B n (xN B n q)))))))))))))))))))))))) := by
                        rw [x3119]
                        unfold xcs xca xcb xrg
                        try simp only [xs_xs, xs_z]
                        try rw [_ea]
                        try rw [_eb]
                        try rw [_ec]
                        repeat first | rw [xs_0 (by omega)] | rw [xs_1 (by omega)] | rw [if_pos (by omega)] | rw [if_neg (by omega)]
                        first | done | rfl | assumption | (exfalso; omega) | (refine Prod.ext ?_ (Prod.ext ?_ ?_) <;> (try dsimp only) <;> omega)
                      have o3279a : ((xl1 B n q d)).1 = 0 := by rw [o3279]
                      have o3279b : ((xl1 B n q d)).2.1 = (xN B n (xN B n (xN B n (xN B n (xN B n (xN B n (xN B n (xN B n (xN B n (xN B n q)))))))))) := by rw [o3279]
                      have o3279c : ((xl1 B n q d)).2.2 = (xN B n ((xN B n (xN B n ((xN B n ((xN B n ((xN B n ((xN B n ((xN B n (xN B n (xN B n (xN B n (xN B n (xN B n (xN B n (xN B n (xN B n (xN B n q))))))))))))))))))))))) := by rw [o3279]
                      have h3280 : DM T H3258 rp r0 d := (DM_fr w3233 grp f3263 rfl (DM_fr w3209 grp f3234 rfl (DM_fr w3186 grp f3210 rfl (DM_fr w3163 grp f3187 rfl (DM_fr w3140 grp f3164 rfl (DM_fr w3109 grp f3141 rfl h3118))))))
                      exact wp_lc (ks := [11, 10, 9, 8, 7, 0, 1, 3, 4, 5, 6]) (wl_c rfl (wl_c rfl (wl_c rfl (wl_c rfl (wl_c rfl (wl_c rfl (wl_c rfl (wl_c rfl (wl_c rfl (wl_c rfl wl_n)))))))))) rfl (by decide) (u_187_k_t200k hW g0 qrp grp qrb grb p0 hRC_r0 hDM_rp v3103 v3104 v3105 v3106 v3107 z3165 z3211 z3235 z3264 H3258 w3262 f3274 ⟨by omega, by omega⟩ ⟨by omega, by omega⟩ ⟨by omega, by omega⟩ ⟨by omega, by omega⟩ ⟨by omega, by omega⟩ ⟨by omega, by omega⟩ ⟨by omega, by omega⟩ ⟨by omega, by omega⟩ ⟨by omega, by omega⟩ (by rw [show (xl1 B n q d).2.2 = ((xN B n ((xN B n (xN B n ((xN B n ((xN B n ((xN B n ((xN B n ((xN B n (xN B n (xN B n (xN B n (xN B n (xN B n (xN B n (xN B n (xN B n (xN B n q)))))))))))))))))))))))) by omega]; exact a3269) h3280 (by omega) (by omega) (by omega) (by omega) (by omega) (by omega) (by omega) (by omega) (by omega) (by omega) (by omega) (by rw [_ea]; exact _enf) (by rw [_ea]; exact _ent) (by rw [_ea, _eb]; exact _ew) (by omega))
                    · exfalso
                      omega
                  · have f3281 := f3251.tr f3263 rfl
                    have f3282 := f3252.tr f3263 rfl
                    show wp _ _ 187 189 [(10, vI z3235), (9, vI z3211), (8, vI z3188), (7, vI z3165), (0, .ref r0), (1, vL v3103), (3, vI v3104), (4, vI v3105), (5, vI v3106), (6, vI v3107)] [vI z3264] _ H3258 _
                    have u3283 := RC_k a3272
                    refine wp_of e187 c187_189 (rw_istore (pc' := 191) (z := z3264) (L' := [(11, vI z3264), (10, vI z3235), (9, vI z3211), (8, vI z3188), (7, vI z3165), (0, .ref r0), (1, vL v3103), (3, vI v3104), (4, vI v3105), (5, vI v3106), (6, vI v3107)]) rfl rfl rfl ?_)
                    have _ec : xqc B n ((xN B n (xN B n ((xN B n ((xN B n ((xN B n ((xN B n ((xN B n (xN B n (xN B n (xN B n (xN B n (xN B n (xN B n (xN B n (xN B n (xN B n q)))))))))))))))))))))) = ((xN B n (xN B n ((xN B n ((xN B n ((xN B n ((xN B n ((xN B n (xN B n (xN B n (xN B n (xN B n (xN B n (xN B n (xN B n (xN B n (xN B n q)))))))))))))))))))))) := by
                      unfold xqc
                      first | rw [if_pos (by omega)] | rw [if_neg (by omega)]
                    have _ew : xaw B n ((xN B n (xN B n ((xN B n ((xN B n ((xN B n ((xN B n ((xN B n (xN B n (xN B n (xN B n (xN B n (xN B n (xN B n (xN B n (xN B n (xN B n q)))))))))))))))))))))) = z3264 := by
                      unfold xaw
                      first | (rw [if_pos (by omega)] <;> omega) | (rw [if_neg (by omega)] <;> omega)
                    refine wp_of e187 c187_191 (rw_aload_n (pc' := 192) (v := .ref r0) rfl rfl rfl ?_)
                    refine wp_of e187 c187_192 (xg_I (pc' := 195) lf_9_75 w3262 g0 sh_42 (by decide) (by decide) ty_42_9 rfl rfl (fun b3284 b3285 => ?_))
                    refine wp_of e187 c187_195 (rw_iconst (pc' := 196) rfl ?_)
                    refine wp_of e187 c187_196 (rw_icmp_ne (p1 := 200) (p2 := 199) (by decide) rfl ⟨by omega, by omega⟩ ⟨by omega, by omega⟩ (fun c3286 => ?_) (fun c3286 => ?_))
                    · have o3287 : (xl1 B n q d) = (0, (xN B n (xN B n (xN B n (xN B n (xN B n (xN B n (xN B n (xN B n (xN B n (xN B n q)))))))))), (xN B n (xN B n ((xN B n ((xN B n ((xN B n ((xN B n ((xN B n (xN B n (xN B n (xN B n (xN B n (xN B n (xN B n (xN B n (xN B n (xN B n q)))))))))))))))))))))) := by
                        rw [x3119]
                        unfold xcs xca xcb xrg
                        try simp only [xs_xs, xs_z]
                        try rw [_ea]
                        try rw [_eb]
                        try rw [_ec]
                        repeat first | rw [xs_0 (by omega)] | rw [xs_1 (by omega)] | rw [if_pos (by omega)] | rw [if_neg (by omega)]
                        first | done | rfl | assumption | (exfalso; omega) | (refine Prod.ext ?_ (Prod.ext ?_ ?_) <;> (try dsimp only) <;> omega)
                      have o3287a : ((xl1 B n q d)).1 = 0 := by rw [o3287]
                      have o3287b : ((xl1 B n q d)).2.1 = (xN B n (xN B n (xN B n (xN B n (xN B n (xN B n (xN B n (xN B n (xN B n (xN B n q)))))))))) := by rw [o3287]
                      have o3287c : ((xl1 B n q d)).2.2 = (xN B n (xN B n ((xN B n ((xN B n ((xN B n ((xN B n ((xN B n (xN B n (xN B n (xN B n (xN B n (xN B n (xN B n (xN B n (xN B n (xN B n q))))))))))))))))))))) := by rw [o3287]
                      have h3288 : DM T H3258 rp r0 d := (DM_fr w3233 grp f3263 rfl (DM_fr w3209 grp f3234 rfl (DM_fr w3186 grp f3210 rfl (DM_fr w3163 grp f3187 rfl (DM_fr w3140 grp f3164 rfl (DM_fr w3109 grp f3141 rfl h3118))))))
                      exact wp_lc (ks := [11, 10, 9, 8, 7, 0, 1, 3, 4, 5, 6]) (wl_c rfl (wl_c rfl (wl_c rfl (wl_c rfl (wl_c rfl (wl_c rfl (wl_c rfl (wl_c rfl (wl_c rfl (wl_c rfl wl_n)))))))))) rfl (by decide) (u_187_k_t200k hW g0 qrp grp qrb grb p0 hRC_r0 hDM_rp v3103 v3104 v3105 v3106 v3107 z3165 z3211 z3235 z3264 H3258 w3262 f3282 ⟨by omega, by omega⟩ ⟨by omega, by omega⟩ ⟨by omega, by omega⟩ ⟨by omega, by omega⟩ ⟨by omega, by omega⟩ ⟨by omega, by omega⟩ ⟨by omega, by omega⟩ ⟨by omega, by omega⟩ ⟨by omega, by omega⟩ (by rw [show (xl1 B n q d).2.2 = ((xN B n (xN B n ((xN B n ((xN B n ((xN B n ((xN B n ((xN B n (xN B n (xN B n (xN B n (xN B n (xN B n (xN B n (xN B n (xN B n (xN B n q)))))))))))))))))))))) by omega]; exact a3272) h3288 (by omega) (by omega) (by omega) (by omega) (by omega) (by omega) (by omega) (by omega) (by omega) (by omega) (by omega) (by rw [_ea]; exact _enf) (by rw [_ea]; exact _ent) (by rw [_ea, _eb]; exact _ew) (by omega))
                    · exfalso
                      omega
                · have f3289 := f3221.tr f3234 rfl
                  have f3290 := f3222.tr f3234 rfl
                  show wp _ _ 187 177 [(9, vI z3211), (8, vI z3188), (7, vI z3165), (0, .ref r0), (1, vL v3103), (3, vI v3104), (4, vI v3105), (5, vI v3106), (6, vI v3107)] [vI z3235] _ H3229 _
                  have u3291 := RO_k a3246
                  refine wp_of e187 c187_177 (rw_goto (p1 := 181) (by decide) ?_)
                  refine wp_of e187 c187_181 (rw_istore (pc' := 183) (z := z3235) (L' := [(10, vI z3235), (9, vI z3211), (8, vI z3188), (7, vI z3165), (0, .ref r0), (1, vL v3103), (3, vI v3104), (4, vI v3105), (5, vI v3106), (6, vI v3107)]) rfl rfl rfl ?_)
                  have o3292 : (xl1 B n q d) = (xw B n ((xN B n ((xN B n ((xN B n ((xN B n ((xN B n (xN B n (xN B n (xN B n (xN B n (xN B n (xN B n (xN B n (xN B n (xN B n q))))))))))))))))))) 655, ((xN B n ((xN B n ((xN B n ((xN B n ((xN B n (xN B n (xN B n (xN B n (xN B n (xN B n (xN B n (xN B n (xN B n (xN B n q))))))))))))))))))), ((xN B n ((xN B n ((xN B n ((xN B n ((xN B n (xN B n (xN B n (xN B n (xN B n (xN B n (xN B n (xN B n (xN B n (xN B n q)))))))))))))))))))) := by
                    rw [x3119]
                    unfold xcs xca xcb xrg
                    try simp only [xs_xs, xs_z]
                    try rw [_ea]
                    try rw [_eb]
                    try rw [_ec]
                    repeat first | rw [xs_0 (by omega)] | rw [xs_1 (by omega)] | rw [if_pos (by omega)] | rw [if_neg (by omega)]
                    first | done | rfl | assumption | (exfalso; omega) | (refine Prod.ext ?_ (Prod.ext ?_ ?_) <;> (try dsimp only) <;> omega)
                  have o3292a : ((xl1 B n q d)).1 = xw B n ((xN B n ((xN B n ((xN B n ((xN B n ((xN B n (xN B n (xN B n (xN B n (xN B n (xN B n (xN B n (xN B n (xN B n (xN B n q))))))))))))))))))) 655 := by rw [o3292]
                  have o3292b : ((xl1 B n q d)).2.1 = ((xN B n ((xN B n ((xN B n ((xN B n ((xN B n (xN B n (xN B n (xN B n (xN B n (xN B n (xN B n (xN B n (xN B n (xN B n q))))))))))))))))))) := by rw [o3292]
                  have o3292c : ((xl1 B n q d)).2.2 = ((xN B n ((xN B n ((xN B n ((xN B n ((xN B n (xN B n (xN B n (xN B n (xN B n (xN B n (xN B n (xN B n (xN B n (xN B n q))))))))))))))))))) := by rw [o3292]
                  exact wp_lc (ks := [10, 9, 8, 7, 0, 1, 3, 4, 5, 6]) (wl_c rfl (wl_c rfl (wl_c rfl (wl_c rfl (wl_c rfl (wl_c rfl (wl_c rfl (wl_c rfl (wl_c rfl wl_n))))))))) rfl (by decide) (u_187_k_t183o hW g0 qrp grp qrb grb p0 hRC_r0 hDM_rp v3103 v3104 v3105 v3106 v3107 z3165 z3211 z3235 H3229 (xw B n ((xN B n ((xN B n ((xN B n ((xN B n ((xN B n (xN B n (xN B n (xN B n (xN B n (xN B n (xN B n (xN B n (xN B n (xN B n q))))))))))))))))))) 655) (((xN B n ((xN B n ((xN B n ((xN B n ((xN B n (xN B n (xN B n (xN B n (xN B n (xN B n (xN B n (xN B n (xN B n (xN B n q)))))))))))))))))))) w3233 f3290 ⟨by omega, by omega⟩ ⟨by omega, by omega⟩ ⟨by omega, by omega⟩ ⟨by omega, by omega⟩ ⟨by omega, by omega⟩ ⟨by omega, by omega⟩ ⟨by omega, by omega⟩ ⟨by omega, by omega⟩ a3246 (by omega) (by omega))
                · have f3293 := f3221.tr f3234 rfl
                  have f3294 := f3222.tr f3234 rfl
                  show wp _ _ 187 177 [(9, vI z3211), (8, vI z3188), (7, vI z3165), (0, .ref r0), (1, vL v3103), (3, vI v3104), (4, vI v3105), (5, vI v3106), (6, vI v3107)] [vI z3235] _ H3229 _
                  have u3295 := RO_k a3250
                  refine wp_of e187 c187_177 (rw_goto (p1 := 181) (by decide) ?_)
                  refine wp_of e187 c187_181 (rw_istore (pc' := 183) (z := z3235) (L' := [(10, vI z3235), (9, vI z3211), (8, vI z3188), (7, vI z3165), (0, .ref r0), (1, vL v3103), (3, vI v3104), (4, vI v3105), (5, vI v3106), (6, vI v3107)]) rfl rfl rfl ?_)
                  have o3296 : (xl1 B n q d) = (xh B n (xN B n ((xN B n ((xN B n ((xN B n ((xN B n ((xN B n (xN B n (xN B n (xN B n (xN B n (xN B n (xN B n (xN B n (xN B n (xN B n q)))))))))))))))))))) (xV B n (xN B n ((xN B n ((xN B n ((xN B n (xN B n (xN B n (xN B n (xN B n (xN B n (xN B n (xN B n (xN B n (xN B n q)))))))))))))))) + 1) (min (xV B n (xN B n ((xN B n ((xN B n ((xN B n (xN B n (xN B n (xN B n (xN B n (xN B n (xN B n (xN B n (xN B n (xN B n q)))))))))))))))) + 24) 24), (xN B n ((xN B n ((xN B n ((xN B n ((xN B n ((xN B n (xN B n (xN B n (xN B n (xN B n (xN B n (xN B n (xN B n (xN B n (xN B n q)))))))))))))))))))), (xN B n ((xN B n ((xN B n ((xN B n ((xN B n ((xN B n (xN B n (xN B n (xN B n (xN B n (xN B n (xN B n (xN B n (xN B n (xN B n q))))))))))))))))))))) := by
                    rw [x3119]
                    unfold xcs xca xcb xrg
                    try simp only [xs_xs, xs_z]
                    try rw [_ea]
                    try rw [_eb]
                    try rw [_ec]
                    repeat first | rw [xs_0 (by omega)] | rw [xs_1 (by omega)] | rw [if_pos (by omega)] | rw [if_neg (by omega)]
                    first | done | rfl | assumption | (exfalso; omega) | (refine Prod.ext ?_ (Prod.ext ?_ ?_) <;> (try dsimp only) <;> omega)
                  have o3296a : ((xl1 B n q d)).1 = xh B n (xN B n ((xN B n ((xN B n ((xN B n ((xN B n ((xN B n (xN B n (xN B n (xN B n (xN B n (xN B n (xN B n (xN B n (xN B n (xN B n q)))))))))))))))))))) (xV B n (xN B n ((xN B n ((xN B n ((xN B n (xN B n (xN B n (xN B n (xN B n (xN B n (xN B n (xN B n (xN B n (xN B n q)))))))))))))))) + 1) (min (xV B n (xN B n ((xN B n ((xN B n ((xN B n (xN B n (xN B n (xN B n (xN B n (xN B n (xN B n (xN B n (xN B n (xN B n q)))))))))))))))) + 24) 24) := by rw [o3296]
                  have o3296b : ((xl1 B n q d)).2.1 = (xN B n ((xN B n ((xN B n ((xN B n ((xN B n ((xN B n (xN B n (xN B n (xN B n (xN B n (xN B n (xN B n (xN B n (xN B n (xN B n q)))))))))))))))))))) := by rw [o3296]
                  have o3296c : ((xl1 B n q d)).2.2 = (xN B n ((xN B n ((xN B n ((xN B n ((xN B n ((xN B n (xN B n (xN B n (xN B n (xN B n (xN B n (xN B n (xN B n (xN B n (xN B n q)))))))))))))))))))) := by rw [o3296]
                  exact wp_lc (ks := [10, 9, 8, 7, 0, 1, 3, 4, 5, 6]) (wl_c rfl (wl_c rfl (wl_c rfl (wl_c rfl (wl_c rfl (wl_c rfl (wl_c rfl (wl_c rfl (wl_c rfl wl_n))))))))) rfl (by decide) (u_187_k_t183o hW g0 qrp grp qrb grb p0 hRC_r0 hDM_rp v3103 v3104 v3105 v3106 v3107 z3165 z3211 z3235 H3229 (xh B n (xN B n ((xN B n ((xN B n ((xN B n ((xN B n ((xN B n (xN B n (xN B n (xN B n (xN B n (xN B n (xN B n (xN B n (xN B n (xN B n q)))))))))))))))))))) (xV B n (xN B n ((xN B n ((xN B n ((xN B n (xN B n (xN B n (xN B n (xN B n (xN B n (xN B n (xN B n (xN B n (xN B n q)))))))))))))))) + 1) (min (xV B n (xN B n ((xN B n ((xN B n ((xN B n (xN B n (xN B n (xN B n (xN B n (xN B n (xN B n (xN B n (xN B n (xN B n q)))))))))))))))) + 24) 24)) ((xN B n ((xN B n ((xN B n ((xN B n ((xN B n ((xN B n (xN B n (xN B n (xN B n (xN B n (xN B n (xN B n (xN B n (xN B n (xN B n q))))))))))))))))))))) w3233 f3294 ⟨by omega, by omega⟩ ⟨by omega, by omega⟩ ⟨by omega, by omega⟩ ⟨by omega, by omega⟩ ⟨by omega, by omega⟩ ⟨by omega, by omega⟩ ⟨by omega, by omega⟩ ⟨by omega, by omega⟩ a3250 (by omega) (by omega))
            · have f3297 := f3197.tr f3210 rfl
              have f3298 := f3198.tr f3210 rfl
              show wp _ _ 187 154 [(8, vI z3188), (7, vI z3165), (0, .ref r0), (1, vL v3103), (3, vI v3104), (4, vI v3105), (5, vI v3106), (6, vI v3107)] [vI z3211] _ H3205 _
              have u3299 := RO_k a3220
              refine wp_of e187 c187_154 (rw_goto (p1 := 158) (by decide) ?_)
              refine wp_of e187 c187_158 (rw_istore (pc' := 160) (z := z3211) (L' := [(9, vI z3211), (8, vI z3188), (7, vI z3165), (0, .ref r0), (1, vL v3103), (3, vI v3104), (4, vI v3105), (5, vI v3106), (6, vI v3107)]) rfl rfl rfl ?_)
              refine wp_of e187 c187_160 (rw_iload (pc' := 162) (z := z3188) rfl rfl ?_)
              refine wp_of e187 c187_162 (rw_if_eq (p1 := 180) (p2 := 165) (by decide) rfl ⟨by omega, by omega⟩ (fun c3300 => ?_) (fun c3300 => ?_))
              · exfalso
                omega
              · refine wp_of e187 c187_165 (rw_aload_n (pc' := 166) (v := .ref r0) rfl rfl rfl ?_)
                refine wp_of e187 c187_166 (rw_ldcS (pc' := 168) (k := 87) rfl rfl rfl rfl ?_)
                refine wp_of e187 c187_168 (rw_iload (pc' := 170) (z := z3211) rfl rfl ?_)
                refine wp_of e187 c187_170 (rw_iconst (pc' := 171) rfl ?_)
                refine wp_of e187 c187_171 (rw_iadd (pc' := 172) rfl ?_)
                refine wp_of e187 c187_172 (rw_bipush (pc' := 174) (z := 24) rfl (by decide) ?_)
                have k3301 : H3205 r0 5 = H3182 r0 5 := (f3210 r0 5 _ g0 rfl)
                have q3302 : H3205 r0 5 = (rb : Int) := k3301.trans q3202
                refine wp_of e187 c187_174 (xc_V (pc' := 177) (r := r0) (as := [.ref 87, vI (z3211 + 1), vI 24]) (st := []) (lm_9_216) rfl rfl (Nat.le_of_ble_eq_true rfl) w3209 g0 sh_42 (by decide) rfl (by decide) (u_182_o (fo := (xh B n ((xN B n ((xN B n ((xN B n ((xN B n (xN B n (xN B n (xN B n (xN B n (xN B n (xN B n (xN B n (xN B n (xN B n q))))))))))))))))) 0 23)) (po := (((xN B n ((xN B n ((xN B n ((xN B n (xN B n (xN B n (xN B n (xN B n (xN B n (xN B n (xN B n (xN B n (xN B n q))))))))))))))))))) (kk := 655) w3209 g0 rfl ⟨by omega, by omega⟩ ⟨by omega, by omega⟩ q3302 grb (by decide +kernel) a3220) (fun R3303 T3304 H3305 p3306 => ?_))
                obtain ⟨e3307, e3309, z3310, e3308, b3311, p3312⟩ := p3306
                subst e3307
                subst e3308
                subst e3309
                obtain ⟨a3313, a3314⟩ := p3312
                show wp _ _ 187 177 [(9, vI z3211), (8, vI z3188), (7, vI z3165), (0, .ref r0), (1, vL v3103), (3, vI v3104), (4, vI v3105), (5, vI v3106), (6, vI v3107)] [vI z3310] _ H3205 _
                have u3315 := RO_k a3314
                refine wp_of e187 c187_177 (rw_goto (p1 := 181) (by decide) ?_)
                refine wp_of e187 c187_181 (rw_istore (pc' := 183) (z := z3310) (L' := [(10, vI z3310), (9, vI z3211), (8, vI z3188), (7, vI z3165), (0, .ref r0), (1, vL v3103), (3, vI v3104), (4, vI v3105), (5, vI v3106), (6, vI v3107)]) rfl rfl rfl ?_)
                have o3316 : (xl1 B n q d) = (xh B n ((xN B n ((xN B n ((xN B n ((xN B n (xN B n (xN B n (xN B n (xN B n (xN B n (xN B n (xN B n (xN B n (xN B n q))))))))))))))))) 0 23, ((xN B n ((xN B n ((xN B n ((xN B n (xN B n (xN B n (xN B n (xN B n (xN B n (xN B n (xN B n (xN B n (xN B n q))))))))))))))))), ((xN B n ((xN B n ((xN B n ((xN B n (xN B n (xN B n (xN B n (xN B n (xN B n (xN B n (xN B n (xN B n (xN B n q)))))))))))))))))) := by
                  rw [x3119]
                  unfold xcs xca xcb xrg
                  try simp only [xs_xs, xs_z]
                  try rw [_ea]
                  try rw [_eb]
                  try rw [_ec]
                  repeat first | rw [xs_0 (by omega)] | rw [xs_1 (by omega)] | rw [if_pos (by omega)] | rw [if_neg (by omega)]
                  first | done | rfl | assumption | (exfalso; omega) | (refine Prod.ext ?_ (Prod.ext ?_ ?_) <;> (try dsimp only) <;> omega)
                have o3316a : ((xl1 B n q d)).1 = xh B n ((xN B n ((xN B n ((xN B n ((xN B n (xN B n (xN B n (xN B n (xN B n (xN B n (xN B n (xN B n (xN B n (xN B n q))))))))))))))))) 0 23 := by rw [o3316]
                have o3316b : ((xl1 B n q d)).2.1 = ((xN B n ((xN B n ((xN B n ((xN B n (xN B n (xN B n (xN B n (xN B n (xN B n (xN B n (xN B n (xN B n (xN B n q))))))))))))))))) := by rw [o3316]
                have o3316c : ((xl1 B n q d)).2.2 = ((xN B n ((xN B n ((xN B n ((xN B n (xN B n (xN B n (xN B n (xN B n (xN B n (xN B n (xN B n (xN B n (xN B n q))))))))))))))))) := by rw [o3316]
                exact wp_lc (ks := [10, 9, 8, 7, 0, 1, 3, 4, 5, 6]) (wl_c rfl (wl_c rfl (wl_c rfl (wl_c rfl (wl_c rfl (wl_c rfl (wl_c rfl (wl_c rfl (wl_c rfl wl_n))))))))) rfl (by decide) (u_187_k_t183o hW g0 qrp grp qrb grb p0 hRC_r0 hDM_rp v3103 v3104 v3105 v3106 v3107 z3165 z3211 z3310 H3205 (xh B n ((xN B n ((xN B n ((xN B n ((xN B n (xN B n (xN B n (xN B n (xN B n (xN B n (xN B n (xN B n (xN B n (xN B n q))))))))))))))))) 0 23) (((xN B n ((xN B n ((xN B n ((xN B n (xN B n (xN B n (xN B n (xN B n (xN B n (xN B n (xN B n (xN B n (xN B n q)))))))))))))))))) w3209 f3298 ⟨by omega, by omega⟩ ⟨by omega, by omega⟩ ⟨by omega, by omega⟩ ⟨by omega, by omega⟩ ⟨by omega, by omega⟩ ⟨by omega, by omega⟩ ⟨by omega, by omega⟩ ⟨by omega, by omega⟩ a3314 (by omega) (by omega))
        · have f3317 := f3175.tr f3187 rfl
          have f3318 := f3176.tr f3187 rfl
          show wp _ _ 187 140 [(7, vI z3165), (0, .ref r0), (1, vL v3103), (3, vI v3104), (4, vI v3105), (5, vI v3106), (6, vI v3107)] [vI z3188] _ H3182 _
          have u3319 := RC_k a3196
          refine wp_of e187 c187_140 (rw_istore (pc' := 142) (z := z3188) (L' := [(8, vI z3188), (7, vI z3165), (0, .ref r0), (1, vL v3103), (3, vI v3104), (4, vI v3105), (5, vI v3106), (6, vI v3107)]) rfl rfl rfl ?_)
          refine wp_of e187 c187_142 (rw_iload (pc' := 144) (z := z3188) rfl rfl ?_)
          refine wp_of e187 c187_144 (rw_if_eq (p1 := 157) (p2 := 147) (by decide) rfl ⟨by omega, by omega⟩ (fun c3320 => ?_) (fun c3320 => ?_))
          · refine wp_of e187 c187_157 (rw_iconst (pc' := 158) rfl ?_)
            refine wp_of e187 c187_158 (rw_istore (pc' := 160) (z := 0) (L' := [(9, vI 0), (8, vI z3188), (7, vI z3165), (0, .ref r0), (1, vL v3103), (3, vI v3104), (4, vI v3105), (5, vI v3106), (6, vI v3107)]) rfl rfl rfl ?_)
            refine wp_of e187 c187_160 (rw_iload (pc' := 162) (z := z3188) rfl rfl ?_)
            refine wp_of e187 c187_162 (rw_if_eq (p1 := 180) (p2 := 165) (by decide) rfl ⟨by omega, by omega⟩ (fun c3321 => ?_) (fun c3321 => ?_))
            · refine wp_of e187 c187_180 (rw_iconst (pc' := 181) rfl ?_)
              refine wp_of e187 c187_181 (rw_istore (pc' := 183) (z := 0) (L' := [(10, vI 0), (9, vI 0), (8, vI z3188), (7, vI z3165), (0, .ref r0), (1, vL v3103), (3, vI v3104), (4, vI v3105), (5, vI v3106), (6, vI v3107)]) rfl rfl rfl ?_)
              have _eb : xqb B n ((xN B n ((xN B n ((xN B n (xN B n (xN B n (xN B n (xN B n (xN B n (xN B n (xN B n (xN B n (xN B n q))))))))))))))) = ((xN B n ((xN B n ((xN B n (xN B n (xN B n (xN B n (xN B n (xN B n (xN B n (xN B n (xN B n (xN B n q))))))))))))))) := by
                unfold xqb
                first | rw [if_pos (by omega)] | rw [if_neg (by omega)]
              have _enf : xnf B n ((xN B n ((xN B n ((xN B n (xN B n (xN B n (xN B n (xN B n (xN B n (xN B n (xN B n (xN B n (xN B n q))))))))))))))) = 0 := by
                unfold xnf
                first | (rw [if_pos (by omega)] <;> omega) | (rw [if_neg (by omega)] <;> omega)
              have _ent : xnt B n ((xN B n ((xN B n ((xN B n (xN B n (xN B n (xN B n (xN B n (xN B n (xN B n (xN B n (xN B n (xN B n q))))))))))))))) = 0 := by
                unfold xnt
                first | (rw [if_pos (by omega)] <;> omega) | (rw [if_neg (by omega)] <;> omega)
              refine wp_of e187 c187_183 (rw_aload_n (pc' := 184) (v := .ref r0) rfl rfl rfl ?_)
              refine wp_of e187 c187_184 (rw_ldcS (pc' := 186) (k := 85) rfl rfl rfl rfl ?_)
              have k3322 : H3182 r0 5 = H3159 r0 5 := (f3187 r0 5 _ g0 rfl)
              have q3323 : H3182 r0 5 = (rb : Int) := k3322.trans q3179
              refine wp_of e187 c187_186 (xc_V (pc' := 189) (r := r0) (as := [.ref 85]) (st := []) (lm_9_240) rfl rfl (Nat.le_of_ble_eq_true rfl) w3186 g0 sh_42 (by decide) rfl (by decide) (u_192_k (B := B) (n := n) (q := ((xN B n ((xN B n ((xN B n (xN B n (xN B n (xN B n (xN B n (xN B n (xN B n (xN B n (xN B n (xN B n q)))))))))))))))) (kk := 56377) w3186 g0 rfl q3323 grb (by decide +kernel) a3196) (fun R3324 T3325 H3326 p3327 => ?_))
              obtain ⟨e3328, w3330, f3331, z3332, e3329, b3333, p3334⟩ := p3327
              subst e3328
              subst e3329
              rcases p3334 with ⟨a3335, a3336, a3337⟩ | ⟨a3338, a3339, a3340⟩
              · have f3341 := f3317.tr f3331 rfl
                have f3342 := f3318.tr f3331 rfl
                show wp _ _ 187 189 [(10, vI 0), (9, vI 0), (8, vI z3188), (7, vI z3165), (0, .ref r0), (1, vL v3103), (3, vI v3104), (4, vI v3105), (5, vI v3106), (6, vI v3107)] [vI z3332] _ H3326 _
                have u3343 := RC_k a3337
                refine wp_of e187 c187_189 (rw_istore (pc' := 191) (z := z3332) (L' := [(11, vI z3332), (10, vI 0), (9, vI 0), (8, vI z3188), (7, vI z3165), (0, .ref r0), (1, vL v3103), (3, vI v3104), (4, vI v3105), (5, vI v3106), (6, vI v3107)]) rfl rfl rfl ?_)
                have _ec : xqc B n ((xN B n ((xN B n ((xN B n (xN B n (xN B n (xN B n (xN B n (xN B n (xN B n (xN B n (xN B n (xN B n q))))))))))))))) = ((xN B n ((xN B n ((xN B n ((xN B n (xN B n (xN B n (xN B n (xN B n (xN B n (xN B n (xN B n (xN B n (xN B n q))))))))))))))))) := by
                  unfold xqc
                  first | rw [if_pos (by omega)] | rw [if_neg (by omega)]
                have _ew : xaw B n ((xN B n ((xN B n ((xN B n (xN B n (xN B n (xN B n (xN B n (xN B n (xN B n (xN B n (xN B n (xN B n q))))))))))))))) = z3332 := by
                  unfold xaw
                  first | (rw [if_pos (by omega)] <;> omega) | (rw [if_neg (by omega)] <;> omega)
                refine wp_of e187 c187_191 (rw_aload_n (pc' := 192) (v := .ref r0) rfl rfl rfl ?_)
                refine wp_of e187 c187_192 (xg_I (pc' := 195) lf_9_75 w3330 g0 sh_42 (by decide) (by decide) ty_42_9 rfl rfl (fun b3344 b3345 => ?_))
                refine wp_of e187 c187_195 (rw_iconst (pc' := 196) rfl ?_)
                refine wp_of e187 c187_196 (rw_icmp_ne (p1 := 200) (p2 := 199) (by decide) rfl ⟨by omega, by omega⟩ ⟨by omega, by omega⟩ (fun c3346 => ?_) (fun c3346 => ?_))
                · have o3347 : (xl1 B n q d) = (0, (xN B n (xN B n (xN B n (xN B n (xN B n (xN B n (xN B n (xN B n (xN B n (xN B n q)))))))))), (xN B n ((xN B n ((xN B n ((xN B n (xN B n (xN B n (xN B n (xN B n (xN B n (xN B n (xN B n (xN B n (xN B n q))))))))))))))))) := by
                    rw [x3119]
                    unfold xcs xca xcb xrg
                    try simp only [xs_xs, xs_z]
                    try rw [_ea]
                    try rw [_eb]
                    try rw [_ec]
                    repeat first | rw [xs_0 (by omega)] | rw [xs_1 (by omega)] | rw [if_pos (by omega)] | rw [if_neg (by omega)]
                    first | done | rfl | assumption | (exfalso; omega) | (refine Prod.ext ?_ (Prod.ext ?_ ?_) <;> (try dsimp only) <;> omega)
                  have o3347a : ((xl1 B n q d)).1 = 0 := by rw [o3347]
                  have o3347b : ((xl1 B n q d)).2.1 = (xN B n (xN B n (xN B n (xN B n (xN B n (xN B n (xN B n (xN B n (xN B n (xN B n q)))))))))) := by rw [o3347]
                  have o3347c : ((xl1 B n q d)).2.2 = (xN B n ((xN B n ((xN B n ((xN B n (xN B n (xN B n (xN B n (xN B n (xN B n (xN B n (xN B n (xN B n (xN B n q)))))))))))))))) := by rw [o3347]
                  have h3348 : DM T H3326 rp r0 d := (DM_fr w3186 grp f3331 rfl (DM_fr w3163 grp f3187 rfl (DM_fr w3140 grp f3164 rfl (DM_fr w3109 grp f3141 rfl h3118))))
                  exact wp_lc (ks := [11, 10, 9, 8, 7, 0, 1, 3, 4, 5, 6]) (wl_c rfl (wl_c rfl (wl_c rfl (wl_c rfl (wl_c rfl (wl_c rfl (wl_c rfl (wl_c rfl (wl_c rfl (wl_c rfl wl_n)))))))))) rfl (by decide) (u_187_k_t200k hW g0 qrp grp qrb grb p0 hRC_r0 hDM_rp v3103 v3104 v3105 v3106 v3107 z3165 0 0 z3332 H3326 w3330 f3342 ⟨by omega, by omega⟩ ⟨by omega, by omega⟩ ⟨by omega, by omega⟩ ⟨by omega, by omega⟩ ⟨by omega, by omega⟩ ⟨by omega, by omega⟩ ⟨by omega, by omega⟩ ⟨by omega, by omega⟩ ⟨by omega, by omega⟩ (by rw [show (xl1 B n q d).2.2 = ((xN B n ((xN B n ((xN B n ((xN B n (xN B n (xN B n (xN B n (xN B n (xN B n (xN B n (xN B n (xN B n (xN B n q))))))))))))))))) by omega]; exact a3337) h3348 (by omega) (by omega) (by omega) (by omega) (by omega) (by omega) (by omega) (by omega) (by omega) (by omega) (by omega) (by rw [_ea]; exact _enf) (by rw [_ea]; exact _ent) (by rw [_ea, _eb]; exact _ew) (by omega))
                · exfalso
                  omega
              · have f3349 := f3317.tr f3331 rfl
                have f3350 := f3318.tr f3331 rfl
                show wp _ _ 187 189 [(10, vI 0), (9, vI 0), (8, vI z3188), (7, vI z3165), (0, .ref r0), (1, vL v3103), (3, vI v3104), (4, vI v3105), (5, vI v3106), (6, vI v3107)] [vI z3332] _ H3326 _
                have u3351 := RC_k a3340
                refine wp_of e187 c187_189 (rw_istore (pc' := 191) (z := z3332) (L' := [(11, vI z3332), (10, vI 0), (9, vI 0), (8, vI z3188), (7, vI z3165), (0, .ref r0), (1, vL v3103), (3, vI v3104), (4, vI v3105), (5, vI v3106), (6, vI v3107)]) rfl rfl rfl ?_)
                have _ec : xqc B n ((xN B n ((xN B n ((xN B n (xN B n (xN B n (xN B n (xN B n (xN B n (xN B n (xN B n (xN B n (xN B n q))))))))))))))) = ((xN B n ((xN B n ((xN B n (xN B n (xN B n (xN B n (xN B n (xN B n (xN B n (xN B n (xN B n (xN B n q))))))))))))))) := by
                  unfold xqc
                  first | rw [if_pos (by omega)] | rw [if_neg (by omega)]
                have _ew : xaw B n ((xN B n ((xN B n ((xN B n (xN B n (xN B n (xN B n (xN B n (xN B n (xN B n (xN B n (xN B n (xN B n q))))))))))))))) = z3332 := by
                  unfold xaw
                  first | (rw [if_pos (by omega)] <;> omega) | (rw [if_neg (by omega)] <;> omega)
                refine wp_of e187 c187_191 (rw_aload_n (pc' := 192) (v := .ref r0) rfl rfl rfl ?_)
                refine wp_of e187 c187_192 (xg_I (pc' := 195) lf_9_75 w3330 g0 sh_42 (by decide) (by decide) ty_42_9 rfl rfl (fun b3352 b3353 => ?_))
                refine wp_of e187 c187_195 (rw_iconst (pc' := 196) rfl ?_)
                refine wp_of e187 c187_196 (rw_icmp_ne (p1 := 200) (p2 := 199) (by decide) rfl ⟨by omega, by omega⟩ ⟨by omega, by omega⟩ (fun c3354 => ?_) (fun c3354 => ?_))
                · have o3355 : (xl1 B n q d) = (0, (xN B n (xN B n (xN B n (xN B n (xN B n (xN B n (xN B n (xN B n (xN B n (xN B n q)))))))))), (xN B n ((xN B n ((xN B n (xN B n (xN B n (xN B n (xN B n (xN B n (xN B n (xN B n (xN B n (xN B n q))))))))))))))) := by
                    rw [x3119]
                    unfold xcs xca xcb xrg
                    try simp only [xs_xs, xs_z]
                    try rw [_ea]
                    try rw [_eb]
                    try rw [_ec]
                    repeat first | rw [xs_0 (by omega)] | rw [xs_1 (by omega)] | rw [if_pos (by omega)] | rw [if_neg (by omega)]
                    first | done | rfl | assumption | (exfalso; omega) | (refine Prod.ext ?_ (Prod.ext ?_ ?_) <;> (try dsimp only) <;> omega)
                  have o3355a : ((xl1 B n q d)).1 = 0 := by rw [o3355]
                  have o3355b : ((xl1 B n q d)).2.1 = (xN B n (xN B n (xN B n (xN B n (xN B n (xN B n (xN B n (xN B n (xN B n (xN B n q)))))))))) := by rw [o3355]
                  have o3355c : ((xl1 B n q d)).2.2 = (xN B n ((xN B n ((xN B n (xN B n (xN B n (xN B n (xN B n (xN B n (xN B n (xN B n (xN B n (xN B n q)))))))))))))) := by rw [o3355]
                  have h3356 : DM T H3326 rp r0 d := (DM_fr w3186 grp f3331 rfl (DM_fr w3163 grp f3187 rfl (DM_fr w3140 grp f3164 rfl (DM_fr w3109 grp f3141 rfl h3118))))
                  exact wp_lc (ks := [11, 10, 9, 8, 7, 0, 1, 3, 4, 5, 6]) (wl_c rfl (wl_c rfl (wl_c rfl (wl_c rfl (wl_c rfl (wl_c rfl (wl_c rfl (wl_c rfl (wl_c rfl (wl_c rfl wl_n)))))))))) rfl (by decide) (u_187_k_t200k hW g0 qrp grp qrb grb p0 hRC_r0 hDM_rp v3103 v3104 v3105 v3106 v3107 z3165 0 0 z3332 H3326 w3330 f3350 ⟨by omega, by omega⟩ ⟨by omega, by omega⟩ ⟨by omega, by omega⟩ ⟨by omega, by omega⟩ ⟨by omega, by omega⟩ ⟨by omega, by omega⟩ ⟨by omega, by omega⟩ ⟨by omega, by omega⟩ ⟨by omega, by omega⟩ (by rw [show (xl1 B n q d).2.2 = ((xN B n ((xN B n ((xN B n (xN B n (xN B n (xN B n (xN B n (xN B n (xN B n (xN B n (xN B n (xN B n q))))))))))))))) by omega]; exact a3340) h3356 (by omega) (by omega) (by omega) (by omega) (by omega) (by omega) (by omega) (by omega) (by omega) (by omega) (by omega) (by rw [_ea]; exact _enf) (by rw [_ea]; exact _ent) (by rw [_ea, _eb]; exact _ew) (by omega))
                · exfalso
                  omega
            · exfalso
              omega
          · exfalso
            omega
      · have f3357 := f3151.tr f3164 rfl
        have f3358 := f3152.tr f3164 rfl
        show wp _ _ 187 128 [(0, .ref r0), (1, vL v3103), (3, vI v3104), (4, vI v3105), (5, vI v3106), (6, vI v3107)] [vI z3165] _ H3159 _
        have u3359 := RO_k a3174
        refine wp_of e187 c187_128 (rw_goto (p1 := 132) (by decide) ?_)
        refine wp_of e187 c187_132 (rw_istore (pc' := 134) (z := z3165) (L' := [(7, vI z3165), (0, .ref r0), (1, vL v3103), (3, vI v3104), (4, vI v3105), (5, vI v3106), (6, vI v3107)]) rfl rfl rfl ?_)
        have o3360 : (xl1 B n q d) = (xh B n ((xN B n ((xN B n (xN B n (xN B n (xN B n (xN B n (xN B n (xN B n (xN B n (xN B n (xN B n q))))))))))))) 0 23, ((xN B n ((xN B n (xN B n (xN B n (xN B n (xN B n (xN B n (xN B n (xN B n (xN B n (xN B n q))))))))))))), ((xN B n ((xN B n (xN B n (xN B n (xN B n (xN B n (xN B n (xN B n (xN B n (xN B n (xN B n q)))))))))))))) := by
          rw [x3119]
          unfold xcs xca xcb xrg
          try simp only [xs_xs, xs_z]
          try rw [_ea]
          try rw [_eb]
          try rw [_ec]
          repeat first | rw [xs_0 (by omega)] | rw [xs_1 (by omega)] | rw [if_pos (by omega)] | rw [if_neg (by omega)]
          first | done | rfl | assumption | (exfalso; omega) | (refine Prod.ext ?_ (Prod.ext ?_ ?_) <;> (try dsimp only) <;> omega)
        have o3360a : ((xl1 B n q d)).1 = xh B n ((xN B n ((xN B n (xN B n (xN B n (xN B n (xN B n (xN B n (xN B n (xN B n (xN B n (xN B n q))))))))))))) 0 23 := by rw [o3360]
        have o3360b : ((xl1 B n q d)).2.1 = ((xN B n ((xN B n (xN B n (xN B n (xN B n (xN B n (xN B n (xN B n (xN B n (xN B n (xN B n q))))))))))))) := by rw [o3360]
        have o3360c : ((xl1 B n q d)).2.2 = ((xN B n ((xN B n (xN B n (xN B n (xN B n (xN B n (xN B n (xN B n (xN B n (xN B n (xN B n q))))))))))))) := by rw [o3360]
        exact wp_lc (ks := [7, 0, 1, 3, 4, 5, 6]) (wl_c rfl (wl_c rfl (wl_c rfl (wl_c rfl (wl_c rfl (wl_c rfl (wl_c rfl wl_n))))))) rfl (by decide) (u_187_k_t134o hW g0 qrp grp qrb grb p0 hRC_r0 hDM_rp v3103 v3104 v3105 v3106 v3107 z3165 H3159 (xh B n ((xN B n ((xN B n (xN B n (xN B n (xN B n (xN B n (xN B n (xN B n (xN B n (xN B n (xN B n q))))))))))))) 0 23) (((xN B n ((xN B n (xN B n (xN B n (xN B n (xN B n (xN B n (xN B n (xN B n (xN B n (xN B n q)))))))))))))) w3163 f3358 ⟨by omega, by omega⟩ ⟨by omega, by omega⟩ ⟨by omega, by omega⟩ ⟨by omega, by omega⟩ ⟨by omega, by omega⟩ ⟨by omega, by omega⟩ a3174 (by omega) (by omega))
  · have f3361 := f3129.tr f3141 rfl
    have f3362 := f3110.tr f3141 rfl
    show wp _ _ 187 118 [(0, .ref r0), (1, vL v3103), (3, vI v3104), (4, vI v3105), (5, vI v3106), (6, vI v3107)] [vI z3142] _ H3136 _
    have u3363 := RC_k a3150
    refine wp_of e187 c187_118 (rw_if_eq (p1 := 131) (p2 := 121) (by decide) rfl ⟨by omega, by omega⟩ (fun c3364 => ?_) (fun c3364 => ?_))
    · refine wp_of e187 c187_131 (rw_iconst (pc' := 132) rfl ?_)
      refine wp_of e187 c187_132 (rw_istore (pc' := 134) (z := -1) (L' := [(7, vI (-1)), (0, .ref r0), (1, vL v3103), (3, vI v3104), (4, vI v3105), (5, vI v3106), (6, vI v3107)]) rfl rfl rfl ?_)
      have _ea : xqa B n ((xN B n (xN B n (xN B n (xN B n (xN B n (xN B n (xN B n (xN B n (xN B n (xN B n q))))))))))) = ((xN B n (xN B n (xN B n (xN B n (xN B n (xN B n (xN B n (xN B n (xN B n (xN B n q))))))))))) := by
        unfold xqa
        first | rw [if_pos (by omega)] | rw [if_neg (by omega)]
      have _eh : xhb B n ((xN B n (xN B n (xN B n (xN B n (xN B n (xN B n (xN B n (xN B n (xN B n (xN B n q))))))))))) = (-1) := by
        unfold xhb
        first | (rw [if_pos (by omega)] <;> omega) | (rw [if_neg (by omega)] <;> omega)
      refine wp_of e187 c187_134 (rw_aload_n (pc' := 135) (v := .ref r0) rfl rfl rfl ?_)
      refine wp_of e187 c187_135 (rw_ldcS (pc' := 137) (k := 84) rfl rfl rfl rfl ?_)
      have k3365 : H3136 r0 5 = H3108 r0 5 := (f3141 r0 5 _ g0 rfl)
      have q3366 : H3136 r0 5 = (rb : Int) := k3365.trans q3133
      refine wp_of e187 c187_137 (xc_V (pc' := 140) (r := r0) (as := [.ref 84]) (st := []) (lm_9_240) rfl rfl (Nat.le_of_ble_eq_true rfl) w3140 g0 sh_42 (by decide) rfl (by decide) (u_192_k (B := B) (n := n) (q := ((xN B n (xN B n (xN B n (xN B n (xN B n (xN B n (xN B n (xN B n (xN B n (xN B n q)))))))))))) (kk := 14384) w3140 g0 rfl q3366 grb (by decide +kernel) a3150) (fun R3367 T3368 H3369 p3370 => ?_))
      obtain ⟨e3371, w3373, f3374, z3375, e3372, b3376, p3377⟩ := p3370
      subst e3371
      subst e3372
      rcases p3377 with ⟨a3378, a3379, a3380⟩ | ⟨a3381, a3382, a3383⟩
      · have f3384 := f3361.tr f3374 rfl
        have f3385 := f3362.tr f3374 rfl
        show wp _ _ 187 140 [(7, vI (-1)), (0, .ref r0), (1, vL v3103), (3, vI v3104), (4, vI v3105), (5, vI v3106), (6, vI v3107)] [vI z3375] _ H3369 _
        have u3386 := RC_k a3380
        refine wp_of e187 c187_140 (rw_istore (pc' := 142) (z := z3375) (L' := [(8, vI z3375), (7, vI (-1)), (0, .ref r0), (1, vL v3103), (3, vI v3104), (4, vI v3105), (5, vI v3106), (6, vI v3107)]) rfl rfl rfl ?_)
        refine wp_of e187 c187_142 (rw_iload (pc' := 144) (z := z3375) rfl rfl ?_)
        refine wp_of e187 c187_144 (rw_if_eq (p1 := 157) (p2 := 147) (by decide) rfl ⟨by omega, by omega⟩ (fun c3387 => ?_) (fun c3387 => ?_))
        · exfalso
          omega
        · refine wp_of e187 c187_147 (rw_aload_n (pc' := 148) (v := .ref r0) rfl rfl rfl ?_)
          refine wp_of e187 c187_148 (rw_iconst (pc' := 149) rfl ?_)
          refine wp_of e187 c187_149 (rw_bipush (pc' := 151) (z := 23) rfl (by decide) ?_)
          have k3388 : H3369 r0 5 = H3136 r0 5 := (f3374 r0 5 _ g0 rfl)
          have q3389 : H3369 r0 5 = (rb : Int) := k3388.trans q3366
          refine wp_of e187 c187_151 (xc_V (pc' := 154) (r := r0) (as := [vI 0, vI 23]) (st := []) (lm_9_137) rfl rfl (Nat.le_of_ble_eq_true rfl) w3373 g0 sh_42 (by decide) rfl (by decide) (u_184_k (B := B) (n := n) (q := ((xN B n ((xN B n (xN B n (xN B n (xN B n (xN B n (xN B n (xN B n (xN B n (xN B n (xN B n q)))))))))))))) (lo := 0) (hi := 23) w3373 g0 ⟨by omega, by omega⟩ ⟨by omega, by omega⟩ q3389 grb (by omega) (by omega) a3380) (fun R3390 T3391 H3392 p3393 => ?_))
          obtain ⟨e3394, w3396, f3397, z3398, e3395, b3399, p3400⟩ := p3393
          subst e3394
          subst e3395
          rcases p3400 with ⟨a3401, a3402, a3403, a3404⟩ | ⟨a3405, a3406, a3407⟩
          · have f3408 := f3384.tr f3397 rfl
            have f3409 := f3385.tr f3397 rfl
            show wp _ _ 187 154 [(8, vI z3375), (7, vI (-1)), (0, .ref r0), (1, vL v3103), (3, vI v3104), (4, vI v3105), (5, vI v3106), (6, vI v3107)] [vI z3398] _ H3392 _
            have u3410 := RC_k a3404
            refine wp_of e187 c187_154 (rw_goto (p1 := 158) (by decide) ?_)
            refine wp_of e187 c187_158 (rw_istore (pc' := 160) (z := z3398) (L' := [(9, vI z3398), (8, vI z3375), (7, vI (-1)), (0, .ref r0), (1, vL v3103), (3, vI v3104), (4, vI v3105), (5, vI v3106), (6, vI v3107)]) rfl rfl rfl ?_)
            refine wp_of e187 c187_160 (rw_iload (pc' := 162) (z := z3375) rfl rfl ?_)
            refine wp_of e187 c187_162 (rw_if_eq (p1 := 180) (p2 := 165) (by decide) rfl ⟨by omega, by omega⟩ (fun c3411 => ?_) (fun c3411 => ?_))
            · exfalso
              omega
            · refine wp_of e187 c187_165 (rw_aload_n (pc' := 166) (v := .ref r0) rfl rfl rfl ?_)
              refine wp_of e187 c187_166 (rw_ldcS (pc' := 168) (k := 87) rfl rfl rfl rfl ?_)
              refine wp_of e187 c187_168 (rw_iload (pc' := 170) (z := z3398) rfl rfl ?_)
              refine wp_of e187 c187_170 (rw_iconst (pc' := 171) rfl ?_)
              refine wp_of e187 c187_171 (rw_iadd (pc' := 172) rfl ?_)
              refine wp_of e187 c187_172 (rw_bipush (pc' := 174) (z := 24) rfl (by decide) ?_)
              have k3412 : H3392 r0 5 = H3369 r0 5 := (f3397 r0 5 _ g0 rfl)
              have q3413 : H3392 r0 5 = (rb : Int) := k3412.trans q3389
              refine wp_of e187 c187_174 (xc_V (pc' := 177) (r := r0) (as := [.ref 87, vI (z3398 + 1), vI 24]) (st := []) (lm_9_216) rfl rfl (Nat.le_of_ble_eq_true rfl) w3396 g0 sh_42 (by decide) rfl (by decide) (u_182_k (B := B) (n := n) (q := ((xN B n ((xN B n ((xN B n (xN B n (xN B n (xN B n (xN B n (xN B n (xN B n (xN B n (xN B n (xN B n q)))))))))))))))) (kk := 655) (lo := (xV B n (xN B n ((xN B n (xN B n (xN B n (xN B n (xN B n (xN B n (xN B n (xN B n (xN B n (xN B n q)))))))))))) + 1)) (hi := (min (xV B n (xN B n ((xN B n (xN B n (xN B n (xN B n (xN B n (xN B n (xN B n (xN B n (xN B n (xN B n q)))))))))))) + 24) 24)) w3396 g0 rfl ⟨by omega, by omega⟩ ⟨by omega, by omega⟩ q3413 grb (by decide +kernel) (by omega) (by omega) a3404) (fun R3414 T3415 H3416 p3417 => ?_))
              obtain ⟨e3418, w3420, f3421, z3422, e3419, b3423, p3424⟩ := p3417
              subst e3418
              subst e3419
              rcases p3424 with ⟨a3425, a3426, a3427, a3428, a3429, a3430⟩ | ⟨a3431, a3432, a3433⟩ | ⟨a3434, a3435, a3436, a3437⟩
              · have f3438 := f3408.tr f3421 rfl
                have f3439 := f3409.tr f3421 rfl
                show wp _ _ 187 177 [(9, vI z3398), (8, vI z3375), (7, vI (-1)), (0, .ref r0), (1, vL v3103), (3, vI v3104), (4, vI v3105), (5, vI v3106), (6, vI v3107)] [vI z3422] _ H3416 _
                have u3440 := RC_k a3430
                refine wp_of e187 c187_177 (rw_goto (p1 := 181) (by decide) ?_)
                refine wp_of e187 c187_181 (rw_istore (pc' := 183) (z := z3422) (L' := [(10, vI z3422), (9, vI z3398), (8, vI z3375), (7, vI (-1)), (0, .ref r0), (1, vL v3103), (3, vI v3104), (4, vI v3105), (5, vI v3106), (6, vI v3107)]) rfl rfl rfl ?_)
                have _eb : xqb B n ((xN B n (xN B n (xN B n (xN B n (xN B n (xN B n (xN B n (xN B n (xN B n (xN B n q))))))))))) = ((xN B n (xN B n ((xN B n ((xN B n ((xN B n (xN B n (xN B n (xN B n (xN B n (xN B n (xN B n (xN B n (xN B n (xN B n q)))))))))))))))))) := by
                  unfold xqb
                  first | rw [if_pos (by omega)] | rw [if_neg (by omega)]
                have _enf : xnf B n ((xN B n (xN B n (xN B n (xN B n (xN B n (xN B n (xN B n (xN B n (xN B n (xN B n q))))))))))) = z3398 := by
                  unfold xnf
                  first | (rw [if_pos (by omega)] <;> omega) | (rw [if_neg (by omega)] <;> omega)
                have _ent : xnt B n ((xN B n (xN B n (xN B n (xN B n (xN B n (xN B n (xN B n (xN B n (xN B n (xN B n q))))))))))) = z3422 := by
                  unfold xnt
                  first | (rw [if_pos (by omega)] <;> omega) | (rw [if_neg (by omega)] <;> omega)
                refine wp_of e187 c187_183 (rw_aload_n (pc' := 184) (v := .ref r0) rfl rfl rfl ?_)
                refine wp_of e187 c187_184 (rw_ldcS (pc' := 186) (k := 85) rfl rfl rfl rfl ?_)
                have k3441 : H3416 r0 5 = H3392 r0 5 := (f3421 r0 5 _ g0 rfl)
                have q3442 : H3416 r0 5 = (rb : Int) := k3441.trans q3413
                refine wp_of e187 c187_186 (xc_V (pc' := 189) (r := r0) (as := [.ref 85]) (st := []) (lm_9_240) rfl rfl (Nat.le_of_ble_eq_true rfl) w3420 g0 sh_42 (by decide) rfl (by decide) (u_192_k (B := B) (n := n) (q := ((xN B n (xN B n ((xN B n ((xN B n ((xN B n (xN B n (xN B n (xN B n (xN B n (xN B n (xN B n (xN B n (xN B n (xN B n q))))))))))))))))))) (kk := 56377) w3420 g0 rfl q3442 grb (by decide +kernel) a3430) (fun R3443 T3444 H3445 p3446 => ?_))
                obtain ⟨e3447, w3449, f3450, z3451, e3448, b3452, p3453⟩ := p3446
                subst e3447
                subst e3448
                rcases p3453 with ⟨a3454, a3455, a3456⟩ | ⟨a3457, a3458, a3459⟩
                · have f3460 := f3438.tr f3450 rfl
                  have f3461 := f3439.tr f3450 rfl
                  show wp _ _ 187 189 [(10, vI z3422), (9, vI z3398), (8, vI z3375), (7, vI (-1)), (0, .ref r0), (1, vL v3103), (3, vI v3104), (4, vI v3105), (5, vI v3106), (6, vI v3107)] [vI z3451] _ H3445 _
                  have u3462 := RC_k a3456
                  refine wp_of e187 c187_189 (rw_istore (pc' := 191) (z := z3451) (L' := [(11, vI z3451), (10, vI z3422), (9, vI z3398), (8, vI z3375), (7, vI (-1)), (0, .ref r0), (1, vL v3103), (3, vI v3104), (4, vI v3105), (5, vI v3106), (6, vI v3107)]) rfl rfl rfl ?_)
                  have _ec : xqc B n ((xN B n (xN B n ((xN B n ((xN B n ((xN B n (xN B n (xN B n (xN B n (xN B n (xN B n (xN B n (xN B n (xN B n (xN B n q)))))))))))))))))) = ((xN B n ((xN B n (xN B n ((xN B n ((xN B n ((xN B n (xN B n (xN B n (xN B n (xN B n (xN B n (xN B n (xN B n (xN B n (xN B n q)))))))))))))))))))) := by
                    unfold xqc
                    first | rw [if_pos (by omega)] | rw [if_neg (by omega)]
                  have _ew : xaw B n ((xN B n (xN B n ((xN B n ((xN B n ((xN B n (xN B n (xN B n (xN B n (xN B n (xN B n (xN B n (xN B n (xN B n (xN B n q)))))))))))))))))) = z3451 := by
                    unfold xaw
                    first | (rw [if_pos (by omega)] <;> omega) | (rw [if_neg (by omega)] <;> omega)
                  refine wp_of e187 c187_191 (rw_aload_n (pc' := 192) (v := .ref r0) rfl rfl rfl ?_)
                  refine wp_of e187 c187_192 (xg_I (pc' := 195) lf_9_75 w3449 g0 sh_42 (by decide) (by decide) ty_42_9 rfl rfl (fun b3463 b3464 => ?_))
                  refine wp_of e187 c187_195 (rw_iconst (pc' := 196) rfl ?_)
                  refine wp_of e187 c187_196 (rw_icmp_ne (p1 := 200) (p2 := 199) (by decide) rfl ⟨by omega, by omega⟩ ⟨by omega, by omega⟩ (fun c3465 => ?_) (fun c3465 => ?_))
                  · have o3466 : (xl1 B n q d) = (0, (xN B n (xN B n (xN B n (xN B n (xN B n (xN B n (xN B n (xN B n (xN B n (xN B n q)))))))))), (xN B n ((xN B n (xN B n ((xN B n ((xN B n ((xN B n (xN B n (xN B n (xN B n (xN B n (xN B n (xN B n (xN B n (xN B n (xN B n q)))))))))))))))))))) := by
                      rw [x3119]
                      unfold xcs xca xcb xrg
                      try simp only [xs_xs, xs_z]
                      try rw [_ea]
                      try rw [_eb]
                      try rw [_ec]
                      repeat first | rw [xs_0 (by omega)] | rw [xs_1 (by omega)] | rw [if_pos (by omega)] | rw [if_neg (by omega)]
                      first | done | rfl | assumption | (exfalso; omega) | (refine Prod.ext ?_ (Prod.ext ?_ ?_) <;> (try dsimp only) <;> omega)
                    have o3466a : ((xl1 B n q d)).1 = 0 := by rw [o3466]
                    have o3466b : ((xl1 B n q d)).2.1 = (xN B n (xN B n (xN B n (xN B n (xN B n (xN B n (xN B n (xN B n (xN B n (xN B n q)))))))))) := by rw [o3466]
                    have o3466c : ((xl1 B n q d)).2.2 = (xN B n ((xN B n (xN B n ((xN B n ((xN B n ((xN B n (xN B n (xN B n (xN B n (xN B n (xN B n (xN B n (xN B n (xN B n (xN B n q))))))))))))))))))) := by rw [o3466]
                    have h3467 : DM T H3445 rp r0 d := (DM_fr w3420 grp f3450 rfl (DM_fr w3396 grp f3421 rfl (DM_fr w3373 grp f3397 rfl (DM_fr w3140 grp f3374 rfl (DM_fr w3109 grp f3141 rfl h3118)))))
                    exact wp_lc (ks := [11, 10, 9, 8, 7, 0, 1, 3, 4, 5, 6]) (wl_c rfl (wl_c rfl (wl_c rfl (wl_c rfl (wl_c rfl (wl_c rfl (wl_c rfl (wl_c rfl (wl_c rfl (wl_c rfl wl_n)))))))))) rfl (by decide) (u_187_k_t200k hW g0 qrp grp qrb grb p0 hRC_r0 hDM_rp v3103 v3104 v3105 v3106 v3107 (-1) z3398 z3422 z3451 H3445 w3449 f3461 ⟨by omega, by omega⟩ ⟨by omega, by omega⟩ ⟨by omega, by omega⟩ ⟨by omega, by omega⟩ ⟨by omega, by omega⟩ ⟨by omega, by omega⟩ ⟨by omega, by omega⟩ ⟨by omega, by omega⟩ ⟨by omega, by omega⟩ (by rw [show (xl1 B n q d).2.2 = ((xN B n ((xN B n (xN B n ((xN B n ((xN B n ((xN B n (xN B n (xN B n (xN B n (xN B n (xN B n (xN B n (xN B n (xN B n (xN B n q)))))))))))))))))))) by omega]; exact a3456) h3467 (by omega) (by omega) (by omega) (by omega) (by omega) (by omega) (by omega) (by omega) (by omega) (by omega) (by omega) (by rw [_ea]; exact _enf) (by rw [_ea]; exact _ent) (by rw [_ea, _eb]; exact _ew) (by omega))
                  · exfalso
                    omega
                · have f3468 := f3438.tr f3450 rfl
                  have f3469 := f3439.tr f3450 rfl
                  show wp _ _ 187 189 [(10, vI z3422), (9, vI z3398), (8, vI z3375), (7, vI (-1)), (0, .ref r0), (1, vL v3103), (3, vI v3104), (4, vI v3105), (5, vI v3106), (6, vI v3107)] [vI z3451] _ H3445 _
                  have u3470 := RC_k a3459
                  refine wp_of e187 c187_189 (rw_istore (pc' := 191) (z := z3451) (L' := [(11, vI z3451), (10, vI z3422), (9, vI z3398), (8, vI z3375), (7, vI (-1)), (0, .ref r0), (1, vL v3103), (3, vI v3104), (4, vI v3105), (5, vI v3106), (6, vI v3107)]) rfl rfl rfl ?_)
                  have _ec : xqc B n ((xN B n (xN B n ((xN B n ((xN B n ((xN B n (xN B n (xN B n (xN B n (xN B n (xN B n (xN B n (xN B n (xN B n (xN B n q)))))))))))))))))) = ((xN B n (xN B n ((xN B n ((xN B n ((xN B n (xN B n (xN B n (xN B n (xN B n (xN B n (xN B n (xN B n (xN B n (xN B n q)))))))))))))))))) := by
                    unfold xqc
                    first | rw [if_pos (by omega)] | rw [if_neg (by omega)]
                  have _ew : xaw B n ((xN B n (xN B n ((xN B n ((xN B n ((xN B n (xN B n (xN B n (xN B n (xN B n (xN B n (xN B n (xN B n (xN B n (xN B n q)))))))))))))))))) = z3451 := by
                    unfold xaw
                    first | (rw [if_pos (by omega)] <;> omega) | (rw [if_neg (by omega)] <;> omega)
                  refine wp_of e187 c187_191 (rw_aload_n (pc' := 192) (v := .ref r0) rfl rfl rfl ?_)
                  refine wp_of e187 c187_192 (xg_I (pc' := 195) lf_9_75 w3449 g0 sh_42 (by decide) (by decide) ty_42_9 rfl rfl (fun b3471 b3472 => ?_))
                  refine wp_of e187 c187_195 (rw_iconst (pc' := 196) rfl ?_)
                  refine wp_of e187 c187_196 (rw_icmp_ne (p1 := 200) (p2 := 199) (by decide) rfl ⟨by omega, by omega⟩ ⟨by omega, by omega⟩ (fun c3473 => ?_) (fun c3473 => ?_))
                  · have o3474 : (xl1 B n q d) = (0, (xN B n (xN B n (xN B n (xN B n (xN B n (xN B n (xN B n (xN B n (xN B n (xN B n q)))))))))), (xN B n (xN B n ((xN B n ((xN B n ((xN B n (xN B n (xN B n (xN B n (xN B n (xN B n (xN B n (xN B n (xN B n (xN B n q)))))))))))))))))) := by
                      rw [x3119]
                      unfold xcs xca xcb xrg
                      try simp only [xs_xs, xs_z]
                      try rw [_ea]
                      try rw [_eb]
                      try rw [_ec]
                      repeat first | rw [xs_0 (by omega)] | rw [xs_1 (by omega)] | rw [if_pos (by omega)] | rw [if_neg (by omega)]
                      first | done | rfl | assumption | (exfalso; omega) | (refine Prod.ext ?_ (Prod.ext ?_ ?_) <;> (try dsimp only) <;> omega)
                    have o3474a : ((xl1 B n q d)).1 = 0 := by rw [o3474]
                    have o3474b : ((xl1 B n q d)).2.1 = (xN B n (xN B n (xN B n (xN B n (xN B n (xN B n (xN B n (xN B n (xN B n (xN B n q)))))))))) := by rw [o3474]
                    have o3474c : ((xl1 B n q d)).2.2 = (xN B n (xN B n ((xN B n ((xN B n ((xN B n (xN B n (xN B n (xN B n (xN B n (xN B n (xN B n (xN B n (xN B n (xN B n q))))))))))))))))) := by rw [o3474]
                    have h3475 : DM T H3445 rp r0 d := (DM_fr w3420 grp f3450 rfl (DM_fr w3396 grp f3421 rfl (DM_fr w3373 grp f3397 rfl (DM_fr w3140 grp f3374 rfl (DM_fr w3109 grp f3141 rfl h3118)))))
                    exact wp_lc (ks := [11, 10, 9, 8, 7, 0, 1, 3, 4, 5, 6]) (wl_c rfl (wl_c rfl (wl_c rfl (wl_c rfl (wl_c rfl (wl_c rfl (wl_c rfl (wl_c rfl (wl_c rfl (wl_c rfl wl_n)))))))))) rfl (by decide) (u_187_k_t200k hW g0 qrp grp qrb grb p0 hRC_r0 hDM_rp v3103 v3104 v3105 v3106 v3107 (-1) z3398 z3422 z3451 H3445 w3449 f3469 ⟨by omega, by omega⟩ ⟨by omega, by omega⟩ ⟨by omega, by omega⟩ ⟨by omega, by omega⟩ ⟨by omega, by omega⟩ ⟨by omega, by omega⟩ ⟨by omega, by omega⟩ ⟨by omega, by omega⟩ ⟨by omega, by omega⟩ (by rw [show (xl1 B n q d).2.2 = ((xN B n (xN B n ((xN B n ((xN B n ((xN B n (xN B n (xN B n (xN B n (xN B n (xN B n (xN B n (xN B n (xN B n (xN B n q)))))))))))))))))) by omega]; exact a3459) h3475 (by omega) (by omega) (by omega) (by omega) (by omega) (by omega) (by omega) (by omega) (by omega) (by omega) (by omega) (by rw [_ea]; exact _enf) (by rw [_ea]; exact _ent) (by rw [_ea, _eb]; exact _ew) (by omega))
                  · exfalso
                    omega
              · have f3476 := f3408.tr f3421 rfl
                have f3477 := f3409.tr f3421 rfl
                show wp _ _ 187 177 [(9, vI z3398), (8, vI z3375), (7, vI (-1)), (0, .ref r0), (1, vL v3103), (3, vI v3104), (4, vI v3105), (5, vI v3106), (6, vI v3107)] [vI z3422] _ H3416 _
                have u3478 := RO_k a3433
                refine wp_of e187 c187_177 (rw_goto (p1 := 181) (by decide) ?_)
                refine wp_of e187 c187_181 (rw_istore (pc' := 183) (z := z3422) (L' := [(10, vI z3422), (9, vI z3398), (8, vI z3375), (7, vI (-1)), (0, .ref r0), (1, vL v3103), (3, vI v3104), (4, vI v3105), (5, vI v3106), (6, vI v3107)]) rfl rfl rfl ?_)
                have o3479 : (xl1 B n q d) = (xw B n ((xN B n ((xN B n ((xN B n (xN B n (xN B n (xN B n (xN B n (xN B n (xN B n (xN B n (xN B n (xN B n q))))))))))))))) 655, ((xN B n ((xN B n ((xN B n (xN B n (xN B n (xN B n (xN B n (xN B n (xN B n (xN B n (xN B n (xN B n q))))))))))))))), ((xN B n ((xN B n ((xN B n (xN B n (xN B n (xN B n (xN B n (xN B n (xN B n (xN B n (xN B n (xN B n q)))))))))))))))) := by
                  rw [x3119]
                  unfold xcs xca xcb xrg
                  try simp only [xs_xs, xs_z]
                  try rw [_ea]
                  try rw [_eb]
                  try rw [_ec]
                  repeat first | rw [xs_0 (by omega)] | rw [xs_1 (by omega)] | rw [if_pos (by omega)] | rw [if_neg (by omega)]
                  first | done | rfl | assumption | (exfalso; omega) | (refine Prod.ext ?_ (Prod.ext ?_ ?_) <;> (try dsimp only) <;> omega)
                have o3479a : ((xl1 B n q d)).1 = xw B n ((xN B n ((xN B n ((xN B n (xN B n (xN B n (xN B n (xN B n (xN B n (xN B n (xN B n (xN B n (xN B n q))))))))))))))) 655 := by rw [o3479]
                have o3479b : ((xl1 B n q d)).2.1 = ((xN B n ((xN B n ((xN B n (xN B n (xN B n (xN B n (xN B n (xN B n (xN B n (xN B n (xN B n (xN B n q))))))))))))))) := by rw [o3479]
                have o3479c : ((xl1 B n q d)).2.2 = ((xN B n ((xN B n ((xN B n (xN B n (xN B n (xN B n (xN B n (xN B n (xN B n (xN B n (xN B n (xN B n q))))))))))))))) := by rw [o3479]
                exact wp_lc (ks := [10, 9, 8, 7, 0, 1, 3, 4, 5, 6]) (wl_c rfl (wl_c rfl (wl_c rfl (wl_c rfl (wl_c rfl (wl_c rfl (wl_c rfl (wl_c rfl (wl_c rfl wl_n))))))))) rfl (by decide) (u_187_k_t183o hW g0 qrp grp qrb grb p0 hRC_r0 hDM_rp v3103 v3104 v3105 v3106 v3107 (-1) z3398 z3422 H3416 (xw B n ((xN B n ((xN B n ((xN B n (xN B n (xN B n (xN B n (xN B n (xN B n (xN B n (xN B n (xN B n (xN B n q))))))))))))))) 655) (((xN B n ((xN B n ((xN B n (xN B n (xN B n (xN B n (xN B n (xN B n (xN B n (xN B n (xN B n (xN B n q)))))))))))))))) w3420 f3477 ⟨by omega, by omega⟩ ⟨by omega, by omega⟩ ⟨by omega, by omega⟩ ⟨by omega, by omega⟩ ⟨by omega, by omega⟩ ⟨by omega, by omega⟩ ⟨by omega, by omega⟩ ⟨by omega, by omega⟩ a3433 (by omega) (by omega))
              · have f3480 := f3408.tr f3421 rfl
                have f3481 := f3409.tr f3421 rfl
                show wp _ _ 187 177 [(9, vI z3398), (8, vI z3375), (7, vI (-1)), (0, .ref r0), (1, vL v3103), (3, vI v3104), (4, vI v3105), (5, vI v3106), (6, vI v3107)] [vI z3422] _ H3416 _
                have u3482 := RO_k a3437
                refine wp_of e187 c187_177 (rw_goto (p1 := 181) (by decide) ?_)
                refine wp_of e187 c187_181 (rw_istore (pc' := 183) (z := z3422) (L' := [(10, vI z3422), (9, vI z3398), (8, vI z3375), (7, vI (-1)), (0, .ref r0), (1, vL v3103), (3, vI v3104), (4, vI v3105), (5, vI v3106), (6, vI v3107)]) rfl rfl rfl ?_)
                have o3483 : (xl1 B n q d) = (xh B n (xN B n ((xN B n ((xN B n ((xN B n (xN B n (xN B n (xN B n (xN B n (xN B n (xN B n (xN B n (xN B n (xN B n q)))))))))))))))) (xV B n (xN B n ((xN B n (xN B n (xN B n (xN B n (xN B n (xN B n (xN B n (xN B n (xN B n (xN B n q)))))))))))) + 1) (min (xV B n (xN B n ((xN B n (xN B n (xN B n (xN B n (xN B n (xN B n (xN B n (xN B n (xN B n (xN B n q)))))))))))) + 24) 24), (xN B n ((xN B n ((xN B n ((xN B n (xN B n (xN B n (xN B n (xN B n (xN B n (xN B n (xN B n (xN B n (xN B n q)))))))))))))))), (xN B n ((xN B n ((xN B n ((xN B n (xN B n (xN B n (xN B n (xN B n (xN B n (xN B n (xN B n (xN B n (xN B n q))))))))))))))))) := by
                  rw [x3119]
                  unfold xcs xca xcb xrg
                  try simp only [xs_xs, xs_z]
                  try rw [_ea]
                  try rw [_eb]
                  try rw [_ec]
                  repeat first | rw [xs_0 (by omega)] | rw [xs_1 (by omega)] | rw [if_pos (by omega)] | rw [if_neg (by omega)]
                  first | done | rfl | assumption | (exfalso; omega) | (refine Prod.ext ?_ (Prod.ext ?_ ?_) <;> (try dsimp only) <;> omega)
                have o3483a : ((xl1 B n q d)).1 = xh B n (xN B n ((xN B n ((xN B n ((xN B n (xN B n (xN B n (xN B n (xN B n (xN B n (xN B n (xN B n (xN B n (xN B n q)))))))))))))))) (xV B n (xN B n ((xN B n (xN B n (xN B n (xN B n (xN B n (xN B n (xN B n (xN B n (xN B n (xN B n q)))))))))))) + 1) (min (xV B n (xN B n ((xN B n (xN B n (xN B n (xN B n (xN B n (xN B n (xN B n (xN B n (xN B n (xN B n q)))))))))))) + 24) 24) := by rw [o3483]
                have o3483b : ((xl1 B n q d)).2.1 = (xN B n ((xN B n ((xN B n ((xN B n (xN B n (xN B n (xN B n (xN B n (xN B n (xN B n (xN B n (xN B n (xN B n q)))))))))))))))) := by rw [o3483]
                have o3483c : ((xl1 B n q d)).2.2 = (xN B n ((xN B n ((xN B n ((xN B n (xN B n (xN B n (xN B n (xN B n (xN B n (xN B n (xN B n (xN B n (xN B n q)))))))))))))))) := by rw [o3483]
                exact wp_lc (ks := [10, 9, 8, 7, 0, 1, 3, 4, 5, 6]) (wl_c rfl (wl_c rfl (wl_c rfl (wl_c rfl (wl_c rfl (wl_c rfl (wl_c rfl (wl_c rfl (wl_c rfl wl_n))))))))) rfl (by decide) (u_187_k_t183o hW g0 qrp grp qrb grb p0 hRC_r0 hDM_rp v3103 v3104 v3105 v3106 v3107 (-1) z3398 z3422 H3416 (xh B n (xN B n ((xN B n ((xN B n ((xN B n (xN B n (xN B n (xN B n (xN B n (xN B n (xN B n (xN B n (xN B n (xN B n q)))))))))))))))) (xV B n (xN B n ((xN B n (xN B n (xN B n (xN B n (xN B n (xN B n (xN B n (xN B n (xN B n (xN B n q)))))))))))) + 1) (min (xV B n (xN B n ((xN B n (xN B n (xN B n (xN B n (xN B n (xN B n (xN B n (xN B n (xN B n (xN B n q)))))))))))) + 24) 24)) ((xN B n ((xN B n ((xN B n ((xN B n (xN B n (xN B n (xN B n (xN B n (xN B n (xN B n (xN B n (xN B n (xN B n q))))))))))))))))) w3420 f3481 ⟨by omega, by omega⟩ ⟨by omega, by omega⟩ ⟨by omega, by omega⟩ ⟨by omega, by omega⟩ ⟨by omega, by omega⟩ ⟨by omega, by omega⟩ ⟨by omega, by omega⟩ ⟨by omega, by omega⟩ a3437 (by omega) (by omega))
          · have f3484 := f3384.tr f3397 rfl
            have f3485 := f3385.tr f3397 rfl
            show wp _ _ 187 154 [(8, vI z3375), (7, vI (-1)), (0, .ref r0), (1, vL v3103), (3, vI v3104), (4, vI v3105), (5, vI v3106), (6, vI v3107)] [vI z3398] _ H3392 _
            have u3486 := RO_k a3407
            refine wp_of e187 c187_154 (rw_goto (p1 := 158) (by decide) ?_)
            refine wp_of e187 c187_158 (rw_istore (pc' := 160) (z := z3398) (L' := [(9, vI z3398), (8, vI z3375), (7, vI (-1)), (0, .ref r0), (1, vL v3103), (3, vI v3104), (4, vI v3105), (5, vI v3106), (6, vI v3107)]) rfl rfl rfl ?_)
            refine wp_of e187 c187_160 (rw_iload (pc' := 162) (z := z3375) rfl rfl ?_)
            refine wp_of e187 c187_162 (rw_if_eq (p1 := 180) (p2 := 165) (by decide) rfl ⟨by omega, by omega⟩ (fun c3487 => ?_) (fun c3487 => ?_))
            · exfalso
              omega
            · refine wp_of e187 c187_165 (rw_aload_n (pc' := 166) (v := .ref r0) rfl rfl rfl ?_)
              refine wp_of e187 c187_166 (rw_ldcS (pc' := 168) (k := 87) rfl rfl rfl rfl ?_)
              refine wp_of e187 c187_168 (rw_iload (pc' := 170) (z := z3398) rfl rfl ?_)
              refine wp_of e187 c187_170 (rw_iconst (pc' := 171) rfl ?_)
              refine wp_of e187 c187_171 (rw_iadd (pc' := 172) rfl ?_)
              refine wp_of e187 c187_172 (rw_bipush (pc' := 174) (z := 24) rfl (by decide) ?_)
              have k3488 : H3392 r0 5 = H3369 r0 5 := (f3397 r0 5 _ g0 rfl)
              have q3489 : H3392 r0 5 = (rb : Int) := k3488.trans q3389
              refine wp_of e187 c187_174 (xc_V (pc' := 177) (r := r0) (as := [.ref 87, vI (z3398 + 1), vI 24]) (st := []) (lm_9_216) rfl rfl (Nat.le_of_ble_eq_true rfl) w3396 g0 sh_42 (by decide) rfl (by decide) (u_182_o (fo := (xh B n ((xN B n ((xN B n (xN B n (xN B n (xN B n (xN B n (xN B n (xN B n (xN B n (xN B n (xN B n q))))))))))))) 0 23)) (po := (((xN B n ((xN B n (xN B n (xN B n (xN B n (xN B n (xN B n (xN B n (xN B n (xN B n (xN B n q))))))))))))))) (kk := 655) w3396 g0 rfl ⟨by omega, by omega⟩ ⟨by omega, by omega⟩ q3489 grb (by decide +kernel) a3407) (fun R3490 T3491 H3492 p3493 => ?_))
              obtain ⟨e3494, e3496, z3497, e3495, b3498, p3499⟩ := p3493
              subst e3494
              subst e3495
              subst e3496
              obtain ⟨a3500, a3501⟩ := p3499
              show wp _ _ 187 177 [(9, vI z3398), (8, vI z3375), (7, vI (-1)), (0, .ref r0), (1, vL v3103), (3, vI v3104), (4, vI v3105), (5, vI v3106), (6, vI v3107)] [vI z3497] _ H3392 _
              have u3502 := RO_k a3501
              refine wp_of e187 c187_177 (rw_goto (p1 := 181) (by decide) ?_)
              refine wp_of e187 c187_181 (rw_istore (pc' := 183) (z := z3497) (L' := [(10, vI z3497), (9, vI z3398), (8, vI z3375), (7, vI (-1)), (0, .ref r0), (1, vL v3103), (3, vI v3104), (4, vI v3105), (5, vI v3106), (6, vI v3107)]) rfl rfl rfl ?_)
              have o3503 : (xl1 B n q d) = (xh B n ((xN B n ((xN B n (xN B n (xN B n (xN B n (xN B n (xN B n (xN B n (xN B n (xN B n (xN B n q))))))))))))) 0 23, ((xN B n ((xN B n (xN B n (xN B n (xN B n (xN B n (xN B n (xN B n (xN B n (xN B n (xN B n q))))))))))))), ((xN B n ((xN B n (xN B n (xN B n (xN B n (xN B n (xN B n (xN B n (xN B n (xN B n (xN B n q)))))))))))))) := by
                rw [x3119]
                unfold xcs xca xcb xrg
                try simp only [xs_xs, xs_z]
                try rw [_ea]
                try rw [_eb]
                try rw [_ec]
                repeat first | rw [xs_0 (by omega)] | rw [xs_1 (by omega)] | rw [if_pos (by omega)] | rw [if_neg (by omega)]
                first | done | rfl | assumption | (exfalso; omega) | (refine Prod.ext ?_ (Prod.ext ?_ ?_) <;> (try dsimp only) <;> omega)
              have o3503a : ((xl1 B n q d)).1 = xh B n ((xN B n ((xN B n (xN B n (xN B n (xN B n (xN B n (xN B n (xN B n (xN B n (xN B n (xN B n q))))))))))))) 0 23 := by rw [o3503]
              have o3503b : ((xl1 B n q d)).2.1 = ((xN B n ((xN B n (xN B n (xN B n (xN B n (xN B n (xN B n (xN B n (xN B n (xN B n (xN B n q))))))))))))) := by rw [o3503]
              have o3503c : ((xl1 B n q d)).2.2 = ((xN B n ((xN B n (xN B n (xN B n (xN B n (xN B n (xN B n (xN B n (xN B n (xN B n (xN B n q))))))))))))) := by rw [o3503]
              exact wp_lc (ks := [10, 9, 8, 7, 0, 1, 3, 4, 5, 6]) (wl_c rfl (wl_c rfl (wl_c rfl (wl_c rfl (wl_c rfl (wl_c rfl (wl_c rfl (wl_c rfl (wl_c rfl wl_n))))))))) rfl (by decide) (u_187_k_t183o hW g0 qrp grp qrb grb p0 hRC_r0 hDM_rp v3103 v3104 v3105 v3106 v3107 (-1) z3398 z3497 H3392 (xh B n ((xN B n ((xN B n (xN B n (xN B n (xN B n (xN B n (xN B n (xN B n (xN B n (xN B n (xN B n q))))))))))))) 0 23) (((xN B n ((xN B n (xN B n (xN B n (xN B n (xN B n (xN B n (xN B n (xN B n (xN B n (xN B n q)))))))))))))) w3396 f3485 ⟨by omega, by omega⟩ ⟨by omega, by omega⟩ ⟨by omega, by omega⟩ ⟨by omega, by omega⟩ ⟨by omega, by omega⟩ ⟨by omega, by omega⟩ ⟨by omega, by omega⟩ ⟨by omega, by omega⟩ a3501 (by omega) (by omega))
      · have f3504 := f3361.tr f3374 rfl
        have f3505 := f3362.tr f3374 rfl
        show wp _ _ 187 140 [(7, vI (-1)), (0, .ref r0), (1, vL v3103), (3, vI v3104), (4, vI v3105), (5, vI v3106), (6, vI v3107)] [vI z3375] _ H3369 _
        have u3506 := RC_k a3383
        refine wp_of e187 c187_140 (rw_istore (pc' := 142) (z := z3375) (L' := [(8, vI z3375), (7, vI (-1)), (0, .ref r0), (1, vL v3103), (3, vI v3104), (4, vI v3105), (5, vI v3106), (6, vI v3107)]) rfl rfl rfl ?_)
        refine wp_of e187 c187_142 (rw_iload (pc' := 144) (z := z3375) rfl rfl ?_)
        refine wp_of e187 c187_144 (rw_if_eq (p1 := 157) (p2 := 147) (by decide) rfl ⟨by omega, by omega⟩ (fun c3507 => ?_) (fun c3507 => ?_))
        · refine wp_of e187 c187_157 (rw_iconst (pc' := 158) rfl ?_)
          refine wp_of e187 c187_158 (rw_istore (pc' := 160) (z := 0) (L' := [(9, vI 0), (8, vI z3375), (7, vI (-1)), (0, .ref r0), (1, vL v3103), (3, vI v3104), (4, vI v3105), (5, vI v3106), (6, vI v3107)]) rfl rfl rfl ?_)
          refine wp_of e187 c187_160 (rw_iload (pc' := 162) (z := z3375) rfl rfl ?_)
          refine wp_of e187 c187_162 (rw_if_eq (p1 := 180) (p2 := 165) (by decide) rfl ⟨by omega, by omega⟩ (fun c3508 => ?_) (fun c3508 => ?_))
          · refine wp_of e187 c187_180 (rw_iconst (pc' := 181) rfl ?_)
            refine wp_of e187 c187_181 (rw_istore (pc' := 183) (z := 0) (L' := [(10, vI 0), (9, vI 0), (8, vI z3375), (7, vI (-1)), (0, .ref r0), (1, vL v3103), (3, vI v3104), (4, vI v3105), (5, vI v3106), (6, vI v3107)]) rfl rfl rfl ?_)
            have _eb : xqb B n ((xN B n (xN B n (xN B n (xN B n (xN B n (xN B n (xN B n (xN B n (xN B n (xN B n q))))))))))) = ((xN B n (xN B n (xN B n (xN B n (xN B n (xN B n (xN B n (xN B n (xN B n (xN B n q))))))))))) := by
              unfold xqb
              first | rw [if_pos (by omega)] | rw [if_neg (by omega)]
            have _enf : xnf B n ((xN B n (xN B n (xN B n (xN B n (xN B n (xN B n (xN B n (xN B n (xN B n (xN B n q))))))))))) = 0 := by
              unfold xnf
              first | (rw [if_pos (by omega)] <;> omega) | (rw [if_neg (by omega)] <;> omega)
            have _ent : xnt B n ((xN B n (xN B n (xN B n (xN B n (xN B n (xN B n (xN B n (xN B n (xN B n (xN B n q))))))))))) = 0 := by
              unfold xnt
              first | (rw [if_pos (by omega)] <;> omega) | (rw [if_neg (by omega)] <;> omega)
            refine wp_of e187 c187_183 (rw_aload_n (pc' := 184) (v := .ref r0) rfl rfl rfl ?_)
            refine wp_of e187 c187_184 (rw_ldcS (pc' := 186) (k := 85) rfl rfl rfl rfl ?_)
            have k3509 : H3369 r0 5 = H3136 r0 5 := (f3374 r0 5 _ g0 rfl)
            have q3510 : H3369 r0 5 = (rb : Int) := k3509.trans q3366
            refine wp_of e187 c187_186 (xc_V (pc' := 189) (r := r0) (as := [.ref 85]) (st := []) (lm_9_240) rfl rfl (Nat.le_of_ble_eq_true rfl) w3373 g0 sh_42 (by decide) rfl (by decide) (u_192_k (B := B) (n := n) (q := ((xN B n (xN B n (xN B n (xN B n (xN B n (xN B n (xN B n (xN B n (xN B n (xN B n q)))))))))))) (kk := 56377) w3373 g0 rfl q3510 grb (by decide +kernel) a3383) (fun R3511 T3512 H3513 p3514 => ?_))
            obtain ⟨e3515, w3517, f3518, z3519, e3516, b3520, p3521⟩ := p3514
            subst e3515
            subst e3516
            rcases p3521 with ⟨a3522, a3523, a3524⟩ | ⟨a3525, a3526, a3527⟩
            · have f3528 := f3504.tr f3518 rfl
              have f3529 := f3505.tr f3518 rfl
              show wp _ _ 187 189 [(10, vI 0), (9, vI 0), (8, vI z3375), (7, vI (-1)), (0, .ref r0), (1, vL v3103), (3, vI v3104), (4, vI v3105), (5, vI v3106), (6, vI v3107)] [vI z3519] _ H3513 _
              have u3530 := RC_k a3524
              refine wp_of e187 c187_189 (rw_istore (pc' := 191) (z := z3519) (L' := [(11, vI z3519), (10, vI 0), (9, vI 0), (8, vI z3375), (7, vI (-1)), (0, .ref r0), (1, vL v3103), (3, vI v3104), (4, vI v3105), (5, vI v3106), (6, vI v3107)]) rfl rfl rfl ?_)
              have _ec : xqc B n ((xN B n (xN B n (xN B n (xN B n (xN B n (xN B n (xN B n (xN B n (xN B n (xN B n q))))))))))) = ((xN B n ((xN B n (xN B n (xN B n (xN B n (xN B n (xN B n (xN B n (xN B n (xN B n (xN B n q))))))))))))) := by
                unfold xqc
                first | rw [if_pos (by omega)] | rw [if_neg (by omega)]
              have _ew : xaw B n ((xN B n (xN B n (xN B n (xN B n (xN B n (xN B n (xN B n (xN B n (xN B n (xN B n q))))))))))) = z3519 := by
                unfold xaw
                first | (rw [if_pos (by omega)] <;> omega) | (rw [if_neg (by omega)] <;> omega)
              refine wp_of e187 c187_191 (rw_aload_n (pc' := 192) (v := .ref r0) rfl rfl rfl ?_)
              refine wp_of e187 c187_192 (xg_I (pc' := 195) lf_9_75 w3517 g0 sh_42 (by decide) (by decide) ty_42_9 rfl rfl (fun b3531 b3532 => ?_))
              refine wp_of e187 c187_195 (rw_iconst (pc' := 196) rfl ?_)
              refine wp_of e187 c187_196 (rw_icmp_ne (p1 := 200) (p2 := 199) (by decide) rfl ⟨by omega, by omega⟩ ⟨by omega, by omega⟩ (fun c3533 => ?_) (fun c3533 => ?_))
              · have o3534 : (xl1 B n q d) = (0, (xN B n (xN B n (xN B n (xN B n (xN B n (xN B n (xN B n (xN B n (xN B n (xN B n q)))))))))), (xN B n ((xN B n (xN B n (xN B n (xN B n (xN B n (xN B n (xN B n (xN B n (xN B n (xN B n q))))))))))))) := by
                  rw [x3119]
                  unfold xcs xca xcb xrg
                  try simp only [xs_xs, xs_z]
                  try rw [_ea]
                  try rw [_eb]
                  try rw [_ec]
                  repeat first | rw [xs_0 (by omega)] | rw [xs_1 (by omega)] | rw [if_pos (by omega)] | rw [if_neg (by omega)]
                  first | done | rfl | assumption | (exfalso; omega) | (refine Prod.ext ?_ (Prod.ext ?_ ?_) <;> (try dsimp only) <;> omega)
                have o3534a : ((xl1 B n q d)).1 = 0 := by rw [o3534]
                have o3534b : ((xl1 B n q d)).2.1 = (xN B n (xN B n (xN B n (xN B n (xN B n (xN B n (xN B n (xN B n (xN B n (xN B n q)))))))))) := by rw [o3534]
                have o3534c : ((xl1 B n q d)).2.2 = (xN B n ((xN B n (xN B n (xN B n (xN B n (xN B n (xN B n (xN B n (xN B n (xN B n (xN B n q)))))))))))) := by rw [o3534]
                have h3535 : DM T H3513 rp r0 d := (DM_fr w3373 grp f3518 rfl (DM_fr w3140 grp f3374 rfl (DM_fr w3109 grp f3141 rfl h3118)))
                exact wp_lc (ks := [11, 10, 9, 8, 7, 0, 1, 3, 4, 5, 6]) (wl_c rfl (wl_c rfl (wl_c rfl (wl_c rfl (wl_c rfl (wl_c rfl (wl_c rfl (wl_c rfl (wl_c rfl (wl_c rfl wl_n)))))))))) rfl (by decide) (u_187_k_t200k hW g0 qrp grp qrb grb p0 hRC_r0 hDM_rp v3103 v3104 v3105 v3106 v3107 (-1) 0 0 z3519 H3513 w3517 f3529 ⟨by omega, by omega⟩ ⟨by omega, by omega⟩ ⟨by omega, by omega⟩ ⟨by omega, by omega⟩ ⟨by omega, by omega⟩ ⟨by omega, by omega⟩ ⟨by omega, by omega⟩ ⟨by omega, by omega⟩ ⟨by omega, by omega⟩ (by rw [show (xl1 B n q d).2.2 = ((xN B n ((xN B n (xN B n (xN B n (xN B n (xN B n (xN B n (xN B n (xN B n (xN B n (xN B n q))))))))))))) by omega]; exact a3524) h3535 (by omega) (by omega) (by omega) (by omega) (by omega) (by omega) (by omega) (by omega) (by omega) (by omega) (by omega) (by rw [_ea]; exact _enf) (by rw [_ea]; exact _ent) (by rw [_ea, _eb]; exact _ew) (by omega))
              · exfalso
                omega
            · have f3536 := f3504.tr f3518 rfl
              have f3537 := f3505.tr f3518 rfl
              show wp _ _ 187 189 [(10, vI 0), (9, vI 0), (8, vI z3375), (7, vI (-1)), (0, .ref r0), (1, vL v3103), (3, vI v3104), (4, vI v3105), (5, vI v3106), (6, vI v3107)] [vI z3519] _ H3513 _
              have u3538 := RC_k a3527
              refine wp_of e187 c187_189 (rw_istore (pc' := 191) (z := z3519) (L' := [(11, vI z3519), (10, vI 0), (9, vI 0), (8, vI z3375), (7, vI (-1)), (0, .ref r0), (1, vL v3103), (3, vI v3104), (4, vI v3105), (5, vI v3106), (6, vI v3107)]) rfl rfl rfl ?_)
              have _ec : xqc B n ((xN B n (xN B n (xN B n (xN B n (xN B n (xN B n (xN B n (xN B n (xN B n (xN B n q))))))))))) = ((xN B n (xN B n (xN B n (xN B n (xN B n (xN B n (xN B n (xN B n (xN B n (xN B n q))))))))))) := by
                unfold xqc
                first | rw [if_pos (by omega)] | rw [if_neg (by omega)]
              have _ew : xaw B n ((xN B n (xN B n (xN B n (xN B n (xN B n (xN B n (xN B n (xN B n (xN B n (xN B n q))))))))))) = z3519 := by
                unfold xaw
                first | (rw [if_pos (by omega)] <;> omega) | (rw [if_neg (by omega)] <;> omega)
              refine wp_of e187 c187_191 (rw_aload_n (pc' := 192) (v := .ref r0) rfl rfl rfl ?_)
              refine wp_of e187 c187_192 (xg_I (pc' := 195) lf_9_75 w3517 g0 sh_42 (by decide) (by decide) ty_42_9 rfl rfl (fun b3539 b3540 => ?_))
              refine wp_of e187 c187_195 (rw_iconst (pc' := 196) rfl ?_)
              refine wp_of e187 c187_196 (rw_icmp_ne (p1 := 200) (p2 := 199) (by decide) rfl ⟨by omega, by omega⟩ ⟨by omega, by omega⟩ (fun c3541 => ?_) (fun c3541 => ?_))
              · have o3542 : (xl1 B n q d) = (0, (xN B n (xN B n (xN B n (xN B n (xN B n (xN B n (xN B n (xN B n (xN B n (xN B n q)))))))))), (xN B n (xN B n (xN B n (xN B n (xN B n (xN B n (xN B n (xN B n (xN B n (xN B n q))))))))))) := by
                  rw [x3119]
                  unfold xcs xca xcb xrg
                  try simp only [xs_xs, xs_z]
                  try rw [_ea]
                  try rw [_eb]
                  try rw [_ec]
                  repeat first | rw [xs_0 (by omega)] | rw [xs_1 (by omega)] | rw [if_pos (by omega)] | rw [if_neg (by omega)]
                  first | done | rfl | assumption | (exfalso; omega) | (refine Prod.ext ?_ (Prod.ext ?_ ?_) <;> (try dsimp only) <;> omega)
                have o3542a : ((xl1 B n q d)).1 = 0 := by rw [o3542]
                have o3542b : ((xl1 B n q d)).2.1 = (xN B n (xN B n (xN B n (xN B n (xN B n (xN B n (xN B n (xN B n (xN B n (xN B n q)))))))))) := by rw [o3542]
                have o3542c : ((xl1 B n q d)).2.2 = (xN B n (xN B n (xN B n (xN B n (xN B n (xN B n (xN B n (xN B n (xN B n (xN B n q)))))))))) := by rw [o3542]
                have h3543 : DM T H3513 rp r0 d := (DM_fr w3373 grp f3518 rfl (DM_fr w3140 grp f3374 rfl (DM_fr w3109 grp f3141 rfl h3118)))
                exact wp_lc (ks := [11, 10, 9, 8, 7, 0, 1, 3, 4, 5, 6]) (wl_c rfl (wl_c rfl (wl_c rfl (wl_c rfl (wl_c rfl (wl_c rfl (wl_c rfl (wl_c rfl (wl_c rfl (wl_c rfl wl_n)))))))))) rfl (by decide) (u_187_k_t200k hW g0 qrp grp qrb grb p0 hRC_r0 hDM_rp v3103 v3104 v3105 v3106 v3107 (-1) 0 0 z3519 H3513 w3517 f3537 ⟨by omega, by omega⟩ ⟨by omega, by omega⟩ ⟨by omega, by omega⟩ ⟨by omega, by omega⟩ ⟨by omega, by omega⟩ ⟨by omega, by omega⟩ ⟨by omega, by omega⟩ ⟨by omega, by omega⟩ ⟨by omega, by omega⟩ (by rw [show (xl1 B n q d).2.2 = ((xN B n (xN B n (xN B n (xN B n (xN B n (xN B n (xN B n (xN B n (xN B n (xN B n q))))))))))) by omega]; exact a3527) h3543 (by omega) (by omega) (by omega) (by omega) (by omega) (by omega) (by omega) (by omega) (by omega) (by omega) (by omega) (by rw [_ea]; exact _enf) (by rw [_ea]; exact _ent) (by rw [_ea, _eb]; exact _ew) (by omega))
              · exfalso
                omega
          · exfalso
            omega
        · exfalso
          omega
    · exfalso
      omega
set_option maxHeartbeats 60000000 in
theorem u_187_k_t112o {kt : Nat → Option mc_E} {T : wq_T} {H : wq_H} {r0 : Nat} {rp : Nat} {rb : Nat} {B : Nat → Int} {n : Int} {q : Int} {d : xD} (hW : WT T H) (g0 : T.2.2.2 r0 = some 42) (qrp : H r0 4 = (rp : Int)) (grp : T.2.2.2 rp = some 54) (qrb : H r0 5 = (rb : Int)) (grb : T.2.2.2 rb = some 43) (p0 : xK B n q = 1) (hRC_r0 : RC T H r0 B n q) (hDM_rp : DM T H rp r0 d) : ∀ (v3563 : Int) (v3564 : Int) (v3565 : Int) (v3566 : Int) (v3567 : Int) (H3568 : wq_H) (fo3572 : Int) (po3573 : Int), WT T H3568 → wfr [(42, 8), (42, 9), (42, 10), (42, 11), (42, 12), (42, 13), (42, 14), (42, 15)] T H H3568 → ((-9223372036854775808) ≤ v3563 ∧ v3563 ≤ 9223372036854775807) → (0 ≤ v3564 ∧ v3564 ≤ 23) → (0 ≤ v3565 ∧ v3565 ≤ 30) → (0 ≤ v3566 ∧ v3566 ≤ 12) → (0 ≤ v3567 ∧ v3567 ≤ 16) → RO T H3568 r0 fo3572 po3573 → ((xl1 B n q d).1 = fo3572) → ((xl1 B n q d).2.1 = po3573) → wp kt 4 187 112 [(0, .ref r0), (1, vL v3563), (3, vI v3564), (4, vI v3565), (5, vI v3566), (6, vI v3567)] [] T H3568 (uq_187_k r0 rp rb B n q d T H) := by
  have f0 : wfr [(54, 3), (42, 8), (42, 9), (42, 10), (42, 11), (42, 12), (42, 13), (42, 14), (42, 15), (56, 999), (57, 999), (60, 999), (63, 999), (58, 999), (59, 999), (55, 999), (61, 999), (62, 999)] T H H := wfr.rf
  have u3544 := RC_k hRC_r0
  have u3545 := DM_k hDM_rp
  have h3546 : MA9 T H rp (d 1) := hDM_rp.2.2.2.1
  have h3547 : MA10 T H rp (d 2) := hDM_rp.2.2.2.2.1
  have h3548 : MA11 T H rp (d 3) := hDM_rp.2.2.2.2.2.1
  have h3549 : MA12 T H rp (d 4) := hDM_rp.2.2.2.2.2.2.1
  have h3550 : MA13 T H rp (d 5) := hDM_rp.2.2.2.2.2.2.2.1
  have h3551 : MA14 T H rp (d 6) := hDM_rp.2.2.2.2.2.2.2.2.1
  have h3552 : MA15 T H rp (d 7) := hDM_rp.2.2.2.2.2.2.2.2.2.1
  have h3553 : MA16 T H rp (d 8) := hDM_rp.2.2.2.2.2.2.2.2.2.2.1
  have h3554 : MA17 T H rp (d 9) := hDM_rp.2.2.2.2.2.2.2.2.2.2.2.1
  have h3555 : MA18 T H rp (d 10) := hDM_rp.2.2.2.2.2.2.2.2.2.2.2.2.1
  have h3556 : MA19 T H rp (d 11) := hDM_rp.2.2.2.2.2.2.2.2.2.2.2.2.2.1
  have h3557 : MA20 T H rp (d 12) := hDM_rp.2.2.2.2.2.2.2.2.2.2.2.2.2.2.1
  have h3558 : MA21 T H rp (d 13) := hDM_rp.2.2.2.2.2.2.2.2.2.2.2.2.2.2.2.1
  have h3559 : MA22 T H rp (d 14) := hDM_rp.2.2.2.2.2.2.2.2.2.2.2.2.2.2.2.2.1
  have h3560 : MA23 T H rp (d 15) := hDM_rp.2.2.2.2.2.2.2.2.2.2.2.2.2.2.2.2.2.1
  have h3561 : MA25 T H rp (d 17) := hDM_rp.2.2.2.2.2.2.2.2.2.2.2.2.2.2.2.2.2.2.1
  have h3562 : MA26 T H rp (d 16) := hDM_rp.2.2.2.2.2.2.2.2.2.2.2.2.2.2.2.2.2.2.2
  intro v3563 v3564 v3565 v3566 v3567 H3568 fo3572 po3573 w3569 f3570 b3574 b3575 b3576 b3577 b3578 h3579 x3580 x3581
  have f3582 : wfr [(54, 3), (42, 8), (42, 9), (42, 10), (42, 11), (42, 12), (42, 13), (42, 14), (42, 15), (56, 999), (57, 999), (60, 999), (63, 999), (58, 999), (59, 999), (55, 999), (61, 999), (62, 999)] T H H3568 := wfr.rf.tr f3570 rfl
  have u3583 := RO_k h3579
  refine wp_of e187 c187_112 (rw_aload_n (pc' := 113) (v := .ref r0) rfl rfl rfl ?_)
  refine wp_of e187 c187_113 (rw_ldcS (pc' := 115) (k := 83) rfl rfl rfl rfl ?_)
  have k3584 : H3568 r0 5 = H r0 5 := (f3570 r0 5 _ g0 rfl)
  have q3585 : H3568 r0 5 = (rb : Int) := k3584.trans qrb
  refine wp_of e187 c187_115 (xc_V (pc' := 118) (r := r0) (as := [.ref 83]) (st := []) (lm_9_240) rfl rfl (Nat.le_of_ble_eq_true rfl) w3569 g0 sh_42 (by decide) rfl (by decide) (u_192_o (fo := fo3572) (po := po3573) (kk := 8423732) w3569 g0 rfl q3585 grb (by decide +kernel) h3579) (fun R3586 T3587 H3588 p3589 => ?_))
  obtain ⟨e3590, e3592, z3593, e3591, b3594, p3595⟩ := p3589
  subst e3590
  subst e3591
  subst e3592
  obtain ⟨a3596, a3597⟩ := p3595
  show wp _ _ 187 118 [(0, .ref r0), (1, vL v3563), (3, vI v3564), (4, vI v3565), (5, vI v3566), (6, vI v3567)] [vI z3593] _ H3568 _
  have u3598 := RO_k a3597
  refine wp_of e187 c187_118 (rw_if_eq (p1 := 131) (p2 := 121) (by decide) rfl ⟨by omega, by omega⟩ (fun c3599 => ?_) (fun c3599 => ?_))
  · refine wp_of e187 c187_131 (rw_iconst (pc' := 132) rfl ?_)
    refine wp_of e187 c187_132 (rw_istore (pc' := 134) (z := -1) (L' := [(7, vI (-1)), (0, .ref r0), (1, vL v3563), (3, vI v3564), (4, vI v3565), (5, vI v3566), (6, vI v3567)]) rfl rfl rfl ?_)
    exact wp_lc (ks := [7, 0, 1, 3, 4, 5, 6]) (wl_c rfl (wl_c rfl (wl_c rfl (wl_c rfl (wl_c rfl (wl_c rfl (wl_c rfl wl_n))))))) rfl (by decide) (u_187_k_t134o hW g0 qrp grp qrb grb p0 hRC_r0 hDM_rp v3563 v3564 v3565 v3566 v3567 (-1) H3568 fo3572 po3573 w3569 f3570 ⟨by omega, by omega⟩ ⟨by omega, by omega⟩ ⟨by omega, by omega⟩ ⟨by omega, by omega⟩ ⟨by omega, by omega⟩ ⟨by omega, by omega⟩ a3597 (by omega) (by omega))
  · exfalso
    omega
set_option maxHeartbeats 60000000 in
theorem u_187_k_t93o {kt : Nat → Option mc_E} {T : wq_T} {H : wq_H} {r0 : Nat} {rp : Nat} {rb : Nat} {B : Nat → Int} {n : Int} {q : Int} {d : xD} (hW : WT T H) (g0 : T.2.2.2 r0 = some 42) (qrp : H r0 4 = (rp : Int)) (grp : T.2.2.2 rp = some 54) (qrb : H r0 5 = (rb : Int)) (grb : T.2.2.2 rb = some 43) (p0 : xK B n q = 1) (hRC_r0 : RC T H r0 B n q) (hDM_rp : DM T H rp r0 d) : ∀ (v3619 : Int) (v3620 : Int) (v3621 : Int) (v3622 : Int) (H3623 : wq_H) (fo3627 : Int) (po3628 : Int), WT T H3623 → wfr [(42, 8), (42, 9), (42, 10), (42, 11), (42, 12), (42, 13), (42, 14), (42, 15)] T H H3623 → ((-9223372036854775808) ≤ v3619 ∧ v3619 ≤ 9223372036854775807) → (0 ≤ v3620 ∧ v3620 ≤ 23) → (0 ≤ v3621 ∧ v3621 ≤ 30) → (0 ≤ v3622 ∧ v3622 ≤ 12) → RO T H3623 r0 fo3627 po3628 → ((xl1 B n q d).1 = fo3627) → ((xl1 B n q d).2.1 = po3628) → wp kt 4 187 93 [(0, .ref r0), (1, vL v3619), (3, vI v3620), (4, vI v3621), (5, vI v3622)] [] T H3623 (uq_187_k r0 rp rb B n q d T H) := by
  have f0 : wfr [(54, 3), (42, 8), (42, 9), (42, 10), (42, 11), (42, 12), (42, 13), (42, 14), (42, 15), (56, 999), (57, 999), (60, 999), (63, 999), (58, 999), (59, 999), (55, 999), (61, 999), (62, 999)] T H H := wfr.rf
  have u3600 := RC_k hRC_r0
  have u3601 := DM_k hDM_rp
  have h3602 : MA9 T H rp (d 1) := hDM_rp.2.2.2.1
  have h3603 : MA10 T H rp (d 2) := hDM_rp.2.2.2.2.1
  have h3604 : MA11 T H rp (d 3) := hDM_rp.2.2.2.2.2.1
  have h3605 : MA12 T H rp (d 4) := hDM_rp.2.2.2.2.2.2.1
  have h3606 : MA13 T H rp (d 5) := hDM_rp.2.2.2.2.2.2.2.1
  have h3607 : MA14 T H rp (d 6) := hDM_rp.2.2.2.2.2.2.2.2.1
  have h3608 : MA15 T H rp (d 7) := hDM_rp.2.2.2.2.2.2.2.2.2.1
  have h3609 : MA16 T H rp (d 8) := hDM_rp.2.2.2.2.2.2.2.2.2.2.1
  have h3610 : MA17 T H rp (d 9) := hDM_rp.2.2.2.2.2.2.2.2.2.2.2.1
  have h3611 : MA18 T H rp (d 10) := hDM_rp.2.2.2.2.2.2.2.2.2.2.2.2.1
  have h3612 : MA19 T H rp (d 11) := hDM_rp.2.2.2.2.2.2.2.2.2.2.2.2.2.1
  have h3613 : MA20 T H rp (d 12) := hDM_rp.2.2.2.2.2.2.2.2.2.2.2.2.2.2.1
  have h3614 : MA21 T H rp (d 13) := hDM_rp.2.2.2.2.2.2.2.2.2.2.2.2.2.2.2.1
  have h3615 : MA22 T H rp (d 14) := hDM_rp.2.2.2.2.2.2.2.2.2.2.2.2.2.2.2.2.1
  have h3616 : MA23 T H rp (d 15) := hDM_rp.2.2.2.2.2.2.2.2.2.2.2.2.2.2.2.2.2.1
  have h3617 : MA25 T H rp (d 17) := hDM_rp.2.2.2.2.2.2.2.2.2.2.2.2.2.2.2.2.2.2.1
  have h3618 : MA26 T H rp (d 16) := hDM_rp.2.2.2.2.2.2.2.2.2.2.2.2.2.2.2.2.2.2.2
  intro v3619 v3620 v3621 v3622 H3623 fo3627 po3628 w3624 f3625 b3629 b3630 b3631 b3632 h3633 x3634 x3635
  have f3636 : wfr [(54, 3), (42, 8), (42, 9), (42, 10), (42, 11), (42, 12), (42, 13), (42, 14), (42, 15), (56, 999), (57, 999), (60, 999), (63, 999), (58, 999), (59, 999), (55, 999), (61, 999), (62, 999)] T H H3623 := wfr.rf.tr f3625 rfl
  have u3637 := RO_k h3633
  refine wp_of e187 c187_93 (rw_aload_n (pc' := 94) (v := .ref r0) rfl rfl rfl ?_)
  refine wp_of e187 c187_94 (rw_ldcS (pc' := 96) (k := 87) rfl rfl rfl rfl ?_)
  refine wp_of e187 c187_96 (rw_iload (pc' := 98) (z := v3622) rfl rfl ?_)
  refine wp_of e187 c187_98 (rw_bipush (pc' := 100) (z := 12) rfl (by decide) ?_)
  refine wp_of e187 c187_100 (rw_iload (pc' := 102) (z := v3622) rfl rfl ?_)
  refine wp_of e187 c187_102 (rw_iconst (pc' := 103) rfl ?_)
  refine wp_of e187 c187_103 (rw_iadd (pc' := 104) rfl ?_)
  refine wp_of e187 c187_104 (xc_S (pc' := 107) (as := [vI 12, vI (v3622 + 4)]) (st := [vI v3622, .ref 87, .ref r0]) (lm_9_235) rfl rfl (Nat.le_of_ble_eq_true rfl) rfl (by decide) (u_191  w3624 ⟨by omega, by omega⟩ ⟨by omega, by omega⟩) (fun R3638 T3639 H3640 p3641 => ?_))
  obtain ⟨e3642, e3644, z3645, e3643, b3646, p3647⟩ := p3641
  subst e3642
  subst e3643
  subst e3644
  show wp _ _ 187 107 [(0, .ref r0), (1, vL v3619), (3, vI v3620), (4, vI v3621), (5, vI v3622)] [vI z3645, vI v3622, .ref 87, .ref r0] _ H3623 _
  have k3649 : H3623 r0 5 = H r0 5 := (f3625 r0 5 _ g0 rfl)
  have q3650 : H3623 r0 5 = (rb : Int) := k3649.trans qrb
  refine wp_of e187 c187_107 (xc_V (pc' := 110) (r := r0) (as := [.ref 87, vI v3622, vI z3645]) (st := []) (lm_9_216) rfl rfl (Nat.le_of_ble_eq_true rfl) w3624 g0 sh_42 (by decide) rfl (by decide) (u_182_o (fo := fo3627) (po := po3628) (kk := 655) w3624 g0 rfl ⟨by omega, by omega⟩ ⟨by omega, by omega⟩ q3650 grb (by decide +kernel) h3633) (fun R3651 T3652 H3653 p3654 => ?_))
  obtain ⟨e3655, e3657, z3658, e3656, b3659, p3660⟩ := p3654
  subst e3655
  subst e3656
  subst e3657
  obtain ⟨a3661, a3662⟩ := p3660
  show wp _ _ 187 110 [(0, .ref r0), (1, vL v3619), (3, vI v3620), (4, vI v3621), (5, vI v3622)] [vI z3658] _ H3623 _
  have u3663 := RO_k a3662
  refine wp_of e187 c187_110 (rw_istore (pc' := 112) (z := z3658) (L' := [(6, vI z3658), (0, .ref r0), (1, vL v3619), (3, vI v3620), (4, vI v3621), (5, vI v3622)]) rfl rfl rfl ?_)
  exact wp_lc (ks := [6, 0, 1, 3, 4, 5]) (wl_c rfl (wl_c rfl (wl_c rfl (wl_c rfl (wl_c rfl (wl_c rfl wl_n)))))) rfl (by decide) (u_187_k_t112o hW g0 qrp grp qrb grb p0 hRC_r0 hDM_rp v3619 v3620 v3621 v3622 z3658 H3623 fo3627 po3628 w3624 f3625 ⟨by omega, by omega⟩ ⟨by omega, by omega⟩ ⟨by omega, by omega⟩ ⟨by omega, by omega⟩ ⟨by omega, by omega⟩ a3662 (by omega) (by omega))
set_option maxHeartbeats 60000000 in
theorem u_187_k_t82o {kt : Nat → Option mc_E} {T : wq_T} {H : wq_H} {r0 : Nat} {rp : Nat} {rb : Nat} {B : Nat → Int} {n : Int} {q : Int} {d : xD} (hW : WT T H) (g0 : T.2.2.2 r0 = some 42) (qrp : H r0 4 = (rp : Int)) (grp : T.2.2.2 rp = some 54) (qrb : H r0 5 = (rb : Int)) (grb : T.2.2.2 rb = some 43) (p0 : xK B n q = 1) (hRC_r0 : RC T H r0 B n q) (hDM_rp : DM T H rp r0 d) : ∀ (v3683 : Int) (v3684 : Int) (v3685 : Int) (H3686 : wq_H) (fo3690 : Int) (po3691 : Int), WT T H3686 → wfr [(42, 8), (42, 9), (42, 10), (42, 11), (42, 12), (42, 13), (42, 14), (42, 15)] T H H3686 → ((-9223372036854775808) ≤ v3683 ∧ v3683 ≤ 9223372036854775807) → (0 ≤ v3684 ∧ v3684 ≤ 23) → (0 ≤ v3685 ∧ v3685 ≤ 30) → RO T H3686 r0 fo3690 po3691 → ((xl1 B n q d).1 = fo3690) → ((xl1 B n q d).2.1 = po3691) → wp kt 4 187 82 [(0, .ref r0), (1, vL v3683), (3, vI v3684), (4, vI v3685)] [] T H3686 (uq_187_k r0 rp rb B n q d T H) := by
  have f0 : wfr [(54, 3), (42, 8), (42, 9), (42, 10), (42, 11), (42, 12), (42, 13), (42, 14), (42, 15), (56, 999), (57, 999), (60, 999), (63, 999), (58, 999), (59, 999), (55, 999), (61, 999), (62, 999)] T H H := wfr.rf
  have u3664 := RC_k hRC_r0
  have u3665 := DM_k hDM_rp
  have h3666 : MA9 T H rp (d 1) := hDM_rp.2.2.2.1
  have h3667 : MA10 T H rp (d 2) := hDM_rp.2.2.2.2.1
  have h3668 : MA11 T H rp (d 3) := hDM_rp.2.2.2.2.2.1
  have h3669 : MA12 T H rp (d 4) := hDM_rp.2.2.2.2.2.2.1
  have h3670 : MA13 T H rp (d 5) := hDM_rp.2.2.2.2.2.2.2.1
  have h3671 : MA14 T H rp (d 6) := hDM_rp.2.2.2.2.2.2.2.2.1
  have h3672 : MA15 T H rp (d 7) := hDM_rp.2.2.2.2.2.2.2.2.2.1
  have h3673 : MA16 T H rp (d 8) := hDM_rp.2.2.2.2.2.2.2.2.2.2.1
  have h3674 : MA17 T H rp (d 9) := hDM_rp.2.2.2.2.2.2.2.2.2.2.2.1
  have h3675 : MA18 T H rp (d 10) := hDM_rp.2.2.2.2.2.2.2.2.2.2.2.2.1
  have h3676 : MA19 T H rp (d 11) := hDM_rp.2.2.2.2.2.2.2.2.2.2.2.2.2.1
  have h3677 : MA20 T H rp (d 12) := hDM_rp.2.2.2.2.2.2.2.2.2.2.2.2.2.2.1
  have h3678 : MA21 T H rp (d 13) := hDM_rp.2.2.2.2.2.2.2.2.2.2.2.2.2.2.2.1
  have h3679 : MA22 T H rp (d 14) := hDM_rp.2.2.2.2.2.2.2.2.2.2.2.2.2.2.2.2.1
  have h3680 : MA23 T H rp (d 15) := hDM_rp.2.2.2.2.2.2.2.2.2.2.2.2.2.2.2.2.2.1
  have h3681 : MA25 T H rp (d 17) := hDM_rp.2.2.2.2.2.2.2.2.2.2.2.2.2.2.2.2.2.2.1
  have h3682 : MA26 T H rp (d 16) := hDM_rp.2.2.2.2.2.2.2.2.2.2.2.2.2.2.2.2.2.2.2
  intro v3683 v3684 v3685 H3686 fo3690 po3691 w3687 f3688 b3692 b3693 b3694 h3695 x3696 x3697
  have f3698 : wfr [(54, 3), (42, 8), (42, 9), (42, 10), (42, 11), (42, 12), (42, 13), (42, 14), (42, 15), (56, 999), (57, 999), (60, 999), (63, 999), (58, 999), (59, 999), (55, 999), (61, 999), (62, 999)] T H H3686 := wfr.rf.tr f3688 rfl
  have u3699 := RO_k h3695
  refine wp_of e187 c187_82 (rw_aload_n (pc' := 83) (v := .ref r0) rfl rfl rfl ?_)
  refine wp_of e187 c187_83 (rw_ldcS (pc' := 85) (k := 88) rfl rfl rfl rfl ?_)
  refine wp_of e187 c187_85 (rw_iconst (pc' := 86) rfl ?_)
  refine wp_of e187 c187_86 (rw_bipush (pc' := 88) (z := 12) rfl (by decide) ?_)
  have k3700 : H3686 r0 5 = H r0 5 := (f3688 r0 5 _ g0 rfl)
  have q3701 : H3686 r0 5 = (rb : Int) := k3700.trans qrb
  refine wp_of e187 c187_88 (xc_V (pc' := 91) (r := r0) (as := [.ref 88, vI 0, vI 12]) (st := []) (lm_9_216) rfl rfl (Nat.le_of_ble_eq_true rfl) w3687 g0 sh_42 (by decide) rfl (by decide) (u_182_o (fo := fo3690) (po := po3691) (kk := 409031) w3687 g0 rfl ⟨by omega, by omega⟩ ⟨by omega, by omega⟩ q3701 grb (by decide +kernel) h3695) (fun R3702 T3703 H3704 p3705 => ?_))
  obtain ⟨e3706, e3708, z3709, e3707, b3710, p3711⟩ := p3705
  subst e3706
  subst e3707
  subst e3708
  obtain ⟨a3712, a3713⟩ := p3711
  show wp _ _ 187 91 [(0, .ref r0), (1, vL v3683), (3, vI v3684), (4, vI v3685)] [vI z3709] _ H3686 _
  have u3714 := RO_k a3713
  refine wp_of e187 c187_91 (rw_istore (pc' := 93) (z := z3709) (L' := [(5, vI z3709), (0, .ref r0), (1, vL v3683), (3, vI v3684), (4, vI v3685)]) rfl rfl rfl ?_)
  exact wp_lc (ks := [5, 0, 1, 3, 4]) (wl_c rfl (wl_c rfl (wl_c rfl (wl_c rfl (wl_c rfl wl_n))))) rfl (by decide) (u_187_k_t93o hW g0 qrp grp qrb grb p0 hRC_r0 hDM_rp v3683 v3684 v3685 z3709 H3686 fo3690 po3691 w3687 f3688 ⟨by omega, by omega⟩ ⟨by omega, by omega⟩ ⟨by omega, by omega⟩ ⟨by omega, by omega⟩ a3713 (by omega) (by omega))
set_option maxHeartbeats 60000000 in
theorem u_187_k_t64o {kt : Nat → Option mc_E} {T : wq_T} {H : wq_H} {r0 : Nat} {rp : Nat} {rb : Nat} {B : Nat → Int} {n : Int} {q : Int} {d : xD} (hW : WT T H) (g0 : T.2.2.2 r0 = some 42) (qrp : H r0 4 = (rp : Int)) (grp : T.2.2.2 rp = some 54) (qrb : H r0 5 = (rb : Int)) (grb : T.2.2.2 rb = some 43) (p0 : xK B n q = 1) (hRC_r0 : RC T H r0 B n q) (hDM_rp : DM T H rp r0 d) : ∀ (v3734 : Int) (v3735 : Int) (H3736 : wq_H) (fo3740 : Int) (po3741 : Int), WT T H3736 → wfr [(42, 8), (42, 9), (42, 10), (42, 11), (42, 12), (42, 13), (42, 14), (42, 15)] T H H3736 → ((-9223372036854775808) ≤ v3734 ∧ v3734 ≤ 9223372036854775807) → (0 ≤ v3735 ∧ v3735 ≤ 23) → RO T H3736 r0 fo3740 po3741 → ((xl1 B n q d).1 = fo3740) → ((xl1 B n q d).2.1 = po3741) → wp kt 4 187 64 [(0, .ref r0), (1, vL v3734), (3, vI v3735)] [] T H3736 (uq_187_k r0 rp rb B n q d T H) := by
  have f0 : wfr [(54, 3), (42, 8), (42, 9), (42, 10), (42, 11), (42, 12), (42, 13), (42, 14), (42, 15), (56, 999), (57, 999), (60, 999), (63, 999), (58, 999), (59, 999), (55, 999), (61, 999), (62, 999)] T H H := wfr.rf
  have u3715 := RC_k hRC_r0
  have u3716 := DM_k hDM_rp
  have h3717 : MA9 T H rp (d 1) := hDM_rp.2.2.2.1
  have h3718 : MA10 T H rp (d 2) := hDM_rp.2.2.2.2.1
  have h3719 : MA11 T H rp (d 3) := hDM_rp.2.2.2.2.2.1
  have h3720 : MA12 T H rp (d 4) := hDM_rp.2.2.2.2.2.2.1
  have h3721 : MA13 T H rp (d 5) := hDM_rp.2.2.2.2.2.2.2.1
  have h3722 : MA14 T H rp (d 6) := hDM_rp.2.2.2.2.2.2.2.2.1
  have h3723 : MA15 T H rp (d 7) := hDM_rp.2.2.2.2.2.2.2.2.2.1
  have h3724 : MA16 T H rp (d 8) := hDM_rp.2.2.2.2.2.2.2.2.2.2.1
  have h3725 : MA17 T H rp (d 9) := hDM_rp.2.2.2.2.2.2.2.2.2.2.2.1
  have h3726 : MA18 T H rp (d 10) := hDM_rp.2.2.2.2.2.2.2.2.2.2.2.2.1
  have h3727 : MA19 T H rp (d 11) := hDM_rp.2.2.2.2.2.2.2.2.2.2.2.2.2.1
  have h3728 : MA20 T H rp (d 12) := hDM_rp.2.2.2.2.2.2.2.2.2.2.2.2.2.2.1
  have h3729 : MA21 T H rp (d 13) := hDM_rp.2.2.2.2.2.2.2.2.2.2.2.2.2.2.2.1
  have h3730 : MA22 T H rp (d 14) := hDM_rp.2.2.2.2.2.2.2.2.2.2.2.2.2.2.2.2.1
  have h3731 : MA23 T H rp (d 15) := hDM_rp.2.2.2.2.2.2.2.2.2.2.2.2.2.2.2.2.2.1
  have h3732 : MA25 T H rp (d 17) := hDM_rp.2.2.2.2.2.2.2.2.2.2.2.2.2.2.2.2.2.2.1
  have h3733 : MA26 T H rp (d 16) := hDM_rp.2.2.2.2.2.2.2.2.2.2.2.2.2.2.2.2.2.2.2
  intro v3734 v3735 H3736 fo3740 po3741 w3737 f3738 b3742 b3743 h3744 x3745 x3746
  have f3747 : wfr [(54, 3), (42, 8), (42, 9), (42, 10), (42, 11), (42, 12), (42, 13), (42, 14), (42, 15), (56, 999), (57, 999), (60, 999), (63, 999), (58, 999), (59, 999), (55, 999), (61, 999), (62, 999)] T H H3736 := wfr.rf.tr f3738 rfl
  have u3748 := RO_k h3744
  refine wp_of e187 c187_64 (rw_aload_n (pc' := 65) (v := .ref r0) rfl rfl rfl ?_)
  refine wp_of e187 c187_65 (rw_ldcS (pc' := 67) (k := 87) rfl rfl rfl rfl ?_)
  refine wp_of e187 c187_67 (rw_iload_n (pc' := 68) (z := v3735) rfl rfl ?_)
  refine wp_of e187 c187_68 (rw_bipush (pc' := 70) (z := 23) rfl (by decide) ?_)
  refine wp_of e187 c187_70 (rw_iload_n (pc' := 71) (z := v3735) rfl rfl ?_)
  refine wp_of e187 c187_71 (rw_bipush (pc' := 73) (z := 7) rfl (by decide) ?_)
  refine wp_of e187 c187_73 (rw_iadd (pc' := 74) rfl ?_)
  refine wp_of e187 c187_74 (xc_S (pc' := 77) (as := [vI 23, vI (v3735 + 7)]) (st := [vI v3735, .ref 87, .ref r0]) (lm_9_235) rfl rfl (Nat.le_of_ble_eq_true rfl) rfl (by decide) (u_191  w3737 ⟨by omega, by omega⟩ ⟨by omega, by omega⟩) (fun R3749 T3750 H3751 p3752 => ?_))
  obtain ⟨e3753, e3755, z3756, e3754, b3757, p3758⟩ := p3752
  subst e3753
  subst e3754
  subst e3755
  show wp _ _ 187 77 [(0, .ref r0), (1, vL v3734), (3, vI v3735)] [vI z3756, vI v3735, .ref 87, .ref r0] _ H3736 _
  have k3760 : H3736 r0 5 = H r0 5 := (f3738 r0 5 _ g0 rfl)
  have q3761 : H3736 r0 5 = (rb : Int) := k3760.trans qrb
  refine wp_of e187 c187_77 (xc_V (pc' := 80) (r := r0) (as := [.ref 87, vI v3735, vI z3756]) (st := []) (lm_9_216) rfl rfl (Nat.le_of_ble_eq_true rfl) w3737 g0 sh_42 (by decide) rfl (by decide) (u_182_o (fo := fo3740) (po := po3741) (kk := 655) w3737 g0 rfl ⟨by omega, by omega⟩ ⟨by omega, by omega⟩ q3761 grb (by decide +kernel) h3744) (fun R3762 T3763 H3764 p3765 => ?_))
  obtain ⟨e3766, e3768, z3769, e3767, b3770, p3771⟩ := p3765
  subst e3766
  subst e3767
  subst e3768
  obtain ⟨a3772, a3773⟩ := p3771
  show wp _ _ 187 80 [(0, .ref r0), (1, vL v3734), (3, vI v3735)] [vI z3769] _ H3736 _
  have u3774 := RO_k a3773
  refine wp_of e187 c187_80 (rw_istore (pc' := 82) (z := z3769) (L' := [(4, vI z3769), (0, .ref r0), (1, vL v3734), (3, vI v3735)]) rfl rfl rfl ?_)
  exact wp_lc (ks := [4, 0, 1, 3]) (wl_c rfl (wl_c rfl (wl_c rfl (wl_c rfl wl_n)))) rfl (by decide) (u_187_k_t82o hW g0 qrp grp qrb grb p0 hRC_r0 hDM_rp v3734 v3735 z3769 H3736 fo3740 po3741 w3737 f3738 ⟨by omega, by omega⟩ ⟨by omega, by omega⟩ ⟨by omega, by omega⟩ a3773 (by omega) (by omega))
set_option maxHeartbeats 60000000 in
theorem u_187_k_t54o {kt : Nat → Option mc_E} {T : wq_T} {H : wq_H} {r0 : Nat} {rp : Nat} {rb : Nat} {B : Nat → Int} {n : Int} {q : Int} {d : xD} (hW : WT T H) (g0 : T.2.2.2 r0 = some 42) (qrp : H r0 4 = (rp : Int)) (grp : T.2.2.2 rp = some 54) (qrb : H r0 5 = (rb : Int)) (grb : T.2.2.2 rb = some 43) (p0 : xK B n q = 1) (hRC_r0 : RC T H r0 B n q) (hDM_rp : DM T H rp r0 d) : ∀ (v3794 : Int) (H3795 : wq_H) (fo3799 : Int) (po3800 : Int), WT T H3795 → wfr [(42, 8), (42, 9), (42, 10), (42, 11), (42, 12), (42, 13), (42, 14), (42, 15)] T H H3795 → ((-9223372036854775808) ≤ v3794 ∧ v3794 ≤ 9223372036854775807) → RO T H3795 r0 fo3799 po3800 → ((xl1 B n q d).1 = fo3799) → ((xl1 B n q d).2.1 = po3800) → wp kt 4 187 54 [(0, .ref r0), (1, vL v3794)] [] T H3795 (uq_187_k r0 rp rb B n q d T H) := by
  have f0 : wfr [(54, 3), (42, 8), (42, 9), (42, 10), (42, 11), (42, 12), (42, 13), (42, 14), (42, 15), (56, 999), (57, 999), (60, 999), (63, 999), (58, 999), (59, 999), (55, 999), (61, 999), (62, 999)] T H H := wfr.rf
  have u3775 := RC_k hRC_r0
  have u3776 := DM_k hDM_rp
  have h3777 : MA9 T H rp (d 1) := hDM_rp.2.2.2.1
  have h3778 : MA10 T H rp (d 2) := hDM_rp.2.2.2.2.1
  have h3779 : MA11 T H rp (d 3) := hDM_rp.2.2.2.2.2.1
  have h3780 : MA12 T H rp (d 4) := hDM_rp.2.2.2.2.2.2.1
  have h3781 : MA13 T H rp (d 5) := hDM_rp.2.2.2.2.2.2.2.1
  have h3782 : MA14 T H rp (d 6) := hDM_rp.2.2.2.2.2.2.2.2.1
  have h3783 : MA15 T H rp (d 7) := hDM_rp.2.2.2.2.2.2.2.2.2.1
  have h3784 : MA16 T H rp (d 8) := hDM_rp.2.2.2.2.2.2.2.2.2.2.1
  have h3785 : MA17 T H rp (d 9) := hDM_rp.2.2.2.2.2.2.2.2.2.2.2.1
  have h3786 : MA18 T H rp (d 10) := hDM_rp.2.2.2.2.2.2.2.2.2.2.2.2.1
  have h3787 : MA19 T H rp (d 11) := hDM_rp.2.2.2.2.2.2.2.2.2.2.2.2.2.1
  have h3788 : MA20 T H rp (d 12) := hDM_rp.2.2.2.2.2.2.2.2.2.2.2.2.2.2.1
  have h3789 : MA21 T H rp (d 13) := hDM_rp.2.2.2.2.2.2.2.2.2.2.2.2.2.2.2.1
  have h3790 : MA22 T H rp (d 14) := hDM_rp.2.2.2.2.2.2.2.2.2.2.2.2.2.2.2.2.1
  have h3791 : MA23 T H rp (d 15) := hDM_rp.2.2.2.2.2.2.2.2.2.2.2.2.2.2.2.2.2.1
  have h3792 : MA25 T H rp (d 17) := hDM_rp.2.2.2.2.2.2.2.2.2.2.2.2.2.2.2.2.2.2.1
  have h3793 : MA26 T H rp (d 16) := hDM_rp.2.2.2.2.2.2.2.2.2.2.2.2.2.2.2.2.2.2.2
  intro v3794 H3795 fo3799 po3800 w3796 f3797 b3801 h3802 x3803 x3804
  have f3805 : wfr [(54, 3), (42, 8), (42, 9), (42, 10), (42, 11), (42, 12), (42, 13), (42, 14), (42, 15), (56, 999), (57, 999), (60, 999), (63, 999), (58, 999), (59, 999), (55, 999), (61, 999), (62, 999)] T H H3795 := wfr.rf.tr f3797 rfl
  have u3806 := RO_k h3802
  refine wp_of e187 c187_54 (rw_aload_n (pc' := 55) (v := .ref r0) rfl rfl rfl ?_)
  refine wp_of e187 c187_55 (rw_ldcS (pc' := 57) (k := 86) rfl rfl rfl rfl ?_)
  refine wp_of e187 c187_57 (rw_iconst (pc' := 58) rfl ?_)
  refine wp_of e187 c187_58 (rw_bipush (pc' := 60) (z := 23) rfl (by decide) ?_)
  have k3807 : H3795 r0 5 = H r0 5 := (f3797 r0 5 _ g0 rfl)
  have q3808 : H3795 r0 5 = (rb : Int) := k3807.trans qrb
  refine wp_of e187 c187_60 (xc_V (pc' := 63) (r := r0) (as := [.ref 86, vI 0, vI 23]) (st := []) (lm_9_216) rfl rfl (Nat.le_of_ble_eq_true rfl) w3796 g0 sh_42 (by decide) rfl (by decide) (u_182_o (fo := fo3799) (po := po3800) (kk := 2212) w3796 g0 rfl ⟨by omega, by omega⟩ ⟨by omega, by omega⟩ q3808 grb (by decide +kernel) h3802) (fun R3809 T3810 H3811 p3812 => ?_))
  obtain ⟨e3813, e3815, z3816, e3814, b3817, p3818⟩ := p3812
  subst e3813
  subst e3814
  subst e3815
  obtain ⟨a3819, a3820⟩ := p3818
  show wp _ _ 187 63 [(0, .ref r0), (1, vL v3794)] [vI z3816] _ H3795 _
  have u3821 := RO_k a3820
  refine wp_of e187 c187_63 (rw_istore_n (pc' := 64) (z := z3816) (L' := [(3, vI z3816), (0, .ref r0), (1, vL v3794)]) rfl rfl rfl ?_)
  exact wp_lc (ks := [3, 0, 1]) (wl_c rfl (wl_c rfl (wl_c rfl wl_n))) rfl (by decide) (u_187_k_t64o hW g0 qrp grp qrb grb p0 hRC_r0 hDM_rp v3794 z3816 H3795 fo3799 po3800 w3796 f3797 ⟨by omega, by omega⟩ ⟨by omega, by omega⟩ a3820 (by omega) (by omega))
set_option maxHeartbeats 60000000 in
theorem u_187_k_t45o {kt : Nat → Option mc_E} {T : wq_T} {H : wq_H} {r0 : Nat} {rp : Nat} {rb : Nat} {B : Nat → Int} {n : Int} {q : Int} {d : xD} (hW : WT T H) (g0 : T.2.2.2 r0 = some 42) (qrp : H r0 4 = (rp : Int)) (grp : T.2.2.2 rp = some 54) (qrb : H r0 5 = (rb : Int)) (grb : T.2.2.2 rb = some 43) (p0 : xK B n q = 1) (hRC_r0 : RC T H r0 B n q) (hDM_rp : DM T H rp r0 d) : ∀  (H3841 : wq_H) (fo3845 : Int) (po3846 : Int), WT T H3841 → wfr [(42, 8), (42, 9), (42, 10), (42, 11), (42, 12), (42, 13), (42, 14), (42, 15)] T H H3841 → RO T H3841 r0 fo3845 po3846 → ((xl1 B n q d).1 = fo3845) → ((xl1 B n q d).2.1 = po3846) → wp kt 4 187 45 [(0, .ref r0)] [] T H3841 (uq_187_k r0 rp rb B n q d T H) := by
  have f0 : wfr [(54, 3), (42, 8), (42, 9), (42, 10), (42, 11), (42, 12), (42, 13), (42, 14), (42, 15), (56, 999), (57, 999), (60, 999), (63, 999), (58, 999), (59, 999), (55, 999), (61, 999), (62, 999)] T H H := wfr.rf
  have u3822 := RC_k hRC_r0
  have u3823 := DM_k hDM_rp
  have h3824 : MA9 T H rp (d 1) := hDM_rp.2.2.2.1
  have h3825 : MA10 T H rp (d 2) := hDM_rp.2.2.2.2.1
  have h3826 : MA11 T H rp (d 3) := hDM_rp.2.2.2.2.2.1
  have h3827 : MA12 T H rp (d 4) := hDM_rp.2.2.2.2.2.2.1
  have h3828 : MA13 T H rp (d 5) := hDM_rp.2.2.2.2.2.2.2.1
  have h3829 : MA14 T H rp (d 6) := hDM_rp.2.2.2.2.2.2.2.2.1
  have h3830 : MA15 T H rp (d 7) := hDM_rp.2.2.2.2.2.2.2.2.2.1
  have h3831 : MA16 T H rp (d 8) := hDM_rp.2.2.2.2.2.2.2.2.2.2.1
  have h3832 : MA17 T H rp (d 9) := hDM_rp.2.2.2.2.2.2.2.2.2.2.2.1
  have h3833 : MA18 T H rp (d 10) := hDM_rp.2.2.2.2.2.2.2.2.2.2.2.2.1
  have h3834 : MA19 T H rp (d 11) := hDM_rp.2.2.2.2.2.2.2.2.2.2.2.2.2.1
  have h3835 : MA20 T H rp (d 12) := hDM_rp.2.2.2.2.2.2.2.2.2.2.2.2.2.2.1
  have h3836 : MA21 T H rp (d 13) := hDM_rp.2.2.2.2.2.2.2.2.2.2.2.2.2.2.2.1
  have h3837 : MA22 T H rp (d 14) := hDM_rp.2.2.2.2.2.2.2.2.2.2.2.2.2.2.2.2.1
  have h3838 : MA23 T H rp (d 15) := hDM_rp.2.2.2.2.2.2.2.2.2.2.2.2.2.2.2.2.2.1
  have h3839 : MA25 T H rp (d 17) := hDM_rp.2.2.2.2.2.2.2.2.2.2.2.2.2.2.2.2.2.2.1
  have h3840 : MA26 T H rp (d 16) := hDM_rp.2.2.2.2.2.2.2.2.2.2.2.2.2.2.2.2.2.2.2
  intro H3841 fo3845 po3846 w3842 f3843 h3847 x3848 x3849
  have f3850 : wfr [(54, 3), (42, 8), (42, 9), (42, 10), (42, 11), (42, 12), (42, 13), (42, 14), (42, 15), (56, 999), (57, 999), (60, 999), (63, 999), (58, 999), (59, 999), (55, 999), (61, 999), (62, 999)] T H H3841 := wfr.rf.tr f3843 rfl
  have u3851 := RO_k h3847
  refine wp_of e187 c187_45 (rw_aload_n (pc' := 46) (v := .ref r0) rfl rfl rfl ?_)
  refine wp_of e187 c187_46 (xg_L (pc' := 49) lf_9_94 w3842 g0 sh_42 (by decide) (by decide) ty_42_15 rfl rfl (fun b3852 b3853 => ?_))
  refine wp_of e187 c187_49 (rw_lstore_n (pc' := 50) (z := H3841 r0 15) (L' := [(1, vL (H3841 r0 15)), (0, .ref r0)]) rfl rfl rfl ?_)
  refine wp_of e187 c187_50 (rw_aload_n (pc' := 51) (v := .ref r0) rfl rfl rfl ?_)
  refine wp_of e187 c187_51 (xc_V (pc' := 54) (r := r0) (as := []) (st := []) (lm_9_118) rfl rfl (Nat.le_of_ble_eq_true rfl) w3842 g0 sh_42 (by decide) rfl (by decide) (u_172_o (fo := fo3845) (po := po3846) w3842 g0 h3847) (fun R3854 T3855 H3856 p3857 => ?_))
  obtain ⟨e3858, e3860, e3859, p3861⟩ := p3857
  subst e3858
  subst e3859
  subst e3860
  show wp _ _ 187 54 [(1, vL (H3841 r0 15)), (0, .ref r0)] [] _ H3841 _
  have u3863 := RO_k p3861
  exact wp_lc (ks := [1, 0]) (wl_c rfl (wl_c rfl wl_n)) rfl (by decide) (u_187_k_t54o hW g0 qrp grp qrb grb p0 hRC_r0 hDM_rp (H3841 r0 15) H3841 fo3845 po3846 w3842 f3843 ⟨by omega, by omega⟩ p3861 (by omega) (by omega))
set_option maxHeartbeats 60000000 in
theorem u_187_k_t25o {kt : Nat → Option mc_E} {T : wq_T} {H : wq_H} {r0 : Nat} {rp : Nat} {rb : Nat} {B : Nat → Int} {n : Int} {q : Int} {d : xD} (hW : WT T H) (g0 : T.2.2.2 r0 = some 42) (qrp : H r0 4 = (rp : Int)) (grp : T.2.2.2 rp = some 54) (qrb : H r0 5 = (rb : Int)) (grb : T.2.2.2 rb = some 43) (p0 : xK B n q = 1) (hRC_r0 : RC T H r0 B n q) (hDM_rp : DM T H rp r0 d) : ∀  (H3883 : wq_H) (fo3887 : Int) (po3888 : Int), WT T H3883 → wfr [(42, 8), (42, 9), (42, 10), (42, 11), (42, 12), (42, 13), (42, 14), (42, 15)] T H H3883 → RO T H3883 r0 fo3887 po3888 → ((xl1 B n q d).1 = fo3887) → ((xl1 B n q d).2.1 = po3888) → wp kt 4 187 25 [(0, .ref r0)] [] T H3883 (uq_187_k r0 rp rb B n q d T H) := by
  have f0 : wfr [(54, 3), (42, 8), (42, 9), (42, 10), (42, 11), (42, 12), (42, 13), (42, 14), (42, 15), (56, 999), (57, 999), (60, 999), (63, 999), (58, 999), (59, 999), (55, 999), (61, 999), (62, 999)] T H H := wfr.rf
  have u3864 := RC_k hRC_r0
  have u3865 := DM_k hDM_rp
  have h3866 : MA9 T H rp (d 1) := hDM_rp.2.2.2.1
  have h3867 : MA10 T H rp (d 2) := hDM_rp.2.2.2.2.1
  have h3868 : MA11 T H rp (d 3) := hDM_rp.2.2.2.2.2.1
  have h3869 : MA12 T H rp (d 4) := hDM_rp.2.2.2.2.2.2.1
  have h3870 : MA13 T H rp (d 5) := hDM_rp.2.2.2.2.2.2.2.1
  have h3871 : MA14 T H rp (d 6) := hDM_rp.2.2.2.2.2.2.2.2.1
  have h3872 : MA15 T H rp (d 7) := hDM_rp.2.2.2.2.2.2.2.2.2.1
  have h3873 : MA16 T H rp (d 8) := hDM_rp.2.2.2.2.2.2.2.2.2.2.1
  have h3874 : MA17 T H rp (d 9) := hDM_rp.2.2.2.2.2.2.2.2.2.2.2.1
  have h3875 : MA18 T H rp (d 10) := hDM_rp.2.2.2.2.2.2.2.2.2.2.2.2.1
  have h3876 : MA19 T H rp (d 11) := hDM_rp.2.2.2.2.2.2.2.2.2.2.2.2.2.1
  have h3877 : MA20 T H rp (d 12) := hDM_rp.2.2.2.2.2.2.2.2.2.2.2.2.2.2.1
  have h3878 : MA21 T H rp (d 13) := hDM_rp.2.2.2.2.2.2.2.2.2.2.2.2.2.2.2.1
  have h3879 : MA22 T H rp (d 14) := hDM_rp.2.2.2.2.2.2.2.2.2.2.2.2.2.2.2.2.1
  have h3880 : MA23 T H rp (d 15) := hDM_rp.2.2.2.2.2.2.2.2.2.2.2.2.2.2.2.2.2.1
  have h3881 : MA25 T H rp (d 17) := hDM_rp.2.2.2.2.2.2.2.2.2.2.2.2.2.2.2.2.2.2.1
  have h3882 : MA26 T H rp (d 16) := hDM_rp.2.2.2.2.2.2.2.2.2.2.2.2.2.2.2.2.2.2.2
  intro H3883 fo3887 po3888 w3884 f3885 h3889 x3890 x3891
  have f3892 : wfr [(54, 3), (42, 8), (42, 9), (42, 10), (42, 11), (42, 12), (42, 13), (42, 14), (42, 15), (56, 999), (57, 999), (60, 999), (63, 999), (58, 999), (59, 999), (55, 999), (61, 999), (62, 999)] T H H3883 := wfr.rf.tr f3885 rfl
  have u3893 := RO_k h3889
  refine wp_of e187 c187_25 (rw_aload_n (pc' := 26) (v := .ref r0) rfl rfl rfl ?_)
  have k3894 : H3883 r0 4 = H r0 4 := (f3885 r0 4 _ g0 rfl)
  have q3895 : H3883 r0 4 = (rp : Int) := k3894.trans qrp
  refine wp_of e187 c187_26 (xg_K (pc' := 29) lf_9_166 w3884 g0 sh_42 (by decide) (by decide) rfl q3895 rfl ?_)
  refine wp_of e187 c187_29 (rw_aload_n (pc' := 30) (v := .ref r0) rfl rfl rfl ?_)
  refine wp_of e187 c187_30 (xg_L (pc' := 33) lf_9_94 w3884 g0 sh_42 (by decide) (by decide) ty_42_15 rfl rfl (fun b3896 b3897 => ?_))
  refine wp_of e187 c187_33 (xc_V (pc' := 36) (r := rp) (as := [vL (H3883 r0 15)]) (st := []) (lm_9_170) rfl rfl (Nat.le_of_ble_eq_true rfl) w3884 grp sh_54 (by decide) rfl (by decide) (u_190_o  w3884 grp ⟨by omega, by omega⟩) (fun R3898 T3899 H3900 p3901 => ?_))
  obtain ⟨e3902, e3904, z3905, e3903, b3906, p3907⟩ := p3901
  subst e3902
  subst e3903
  subst e3904
  show wp _ _ 187 36 [(0, .ref r0)] [vI z3905] _ H3883 _
  refine wp_of e187 c187_36 (rw_iconst (pc' := 37) rfl ?_)
  refine wp_of e187 c187_37 (rw_icmp_eq (p1 := 45) (p2 := 40) (by decide) rfl ⟨by omega, by omega⟩ ⟨by omega, by omega⟩ (fun c3909 => ?_) (fun c3909 => ?_))
  · exact wp_lc (ks := [0]) (wl_c rfl wl_n) rfl (by decide) (u_187_k_t45o hW g0 qrp grp qrb grb p0 hRC_r0 hDM_rp H3883 fo3887 po3888 w3884 f3885 h3889 (by omega) (by omega))
  · refine wp_of e187 c187_40 (rw_aload_n (pc' := 41) (v := .ref r0) rfl rfl rfl ?_)
    refine wp_of e187 c187_41 (rw_iconst (pc' := 42) rfl ?_)
    refine wp_of e187 c187_42 (xc_V (pc' := 45) (r := r0) (as := [vI 3]) (st := []) (lm_9_121) rfl rfl (Nat.le_of_ble_eq_true rfl) w3884 g0 sh_42 (by decide) rfl (by decide) (u_181_o (fo := fo3887) (po := po3888) w3884 g0 ⟨by omega, by omega⟩ h3889) (fun R3910 T3911 H3912 p3913 => ?_))
    obtain ⟨e3914, e3916, e3915, p3917⟩ := p3913
    subst e3914
    subst e3915
    subst e3916
    show wp _ _ 187 45 [(0, .ref r0)] [] _ H3883 _
    have u3919 := RO_k p3917
    exact wp_lc (ks := [0]) (wl_c rfl wl_n) rfl (by decide) (u_187_k_t45o hW g0 qrp grp qrb grb p0 hRC_r0 hDM_rp H3883 fo3887 po3888 w3884 f3885 p3917 (by omega) (by omega))

set_option maxHeartbeats 60000000 in
theorem u_187_k {kt : Nat → Option mc_E} {T : wq_T} {H : wq_H} {r0 : Nat} {rp : Nat} {rb : Nat} {B : Nat → Int} {n : Int} {q : Int} {d : xD} (hW : WT T H) (g0 : T.2.2.2 r0 = some 42) (qrp : H r0 4 = (rp : Int)) (grp : T.2.2.2 rp = some 54) (qrb : H r0 5 = (rb : Int)) (grb : T.2.2.2 rb = some 43) (p0 : xK B n q = 1) (hRC_r0 : RC T H r0 B n q) (hDM_rp : DM T H rp r0 d) : wpc kt 5 187 [.ref r0] T H (uq_187_k r0 rp rb B n q d T H) := by
  refine wp_enter e187 (Nat.le_of_ble_eq_true rfl) rfl ?_
  have f0 : wfr [(54, 3), (42, 8), (42, 9), (42, 10), (42, 11), (42, 12), (42, 13), (42, 14), (42, 15), (56, 999), (57, 999), (60, 999), (63, 999), (58, 999), (59, 999), (55, 999), (61, 999), (62, 999)] T H H := wfr.rf
  show wp _ _ 187 0 [(0, .ref r0)] [] _ H _
  have u2743 := RC_k hRC_r0
  have u2744 := DM_k hDM_rp
  have h2745 : MA9 T H rp (d 1) := hDM_rp.2.2.2.1
  have h2746 : MA10 T H rp (d 2) := hDM_rp.2.2.2.2.1
  have h2747 : MA11 T H rp (d 3) := hDM_rp.2.2.2.2.2.1
  have h2748 : MA12 T H rp (d 4) := hDM_rp.2.2.2.2.2.2.1
  have h2749 : MA13 T H rp (d 5) := hDM_rp.2.2.2.2.2.2.2.1
  have h2750 : MA14 T H rp (d 6) := hDM_rp.2.2.2.2.2.2.2.2.1
  have h2751 : MA15 T H rp (d 7) := hDM_rp.2.2.2.2.2.2.2.2.2.1
  have h2752 : MA16 T H rp (d 8) := hDM_rp.2.2.2.2.2.2.2.2.2.2.1
  have h2753 : MA17 T H rp (d 9) := hDM_rp.2.2.2.2.2.2.2.2.2.2.2.1
  have h2754 : MA18 T H rp (d 10) := hDM_rp.2.2.2.2.2.2.2.2.2.2.2.2.1
  have h2755 : MA19 T H rp (d 11) := hDM_rp.2.2.2.2.2.2.2.2.2.2.2.2.2.1
  have h2756 : MA20 T H rp (d 12) := hDM_rp.2.2.2.2.2.2.2.2.2.2.2.2.2.2.1
  have h2757 : MA21 T H rp (d 13) := hDM_rp.2.2.2.2.2.2.2.2.2.2.2.2.2.2.2.1
  have h2758 : MA22 T H rp (d 14) := hDM_rp.2.2.2.2.2.2.2.2.2.2.2.2.2.2.2.2.1
  have h2759 : MA23 T H rp (d 15) := hDM_rp.2.2.2.2.2.2.2.2.2.2.2.2.2.2.2.2.2.1
  have h2760 : MA25 T H rp (d 17) := hDM_rp.2.2.2.2.2.2.2.2.2.2.2.2.2.2.2.2.2.2.1
  have h2761 : MA26 T H rp (d 16) := hDM_rp.2.2.2.2.2.2.2.2.2.2.2.2.2.2.2.2.2.2.2
  have f0s : wfr [(42, 8), (42, 9), (42, 10), (42, 11), (42, 12), (42, 13), (42, 14), (42, 15)] T H H := wfr.rf
  refine wp_of e187 c187_0 (rw_aload_n (pc' := 1) (v := .ref r0) rfl rfl rfl ?_)
  refine wp_of e187 c187_1 (rw_aload_n (pc' := 2) (v := .ref r0) rfl rfl rfl ?_)
  refine wp_of e187 c187_2 (xg_K (pc' := 5) lf_9_166 hW g0 sh_42 (by decide) (by decide) rfl qrp rfl ?_)
  refine wp_of e187 c187_5 (xg_I (pc' := 8) lf_9_188 hW grp sh_54 (by decide) (by decide) ty_54_3 rfl rfl (fun b3920 b3921 => ?_))
  refine wp_of e187 c187_8 (rw_bipush (pc' := 10) (z := 6) rfl (by decide) ?_)
  refine wp_of e187 c187_10 (xc_V (pc' := 13) (r := r0) (as := [vI (H rp 3), vI 6]) (st := []) (lm_9_228) rfl rfl (Nat.le_of_ble_eq_true rfl) hW g0 sh_42 (by decide) rfl (by decide) (u_188_k (B := B) (n := n) (q := q) hW g0 ⟨by omega, by omega⟩ ⟨by omega, by omega⟩ qrb grb (by omega) hRC_r0) (fun R3922 T3923 H3924 p3925 => ?_))
  obtain ⟨e3926, w3928, f3929, e3927, p3930⟩ := p3925
  subst e3926
  subst e3927
  rcases p3930 with ⟨a3931, a3932⟩ | ⟨a3933, a3934⟩
  · have f3935 := f0.tr f3929 rfl
    have f3936 := f0s.tr f3929 rfl
    show wp _ _ 187 13 [(0, .ref r0)] [] _ H3924 _
    have u3937 := RC_k a3932
    have _m := @xnm_b B n (xN B n q) d
    refine wp_of e187 c187_13 (rw_aload_n (pc' := 14) (v := .ref r0) rfl rfl rfl ?_)
    refine wp_of e187 c187_14 (xc_V (pc' := 17) (r := r0) (as := []) (st := []) (lm_9_162) rfl rfl (Nat.le_of_ble_eq_true rfl) w3928 g0 sh_42 (by decide) rfl (by decide) (u_189_k (B := B) (n := n) (q := ((xN B n q))) w3928 g0 a3932) (fun R3938 T3939 H3940 p3941 => ?_))
    obtain ⟨e3942, e3944, z3945, e3943, b3946, p3947⟩ := p3941
    subst e3942
    subst e3943
    subst e3944
    rcases p3947 with ⟨a3948, a3949, a3950, a3951⟩ | ⟨a3952, a3953⟩
    · show wp _ _ 187 17 [(0, .ref r0)] [vI z3945] _ H3924 _
      refine wp_of e187 c187_17 (rw_if_ne (p1 := 25) (p2 := 20) (by decide) rfl ⟨by omega, by omega⟩ (fun c3954 => ?_) (fun c3954 => ?_))
      · refine wp_of e187 c187_25 (rw_aload_n (pc' := 26) (v := .ref r0) rfl rfl rfl ?_)
        have k3955 : H3924 r0 4 = H r0 4 := (f3929 r0 4 _ g0 rfl)
        have q3956 : H3924 r0 4 = (rp : Int) := k3955.trans qrp
        refine wp_of e187 c187_26 (xg_K (pc' := 29) lf_9_166 w3928 g0 sh_42 (by decide) (by decide) rfl q3956 rfl ?_)
        refine wp_of e187 c187_29 (rw_aload_n (pc' := 30) (v := .ref r0) rfl rfl rfl ?_)
        refine wp_of e187 c187_30 (xg_L (pc' := 33) lf_9_94 w3928 g0 sh_42 (by decide) (by decide) ty_42_15 rfl rfl (fun b3957 b3958 => ?_))
        have h3959 : DM T H3924 rp r0 d := (DM_fr hW grp f3929 rfl hDM_rp)
        refine wp_of e187 c187_33 (xc_V (pc' := 36) (r := rp) (as := [vL (H3924 r0 15)]) (st := []) (lm_9_170) rfl rfl (Nat.le_of_ble_eq_true rfl) w3928 grp sh_54 (by decide) rfl (by decide) (u_190_k (mm := r0) (d := d) (y := (xY B n (xN B n q))) w3928 grp ⟨by omega, by omega⟩ (by omega) h3959) (fun R3960 T3961 H3962 p3963 => ?_))
        obtain ⟨e3964, e3966, z3967, e3965, b3968, p3969⟩ := p3963
        subst e3964
        subst e3965
        subst e3966
        obtain ⟨a3970, a3971⟩ := p3969
        show wp _ _ 187 36 [(0, .ref r0)] [vI z3967] _ H3924 _
        refine wp_of e187 c187_36 (rw_iconst (pc' := 37) rfl ?_)
        refine wp_of e187 c187_37 (rw_icmp_eq (p1 := 45) (p2 := 40) (by decide) rfl ⟨by omega, by omega⟩ ⟨by omega, by omega⟩ (fun c3972 => ?_) (fun c3972 => ?_))
        · refine wp_of e187 c187_45 (rw_aload_n (pc' := 46) (v := .ref r0) rfl rfl rfl ?_)
          refine wp_of e187 c187_46 (xg_L (pc' := 49) lf_9_94 w3928 g0 sh_42 (by decide) (by decide) ty_42_15 rfl rfl (fun b3973 b3974 => ?_))
          refine wp_of e187 c187_49 (rw_lstore_n (pc' := 50) (z := H3924 r0 15) (L' := [(1, vL (H3924 r0 15)), (0, .ref r0)]) rfl rfl rfl ?_)
          refine wp_of e187 c187_50 (rw_aload_n (pc' := 51) (v := .ref r0) rfl rfl rfl ?_)
          have k3975 : H3924 r0 5 = H r0 5 := (f3929 r0 5 _ g0 rfl)
          have q3976 : H3924 r0 5 = (rb : Int) := k3975.trans qrb
          have u3977 := RC_a a3932
          have h3978 : TM T H3924 rb B := RC_tm a3932 q3976
          refine wp_of e187 c187_51 (xc_V (pc' := 54) (r := r0) (as := []) (st := []) (lm_9_118) rfl rfl (Nat.le_of_ble_eq_true rfl) w3928 g0 sh_42 (by decide) rfl (by decide) (u_172_k (B := B) (n := n) (a := (xE B n ((xN B n q)))) (q := (xN B n ((xN B n q)))) w3928 g0 q3976 grb (by omega) (by omega) (by omega) (by omega) (by omega) (rfl) h3978) (fun R3979 T3980 H3981 p3982 => ?_))
          obtain ⟨e3983, w3985, f3986, e3984, p3987⟩ := p3982
          subst e3983
          subst e3984
          have f3989 := f3935.tr f3986 rfl
          have f3990 := f3936.tr f3986 rfl
          show wp _ _ 187 54 [(1, vL (H3924 r0 15)), (0, .ref r0)] [] _ H3981 _
          have u3991 := RC_k p3987
          refine wp_of e187 c187_54 (rw_aload_n (pc' := 55) (v := .ref r0) rfl rfl rfl ?_)
          refine wp_of e187 c187_55 (rw_ldcS (pc' := 57) (k := 86) rfl rfl rfl rfl ?_)
          refine wp_of e187 c187_57 (rw_iconst (pc' := 58) rfl ?_)
          refine wp_of e187 c187_58 (rw_bipush (pc' := 60) (z := 23) rfl (by decide) ?_)
          have k3992 : H3981 r0 5 = H3924 r0 5 := (f3986 r0 5 _ g0 rfl)
          have q3993 : H3981 r0 5 = (rb : Int) := k3992.trans q3976
          refine wp_of e187 c187_60 (xc_V (pc' := 63) (r := r0) (as := [.ref 86, vI 0, vI 23]) (st := []) (lm_9_216) rfl rfl (Nat.le_of_ble_eq_true rfl) w3985 g0 sh_42 (by decide) rfl (by decide) (u_182_k (B := B) (n := n) (q := ((xN B n ((xN B n q))))) (kk := 2212) (lo := 0) (hi := 23) w3985 g0 rfl ⟨by omega, by omega⟩ ⟨by omega, by omega⟩ q3993 grb (by decide +kernel) (by omega) (by omega) p3987) (fun R3994 T3995 H3996 p3997 => ?_))
          obtain ⟨e3998, w4000, f4001, z4002, e3999, b4003, p4004⟩ := p3997
          subst e3998
          subst e3999
          rcases p4004 with ⟨a4005, a4006, a4007, a4008, a4009, a4010⟩ | ⟨a4011, a4012, a4013⟩ | ⟨a4014, a4015, a4016, a4017⟩
          · have f4018 := f3989.tr f4001 rfl
            have f4019 := f3990.tr f4001 rfl
            show wp _ _ 187 63 [(1, vL (H3924 r0 15)), (0, .ref r0)] [vI z4002] _ H3996 _
            have u4020 := RC_k a4010
            refine wp_of e187 c187_63 (rw_istore_n (pc' := 64) (z := z4002) (L' := [(3, vI z4002), (1, vL (H3924 r0 15)), (0, .ref r0)]) rfl rfl rfl ?_)
            refine wp_of e187 c187_64 (rw_aload_n (pc' := 65) (v := .ref r0) rfl rfl rfl ?_)
            refine wp_of e187 c187_65 (rw_ldcS (pc' := 67) (k := 87) rfl rfl rfl rfl ?_)
            refine wp_of e187 c187_67 (rw_iload_n (pc' := 68) (z := z4002) rfl rfl ?_)
            refine wp_of e187 c187_68 (rw_bipush (pc' := 70) (z := 23) rfl (by decide) ?_)
            refine wp_of e187 c187_70 (rw_iload_n (pc' := 71) (z := z4002) rfl rfl ?_)
            refine wp_of e187 c187_71 (rw_bipush (pc' := 73) (z := 7) rfl (by decide) ?_)
            refine wp_of e187 c187_73 (rw_iadd (pc' := 74) rfl ?_)
            refine wp_of e187 c187_74 (xc_S (pc' := 77) (as := [vI 23, vI (z4002 + 7)]) (st := [vI z4002, .ref 87, .ref r0]) (lm_9_235) rfl rfl (Nat.le_of_ble_eq_true rfl) rfl (by decide) (u_191  w4000 ⟨by omega, by omega⟩ ⟨by omega, by omega⟩) (fun R4021 T4022 H4023 p4024 => ?_))
            obtain ⟨e4025, e4027, z4028, e4026, b4029, p4030⟩ := p4024
            subst e4025
            subst e4026
            subst e4027
            show wp _ _ 187 77 [(3, vI z4002), (1, vL (H3924 r0 15)), (0, .ref r0)] [vI z4028, vI z4002, .ref 87, .ref r0] _ H3996 _
            have k4032 : H3996 r0 5 = H3981 r0 5 := (f4001 r0 5 _ g0 rfl)
            have q4033 : H3996 r0 5 = (rb : Int) := k4032.trans q3993
            refine wp_of e187 c187_77 (xc_V (pc' := 80) (r := r0) (as := [.ref 87, vI z4002, vI z4028]) (st := []) (lm_9_216) rfl rfl (Nat.le_of_ble_eq_true rfl) w4000 g0 sh_42 (by decide) rfl (by decide) (u_182_k (B := B) (n := n) (q := ((xN B n (xN B n ((xN B n ((xN B n q)))))))) (kk := 655) (lo := (xV B n (xN B n (xN B n (xN B n q))) + 0)) (hi := (min (xV B n (xN B n (xN B n (xN B n q))) + 7) 23)) w4000 g0 rfl ⟨by omega, by omega⟩ ⟨by omega, by omega⟩ q4033 grb (by decide +kernel) (by omega) (by omega) a4010) (fun R4034 T4035 H4036 p4037 => ?_))
            obtain ⟨e4038, w4040, f4041, z4042, e4039, b4043, p4044⟩ := p4037
            subst e4038
            subst e4039
            rcases p4044 with ⟨a4045, a4046, a4047, a4048, a4049, a4050⟩ | ⟨a4051, a4052, a4053⟩ | ⟨a4054, a4055, a4056, a4057⟩
            · have f4058 := f4018.tr f4041 rfl
              have f4059 := f4019.tr f4041 rfl
              show wp _ _ 187 80 [(3, vI z4002), (1, vL (H3924 r0 15)), (0, .ref r0)] [vI z4042] _ H4036 _
              have u4060 := RC_k a4050
              refine wp_of e187 c187_80 (rw_istore (pc' := 82) (z := z4042) (L' := [(4, vI z4042), (3, vI z4002), (1, vL (H3924 r0 15)), (0, .ref r0)]) rfl rfl rfl ?_)
              refine wp_of e187 c187_82 (rw_aload_n (pc' := 83) (v := .ref r0) rfl rfl rfl ?_)
              refine wp_of e187 c187_83 (rw_ldcS (pc' := 85) (k := 88) rfl rfl rfl rfl ?_)
              refine wp_of e187 c187_85 (rw_iconst (pc' := 86) rfl ?_)
              refine wp_of e187 c187_86 (rw_bipush (pc' := 88) (z := 12) rfl (by decide) ?_)
              have k4061 : H4036 r0 5 = H3996 r0 5 := (f4041 r0 5 _ g0 rfl)
              have q4062 : H4036 r0 5 = (rb : Int) := k4061.trans q4033
              refine wp_of e187 c187_88 (xc_V (pc' := 91) (r := r0) (as := [.ref 88, vI 0, vI 12]) (st := []) (lm_9_216) rfl rfl (Nat.le_of_ble_eq_true rfl) w4040 g0 sh_42 (by decide) rfl (by decide) (u_182_k (B := B) (n := n) (q := ((xN B n (xN B n ((xN B n (xN B n ((xN B n ((xN B n q))))))))))) (kk := 409031) (lo := 0) (hi := 12) w4040 g0 rfl ⟨by omega, by omega⟩ ⟨by omega, by omega⟩ q4062 grb (by decide +kernel) (by omega) (by omega) a4050) (fun R4063 T4064 H4065 p4066 => ?_))
              obtain ⟨e4067, w4069, f4070, z4071, e4068, b4072, p4073⟩ := p4066
              subst e4067
              subst e4068
              rcases p4073 with ⟨a4074, a4075, a4076, a4077, a4078, a4079⟩ | ⟨a4080, a4081, a4082⟩ | ⟨a4083, a4084, a4085, a4086⟩
              · have f4087 := f4058.tr f4070 rfl
                have f4088 := f4059.tr f4070 rfl
                show wp _ _ 187 91 [(4, vI z4042), (3, vI z4002), (1, vL (H3924 r0 15)), (0, .ref r0)] [vI z4071] _ H4065 _
                have u4089 := RC_k a4079
                refine wp_of e187 c187_91 (rw_istore (pc' := 93) (z := z4071) (L' := [(5, vI z4071), (4, vI z4042), (3, vI z4002), (1, vL (H3924 r0 15)), (0, .ref r0)]) rfl rfl rfl ?_)
                refine wp_of e187 c187_93 (rw_aload_n (pc' := 94) (v := .ref r0) rfl rfl rfl ?_)
                refine wp_of e187 c187_94 (rw_ldcS (pc' := 96) (k := 87) rfl rfl rfl rfl ?_)
                refine wp_of e187 c187_96 (rw_iload (pc' := 98) (z := z4071) rfl rfl ?_)
                refine wp_of e187 c187_98 (rw_bipush (pc' := 100) (z := 12) rfl (by decide) ?_)
                refine wp_of e187 c187_100 (rw_iload (pc' := 102) (z := z4071) rfl rfl ?_)
                refine wp_of e187 c187_102 (rw_iconst (pc' := 103) rfl ?_)
                refine wp_of e187 c187_103 (rw_iadd (pc' := 104) rfl ?_)
                refine wp_of e187 c187_104 (xc_S (pc' := 107) (as := [vI 12, vI (z4071 + 4)]) (st := [vI z4071, .ref 87, .ref r0]) (lm_9_235) rfl rfl (Nat.le_of_ble_eq_true rfl) rfl (by decide) (u_191  w4069 ⟨by omega, by omega⟩ ⟨by omega, by omega⟩) (fun R4090 T4091 H4092 p4093 => ?_))
                obtain ⟨e4094, e4096, z4097, e4095, b4098, p4099⟩ := p4093
                subst e4094
                subst e4095
                subst e4096
                show wp _ _ 187 107 [(5, vI z4071), (4, vI z4042), (3, vI z4002), (1, vL (H3924 r0 15)), (0, .ref r0)] [vI z4097, vI z4071, .ref 87, .ref r0] _ H4065 _
                have k4101 : H4065 r0 5 = H4036 r0 5 := (f4070 r0 5 _ g0 rfl)
                have q4102 : H4065 r0 5 = (rb : Int) := k4101.trans q4062
                refine wp_of e187 c187_107 (xc_V (pc' := 110) (r := r0) (as := [.ref 87, vI z4071, vI z4097]) (st := []) (lm_9_216) rfl rfl (Nat.le_of_ble_eq_true rfl) w4069 g0 sh_42 (by decide) rfl (by decide) (u_182_k (B := B) (n := n) (q := ((xN B n (xN B n ((xN B n (xN B n ((xN B n (xN B n ((xN B n ((xN B n q)))))))))))))) (kk := 655) (lo := (xV B n (xN B n (xN B n (xN B n (xN B n (xN B n (xN B n (xN B n q))))))) + 0)) (hi := (min (xV B n (xN B n (xN B n (xN B n (xN B n (xN B n (xN B n (xN B n q))))))) + 4) 12)) w4069 g0 rfl ⟨by omega, by omega⟩ ⟨by omega, by omega⟩ q4102 grb (by decide +kernel) (by omega) (by omega) a4079) (fun R4103 T4104 H4105 p4106 => ?_))
                obtain ⟨e4107, w4109, f4110, z4111, e4108, b4112, p4113⟩ := p4106
                subst e4107
                subst e4108
                rcases p4113 with ⟨a4114, a4115, a4116, a4117, a4118, a4119⟩ | ⟨a4120, a4121, a4122⟩ | ⟨a4123, a4124, a4125, a4126⟩
                · have f4127 := f4087.tr f4110 rfl
                  have f4128 := f4088.tr f4110 rfl
                  show wp _ _ 187 110 [(5, vI z4071), (4, vI z4042), (3, vI z4002), (1, vL (H3924 r0 15)), (0, .ref r0)] [vI z4111] _ H4105 _
                  have u4129 := RC_k a4119
                  refine wp_of e187 c187_110 (rw_istore (pc' := 112) (z := z4111) (L' := [(6, vI z4111), (5, vI z4071), (4, vI z4042), (3, vI z4002), (1, vL (H3924 r0 15)), (0, .ref r0)]) rfl rfl rfl ?_)
                  have hS : xl1 B n q d = xcs B n (xN B n (xN B n (xN B n (xN B n (xN B n (xN B n (xN B n (xN B n (xN B n (xN B n q)))))))))) := by
                    unfold xl1 xper xbd xrg
                    try simp only [xs_xs, xs_z]
                    repeat first | rw [xs_0 (by omega)] | rw [xs_1 (by omega)] | rw [if_pos (by omega)] | rw [if_neg (by omega)]
                    first | done | rfl
                  have h4130 : DM T H4105 rp r0 d := (DM_fr w4069 grp f4110 rfl (DM_fr w4040 grp f4070 rfl (DM_fr w4000 grp f4041 rfl (DM_fr w3985 grp f4001 rfl (DM_fr w3928 grp f3986 rfl h3959)))))
                  exact wp_lc (ks := [6, 5, 4, 3, 1, 0]) (wl_c rfl (wl_c rfl (wl_c rfl (wl_c rfl (wl_c rfl (wl_c rfl wl_n)))))) rfl (by decide) (u_187_k_t112k hW g0 qrp grp qrb grb p0 hRC_r0 hDM_rp (H3924 r0 15) z4002 z4042 z4071 z4111 H4105 w4109 f4128 ⟨by omega, by omega⟩ ⟨by omega, by omega⟩ ⟨by omega, by omega⟩ ⟨by omega, by omega⟩ ⟨by omega, by omega⟩ a4119 h4130 (hS) (by omega) (by omega) (by omega) (by omega) (by omega) (by omega) (by omega) (by omega) (by omega))
                · have f4131 := f4087.tr f4110 rfl
                  have f4132 := f4088.tr f4110 rfl
                  show wp _ _ 187 110 [(5, vI z4071), (4, vI z4042), (3, vI z4002), (1, vL (H3924 r0 15)), (0, .ref r0)] [vI z4111] _ H4105 _
                  have u4133 := RO_k a4122
                  refine wp_of e187 c187_110 (rw_istore (pc' := 112) (z := z4111) (L' := [(6, vI z4111), (5, vI z4071), (4, vI z4042), (3, vI z4002), (1, vL (H3924 r0 15)), (0, .ref r0)]) rfl rfl rfl ?_)
                  have o4134 : (xl1 B n q d) = (xw B n ((xN B n (xN B n ((xN B n (xN B n ((xN B n (xN B n ((xN B n ((xN B n q))))))))))))) 655, ((xN B n (xN B n ((xN B n (xN B n ((xN B n (xN B n ((xN B n ((xN B n q))))))))))))), ((xN B n (xN B n ((xN B n (xN B n ((xN B n (xN B n ((xN B n ((xN B n q)))))))))))))) := by
                    unfold xl1 xper xbd xcs xca xcb xrg
                    try simp only [xs_xs, xs_z]
                    try rw [_ea]
                    try rw [_eb]
                    try rw [_ec]
                    repeat first | rw [xs_0 (by omega)] | rw [xs_1 (by omega)] | rw [if_pos (by omega)] | rw [if_neg (by omega)]
                    first | done | rfl | assumption | (exfalso; omega) | (refine Prod.ext ?_ (Prod.ext ?_ ?_) <;> (try dsimp only) <;> omega)
                  have o4134a : ((xl1 B n q d)).1 = xw B n ((xN B n (xN B n ((xN B n (xN B n ((xN B n (xN B n ((xN B n ((xN B n q))))))))))))) 655 := by rw [o4134]
                  have o4134b : ((xl1 B n q d)).2.1 = ((xN B n (xN B n ((xN B n (xN B n ((xN B n (xN B n ((xN B n ((xN B n q))))))))))))) := by rw [o4134]
                  have o4134c : ((xl1 B n q d)).2.2 = ((xN B n (xN B n ((xN B n (xN B n ((xN B n (xN B n ((xN B n ((xN B n q))))))))))))) := by rw [o4134]
                  exact wp_lc (ks := [6, 5, 4, 3, 1, 0]) (wl_c rfl (wl_c rfl (wl_c rfl (wl_c rfl (wl_c rfl (wl_c rfl wl_n)))))) rfl (by decide) (u_187_k_t112o hW g0 qrp grp qrb grb p0 hRC_r0 hDM_rp (H3924 r0 15) z4002 z4042 z4071 z4111 H4105 (xw B n ((xN B n (xN B n ((xN B n (xN B n ((xN B n (xN B n ((xN B n ((xN B n q))))))))))))) 655) (((xN B n (xN B n ((xN B n (xN B n ((xN B n (xN B n ((xN B n ((xN B n q)))))))))))))) w4109 f4132 ⟨by omega, by omega⟩ ⟨by omega, by omega⟩ ⟨by omega, by omega⟩ ⟨by omega, by omega⟩ ⟨by omega, by omega⟩ a4122 (by omega) (by omega))
                · have f4135 := f4087.tr f4110 rfl
                  have f4136 := f4088.tr f4110 rfl
                  show wp _ _ 187 110 [(5, vI z4071), (4, vI z4042), (3, vI z4002), (1, vL (H3924 r0 15)), (0, .ref r0)] [vI z4111] _ H4105 _
                  have u4137 := RO_k a4126
                  refine wp_of e187 c187_110 (rw_istore (pc' := 112) (z := z4111) (L' := [(6, vI z4111), (5, vI z4071), (4, vI z4042), (3, vI z4002), (1, vL (H3924 r0 15)), (0, .ref r0)]) rfl rfl rfl ?_)
                  have o4138 : (xl1 B n q d) = (xh B n (xN B n ((xN B n (xN B n ((xN B n (xN B n ((xN B n (xN B n ((xN B n ((xN B n q)))))))))))))) (xV B n (xN B n (xN B n (xN B n (xN B n (xN B n (xN B n (xN B n q))))))) + 0) (min (xV B n (xN B n (xN B n (xN B n (xN B n (xN B n (xN B n (xN B n q))))))) + 4) 12), (xN B n ((xN B n (xN B n ((xN B n (xN B n ((xN B n (xN B n ((xN B n ((xN B n q)))))))))))))), (xN B n ((xN B n (xN B n ((xN B n (xN B n ((xN B n (xN B n ((xN B n ((xN B n q))))))))))))))) := by
                    unfold xl1 xper xbd xcs xca xcb xrg
                    try simp only [xs_xs, xs_z]
                    try rw [_ea]
                    try rw [_eb]
                    try rw [_ec]
                    repeat first | rw [xs_0 (by omega)] | rw [xs_1 (by omega)] | rw [if_pos (by omega)] | rw [if_neg (by omega)]
                    first | done | rfl | assumption | (exfalso; omega) | (refine Prod.ext ?_ (Prod.ext ?_ ?_) <;> (try dsimp only) <;> omega)
                  have o4138a : ((xl1 B n q d)).1 = xh B n (xN B n ((xN B n (xN B n ((xN B n (xN B n ((xN B n (xN B n ((xN B n ((xN B n q)))))))))))))) (xV B n (xN B n (xN B n (xN B n (xN B n (xN B n (xN B n (xN B n q))))))) + 0) (min (xV B n (xN B n (xN B n (xN B n (xN B n (xN B n (xN B n (xN B n q))))))) + 4) 12) := by rw [o4138]
                  have o4138b : ((xl1 B n q d)).2.1 = (xN B n ((xN B n (xN B n ((xN B n (xN B n ((xN B n (xN B n ((xN B n ((xN B n q)))))))))))))) := by rw [o4138]
                  have o4138c : ((xl1 B n q d)).2.2 = (xN B n ((xN B n (xN B n ((xN B n (xN B n ((xN B n (xN B n ((xN B n ((xN B n q)))))))))))))) := by rw [o4138]
                  exact wp_lc (ks := [6, 5, 4, 3, 1, 0]) (wl_c rfl (wl_c rfl (wl_c rfl (wl_c rfl (wl_c rfl (wl_c rfl wl_n)))))) rfl (by decide) (u_187_k_t112o hW g0 qrp grp qrb grb p0 hRC_r0 hDM_rp (H3924 r0 15) z4002 z4042 z4071 z4111 H4105 (xh B n (xN B n ((xN B n (xN B n ((xN B n (xN B n ((xN B n (xN B n ((xN B n ((xN B n q)))))))))))))) (xV B n (xN B n (xN B n (xN B n (xN B n (xN B n (xN B n (xN B n q))))))) + 0) (min (xV B n (xN B n (xN B n (xN B n (xN B n (xN B n (xN B n (xN B n q))))))) + 4) 12)) ((xN B n ((xN B n (xN B n ((xN B n (xN B n ((xN B n (xN B n ((xN B n ((xN B n q))))))))))))))) w4109 f4136 ⟨by omega, by omega⟩ ⟨by omega, by omega⟩ ⟨by omega, by omega⟩ ⟨by omega, by omega⟩ ⟨by omega, by omega⟩ a4126 (by omega) (by omega))
              · have f4139 := f4058.tr f4070 rfl
                have f4140 := f4059.tr f4070 rfl
                show wp _ _ 187 91 [(4, vI z4042), (3, vI z4002), (1, vL (H3924 r0 15)), (0, .ref r0)] [vI z4071] _ H4065 _
                have u4141 := RO_k a4082
                refine wp_of e187 c187_91 (rw_istore (pc' := 93) (z := z4071) (L' := [(5, vI z4071), (4, vI z4042), (3, vI z4002), (1, vL (H3924 r0 15)), (0, .ref r0)]) rfl rfl rfl ?_)
                have o4142 : (xl1 B n q d) = (xw B n ((xN B n (xN B n ((xN B n (xN B n ((xN B n ((xN B n q)))))))))) 409031, ((xN B n (xN B n ((xN B n (xN B n ((xN B n ((xN B n q)))))))))), ((xN B n (xN B n ((xN B n (xN B n ((xN B n ((xN B n q))))))))))) := by
                  unfold xl1 xper xbd xcs xca xcb xrg
                  try simp only [xs_xs, xs_z]
                  try rw [_ea]
                  try rw [_eb]
                  try rw [_ec]
                  repeat first | rw [xs_0 (by omega)] | rw [xs_1 (by omega)] | rw [if_pos (by omega)] | rw [if_neg (by omega)]
                  first | done | rfl | assumption | (exfalso; omega) | (refine Prod.ext ?_ (Prod.ext ?_ ?_) <;> (try dsimp only) <;> omega)
                have o4142a : ((xl1 B n q d)).1 = xw B n ((xN B n (xN B n ((xN B n (xN B n ((xN B n ((xN B n q)))))))))) 409031 := by rw [o4142]
                have o4142b : ((xl1 B n q d)).2.1 = ((xN B n (xN B n ((xN B n (xN B n ((xN B n ((xN B n q)))))))))) := by rw [o4142]
                have o4142c : ((xl1 B n q d)).2.2 = ((xN B n (xN B n ((xN B n (xN B n ((xN B n ((xN B n q)))))))))) := by rw [o4142]
                exact wp_lc (ks := [5, 4, 3, 1, 0]) (wl_c rfl (wl_c rfl (wl_c rfl (wl_c rfl (wl_c rfl wl_n))))) rfl (by decide) (u_187_k_t93o hW g0 qrp grp qrb grb p0 hRC_r0 hDM_rp (H3924 r0 15) z4002 z4042 z4071 H4065 (xw B n ((xN B n (xN B n ((xN B n (xN B n ((xN B n ((xN B n q)))))))))) 409031) (((xN B n (xN B n ((xN B n (xN B n ((xN B n ((xN B n q))))))))))) w4069 f4140 ⟨by omega, by omega⟩ ⟨by omega, by omega⟩ ⟨by omega, by omega⟩ ⟨by omega, by omega⟩ a4082 (by omega) (by omega))
              · have f4143 := f4058.tr f4070 rfl
                have f4144 := f4059.tr f4070 rfl
                show wp _ _ 187 91 [(4, vI z4042), (3, vI z4002), (1, vL (H3924 r0 15)), (0, .ref r0)] [vI z4071] _ H4065 _
                have u4145 := RO_k a4086
                refine wp_of e187 c187_91 (rw_istore (pc' := 93) (z := z4071) (L' := [(5, vI z4071), (4, vI z4042), (3, vI z4002), (1, vL (H3924 r0 15)), (0, .ref r0)]) rfl rfl rfl ?_)
                have o4146 : (xl1 B n q d) = (xh B n (xN B n ((xN B n (xN B n ((xN B n (xN B n ((xN B n ((xN B n q))))))))))) 0 12, (xN B n ((xN B n (xN B n ((xN B n (xN B n ((xN B n ((xN B n q))))))))))), (xN B n ((xN B n (xN B n ((xN B n (xN B n ((xN B n ((xN B n q)))))))))))) := by
                  unfold xl1 xper xbd xcs xca xcb xrg
                  try simp only [xs_xs, xs_z]
                  try rw [_ea]
                  try rw [_eb]
                  try rw [_ec]
                  repeat first | rw [xs_0 (by omega)] | rw [xs_1 (by omega)] | rw [if_pos (by omega)] | rw [if_neg (by omega)]
                  first | done | rfl | assumption | (exfalso; omega) | (refine Prod.ext ?_ (Prod.ext ?_ ?_) <;> (try dsimp only) <;> omega)
                have o4146a : ((xl1 B n q d)).1 = xh B n (xN B n ((xN B n (xN B n ((xN B n (xN B n ((xN B n ((xN B n q))))))))))) 0 12 := by rw [o4146]
                have o4146b : ((xl1 B n q d)).2.1 = (xN B n ((xN B n (xN B n ((xN B n (xN B n ((xN B n ((xN B n q))))))))))) := by rw [o4146]
                have o4146c : ((xl1 B n q d)).2.2 = (xN B n ((xN B n (xN B n ((xN B n (xN B n ((xN B n ((xN B n q))))))))))) := by rw [o4146]
                exact wp_lc (ks := [5, 4, 3, 1, 0]) (wl_c rfl (wl_c rfl (wl_c rfl (wl_c rfl (wl_c rfl wl_n))))) rfl (by decide) (u_187_k_t93o hW g0 qrp grp qrb grb p0 hRC_r0 hDM_rp (H3924 r0 15) z4002 z4042 z4071 H4065 (xh B n (xN B n ((xN B n (xN B n ((xN B n (xN B n ((xN B n ((xN B n q))))))))))) 0 12) ((xN B n ((xN B n (xN B n ((xN B n (xN B n ((xN B n ((xN B n q)))))))))))) w4069 f4144 ⟨by omega, by omega⟩ ⟨by omega, by omega⟩ ⟨by omega, by omega⟩ ⟨by omega, by omega⟩ a4086 (by omega) (by omega))
            · have f4147 := f4018.tr f4041 rfl
              have f4148 := f4019.tr f4041 rfl
              show wp _ _ 187 80 [(3, vI z4002), (1, vL (H3924 r0 15)), (0, .ref r0)] [vI z4042] _ H4036 _
              have u4149 := RO_k a4053
              refine wp_of e187 c187_80 (rw_istore (pc' := 82) (z := z4042) (L' := [(4, vI z4042), (3, vI z4002), (1, vL (H3924 r0 15)), (0, .ref r0)]) rfl rfl rfl ?_)
              have o4150 : (xl1 B n q d) = (xw B n ((xN B n (xN B n ((xN B n ((xN B n q))))))) 655, ((xN B n (xN B n ((xN B n ((xN B n q))))))), ((xN B n (xN B n ((xN B n ((xN B n q)))))))) := by
                unfold xl1 xper xbd xcs xca xcb xrg
                try simp only [xs_xs, xs_z]
                try rw [_ea]
                try rw [_eb]
                try rw [_ec]
                repeat first | rw [xs_0 (by omega)] | rw [xs_1 (by omega)] | rw [if_pos (by omega)] | rw [if_neg (by omega)]
                first | done | rfl | assumption | (exfalso; omega) | (refine Prod.ext ?_ (Prod.ext ?_ ?_) <;> (try dsimp only) <;> omega)
              have o4150a : ((xl1 B n q d)).1 = xw B n ((xN B n (xN B n ((xN B n ((xN B n q))))))) 655 := by rw [o4150]
              have o4150b : ((xl1 B n q d)).2.1 = ((xN B n (xN B n ((xN B n ((xN B n q))))))) := by rw [o4150]
              have o4150c : ((xl1 B n q d)).2.2 = ((xN B n (xN B n ((xN B n ((xN B n q))))))) := by rw [o4150]
              exact wp_lc (ks := [4, 3, 1, 0]) (wl_c rfl (wl_c rfl (wl_c rfl (wl_c rfl wl_n)))) rfl (by decide) (u_187_k_t82o hW g0 qrp grp qrb grb p0 hRC_r0 hDM_rp (H3924 r0 15) z4002 z4042 H4036 (xw B n ((xN B n (xN B n ((xN B n ((xN B n q))))))) 655) (((xN B n (xN B n ((xN B n ((xN B n q)))))))) w4040 f4148 ⟨by omega, by omega⟩ ⟨by omega, by omega⟩ ⟨by omega, by omega⟩ a4053 (by omega) (by omega))
            · have f4151 := f4018.tr f4041 rfl
              have f4152 := f4019.tr f4041 rfl
              show wp _ _ 187 80 [(3, vI z4002), (1, vL (H3924 r0 15)), (0, .ref r0)] [vI z4042] _ H4036 _
              have u4153 := RO_k a4057
              refine wp_of e187 c187_80 (rw_istore (pc' := 82) (z := z4042) (L' := [(4, vI z4042), (3, vI z4002), (1, vL (H3924 r0 15)), (0, .ref r0)]) rfl rfl rfl ?_)
              have o4154 : (xl1 B n q d) = (xh B n (xN B n ((xN B n (xN B n ((xN B n ((xN B n q)))))))) (xV B n (xN B n (xN B n (xN B n q))) + 0) (min (xV B n (xN B n (xN B n (xN B n q))) + 7) 23), (xN B n ((xN B n (xN B n ((xN B n ((xN B n q)))))))), (xN B n ((xN B n (xN B n ((xN B n ((xN B n q))))))))) := by
                unfold xl1 xper xbd xcs xca xcb xrg
                try simp only [xs_xs, xs_z]
                try rw [_ea]
                try rw [_eb]
                try rw [_ec]
                repeat first | rw [xs_0 (by omega)] | rw [xs_1 (by omega)] | rw [if_pos (by omega)] | rw [if_neg (by omega)]
                first | done | rfl | assumption | (exfalso; omega) | (refine Prod.ext ?_ (Prod.ext ?_ ?_) <;> (try dsimp only) <;> omega)
              have o4154a : ((xl1 B n q d)).1 = xh B n (xN B n ((xN B n (xN B n ((xN B n ((xN B n q)))))))) (xV B n (xN B n (xN B n (xN B n q))) + 0) (min (xV B n (xN B n (xN B n (xN B n q))) + 7) 23) := by rw [o4154]
              have o4154b : ((xl1 B n q d)).2.1 = (xN B n ((xN B n (xN B n ((xN B n ((xN B n q)))))))) := by rw [o4154]
              have o4154c : ((xl1 B n q d)).2.2 = (xN B n ((xN B n (xN B n ((xN B n ((xN B n q)))))))) := by rw [o4154]
              exact wp_lc (ks := [4, 3, 1, 0]) (wl_c rfl (wl_c rfl (wl_c rfl (wl_c rfl wl_n)))) rfl (by decide) (u_187_k_t82o hW g0 qrp grp qrb grb p0 hRC_r0 hDM_rp (H3924 r0 15) z4002 z4042 H4036 (xh B n (xN B n ((xN B n (xN B n ((xN B n ((xN B n q)))))))) (xV B n (xN B n (xN B n (xN B n q))) + 0) (min (xV B n (xN B n (xN B n (xN B n q))) + 7) 23)) ((xN B n ((xN B n (xN B n ((xN B n ((xN B n q))))))))) w4040 f4152 ⟨by omega, by omega⟩ ⟨by omega, by omega⟩ ⟨by omega, by omega⟩ a4057 (by omega) (by omega))
          · have f4155 := f3989.tr f4001 rfl
            have f4156 := f3990.tr f4001 rfl
            show wp _ _ 187 63 [(1, vL (H3924 r0 15)), (0, .ref r0)] [vI z4002] _ H3996 _
            have u4157 := RO_k a4013
            refine wp_of e187 c187_63 (rw_istore_n (pc' := 64) (z := z4002) (L' := [(3, vI z4002), (1, vL (H3924 r0 15)), (0, .ref r0)]) rfl rfl rfl ?_)
            have o4158 : (xl1 B n q d) = (xw B n ((xN B n ((xN B n q)))) 2212, ((xN B n ((xN B n q)))), ((xN B n ((xN B n q))))) := by
              unfold xl1 xper xbd xcs xca xcb xrg
              try simp only [xs_xs, xs_z]
              try rw [_ea]
              try rw [_eb]
              try rw [_ec]
              repeat first | rw [xs_0 (by omega)] | rw [xs_1 (by omega)] | rw [if_pos (by omega)] | rw [if_neg (by omega)]
              first | done | rfl | assumption | (exfalso; omega) | (refine Prod.ext ?_ (Prod.ext ?_ ?_) <;> (try dsimp only) <;> omega)
            have o4158a : ((xl1 B n q d)).1 = xw B n ((xN B n ((xN B n q)))) 2212 := by rw [o4158]
            have o4158b : ((xl1 B n q d)).2.1 = ((xN B n ((xN B n q)))) := by rw [o4158]
            have o4158c : ((xl1 B n q d)).2.2 = ((xN B n ((xN B n q)))) := by rw [o4158]
            exact wp_lc (ks := [3, 1, 0]) (wl_c rfl (wl_c rfl (wl_c rfl wl_n))) rfl (by decide) (u_187_k_t64o hW g0 qrp grp qrb grb p0 hRC_r0 hDM_rp (H3924 r0 15) z4002 H3996 (xw B n ((xN B n ((xN B n q)))) 2212) (((xN B n ((xN B n q))))) w4000 f4156 ⟨by omega, by omega⟩ ⟨by omega, by omega⟩ a4013 (by omega) (by omega))
          · have f4159 := f3989.tr f4001 rfl
            have f4160 := f3990.tr f4001 rfl
            show wp _ _ 187 63 [(1, vL (H3924 r0 15)), (0, .ref r0)] [vI z4002] _ H3996 _
            have u4161 := RO_k a4017
            refine wp_of e187 c187_63 (rw_istore_n (pc' := 64) (z := z4002) (L' := [(3, vI z4002), (1, vL (H3924 r0 15)), (0, .ref r0)]) rfl rfl rfl ?_)
            have o4162 : (xl1 B n q d) = (xh B n (xN B n ((xN B n ((xN B n q))))) 0 23, (xN B n ((xN B n ((xN B n q))))), (xN B n ((xN B n ((xN B n q)))))) := by
              unfold xl1 xper xbd xcs xca xcb xrg
              try simp only [xs_xs, xs_z]
              try rw [_ea]
              try rw [_eb]
              try rw [_ec]
              repeat first | rw [xs_0 (by omega)] | rw [xs_1 (by omega)] | rw [if_pos (by omega)] | rw [if_neg (by omega)]
              first | done | rfl | assumption | (exfalso; omega) | (refine Prod.ext ?_ (Prod.ext ?_ ?_) <;> (try dsimp only) <;> omega)
            have o4162a : ((xl1 B n q d)).1 = xh B n (xN B n ((xN B n ((xN B n q))))) 0 23 := by rw [o4162]
            have o4162b : ((xl1 B n q d)).2.1 = (xN B n ((xN B n ((xN B n q))))) := by rw [o4162]
            have o4162c : ((xl1 B n q d)).2.2 = (xN B n ((xN B n ((xN B n q))))) := by rw [o4162]
            exact wp_lc (ks := [3, 1, 0]) (wl_c rfl (wl_c rfl (wl_c rfl wl_n))) rfl (by decide) (u_187_k_t64o hW g0 qrp grp qrb grb p0 hRC_r0 hDM_rp (H3924 r0 15) z4002 H3996 (xh B n (xN B n ((xN B n ((xN B n q))))) 0 23) ((xN B n ((xN B n ((xN B n q)))))) w4000 f4160 ⟨by omega, by omega⟩ ⟨by omega, by omega⟩ a4017 (by omega) (by omega))
        · refine wp_of e187 c187_40 (rw_aload_n (pc' := 41) (v := .ref r0) rfl rfl rfl ?_)
          refine wp_of e187 c187_41 (rw_iconst (pc' := 42) rfl ?_)
          refine wp_of e187 c187_42 (xc_V (pc' := 45) (r := r0) (as := [vI 3]) (st := []) (lm_9_121) rfl rfl (Nat.le_of_ble_eq_true rfl) w3928 g0 sh_42 (by decide) rfl (by decide) (u_181_k (B := B) (n := n) (q := ((xN B n q))) w3928 g0 ⟨by omega, by omega⟩ (by omega) a3932) (fun R4163 T4164 H4165 p4166 => ?_))
          obtain ⟨e4167, w4169, f4170, e4168, p4171⟩ := p4166
          subst e4167
          subst e4168
          have f4173 := f3935.tr f4170 rfl
          have f4174 := f3936.tr f4170 rfl
          show wp _ _ 187 45 [(0, .ref r0)] [] _ H4165 _
          have u4175 := RO_k p4171
          have o4176 : (xl1 B n q d) = (xnm B n (xN B n q) d, (xN B n q), (xN B n q)) := by
            unfold xl1 xper xbd xcs xca xcb xrg
            try simp only [xs_xs, xs_z]
            try rw [_ea]
            try rw [_eb]
            try rw [_ec]
            repeat first | rw [xs_0 (by omega)] | rw [xs_1 (by omega)] | rw [if_pos (by omega)] | rw [if_neg (by omega)]
            first | done | rfl | assumption | (exfalso; omega) | (refine Prod.ext ?_ (Prod.ext ?_ ?_) <;> (try dsimp only) <;> omega)
          have o4176a : ((xl1 B n q d)).1 = xnm B n (xN B n q) d := by rw [o4176]
          have o4176b : ((xl1 B n q d)).2.1 = (xN B n q) := by rw [o4176]
          have o4176c : ((xl1 B n q d)).2.2 = (xN B n q) := by rw [o4176]
          exact wp_lc (ks := [0]) (wl_c rfl wl_n) rfl (by decide) (u_187_k_t45o hW g0 qrp grp qrb grb p0 hRC_r0 hDM_rp H4165 3 (((xN B n q))) w4169 f4174 p4171 (by omega) (by omega))
      · exfalso
        omega
    · show wp _ _ 187 17 [(0, .ref r0)] [vI z3945] _ H3924 _
      refine wp_of e187 c187_17 (rw_if_ne (p1 := 25) (p2 := 20) (by decide) rfl ⟨by omega, by omega⟩ (fun c4177 => ?_) (fun c4177 => ?_))
      · exfalso
        omega
      · refine wp_of e187 c187_20 (rw_aload_n (pc' := 21) (v := .ref r0) rfl rfl rfl ?_)
        refine wp_of e187 c187_21 (rw_iconst (pc' := 22) rfl ?_)
        refine wp_of e187 c187_22 (xc_V (pc' := 25) (r := r0) (as := [vI 1]) (st := []) (lm_9_121) rfl rfl (Nat.le_of_ble_eq_true rfl) w3928 g0 sh_42 (by decide) rfl (by decide) (u_181_k (B := B) (n := n) (q := ((xN B n q))) w3928 g0 ⟨by omega, by omega⟩ (by omega) a3932) (fun R4178 T4179 H4180 p4181 => ?_))
        obtain ⟨e4182, w4184, f4185, e4183, p4186⟩ := p4181
        subst e4182
        subst e4183
        have f4188 := f3935.tr f4185 rfl
        have f4189 := f3936.tr f4185 rfl
        show wp _ _ 187 25 [(0, .ref r0)] [] _ H4180 _
        have u4190 := RO_k p4186
        have o4191 : (xl1 B n q d) = (xnm B n (xN B n q) d, (xN B n q), (xN B n q)) := by
          unfold xl1 xper xbd xcs xca xcb xrg
          try simp only [xs_xs, xs_z]
          try rw [_ea]
          try rw [_eb]
          try rw [_ec]
          repeat first | rw [xs_0 (by omega)] | rw [xs_1 (by omega)] | rw [if_pos (by omega)] | rw [if_neg (by omega)]
          first | done | rfl | assumption | (exfalso; omega) | (refine Prod.ext ?_ (Prod.ext ?_ ?_) <;> (try dsimp only) <;> omega)
        have o4191a : ((xl1 B n q d)).1 = xnm B n (xN B n q) d := by rw [o4191]
        have o4191b : ((xl1 B n q d)).2.1 = (xN B n q) := by rw [o4191]
        have o4191c : ((xl1 B n q d)).2.2 = (xN B n q) := by rw [o4191]
        exact wp_lc (ks := [0]) (wl_c rfl wl_n) rfl (by decide) (u_187_k_t25o hW g0 qrp grp qrb grb p0 hRC_r0 hDM_rp H4180 1 (((xN B n q))) w4184 f4189 p4186 (by omega) (by omega))
  · have f4192 := f0.tr f3929 rfl
    have f4193 := f0s.tr f3929 rfl
    show wp _ _ 187 13 [(0, .ref r0)] [] _ H3924 _
    have u4194 := RO_k a3934
    refine wp_of e187 c187_13 (rw_aload_n (pc' := 14) (v := .ref r0) rfl rfl rfl ?_)
    refine wp_of e187 c187_14 (xc_V (pc' := 17) (r := r0) (as := []) (st := []) (lm_9_162) rfl rfl (Nat.le_of_ble_eq_true rfl) w3928 g0 sh_42 (by decide) rfl (by decide) (u_189_o (fo := 5) (po := q) w3928 g0 a3934) (fun R4195 T4196 H4197 p4198 => ?_))
    obtain ⟨e4199, e4201, z4202, e4200, b4203, p4204⟩ := p4198
    subst e4199
    subst e4200
    subst e4201
    show wp _ _ 187 17 [(0, .ref r0)] [vI z4202] _ H3924 _
    refine wp_of e187 c187_17 (rw_if_ne (p1 := 25) (p2 := 20) (by decide) rfl ⟨by omega, by omega⟩ (fun c4206 => ?_) (fun c4206 => ?_))
    · exfalso
      omega
    · refine wp_of e187 c187_20 (rw_aload_n (pc' := 21) (v := .ref r0) rfl rfl rfl ?_)
      refine wp_of e187 c187_21 (rw_iconst (pc' := 22) rfl ?_)
      refine wp_of e187 c187_22 (xc_V (pc' := 25) (r := r0) (as := [vI 1]) (st := []) (lm_9_121) rfl rfl (Nat.le_of_ble_eq_true rfl) w3928 g0 sh_42 (by decide) rfl (by decide) (u_181_o (fo := 5) (po := q) w3928 g0 ⟨by omega, by omega⟩ a3934) (fun R4207 T4208 H4209 p4210 => ?_))
      obtain ⟨e4211, e4213, e4212, p4214⟩ := p4210
      subst e4211
      subst e4212
      subst e4213
      show wp _ _ 187 25 [(0, .ref r0)] [] _ H3924 _
      have u4216 := RO_k p4214
      have o4217 : (xl1 B n q d) = (5, q, q) := by
        unfold xl1 xper xbd xcs xca xcb xrg
        try simp only [xs_xs, xs_z]
        try rw [_ea]
        try rw [_eb]
        try rw [_ec]
        repeat first | rw [xs_0 (by omega)] | rw [xs_1 (by omega)] | rw [if_pos (by omega)] | rw [if_neg (by omega)]
        first | done | rfl | assumption | (exfalso; omega) | (refine Prod.ext ?_ (Prod.ext ?_ ?_) <;> (try dsimp only) <;> omega)
      have o4217a : ((xl1 B n q d)).1 = 5 := by rw [o4217]
      have o4217b : ((xl1 B n q d)).2.1 = q := by rw [o4217]
      have o4217c : ((xl1 B n q d)).2.2 = q := by rw [o4217]
      exact wp_lc (ks := [0]) (wl_c rfl wl_n) rfl (by decide) (u_187_k_t25o hW g0 qrp grp qrb grb p0 hRC_r0 hDM_rp H3924 5 q w3928 f4193 p4214 (by omega) (by omega))
