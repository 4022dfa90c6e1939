/-! what methods do (own work, written by wip/gen3/sx3.py) -/
/-! StrikeAwakeModel.readPerson()V k -/
abbrev uq_187_k (r0 : Nat) (rp : Nat) (rb : Nat) (B : Nat → Int) (n : Int) (q : Int) (d : xD) (N0 : Nat) (H0 : wq_H) (T : wq_T) (H : wq_H) : Option Value → wq_T → wq_H → Prop := fun r T' H' => T = T' ∧ WT T H' ∧ wfr [(54, 3), (42, 8), (42, 9), (42, 10), (42, 11), (42, 12), (42, 13), (42, 14), (42, 15), (56, 999), (57, 999), (60, 999), (63, 999), (58, 999), (59, 999), (55, 999), (61, 999), (62, 999)] T H H' ∧ none = r ∧ ((((xl1 B n q d).1 = 0) ∧ (q ≤ (xl1 B n q d).2.2) ∧ (∀ a, a ≠ rp → T.2.2.2 a = some 54 → H' a 3 = H a 3) ∧ RC T H' r0 B n (xl1 B n q d).2.2 ∧ DM T H' rp r0 (xdper B n (xN B n q) d) ∧ FZ T H' rp N0 H0) ∨ (((xl1 B n q d).1 ≠ 0) ∧ (∀ a, a ≠ rp → T.2.2.2 a = some 54 → H' a 3 = H a 3) ∧ RO T H' r0 ((xl1 B n q d).1) ((xl1 B n q d).2.1) ∧ FZ T H' rp N0 H0))
set_option maxHeartbeats 60000000 in
theorem u_187_k_t200k {kt : Nat → Option mc_E} {T : wq_T} {H : wq_H} {r0 : Nat} {rp : Nat} {rb : Nat} {B : Nat → Int} {n : Int} {q : Int} {d : xD} {N0 : Nat} {H0 : wq_H} (hW : WT T H) (g0 : T.2.2.2 r0 = some 42) (qrp : H r0 4 = (rp : Int)) (grp : T.2.2.2 rp = some 54) (qrb : H r0 5 = (rb : Int)) (grb : T.2.2.2 rb = some 43) (p0 : xK B n q = 1) (hRC_r0 : RC T H r0 B n q) (hDM_rp : DM T H rp r0 d) (hFZ_rp : FZ T H rp N0 H0) : ∀ (v3781 : Int) (v3782 : Int) (v3783 : Int) (v3784 : Int) (v3785 : Int) (v3786 : Int) (v3787 : Int) (v3788 : Int) (v3789 : Int) (H3790 : wq_H), WT T H3790 → wfr [(42, 8), (42, 9), (42, 10), (42, 11), (42, 12), (42, 13), (42, 14), (42, 15)] T H H3790 → ((-9223372036854775808) ≤ v3781 ∧ v3781 ≤ 9223372036854775807) → (0 ≤ v3782 ∧ v3782 ≤ 23) → (0 ≤ v3783 ∧ v3783 ≤ 30) → (0 ≤ v3784 ∧ v3784 ≤ 12) → (0 ≤ v3785 ∧ v3785 ≤ 16) → ((-1) ≤ v3786 ∧ v3786 ≤ 23) → (0 ≤ v3787 ∧ v3787 ≤ 23) → (0 ≤ v3788 ∧ v3788 ≤ 24) → (0 ≤ v3789 ∧ v3789 ≤ 1) → RC T H3790 r0 B n (xl1 B n q d).2.2 → DM T H3790 rp r0 d → FZ T H3790 rp N0 H0 → ((xl1 B n q d).1 = 0) → (q ≤ (xl1 B n q d).2.2) → (v3781 = xY B n (xN B n q)) → (v3782 = xV B n (xN B n (xN B n (xN B n q)))) → (v3783 = xV B n (xN B n (xN B n (xN B n (xN B n (xN B n q)))))) → (v3784 = xV B n (xN B n (xN B n (xN B n (xN B n (xN B n (xN B n (xN B n q)))))))) → (v3785 = xV B n (xN B n (xN B n (xN B n (xN B n (xN B n (xN B n (xN B n (xN B n (xN B n q)))))))))) → (v3782 ≤ v3783 ∧ v3783 ≤ v3782 + 7 ∧ v3783 ≤ 23) → (v3784 ≤ v3785 ∧ v3785 ≤ v3784 + 4 ∧ v3785 ≤ 12) → (v3787 ≤ v3788) → (xhb B n (xN B n (xN B n (xN B n (xN B n (xN B n (xN B n (xN B n (xN B n (xN B n (xN B n q)))))))))) = v3786) → (xnf B n (xqa B n (xN B n (xN B n (xN B n (xN B n (xN B n (xN B n (xN B n (xN B n (xN B n (xN B n q))))))))))) = v3787) → (xnt B n (xqa B n (xN B n (xN B n (xN B n (xN B n (xN B n (xN B n (xN B n (xN B n (xN B n (xN B n q))))))))))) = v3788) → (xaw B n (xqb B n (xqa B n (xN B n (xN B n (xN B n (xN B n (xN B n (xN B n (xN B n (xN B n (xN B n (xN B n q)))))))))))) = v3789) → (d 0 3 ≤ 5) → wp kt 4 187 200 [(0, .ref r0), (1, vL v3781), (3, vI v3782), (4, vI v3783), (5, vI v3784), (6, vI v3785), (7, vI v3786), (9, vI v3787), (10, vI v3788), (11, vI v3789)] [] T H3790 (uq_187_k r0 rp rb B n q d N0 H0 T H) := by
  have f0 : wfr [(54, 3), (42, 8), (42, 9), (42, 10), (42, 11), (42, 12), (42, 13), (42, 14), (42, 15), (56, 999), (57, 999), (60, 999), (63, 999), (58, 999), (59, 999), (55, 999), (61, 999), (62, 999)] T H H := wfr.rf
  have u3762 := RC_k hRC_r0
  have u3763 := DM_k hDM_rp
  have h3764 : MA9 T H rp (d 1) := hDM_rp.2.2.2.1
  have h3765 : MA10 T H rp (d 2) := hDM_rp.2.2.2.2.1
  have h3766 : MA11 T H rp (d 3) := hDM_rp.2.2.2.2.2.1
  have h3767 : MA12 T H rp (d 4) := hDM_rp.2.2.2.2.2.2.1
  have h3768 : MA13 T H rp (d 5) := hDM_rp.2.2.2.2.2.2.2.1
  have h3769 : MA14 T H rp (d 6) := hDM_rp.2.2.2.2.2.2.2.2.1
  have h3770 : MA15 T H rp (d 7) := hDM_rp.2.2.2.2.2.2.2.2.2.1
  have h3771 : MA16 T H rp (d 8) := hDM_rp.2.2.2.2.2.2.2.2.2.2.1
  have h3772 : MA17 T H rp (d 9) := hDM_rp.2.2.2.2.2.2.2.2.2.2.2.1
  have h3773 : MA18 T H rp (d 10) := hDM_rp.2.2.2.2.2.2.2.2.2.2.2.2.1
  have h3774 : MA19 T H rp (d 11) := hDM_rp.2.2.2.2.2.2.2.2.2.2.2.2.2.1
  have h3775 : MA20 T H rp (d 12) := hDM_rp.2.2.2.2.2.2.2.2.2.2.2.2.2.2.1
  have h3776 : MA21 T H rp (d 13) := hDM_rp.2.2.2.2.2.2.2.2.2.2.2.2.2.2.2.1
  have h3777 : MA22 T H rp (d 14) := hDM_rp.2.2.2.2.2.2.2.2.2.2.2.2.2.2.2.2.1
  have h3778 : MA23 T H rp (d 15) := hDM_rp.2.2.2.2.2.2.2.2.2.2.2.2.2.2.2.2.2.1
  have h3779 : MA25 T H rp (d 17) := hDM_rp.2.2.2.2.2.2.2.2.2.2.2.2.2.2.2.2.2.2.1
  have h3780 : MA26 T H rp (d 16) := hDM_rp.2.2.2.2.2.2.2.2.2.2.2.2.2.2.2.2.2.2.2
  intro v3781 v3782 v3783 v3784 v3785 v3786 v3787 v3788 v3789 H3790 w3791 f3792 b3794 b3795 b3796 b3797 b3798 b3799 b3800 b3801 b3802 h3803 h3804 h3805 x3806 x3807 x3808 x3809 x3810 x3811 x3812 x3813 x3814 x3815 x3816 x3817 x3818 x3819 x3820
  have f3821 : wfr [(54, 3), (42, 8), (42, 9), (42, 10), (42, 11), (42, 12), (42, 13), (42, 14), (42, 15), (56, 999), (57, 999), (60, 999), (63, 999), (58, 999), (59, 999), (55, 999), (61, 999), (62, 999)] T H H3790 := wfr.rf.tr f3792 rfl
  have u3822 := RC_k h3803
  have u3823 := DM_k h3804
  refine wp_of e187 c187_200 (rw_aload_n (pc' := 201) (v := .ref r0) rfl rfl rfl ?_)
  have k3824 : H3790 r0 4 = H r0 4 := (f3792 r0 4 _ g0 rfl)
  have q3825 : H3790 r0 4 = (rp : Int) := k3824.trans qrp
  refine wp_of e187 c187_201 (xg_K (pc' := 204) lf_9_166 w3791 g0 sh_42 (by decide) (by decide) rfl q3825 rfl ?_)
  refine wp_of e187 c187_204 (xg_I (pc' := 207) lf_9_188 w3791 grp sh_54 (by decide) (by decide) ty_54_3 rfl rfl (fun b3826 b3827 => ?_))
  refine wp_of e187 c187_207 (rw_istore (pc' := 209) (z := H3790 rp 3) (L' := [(12, vI (H3790 rp 3)), (0, .ref r0), (1, vL v3781), (3, vI v3782), (4, vI v3783), (5, vI v3784), (6, vI v3785), (7, vI v3786), (9, vI v3787), (10, vI v3788), (11, vI v3789)]) rfl rfl rfl ?_)
  have _k := @xdper_k ((H3790 rp 3)).toNat d B n (xN B n q) (by omega)
  refine wp_of e187 c187_209 (rw_aload_n (pc' := 210) (v := .ref r0) rfl rfl rfl ?_)
  refine wp_of e187 c187_210 (xg_K (pc' := 213) lf_9_166 w3791 g0 sh_42 (by decide) (by decide) rfl q3825 rfl ?_)
  refine wp_of e187 c187_213 (xg_R (pc' := 216) lf_9_243 w3791 grp sh_54 (by decide) (by decide) ty_54_9 rfl rfl (fun r3828 q3829 g3830 => ?_))
  refine wp_of e187 c187_216 (rw_iload (pc' := 218) (z := H3790 rp 3) rfl rfl ?_)
  refine wp_of e187 c187_218 (rw_lload_n (pc' := 219) (z := v3781) rfl rfl ?_)
  have h3831 : MA9 T H3790 rp (d 1) := (MA9_fr hW grp f3792 rfl h3764)
  refine wp_of e187 c187_219 (xs_L (pc' := 220) w3791 g3830 (by decide) sh_55 (by decide) (ty_55 _) (by omega) (by omega) ⟨by omega, by omega⟩ (b3826) (by omega) rfl (fun H3832 e3833 w3834 => ?_))
  have f3835 := f3821.put' e3833 g3830 rfl
  have h3836 : MA9 T H3832 rp (xdper B n (xN B n q) d 1) := MA_put h3831 q3829 grp g3830 (by decide) e3833 (by omega) (fun j hj => xdper_n (k := ((H3790 rp 3).toNat)) (by omega) (by omega) hj)
  have h3837 : FZ T H3832 rp N0 H0 := FZ_st h3805 q3829 (by decide) (by decide) grp g3830 (by decide) e3833
  refine wp_of e187 c187_220 (rw_aload_n (pc' := 221) (v := .ref r0) rfl rfl rfl ?_)
  have k3838 : H3832 r0 4 = H3790 r0 4 := (wq_u_t e3833 g3830 g0 rfl 4)
  have q3839 : H3832 r0 4 = (rp : Int) := k3838.trans q3825
  refine wp_of e187 c187_221 (xg_K (pc' := 224) lf_9_166 w3834 g0 sh_42 (by decide) (by decide) rfl q3839 rfl ?_)
  refine wp_of e187 c187_224 (xg_R (pc' := 227) lf_9_247 w3834 grp sh_54 (by decide) (by decide) ty_54_10 rfl rfl (fun r3840 q3841 g3842 => ?_))
  refine wp_of e187 c187_227 (rw_iload (pc' := 229) (z := H3790 rp 3) rfl rfl ?_)
  refine wp_of e187 c187_229 (rw_iload_n (pc' := 230) (z := v3782) rfl rfl ?_)
  have h3843 : MA10 T H3832 rp (d 2) := (MA10_fr w3791 grp ((wfr.rf (l := [(55, 999)])).put' e3833 g3830 rfl) rfl (MA10_fr hW grp f3792 rfl h3765))
  refine wp_of e187 c187_230 (xs_I (pc' := 231) w3834 g3842 (by decide) sh_56 (by decide) (ty_56 _) (by omega) (by omega) ⟨by omega, by omega⟩ (b3826) (by omega) rfl (fun H3844 e3845 w3846 => ?_))
  have f3847 := f3835.put' e3845 g3842 rfl
  have h3848 : MA10 T H3844 rp (xdper B n (xN B n q) d 2) := MA_put h3843 q3841 grp g3842 (by decide) e3845 (by omega) (fun j hj => xdper_n (k := ((H3790 rp 3).toNat)) (by omega) (by omega) hj)
  have h3849 : FZ T H3844 rp N0 H0 := FZ_st h3837 q3841 (by decide) (by decide) grp g3842 (by decide) e3845
  refine wp_of e187 c187_231 (rw_aload_n (pc' := 232) (v := .ref r0) rfl rfl rfl ?_)
  have k3850 : H3844 r0 4 = H3832 r0 4 := (wq_u_t e3845 g3842 g0 rfl 4)
  have q3851 : H3844 r0 4 = (rp : Int) := k3850.trans q3839
  refine wp_of e187 c187_232 (xg_K (pc' := 235) lf_9_166 w3846 g0 sh_42 (by decide) (by decide) rfl q3851 rfl ?_)
  refine wp_of e187 c187_235 (xg_R (pc' := 238) lf_9_250 w3846 grp sh_54 (by decide) (by decide) ty_54_11 rfl rfl (fun r3852 q3853 g3854 => ?_))
  refine wp_of e187 c187_238 (rw_iload (pc' := 240) (z := H3790 rp 3) rfl rfl ?_)
  refine wp_of e187 c187_240 (rw_iload (pc' := 242) (z := v3783) rfl rfl ?_)
  have h3855 : MA11 T H3844 rp (d 3) := (MA11_fr w3834 grp ((wfr.rf (l := [(56, 999)])).put' e3845 g3842 rfl) rfl (MA11_fr w3791 grp ((wfr.rf (l := [(55, 999)])).put' e3833 g3830 rfl) rfl (MA11_fr hW grp f3792 rfl h3766)))
  refine wp_of e187 c187_242 (xs_I (pc' := 243) w3846 g3854 (by decide) sh_57 (by decide) (ty_57 _) (by omega) (by omega) ⟨by omega, by omega⟩ (b3826) (by omega) rfl (fun H3856 e3857 w3858 => ?_))
  have f3859 := f3847.put' e3857 g3854 rfl
  have h3860 : MA11 T H3856 rp (xdper B n (xN B n q) d 3) := MA_put h3855 q3853 grp g3854 (by decide) e3857 (by omega) (fun j hj => xdper_n (k := ((H3790 rp 3).toNat)) (by omega) (by omega) hj)
  have h3861 : FZ T H3856 rp N0 H0 := FZ_st h3849 q3853 (by decide) (by decide) grp g3854 (by decide) e3857
  refine wp_of e187 c187_243 (rw_aload_n (pc' := 244) (v := .ref r0) rfl rfl rfl ?_)
  have k3862 : H3856 r0 4 = H3844 r0 4 := (wq_u_t e3857 g3854 g0 rfl 4)
  have q3863 : H3856 r0 4 = (rp : Int) := k3862.trans q3851
  refine wp_of e187 c187_244 (xg_K (pc' := 247) lf_9_166 w3858 g0 sh_42 (by decide) (by decide) rfl q3863 rfl ?_)
  refine wp_of e187 c187_247 (xg_R (pc' := 250) lf_9_253 w3858 grp sh_54 (by decide) (by decide) ty_54_12 rfl rfl (fun r3864 q3865 g3866 => ?_))
  refine wp_of e187 c187_250 (rw_iload (pc' := 252) (z := H3790 rp 3) rfl rfl ?_)
  refine wp_of e187 c187_252 (rw_iload (pc' := 254) (z := v3784) rfl rfl ?_)
  have h3867 : MA12 T H3856 rp (d 4) := (MA12_fr w3846 grp ((wfr.rf (l := [(57, 999)])).put' e3857 g3854 rfl) rfl (MA12_fr w3834 grp ((wfr.rf (l := [(56, 999)])).put' e3845 g3842 rfl) rfl (MA12_fr w3791 grp ((wfr.rf (l := [(55, 999)])).put' e3833 g3830 rfl) rfl (MA12_fr hW grp f3792 rfl h3767))))
  refine wp_of e187 c187_254 (xs_I (pc' := 255) w3858 g3866 (by decide) sh_58 (by decide) (ty_58 _) (by omega) (by omega) ⟨by omega, by omega⟩ (b3826) (by omega) rfl (fun H3868 e3869 w3870 => ?_))
  have f3871 := f3859.put' e3869 g3866 rfl
  have h3872 : MA12 T H3868 rp (xdper B n (xN B n q) d 4) := MA_put h3867 q3865 grp g3866 (by decide) e3869 (by omega) (fun j hj => xdper_n (k := ((H3790 rp 3).toNat)) (by omega) (by omega) hj)
  have h3873 : FZ T H3868 rp N0 H0 := FZ_st h3861 q3865 (by decide) (by decide) grp g3866 (by decide) e3869
  refine wp_of e187 c187_255 (rw_aload_n (pc' := 256) (v := .ref r0) rfl rfl rfl ?_)
  have k3874 : H3868 r0 4 = H3856 r0 4 := (wq_u_t e3869 g3866 g0 rfl 4)
  have q3875 : H3868 r0 4 = (rp : Int) := k3874.trans q3863
  refine wp_of e187 c187_256 (xg_K (pc' := 259) lf_9_166 w3870 g0 sh_42 (by decide) (by decide) rfl q3875 rfl ?_)
  refine wp_of e187 c187_259 (xg_R (pc' := 262) lf_9_256 w3870 grp sh_54 (by decide) (by decide) ty_54_13 rfl rfl (fun r3876 q3877 g3878 => ?_))
  refine wp_of e187 c187_262 (rw_iload (pc' := 264) (z := H3790 rp 3) rfl rfl ?_)
  refine wp_of e187 c187_264 (rw_iload (pc' := 266) (z := v3785) rfl rfl ?_)
  have h3879 : MA13 T H3868 rp (d 5) := (MA13_fr w3858 grp ((wfr.rf (l := [(58, 999)])).put' e3869 g3866 rfl) rfl (MA13_fr w3846 grp ((wfr.rf (l := [(57, 999)])).put' e3857 g3854 rfl) rfl (MA13_fr w3834 grp ((wfr.rf (l := [(56, 999)])).put' e3845 g3842 rfl) rfl (MA13_fr w3791 grp ((wfr.rf (l := [(55, 999)])).put' e3833 g3830 rfl) rfl (MA13_fr hW grp f3792 rfl h3768)))))
  refine wp_of e187 c187_266 (xs_I (pc' := 267) w3870 g3878 (by decide) sh_59 (by decide) (ty_59 _) (by omega) (by omega) ⟨by omega, by omega⟩ (b3826) (by omega) rfl (fun H3880 e3881 w3882 => ?_))
  have f3883 := f3871.put' e3881 g3878 rfl
  have h3884 : MA13 T H3880 rp (xdper B n (xN B n q) d 5) := MA_put h3879 q3877 grp g3878 (by decide) e3881 (by omega) (fun j hj => xdper_n (k := ((H3790 rp 3).toNat)) (by omega) (by omega) hj)
  have h3885 : FZ T H3880 rp N0 H0 := FZ_st h3873 q3877 (by decide) (by decide) grp g3878 (by decide) e3881
  refine wp_of e187 c187_267 (rw_aload_n (pc' := 268) (v := .ref r0) rfl rfl rfl ?_)
  have k3886 : H3880 r0 4 = H3868 r0 4 := (wq_u_t e3881 g3878 g0 rfl 4)
  have q3887 : H3880 r0 4 = (rp : Int) := k3886.trans q3875
  refine wp_of e187 c187_268 (xg_K (pc' := 271) lf_9_166 w3882 g0 sh_42 (by decide) (by decide) rfl q3887 rfl ?_)
  refine wp_of e187 c187_271 (xg_R (pc' := 274) lf_9_259 w3882 grp sh_54 (by decide) (by decide) ty_54_14 rfl rfl (fun r3888 q3889 g3890 => ?_))
  refine wp_of e187 c187_274 (rw_iload (pc' := 276) (z := H3790 rp 3) rfl rfl ?_)
  refine wp_of e187 c187_276 (rw_iload (pc' := 278) (z := v3786) rfl rfl ?_)
  have h3891 : MA14 T H3880 rp (d 6) := (MA14_fr w3870 grp ((wfr.rf (l := [(59, 999)])).put' e3881 g3878 rfl) rfl (MA14_fr w3858 grp ((wfr.rf (l := [(58, 999)])).put' e3869 g3866 rfl) rfl (MA14_fr w3846 grp ((wfr.rf (l := [(57, 999)])).put' e3857 g3854 rfl) rfl (MA14_fr w3834 grp ((wfr.rf (l := [(56, 999)])).put' e3845 g3842 rfl) rfl (MA14_fr w3791 grp ((wfr.rf (l := [(55, 999)])).put' e3833 g3830 rfl) rfl (MA14_fr hW grp f3792 rfl h3769))))))
  refine wp_of e187 c187_278 (xs_I (pc' := 279) w3882 g3890 (by decide) sh_60 (by decide) (ty_60 _) (by omega) (by omega) ⟨by omega, by omega⟩ (b3826) (by omega) rfl (fun H3892 e3893 w3894 => ?_))
  have f3895 := f3883.put' e3893 g3890 rfl
  have h3896 : MA14 T H3892 rp (xdper B n (xN B n q) d 6) := MA_put h3891 q3889 grp g3890 (by decide) e3893 (by omega) (fun j hj => xdper_n (k := ((H3790 rp 3).toNat)) (by omega) (by omega) hj)
  have h3897 : FZ T H3892 rp N0 H0 := FZ_st h3885 q3889 (by decide) (by decide) grp g3890 (by decide) e3893
  refine wp_of e187 c187_279 (rw_aload_n (pc' := 280) (v := .ref r0) rfl rfl rfl ?_)
  have k3898 : H3892 r0 4 = H3880 r0 4 := (wq_u_t e3893 g3890 g0 rfl 4)
  have q3899 : H3892 r0 4 = (rp : Int) := k3898.trans q3887
  refine wp_of e187 c187_280 (xg_K (pc' := 283) lf_9_166 w3894 g0 sh_42 (by decide) (by decide) rfl q3899 rfl ?_)
  refine wp_of e187 c187_283 (xg_R (pc' := 286) lf_9_261 w3894 grp sh_54 (by decide) (by decide) ty_54_15 rfl rfl (fun r3900 q3901 g3902 => ?_))
  refine wp_of e187 c187_286 (rw_iload (pc' := 288) (z := H3790 rp 3) rfl rfl ?_)
  refine wp_of e187 c187_288 (rw_iload (pc' := 290) (z := v3787) rfl rfl ?_)
  have h3903 : MA15 T H3892 rp (d 7) := (MA15_fr w3882 grp ((wfr.rf (l := [(60, 999)])).put' e3893 g3890 rfl) rfl (MA15_fr w3870 grp ((wfr.rf (l := [(59, 999)])).put' e3881 g3878 rfl) rfl (MA15_fr w3858 grp ((wfr.rf (l := [(58, 999)])).put' e3869 g3866 rfl) rfl (MA15_fr w3846 grp ((wfr.rf (l := [(57, 999)])).put' e3857 g3854 rfl) rfl (MA15_fr w3834 grp ((wfr.rf (l := [(56, 999)])).put' e3845 g3842 rfl) rfl (MA15_fr w3791 grp ((wfr.rf (l := [(55, 999)])).put' e3833 g3830 rfl) rfl (MA15_fr hW grp f3792 rfl h3770)))))))
  refine wp_of e187 c187_290 (xs_I (pc' := 291) w3894 g3902 (by decide) sh_61 (by decide) (ty_61 _) (by omega) (by omega) ⟨by omega, by omega⟩ (b3826) (by omega) rfl (fun H3904 e3905 w3906 => ?_))
  have f3907 := f3895.put' e3905 g3902 rfl
  have h3908 : MA15 T H3904 rp (xdper B n (xN B n q) d 7) := MA_put h3903 q3901 grp g3902 (by decide) e3905 (by omega) (fun j hj => xdper_n (k := ((H3790 rp 3).toNat)) (by omega) (by omega) hj)
  have h3909 : FZ T H3904 rp N0 H0 := FZ_st h3897 q3901 (by decide) (by decide) grp g3902 (by decide) e3905
  refine wp_of e187 c187_291 (rw_aload_n (pc' := 292) (v := .ref r0) rfl rfl rfl ?_)
  have k3910 : H3904 r0 4 = H3892 r0 4 := (wq_u_t e3905 g3902 g0 rfl 4)
  have q3911 : H3904 r0 4 = (rp : Int) := k3910.trans q3899
  refine wp_of e187 c187_292 (xg_K (pc' := 295) lf_9_166 w3906 g0 sh_42 (by decide) (by decide) rfl q3911 rfl ?_)
  refine wp_of e187 c187_295 (xg_R (pc' := 298) lf_9_264 w3906 grp sh_54 (by decide) (by decide) ty_54_16 rfl rfl (fun r3912 q3913 g3914 => ?_))
  refine wp_of e187 c187_298 (rw_iload (pc' := 300) (z := H3790 rp 3) rfl rfl ?_)
  refine wp_of e187 c187_300 (rw_iload (pc' := 302) (z := v3788) rfl rfl ?_)
  have h3915 : MA16 T H3904 rp (d 8) := (MA16_fr w3894 grp ((wfr.rf (l := [(61, 999)])).put' e3905 g3902 rfl) rfl (MA16_fr w3882 grp ((wfr.rf (l := [(60, 999)])).put' e3893 g3890 rfl) rfl (MA16_fr w3870 grp ((wfr.rf (l := [(59, 999)])).put' e3881 g3878 rfl) rfl (MA16_fr w3858 grp ((wfr.rf (l := [(58, 999)])).put' e3869 g3866 rfl) rfl (MA16_fr w3846 grp ((wfr.rf (l := [(57, 999)])).put' e3857 g3854 rfl) rfl (MA16_fr w3834 grp ((wfr.rf (l := [(56, 999)])).put' e3845 g3842 rfl) rfl (MA16_fr w3791 grp ((wfr.rf (l := [(55, 999)])).put' e3833 g3830 rfl) rfl (MA16_fr hW grp f3792 rfl h3771))))))))
  refine wp_of e187 c187_302 (xs_I (pc' := 303) w3906 g3914 (by decide) sh_62 (by decide) (ty_62 _) (by omega) (by omega) ⟨by omega, by omega⟩ (b3826) (by omega) rfl (fun H3916 e3917 w3918 => ?_))
  have f3919 := f3907.put' e3917 g3914 rfl
  have h3920 : MA16 T H3916 rp (xdper B n (xN B n q) d 8) := MA_put h3915 q3913 grp g3914 (by decide) e3917 (by omega) (fun j hj => xdper_n (k := ((H3790 rp 3).toNat)) (by omega) (by omega) hj)
  have h3921 : FZ T H3916 rp N0 H0 := FZ_st h3909 q3913 (by decide) (by decide) grp g3914 (by decide) e3917
  refine wp_of e187 c187_303 (rw_aload_n (pc' := 304) (v := .ref r0) rfl rfl rfl ?_)
  have k3922 : H3916 r0 4 = H3904 r0 4 := (wq_u_t e3917 g3914 g0 rfl 4)
  have q3923 : H3916 r0 4 = (rp : Int) := k3922.trans q3911
  refine wp_of e187 c187_304 (xg_K (pc' := 307) lf_9_166 w3918 g0 sh_42 (by decide) (by decide) rfl q3923 rfl ?_)
  refine wp_of e187 c187_307 (xg_R (pc' := 310) lf_9_267 w3918 grp sh_54 (by decide) (by decide) ty_54_17 rfl rfl (fun r3924 q3925 g3926 => ?_))
  refine wp_of e187 c187_310 (rw_iload (pc' := 312) (z := H3790 rp 3) rfl rfl ?_)
  refine wp_of e187 c187_312 (rw_iload (pc' := 314) (z := v3789) rfl rfl ?_)
  have h3927 : MA17 T H3916 rp (d 9) := (MA17_fr w3906 grp ((wfr.rf (l := [(62, 999)])).put' e3917 g3914 rfl) rfl (MA17_fr w3894 grp ((wfr.rf (l := [(61, 999)])).put' e3905 g3902 rfl) rfl (MA17_fr w3882 grp ((wfr.rf (l := [(60, 999)])).put' e3893 g3890 rfl) rfl (MA17_fr w3870 grp ((wfr.rf (l := [(59, 999)])).put' e3881 g3878 rfl) rfl (MA17_fr w3858 grp ((wfr.rf (l := [(58, 999)])).put' e3869 g3866 rfl) rfl (MA17_fr w3846 grp ((wfr.rf (l := [(57, 999)])).put' e3857 g3854 rfl) rfl (MA17_fr w3834 grp ((wfr.rf (l := [(56, 999)])).put' e3845 g3842 rfl) rfl (MA17_fr w3791 grp ((wfr.rf (l := [(55, 999)])).put' e3833 g3830 rfl) rfl (MA17_fr hW grp f3792 rfl h3772)))))))))
  refine wp_of e187 c187_314 (xs_Z (pc' := 315) w3918 g3926 (by decide) sh_63 (by decide) (ty_63 _) (by omega) (by omega) ⟨by omega, by omega⟩ (b3826) (by omega) rfl (fun H3928 e3929 w3930 => ?_))
  have f3931 := f3919.put' e3929 g3926 rfl
  have h3932 : MA17 T H3928 rp (xdper B n (xN B n q) d 9) := MA_put h3927 q3925 grp g3926 (by decide) e3929 (by omega) (fun j hj => xdper_n (k := ((H3790 rp 3).toNat)) (by omega) (by omega) hj)
  have h3933 : FZ T H3928 rp N0 H0 := FZ_st h3921 q3925 (by decide) (by decide) grp g3926 (by decide) e3929
  refine wp_of e187 c187_315 (rw_aload_n (pc' := 316) (v := .ref r0) rfl rfl rfl ?_)
  have k3934 : H3928 r0 4 = H3916 r0 4 := (wq_u_t e3929 g3926 g0 rfl 4)
  have q3935 : H3928 r0 4 = (rp : Int) := k3934.trans q3923
  refine wp_of e187 c187_316 (xg_K (pc' := 319) lf_9_166 w3930 g0 sh_42 (by decide) (by decide) rfl q3935 rfl ?_)
  refine wp_of e187 c187_319 (rw_dup (pc' := 320) rfl rfl ?_)
  have k3936 : H3928 rp 3 = H3790 rp 3 := ((wq_u_t e3929 g3926 grp rfl 3).trans ((wq_u_t e3917 g3914 grp rfl 3).trans ((wq_u_t e3905 g3902 grp rfl 3).trans ((wq_u_t e3893 g3890 grp rfl 3).trans ((wq_u_t e3881 g3878 grp rfl 3).trans ((wq_u_t e3869 g3866 grp rfl 3).trans ((wq_u_t e3857 g3854 grp rfl 3).trans ((wq_u_t e3845 g3842 grp rfl 3).trans (wq_u_t e3833 g3830 grp rfl 3)))))))))
  refine wp_of e187 c187_320 (xg_I (pc' := 323) lf_9_188 w3930 grp sh_54 (by decide) (by decide) ty_54_3 rfl rfl (fun b3937 b3938 => ?_))
  refine wp_of e187 c187_323 (rw_iconst (pc' := 324) rfl ?_)
  refine wp_of e187 c187_324 (rw_iadd (pc' := 325) rfl ?_)
  refine wp_of e187 c187_325 (xp_I (pc' := 328) lf_9_188 w3930 grp sh_54 (by decide) (by decide) ty_54_3 rfl rfl (by omega) (by omega) ⟨by omega, by omega⟩ rfl (fun H3939 e3940 w3941 => ?_))
  have f3942 := f3931.put' e3940 grp rfl
  have k3943 : H3939 rp 3 = (H3928 rp 3) + 1 := wq_u_s e3940
  have h3944 : FZ T H3939 rp N0 H0 := FZ_put h3933 (by decide) e3940
  have k3945 : H3939 rp 0 = H3790 rp 0 := ((wq_u_j e3940 rfl).trans ((wq_u_t e3929 g3926 grp rfl 0).trans ((wq_u_t e3917 g3914 grp rfl 0).trans ((wq_u_t e3905 g3902 grp rfl 0).trans ((wq_u_t e3893 g3890 grp rfl 0).trans ((wq_u_t e3881 g3878 grp rfl 0).trans ((wq_u_t e3869 g3866 grp rfl 0).trans ((wq_u_t e3857 g3854 grp rfl 0).trans ((wq_u_t e3845 g3842 grp rfl 0).trans (wq_u_t e3833 g3830 grp rfl 0))))))))))
  have k3946 : H3939 rp 1 = H3790 rp 1 := ((wq_u_j e3940 rfl).trans ((wq_u_t e3929 g3926 grp rfl 1).trans ((wq_u_t e3917 g3914 grp rfl 1).trans ((wq_u_t e3905 g3902 grp rfl 1).trans ((wq_u_t e3893 g3890 grp rfl 1).trans ((wq_u_t e3881 g3878 grp rfl 1).trans ((wq_u_t e3869 g3866 grp rfl 1).trans ((wq_u_t e3857 g3854 grp rfl 1).trans ((wq_u_t e3845 g3842 grp rfl 1).trans (wq_u_t e3833 g3830 grp rfl 1))))))))))
  have k3947 : H3939 rp 2 = H3790 rp 2 := ((wq_u_j e3940 rfl).trans ((wq_u_t e3929 g3926 grp rfl 2).trans ((wq_u_t e3917 g3914 grp rfl 2).trans ((wq_u_t e3905 g3902 grp rfl 2).trans ((wq_u_t e3893 g3890 grp rfl 2).trans ((wq_u_t e3881 g3878 grp rfl 2).trans ((wq_u_t e3869 g3866 grp rfl 2).trans ((wq_u_t e3857 g3854 grp rfl 2).trans ((wq_u_t e3845 g3842 grp rfl 2).trans (wq_u_t e3833 g3830 grp rfl 2))))))))))
  have k3948 : H3939 rp 4 = H3790 rp 4 := ((wq_u_j e3940 rfl).trans ((wq_u_t e3929 g3926 grp rfl 4).trans ((wq_u_t e3917 g3914 grp rfl 4).trans ((wq_u_t e3905 g3902 grp rfl 4).trans ((wq_u_t e3893 g3890 grp rfl 4).trans ((wq_u_t e3881 g3878 grp rfl 4).trans ((wq_u_t e3869 g3866 grp rfl 4).trans ((wq_u_t e3857 g3854 grp rfl 4).trans ((wq_u_t e3845 g3842 grp rfl 4).trans (wq_u_t e3833 g3830 grp rfl 4))))))))))
  have k3949 : H3939 rp 5 = H3790 rp 5 := ((wq_u_j e3940 rfl).trans ((wq_u_t e3929 g3926 grp rfl 5).trans ((wq_u_t e3917 g3914 grp rfl 5).trans ((wq_u_t e3905 g3902 grp rfl 5).trans ((wq_u_t e3893 g3890 grp rfl 5).trans ((wq_u_t e3881 g3878 grp rfl 5).trans ((wq_u_t e3869 g3866 grp rfl 5).trans ((wq_u_t e3857 g3854 grp rfl 5).trans ((wq_u_t e3845 g3842 grp rfl 5).trans (wq_u_t e3833 g3830 grp rfl 5))))))))))
  have k3950 : H3939 rp 6 = H3790 rp 6 := ((wq_u_j e3940 rfl).trans ((wq_u_t e3929 g3926 grp rfl 6).trans ((wq_u_t e3917 g3914 grp rfl 6).trans ((wq_u_t e3905 g3902 grp rfl 6).trans ((wq_u_t e3893 g3890 grp rfl 6).trans ((wq_u_t e3881 g3878 grp rfl 6).trans ((wq_u_t e3869 g3866 grp rfl 6).trans ((wq_u_t e3857 g3854 grp rfl 6).trans ((wq_u_t e3845 g3842 grp rfl 6).trans (wq_u_t e3833 g3830 grp rfl 6))))))))))
  have k3951 : H3939 rp 7 = H3790 rp 7 := ((wq_u_j e3940 rfl).trans ((wq_u_t e3929 g3926 grp rfl 7).trans ((wq_u_t e3917 g3914 grp rfl 7).trans ((wq_u_t e3905 g3902 grp rfl 7).trans ((wq_u_t e3893 g3890 grp rfl 7).trans ((wq_u_t e3881 g3878 grp rfl 7).trans ((wq_u_t e3869 g3866 grp rfl 7).trans ((wq_u_t e3857 g3854 grp rfl 7).trans ((wq_u_t e3845 g3842 grp rfl 7).trans (wq_u_t e3833 g3830 grp rfl 7))))))))))
  have k3952 : H3939 rp 8 = H3790 rp 8 := ((wq_u_j e3940 rfl).trans ((wq_u_t e3929 g3926 grp rfl 8).trans ((wq_u_t e3917 g3914 grp rfl 8).trans ((wq_u_t e3905 g3902 grp rfl 8).trans ((wq_u_t e3893 g3890 grp rfl 8).trans ((wq_u_t e3881 g3878 grp rfl 8).trans ((wq_u_t e3869 g3866 grp rfl 8).trans ((wq_u_t e3857 g3854 grp rfl 8).trans ((wq_u_t e3845 g3842 grp rfl 8).trans (wq_u_t e3833 g3830 grp rfl 8))))))))))
  have k3953 : H3939 r0 16 = H3790 r0 16 := ((wq_u_t e3940 grp g0 rfl 16).trans ((wq_u_t e3929 g3926 g0 rfl 16).trans ((wq_u_t e3917 g3914 g0 rfl 16).trans ((wq_u_t e3905 g3902 g0 rfl 16).trans ((wq_u_t e3893 g3890 g0 rfl 16).trans ((wq_u_t e3881 g3878 g0 rfl 16).trans ((wq_u_t e3869 g3866 g0 rfl 16).trans ((wq_u_t e3857 g3854 g0 rfl 16).trans ((wq_u_t e3845 g3842 g0 rfl 16).trans (wq_u_t e3833 g3830 g0 rfl 16))))))))))
  have _l := @xdper_v B n (xN B n q) d
  have h3954 : RC T H3939 r0 B n (xl1 B n q d).2.2 := (RC_fr w3930 g0 ((wfr.rf (l := [(54, 3)])).put' e3940 grp rfl) rfl (RC_fr w3918 g0 ((wfr.rf (l := [(63, 999)])).put' e3929 g3926 rfl) rfl (RC_fr w3906 g0 ((wfr.rf (l := [(62, 999)])).put' e3917 g3914 rfl) rfl (RC_fr w3894 g0 ((wfr.rf (l := [(61, 999)])).put' e3905 g3902 rfl) rfl (RC_fr w3882 g0 ((wfr.rf (l := [(60, 999)])).put' e3893 g3890 rfl) rfl (RC_fr w3870 g0 ((wfr.rf (l := [(59, 999)])).put' e3881 g3878 rfl) rfl (RC_fr w3858 g0 ((wfr.rf (l := [(58, 999)])).put' e3869 g3866 rfl) rfl (RC_fr w3846 g0 ((wfr.rf (l := [(57, 999)])).put' e3857 g3854 rfl) rfl (RC_fr w3834 g0 ((wfr.rf (l := [(56, 999)])).put' e3845 g3842 rfl) rfl (RC_fr w3791 g0 ((wfr.rf (l := [(55, 999)])).put' e3833 g3830 rfl) rfl h3803))))))))))
  have h3955 : MA9 T H3939 rp (xdper B n (xN B n q) d 1) := (MA9_fr w3930 grp ((wfr.rf (l := [(54, 3)])).put' e3940 grp rfl) rfl (MA9_fr w3918 grp ((wfr.rf (l := [(63, 999)])).put' e3929 g3926 rfl) rfl (MA9_fr w3906 grp ((wfr.rf (l := [(62, 999)])).put' e3917 g3914 rfl) rfl (MA9_fr w3894 grp ((wfr.rf (l := [(61, 999)])).put' e3905 g3902 rfl) rfl (MA9_fr w3882 grp ((wfr.rf (l := [(60, 999)])).put' e3893 g3890 rfl) rfl (MA9_fr w3870 grp ((wfr.rf (l := [(59, 999)])).put' e3881 g3878 rfl) rfl (MA9_fr w3858 grp ((wfr.rf (l := [(58, 999)])).put' e3869 g3866 rfl) rfl (MA9_fr w3846 grp ((wfr.rf (l := [(57, 999)])).put' e3857 g3854 rfl) rfl (MA9_fr w3834 grp ((wfr.rf (l := [(56, 999)])).put' e3845 g3842 rfl) rfl h3836)))))))))
  have h3956 : MA10 T H3939 rp (xdper B n (xN B n q) d 2) := (MA10_fr w3930 grp ((wfr.rf (l := [(54, 3)])).put' e3940 grp rfl) rfl (MA10_fr w3918 grp ((wfr.rf (l := [(63, 999)])).put' e3929 g3926 rfl) rfl (MA10_fr w3906 grp ((wfr.rf (l := [(62, 999)])).put' e3917 g3914 rfl) rfl (MA10_fr w3894 grp ((wfr.rf (l := [(61, 999)])).put' e3905 g3902 rfl) rfl (MA10_fr w3882 grp ((wfr.rf (l := [(60, 999)])).put' e3893 g3890 rfl) rfl (MA10_fr w3870 grp ((wfr.rf (l := [(59, 999)])).put' e3881 g3878 rfl) rfl (MA10_fr w3858 grp ((wfr.rf (l := [(58, 999)])).put' e3869 g3866 rfl) rfl (MA10_fr w3846 grp ((wfr.rf (l := [(57, 999)])).put' e3857 g3854 rfl) rfl h3848))))))))
  have h3957 : MA11 T H3939 rp (xdper B n (xN B n q) d 3) := (MA11_fr w3930 grp ((wfr.rf (l := [(54, 3)])).put' e3940 grp rfl) rfl (MA11_fr w3918 grp ((wfr.rf (l := [(63, 999)])).put' e3929 g3926 rfl) rfl (MA11_fr w3906 grp ((wfr.rf (l := [(62, 999)])).put' e3917 g3914 rfl) rfl (MA11_fr w3894 grp ((wfr.rf (l := [(61, 999)])).put' e3905 g3902 rfl) rfl (MA11_fr w3882 grp ((wfr.rf (l := [(60, 999)])).put' e3893 g3890 rfl) rfl (MA11_fr w3870 grp ((wfr.rf (l := [(59, 999)])).put' e3881 g3878 rfl) rfl (MA11_fr w3858 grp ((wfr.rf (l := [(58, 999)])).put' e3869 g3866 rfl) rfl h3860)))))))
  have h3958 : MA12 T H3939 rp (xdper B n (xN B n q) d 4) := (MA12_fr w3930 grp ((wfr.rf (l := [(54, 3)])).put' e3940 grp rfl) rfl (MA12_fr w3918 grp ((wfr.rf (l := [(63, 999)])).put' e3929 g3926 rfl) rfl (MA12_fr w3906 grp ((wfr.rf (l := [(62, 999)])).put' e3917 g3914 rfl) rfl (MA12_fr w3894 grp ((wfr.rf (l := [(61, 999)])).put' e3905 g3902 rfl) rfl (MA12_fr w3882 grp ((wfr.rf (l := [(60, 999)])).put' e3893 g3890 rfl) rfl (MA12_fr w3870 grp ((wfr.rf (l := [(59, 999)])).put' e3881 g3878 rfl) rfl h3872))))))
  have h3959 : MA13 T H3939 rp (xdper B n (xN B n q) d 5) := (MA13_fr w3930 grp ((wfr.rf (l := [(54, 3)])).put' e3940 grp rfl) rfl (MA13_fr w3918 grp ((wfr.rf (l := [(63, 999)])).put' e3929 g3926 rfl) rfl (MA13_fr w3906 grp ((wfr.rf (l := [(62, 999)])).put' e3917 g3914 rfl) rfl (MA13_fr w3894 grp ((wfr.rf (l := [(61, 999)])).put' e3905 g3902 rfl) rfl (MA13_fr w3882 grp ((wfr.rf (l := [(60, 999)])).put' e3893 g3890 rfl) rfl h3884)))))
  have h3960 : MA14 T H3939 rp (xdper B n (xN B n q) d 6) := (MA14_fr w3930 grp ((wfr.rf (l := [(54, 3)])).put' e3940 grp rfl) rfl (MA14_fr w3918 grp ((wfr.rf (l := [(63, 999)])).put' e3929 g3926 rfl) rfl (MA14_fr w3906 grp ((wfr.rf (l := [(62, 999)])).put' e3917 g3914 rfl) rfl (MA14_fr w3894 grp ((wfr.rf (l := [(61, 999)])).put' e3905 g3902 rfl) rfl h3896))))
  have h3961 : MA15 T H3939 rp (xdper B n (xN B n q) d 7) := (MA15_fr w3930 grp ((wfr.rf (l := [(54, 3)])).put' e3940 grp rfl) rfl (MA15_fr w3918 grp ((wfr.rf (l := [(63, 999)])).put' e3929 g3926 rfl) rfl (MA15_fr w3906 grp ((wfr.rf (l := [(62, 999)])).put' e3917 g3914 rfl) rfl h3908)))
  have h3962 : MA16 T H3939 rp (xdper B n (xN B n q) d 8) := (MA16_fr w3930 grp ((wfr.rf (l := [(54, 3)])).put' e3940 grp rfl) rfl (MA16_fr w3918 grp ((wfr.rf (l := [(63, 999)])).put' e3929 g3926 rfl) rfl h3920))
  have h3963 : MA17 T H3939 rp (xdper B n (xN B n q) d 9) := (MA17_fr w3930 grp ((wfr.rf (l := [(54, 3)])).put' e3940 grp rfl) rfl h3932)
  have h3964 : MA18 T H3939 rp (d 10) := (MA18_fr w3930 grp ((wfr.rf (l := [(54, 3)])).put' e3940 grp rfl) rfl (MA18_fr w3918 grp ((wfr.rf (l := [(63, 999)])).put' e3929 g3926 rfl) rfl (MA18_fr w3906 grp ((wfr.rf (l := [(62, 999)])).put' e3917 g3914 rfl) rfl (MA18_fr w3894 grp ((wfr.rf (l := [(61, 999)])).put' e3905 g3902 rfl) rfl (MA18_fr w3882 grp ((wfr.rf (l := [(60, 999)])).put' e3893 g3890 rfl) rfl (MA18_fr w3870 grp ((wfr.rf (l := [(59, 999)])).put' e3881 g3878 rfl) rfl (MA18_fr w3858 grp ((wfr.rf (l := [(58, 999)])).put' e3869 g3866 rfl) rfl (MA18_fr w3846 grp ((wfr.rf (l := [(57, 999)])).put' e3857 g3854 rfl) rfl (MA18_fr w3834 grp ((wfr.rf (l := [(56, 999)])).put' e3845 g3842 rfl) rfl (MA18_fr w3791 grp ((wfr.rf (l := [(55, 999)])).put' e3833 g3830 rfl) rfl (MA18_fr hW grp f3792 rfl h3773)))))))))))
  have h3965 : MA19 T H3939 rp (d 11) := (MA19_fr w3930 grp ((wfr.rf (l := [(54, 3)])).put' e3940 grp rfl) rfl (MA19_fr w3918 grp ((wfr.rf (l := [(63, 999)])).put' e3929 g3926 rfl) rfl (MA19_fr w3906 grp ((wfr.rf (l := [(62, 999)])).put' e3917 g3914 rfl) rfl (MA19_fr w3894 grp ((wfr.rf (l := [(61, 999)])).put' e3905 g3902 rfl) rfl (MA19_fr w3882 grp ((wfr.rf (l := [(60, 999)])).put' e3893 g3890 rfl) rfl (MA19_fr w3870 grp ((wfr.rf (l := [(59, 999)])).put' e3881 g3878 rfl) rfl (MA19_fr w3858 grp ((wfr.rf (l := [(58, 999)])).put' e3869 g3866 rfl) rfl (MA19_fr w3846 grp ((wfr.rf (l := [(57, 999)])).put' e3857 g3854 rfl) rfl (MA19_fr w3834 grp ((wfr.rf (l := [(56, 999)])).put' e3845 g3842 rfl) rfl (MA19_fr w3791 grp ((wfr.rf (l := [(55, 999)])).put' e3833 g3830 rfl) rfl (MA19_fr hW grp f3792 rfl h3774)))))))))))
  have h3966 : MA20 T H3939 rp (d 12) := (MA20_fr w3930 grp ((wfr.rf (l := [(54, 3)])).put' e3940 grp rfl) rfl (MA20_fr w3918 grp ((wfr.rf (l := [(63, 999)])).put' e3929 g3926 rfl) rfl (MA20_fr w3906 grp ((wfr.rf (l := [(62, 999)])).put' e3917 g3914 rfl) rfl (MA20_fr w3894 grp ((wfr.rf (l := [(61, 999)])).put' e3905 g3902 rfl) rfl (MA20_fr w3882 grp ((wfr.rf (l := [(60, 999)])).put' e3893 g3890 rfl) rfl (MA20_fr w3870 grp ((wfr.rf (l := [(59, 999)])).put' e3881 g3878 rfl) rfl (MA20_fr w3858 grp ((wfr.rf (l := [(58, 999)])).put' e3869 g3866 rfl) rfl (MA20_fr w3846 grp ((wfr.rf (l := [(57, 999)])).put' e3857 g3854 rfl) rfl (MA20_fr w3834 grp ((wfr.rf (l := [(56, 999)])).put' e3845 g3842 rfl) rfl (MA20_fr w3791 grp ((wfr.rf (l := [(55, 999)])).put' e3833 g3830 rfl) rfl (MA20_fr hW grp f3792 rfl h3775)))))))))))
  have h3967 : MA21 T H3939 rp (d 13) := (MA21_fr w3930 grp ((wfr.rf (l := [(54, 3)])).put' e3940 grp rfl) rfl (MA21_fr w3918 grp ((wfr.rf (l := [(63, 999)])).put' e3929 g3926 rfl) rfl (MA21_fr w3906 grp ((wfr.rf (l := [(62, 999)])).put' e3917 g3914 rfl) rfl (MA21_fr w3894 grp ((wfr.rf (l := [(61, 999)])).put' e3905 g3902 rfl) rfl (MA21_fr w3882 grp ((wfr.rf (l := [(60, 999)])).put' e3893 g3890 rfl) rfl (MA21_fr w3870 grp ((wfr.rf (l := [(59, 999)])).put' e3881 g3878 rfl) rfl (MA21_fr w3858 grp ((wfr.rf (l := [(58, 999)])).put' e3869 g3866 rfl) rfl (MA21_fr w3846 grp ((wfr.rf (l := [(57, 999)])).put' e3857 g3854 rfl) rfl (MA21_fr w3834 grp ((wfr.rf (l := [(56, 999)])).put' e3845 g3842 rfl) rfl (MA21_fr w3791 grp ((wfr.rf (l := [(55, 999)])).put' e3833 g3830 rfl) rfl (MA21_fr hW grp f3792 rfl h3776)))))))))))
  have h3968 : MA22 T H3939 rp (d 14) := (MA22_fr w3930 grp ((wfr.rf (l := [(54, 3)])).put' e3940 grp rfl) rfl (MA22_fr w3918 grp ((wfr.rf (l := [(63, 999)])).put' e3929 g3926 rfl) rfl (MA22_fr w3906 grp ((wfr.rf (l := [(62, 999)])).put' e3917 g3914 rfl) rfl (MA22_fr w3894 grp ((wfr.rf (l := [(61, 999)])).put' e3905 g3902 rfl) rfl (MA22_fr w3882 grp ((wfr.rf (l := [(60, 999)])).put' e3893 g3890 rfl) rfl (MA22_fr w3870 grp ((wfr.rf (l := [(59, 999)])).put' e3881 g3878 rfl) rfl (MA22_fr w3858 grp ((wfr.rf (l := [(58, 999)])).put' e3869 g3866 rfl) rfl (MA22_fr w3846 grp ((wfr.rf (l := [(57, 999)])).put' e3857 g3854 rfl) rfl (MA22_fr w3834 grp ((wfr.rf (l := [(56, 999)])).put' e3845 g3842 rfl) rfl (MA22_fr w3791 grp ((wfr.rf (l := [(55, 999)])).put' e3833 g3830 rfl) rfl (MA22_fr hW grp f3792 rfl h3777)))))))))))
  have h3969 : MA23 T H3939 rp (d 15) := (MA23_fr w3930 grp ((wfr.rf (l := [(54, 3)])).put' e3940 grp rfl) rfl (MA23_fr w3918 grp ((wfr.rf (l := [(63, 999)])).put' e3929 g3926 rfl) rfl (MA23_fr w3906 grp ((wfr.rf (l := [(62, 999)])).put' e3917 g3914 rfl) rfl (MA23_fr w3894 grp ((wfr.rf (l := [(61, 999)])).put' e3905 g3902 rfl) rfl (MA23_fr w3882 grp ((wfr.rf (l := [(60, 999)])).put' e3893 g3890 rfl) rfl (MA23_fr w3870 grp ((wfr.rf (l := [(59, 999)])).put' e3881 g3878 rfl) rfl (MA23_fr w3858 grp ((wfr.rf (l := [(58, 999)])).put' e3869 g3866 rfl) rfl (MA23_fr w3846 grp ((wfr.rf (l := [(57, 999)])).put' e3857 g3854 rfl) rfl (MA23_fr w3834 grp ((wfr.rf (l := [(56, 999)])).put' e3845 g3842 rfl) rfl (MA23_fr w3791 grp ((wfr.rf (l := [(55, 999)])).put' e3833 g3830 rfl) rfl (MA23_fr hW grp f3792 rfl h3778)))))))))))
  have h3970 : MA25 T H3939 rp (d 17) := (MA25_fr w3930 grp ((wfr.rf (l := [(54, 3)])).put' e3940 grp rfl) rfl (MA25_fr w3918 grp ((wfr.rf (l := [(63, 999)])).put' e3929 g3926 rfl) rfl (MA25_fr w3906 grp ((wfr.rf (l := [(62, 999)])).put' e3917 g3914 rfl) rfl (MA25_fr w3894 grp ((wfr.rf (l := [(61, 999)])).put' e3905 g3902 rfl) rfl (MA25_fr w3882 grp ((wfr.rf (l := [(60, 999)])).put' e3893 g3890 rfl) rfl (MA25_fr w3870 grp ((wfr.rf (l := [(59, 999)])).put' e3881 g3878 rfl) rfl (MA25_fr w3858 grp ((wfr.rf (l := [(58, 999)])).put' e3869 g3866 rfl) rfl (MA25_fr w3846 grp ((wfr.rf (l := [(57, 999)])).put' e3857 g3854 rfl) rfl (MA25_fr w3834 grp ((wfr.rf (l := [(56, 999)])).put' e3845 g3842 rfl) rfl (MA25_fr w3791 grp ((wfr.rf (l := [(55, 999)])).put' e3833 g3830 rfl) rfl (MA25_fr hW grp f3792 rfl h3779)))))))))))
  have h3971 : MA26 T H3939 rp (d 16) := (MA26_fr w3930 grp ((wfr.rf (l := [(54, 3)])).put' e3940 grp rfl) rfl (MA26_fr w3918 grp ((wfr.rf (l := [(63, 999)])).put' e3929 g3926 rfl) rfl (MA26_fr w3906 grp ((wfr.rf (l := [(62, 999)])).put' e3917 g3914 rfl) rfl (MA26_fr w3894 grp ((wfr.rf (l := [(61, 999)])).put' e3905 g3902 rfl) rfl (MA26_fr w3882 grp ((wfr.rf (l := [(60, 999)])).put' e3893 g3890 rfl) rfl (MA26_fr w3870 grp ((wfr.rf (l := [(59, 999)])).put' e3881 g3878 rfl) rfl (MA26_fr w3858 grp ((wfr.rf (l := [(58, 999)])).put' e3869 g3866 rfl) rfl (MA26_fr w3846 grp ((wfr.rf (l := [(57, 999)])).put' e3857 g3854 rfl) rfl (MA26_fr w3834 grp ((wfr.rf (l := [(56, 999)])).put' e3845 g3842 rfl) rfl (MA26_fr w3791 grp ((wfr.rf (l := [(55, 999)])).put' e3833 g3830 rfl) rfl (MA26_fr hW grp f3792 rfl h3780)))))))))))
  exact wp_return e187 c187_328 rfl ⟨rfl, w3941, f3942, rfl, (Or.inl ⟨by omega, by omega, (fun a ha ga => ((wq_u_a e3940 ha 3).trans ((wq_u_t e3929 g3926 ga rfl 3).trans ((wq_u_t e3917 g3914 ga rfl 3).trans ((wq_u_t e3905 g3902 ga rfl 3).trans ((wq_u_t e3893 g3890 ga rfl 3).trans ((wq_u_t e3881 g3878 ga rfl 3).trans ((wq_u_t e3869 g3866 ga rfl 3).trans ((wq_u_t e3857 g3854 ga rfl 3).trans ((wq_u_t e3845 g3842 ga rfl 3).trans ((wq_u_t e3833 g3830 ga rfl 3).trans (f3792 a 3 _ ga rfl)))))))))))), h3954, DM_mk hDM_rp.1 ⟨by omega, by omega, by omega, by omega, by omega, by omega, by omega, by omega, by omega, by omega, by omega, by omega⟩ (xdP_per hDM_rp.2.2.1 (k := ((H3790 rp 3)).toNat) (by omega) ⟨by omega, by omega, by omega, by omega, by omega, by omega, by omega, by omega, by omega, by omega, by omega, by omega, by omega, by omega, by omega⟩) h3955 h3956 h3957 h3958 h3959 h3960 h3961 h3962 h3963 h3964 h3965 h3966 h3967 h3968 h3969 h3970 h3971 ⟨rfl, rfl, rfl, rfl, rfl, rfl, rfl, rfl, rfl, (by unfold xdper; rw [wq_u_row (by decide), wq_u_row (by decide), wq_u_row (by decide), wq_u_row (by decide), wq_u_row (by decide), wq_u_row (by decide), wq_u_row (by decide), wq_u_row (by decide), wq_u_row (by decide), wq_u_row (by decide)]), (by unfold xdper; rw [wq_u_row (by decide), wq_u_row (by decide), wq_u_row (by decide), wq_u_row (by decide), wq_u_row (by decide), wq_u_row (by decide), wq_u_row (by decide), wq_u_row (by decide), wq_u_row (by decide), wq_u_row (by decide)]), (by unfold xdper; rw [wq_u_row (by decide), wq_u_row (by decide), wq_u_row (by decide), wq_u_row (by decide), wq_u_row (by decide), wq_u_row (by decide), wq_u_row (by decide), wq_u_row (by decide), wq_u_row (by decide), wq_u_row (by decide)]), (by unfold xdper; rw [wq_u_row (by decide), wq_u_row (by decide), wq_u_row (by decide), wq_u_row (by decide), wq_u_row (by decide), wq_u_row (by decide), wq_u_row (by decide), wq_u_row (by decide), wq_u_row (by decide), wq_u_row (by decide)]), (by unfold xdper; rw [wq_u_row (by decide), wq_u_row (by decide), wq_u_row (by decide), wq_u_row (by decide), wq_u_row (by decide), wq_u_row (by decide), wq_u_row (by decide), wq_u_row (by decide), wq_u_row (by decide), wq_u_row (by decide)]), (by unfold xdper; rw [wq_u_row (by decide), wq_u_row (by decide), wq_u_row (by decide), wq_u_row (by decide), wq_u_row (by decide), wq_u_row (by decide), wq_u_row (by decide), wq_u_row (by decide), wq_u_row (by decide), wq_u_row (by decide)]), (by unfold xdper; rw [wq_u_row (by decide), wq_u_row (by decide), wq_u_row (by decide), wq_u_row (by decide), wq_u_row (by decide), wq_u_row (by decide), wq_u_row (by decide), wq_u_row (by decide), wq_u_row (by decide), wq_u_row (by decide)]), (by unfold xdper; rw [wq_u_row (by decide), wq_u_row (by decide), wq_u_row (by decide), wq_u_row (by decide), wq_u_row (by decide), wq_u_row (by decide), wq_u_row (by decide), wq_u_row (by decide), wq_u_row (by decide), wq_u_row (by decide)])⟩, h3944⟩)⟩
set_option maxHeartbeats 60000000 in
theorem u_187_k_t183o {kt : Nat → Option mc_E} {T : wq_T} {H : wq_H} {r0 : Nat} {rp : Nat} {rb : Nat} {B : Nat → Int} {n : Int} {q : Int} {d : xD} {N0 : Nat} {H0 : wq_H} (hW : WT T H) (g0 : T.2.2.2 r0 = some 42) (qrp : H r0 4 = (rp : Int)) (grp : T.2.2.2 rp = some 54) (qrb : H r0 5 = (rb : Int)) (grb : T.2.2.2 rb = some 43) (p0 : xK B n q = 1) (hRC_r0 : RC T H r0 B n q) (hDM_rp : DM T H rp r0 d) (hFZ_rp : FZ T H rp N0 H0) : ∀ (v3991 : Int) (v3992 : Int) (v3993 : Int) (v3994 : Int) (v3995 : Int) (v3996 : Int) (v3997 : Int) (v3998 : Int) (H3999 : wq_H) (fo4003 : Int) (po4004 : Int), WT T H3999 → wfr [(42, 8), (42, 9), (42, 10), (42, 11), (42, 12), (42, 13), (42, 14), (42, 15)] T H H3999 → ((-9223372036854775808) ≤ v3991 ∧ v3991 ≤ 9223372036854775807) → (0 ≤ v3992 ∧ v3992 ≤ 23) → (0 ≤ v3993 ∧ v3993 ≤ 30) → (0 ≤ v3994 ∧ v3994 ≤ 12) → (0 ≤ v3995 ∧ v3995 ≤ 16) → ((-1) ≤ v3996 ∧ v3996 ≤ 23) → (0 ≤ v3997 ∧ v3997 ≤ 23) → (0 ≤ v3998 ∧ v3998 ≤ 24) → RO T H3999 r0 fo4003 po4004 → FZ T H3999 rp N0 H0 → ((xl1 B n q d).1 = fo4003) → ((xl1 B n q d).2.1 = po4004) → wp kt 4 187 183 [(0, .ref r0), (1, vL v3991), (3, vI v3992), (4, vI v3993), (5, vI v3994), (6, vI v3995), (7, vI v3996), (9, vI v3997), (10, vI v3998)] [] T H3999 (uq_187_k r0 rp rb B n q d N0 H0 T H) := by
  have f0 : wfr [(54, 3), (42, 8), (42, 9), (42, 10), (42, 11), (42, 12), (42, 13), (42, 14), (42, 15), (56, 999), (57, 999), (60, 999), (63, 999), (58, 999), (59, 999), (55, 999), (61, 999), (62, 999)] T H H := wfr.rf
  have u3972 := RC_k hRC_r0
  have u3973 := DM_k hDM_rp
  have h3974 : MA9 T H rp (d 1) := hDM_rp.2.2.2.1
  have h3975 : MA10 T H rp (d 2) := hDM_rp.2.2.2.2.1
  have h3976 : MA11 T H rp (d 3) := hDM_rp.2.2.2.2.2.1
  have h3977 : MA12 T H rp (d 4) := hDM_rp.2.2.2.2.2.2.1
  have h3978 : MA13 T H rp (d 5) := hDM_rp.2.2.2.2.2.2.2.1
  have h3979 : MA14 T H rp (d 6) := hDM_rp.2.2.2.2.2.2.2.2.1
  have h3980 : MA15 T H rp (d 7) := hDM_rp.2.2.2.2.2.2.2.2.2.1
  have h3981 : MA16 T H rp (d 8) := hDM_rp.2.2.2.2.2.2.2.2.2.2.1
  have h3982 : MA17 T H rp (d 9) := hDM_rp.2.2.2.2.2.2.2.2.2.2.2.1
  have h3983 : MA18 T H rp (d 10) := hDM_rp.2.2.2.2.2.2.2.2.2.2.2.2.1
  have h3984 : MA19 T H rp (d 11) := hDM_rp.2.2.2.2.2.2.2.2.2.2.2.2.2.1
  have h3985 : MA20 T H rp (d 12) := hDM_rp.2.2.2.2.2.2.2.2.2.2.2.2.2.2.1
  have h3986 : MA21 T H rp (d 13) := hDM_rp.2.2.2.2.2.2.2.2.2.2.2.2.2.2.2.1
  have h3987 : MA22 T H rp (d 14) := hDM_rp.2.2.2.2.2.2.2.2.2.2.2.2.2.2.2.2.1
  have h3988 : MA23 T H rp (d 15) := hDM_rp.2.2.2.2.2.2.2.2.2.2.2.2.2.2.2.2.2.1
  have h3989 : MA25 T H rp (d 17) := hDM_rp.2.2.2.2.2.2.2.2.2.2.2.2.2.2.2.2.2.2.1
  have h3990 : MA26 T H rp (d 16) := hDM_rp.2.2.2.2.2.2.2.2.2.2.2.2.2.2.2.2.2.2.2
  intro v3991 v3992 v3993 v3994 v3995 v3996 v3997 v3998 H3999 fo4003 po4004 w4000 f4001 b4005 b4006 b4007 b4008 b4009 b4010 b4011 b4012 h4013 h4014 x4015 x4016
  have f4017 : wfr [(54, 3), (42, 8), (42, 9), (42, 10), (42, 11), (42, 12), (42, 13), (42, 14), (42, 15), (56, 999), (57, 999), (60, 999), (63, 999), (58, 999), (59, 999), (55, 999), (61, 999), (62, 999)] T H H3999 := wfr.rf.tr f4001 rfl
  have u4018 := RO_k h4013
  refine wp_of e187 c187_183 (rw_aload_n (pc' := 184) (v := .ref r0) rfl rfl rfl ?_)
  refine wp_of e187 c187_184 (rw_ldcS (pc' := 186) (k := 85) rfl rfl rfl rfl ?_)
  have k4019 : H3999 r0 5 = H r0 5 := (f4001 r0 5 _ g0 rfl)
  have q4020 : H3999 r0 5 = (rb : Int) := k4019.trans qrb
  refine wp_of e187 c187_186 (xc_V (pc' := 189) (r := r0) (as := [.ref 85]) (st := []) (lm_9_240) rfl rfl (Nat.le_of_ble_eq_true rfl) w4000 g0 sh_42 (by decide) rfl (by decide) (u_192_o (fo := fo4003) (po := po4004) (kk := 56377) w4000 g0 rfl q4020 grb (by decide +kernel) h4013) (fun R4021 T4022 H4023 p4024 => ?_))
  obtain ⟨e4025, e4027, z4028, e4026, b4029, p4030⟩ := p4024
  subst e4025
  subst e4026
  subst e4027
  obtain ⟨a4031, a4032⟩ := p4030
  show wp _ _ 187 189 [(0, .ref r0), (1, vL v3991), (3, vI v3992), (4, vI v3993), (5, vI v3994), (6, vI v3995), (7, vI v3996), (9, vI v3997), (10, vI v3998)] [vI z4028] _ H3999 _
  have u4033 := RO_k a4032
  refine wp_of e187 c187_189 (rw_istore (pc' := 191) (z := z4028) (L' := [(11, vI z4028), (0, .ref r0), (1, vL v3991), (3, vI v3992), (4, vI v3993), (5, vI v3994), (6, vI v3995), (7, vI v3996), (9, vI v3997), (10, vI v3998)]) rfl rfl rfl ?_)
  refine wp_of e187 c187_191 (rw_aload_n (pc' := 192) (v := .ref r0) rfl rfl rfl ?_)
  refine wp_of e187 c187_192 (xg_I (pc' := 195) lf_9_75 w4000 g0 sh_42 (by decide) (by decide) ty_42_9 rfl rfl (fun b4034 b4035 => ?_))
  refine wp_of e187 c187_195 (rw_iconst (pc' := 196) rfl ?_)
  refine wp_of e187 c187_196 (rw_icmp_ne (p1 := 200) (p2 := 199) (by decide) rfl ⟨Int.le_trans (by decide) b4034, Int.le_trans b4035 (by decide)⟩ ⟨by decide, by decide⟩ (fun c4036 => ?_) (fun c4036 => ?_))
  · exfalso
    omega
  · exact wp_return e187 c187_199 rfl ⟨rfl, w4000, f4017, rfl, (Or.inr ⟨by omega, (fun a ha ga => (f4001 a 3 _ ga rfl)), RO_eq a4032 (by omega) (by omega), h4014⟩)⟩
set_option maxHeartbeats 60000000 in
theorem u_187_k_t134o {kt : Nat → Option mc_E} {T : wq_T} {H : wq_H} {r0 : Nat} {rp : Nat} {rb : Nat} {B : Nat → Int} {n : Int} {q : Int} {d : xD} {N0 : Nat} {H0 : wq_H} (hW : WT T H) (g0 : T.2.2.2 r0 = some 42) (qrp : H r0 4 = (rp : Int)) (grp : T.2.2.2 rp = some 54) (qrb : H r0 5 = (rb : Int)) (grb : T.2.2.2 rb = some 43) (p0 : xK B n q = 1) (hRC_r0 : RC T H r0 B n q) (hDM_rp : DM T H rp r0 d) (hFZ_rp : FZ T H rp N0 H0) : ∀ (v4056 : Int) (v4057 : Int) (v4058 : Int) (v4059 : Int) (v4060 : Int) (v4061 : Int) (H4062 : wq_H) (fo4066 : Int) (po4067 : Int), WT T H4062 → wfr [(42, 8), (42, 9), (42, 10), (42, 11), (42, 12), (42, 13), (42, 14), (42, 15)] T H H4062 → ((-9223372036854775808) ≤ v4056 ∧ v4056 ≤ 9223372036854775807) → (0 ≤ v4057 ∧ v4057 ≤ 23) → (0 ≤ v4058 ∧ v4058 ≤ 30) → (0 ≤ v4059 ∧ v4059 ≤ 12) → (0 ≤ v4060 ∧ v4060 ≤ 16) → ((-1) ≤ v4061 ∧ v4061 ≤ 23) → RO T H4062 r0 fo4066 po4067 → FZ T H4062 rp N0 H0 → ((xl1 B n q d).1 = fo4066) → ((xl1 B n q d).2.1 = po4067) → wp kt 4 187 134 [(0, .ref r0), (1, vL v4056), (3, vI v4057), (4, vI v4058), (5, vI v4059), (6, vI v4060), (7, vI v4061)] [] T H4062 (uq_187_k r0 rp rb B n q d N0 H0 T H) := by
  have f0 : wfr [(54, 3), (42, 8), (42, 9), (42, 10), (42, 11), (42, 12), (42, 13), (42, 14), (42, 15), (56, 999), (57, 999), (60, 999), (63, 999), (58, 999), (59, 999), (55, 999), (61, 999), (62, 999)] T H H := wfr.rf
  have u4037 := RC_k hRC_r0
  have u4038 := DM_k hDM_rp
  have h4039 : MA9 T H rp (d 1) := hDM_rp.2.2.2.1
  have h4040 : MA10 T H rp (d 2) := hDM_rp.2.2.2.2.1
  have h4041 : MA11 T H rp (d 3) := hDM_rp.2.2.2.2.2.1
  have h4042 : MA12 T H rp (d 4) := hDM_rp.2.2.2.2.2.2.1
  have h4043 : MA13 T H rp (d 5) := hDM_rp.2.2.2.2.2.2.2.1
  have h4044 : MA14 T H rp (d 6) := hDM_rp.2.2.2.2.2.2.2.2.1
  have h4045 : MA15 T H rp (d 7) := hDM_rp.2.2.2.2.2.2.2.2.2.1
  have h4046 : MA16 T H rp (d 8) := hDM_rp.2.2.2.2.2.2.2.2.2.2.1
  have h4047 : MA17 T H rp (d 9) := hDM_rp.2.2.2.2.2.2.2.2.2.2.2.1
  have h4048 : MA18 T H rp (d 10) := hDM_rp.2.2.2.2.2.2.2.2.2.2.2.2.1
  have h4049 : MA19 T H rp (d 11) := hDM_rp.2.2.2.2.2.2.2.2.2.2.2.2.2.1
  have h4050 : MA20 T H rp (d 12) := hDM_rp.2.2.2.2.2.2.2.2.2.2.2.2.2.2.1
  have h4051 : MA21 T H rp (d 13) := hDM_rp.2.2.2.2.2.2.2.2.2.2.2.2.2.2.2.1
  have h4052 : MA22 T H rp (d 14) := hDM_rp.2.2.2.2.2.2.2.2.2.2.2.2.2.2.2.2.1
  have h4053 : MA23 T H rp (d 15) := hDM_rp.2.2.2.2.2.2.2.2.2.2.2.2.2.2.2.2.2.1
  have h4054 : MA25 T H rp (d 17) := hDM_rp.2.2.2.2.2.2.2.2.2.2.2.2.2.2.2.2.2.2.1
  have h4055 : MA26 T H rp (d 16) := hDM_rp.2.2.2.2.2.2.2.2.2.2.2.2.2.2.2.2.2.2.2
  intro v4056 v4057 v4058 v4059 v4060 v4061 H4062 fo4066 po4067 w4063 f4064 b4068 b4069 b4070 b4071 b4072 b4073 h4074 h4075 x4076 x4077
  have f4078 : wfr [(54, 3), (42, 8), (42, 9), (42, 10), (42, 11), (42, 12), (42, 13), (42, 14), (42, 15), (56, 999), (57, 999), (60, 999), (63, 999), (58, 999), (59, 999), (55, 999), (61, 999), (62, 999)] T H H4062 := wfr.rf.tr f4064 rfl
  have u4079 := RO_k h4074
  refine wp_of e187 c187_134 (rw_aload_n (pc' := 135) (v := .ref r0) rfl rfl rfl ?_)
  refine wp_of e187 c187_135 (rw_ldcS (pc' := 137) (k := 84) rfl rfl rfl rfl ?_)
  have k4080 : H4062 r0 5 = H r0 5 := (f4064 r0 5 _ g0 rfl)
  have q4081 : H4062 r0 5 = (rb : Int) := k4080.trans qrb
  refine wp_of e187 c187_137 (xc_V (pc' := 140) (r := r0) (as := [.ref 84]) (st := []) (lm_9_240) rfl rfl (Nat.le_of_ble_eq_true rfl) w4063 g0 sh_42 (by decide) rfl (by decide) (u_192_o (fo := fo4066) (po := po4067) (kk := 14384) w4063 g0 rfl q4081 grb (by decide +kernel) h4074) (fun R4082 T4083 H4084 p4085 => ?_))
  obtain ⟨e4086, e4088, z4089, e4087, b4090, p4091⟩ := p4085
  subst e4086
  subst e4087
  subst e4088
  obtain ⟨a4092, a4093⟩ := p4091
  show wp _ _ 187 140 [(0, .ref r0), (1, vL v4056), (3, vI v4057), (4, vI v4058), (5, vI v4059), (6, vI v4060), (7, vI v4061)] [vI z4089] _ H4062 _
  have u4094 := RO_k a4093
  refine wp_of e187 c187_140 (rw_istore (pc' := 142) (z := z4089) (L' := [(8, vI z4089), (0, .ref r0), (1, vL v4056), (3, vI v4057), (4, vI v4058), (5, vI v4059), (6, vI v4060), (7, vI v4061)]) rfl rfl rfl ?_)
  refine wp_of e187 c187_142 (rw_iload (pc' := 144) (z := z4089) rfl rfl ?_)
  refine wp_of e187 c187_144 (rw_if_eq (p1 := 157) (p2 := 147) (by decide) rfl ⟨Int.le_trans (by decide) b4090.1, Int.le_trans b4090.2 (by decide)⟩ (fun c4095 => ?_) (fun c4095 => ?_))
  · refine wp_of e187 c187_157 (rw_iconst (pc' := 158) rfl ?_)
    refine wp_of e187 c187_158 (rw_istore (pc' := 160) (z := 0) (L' := [(9, vI 0), (8, vI z4089), (0, .ref r0), (1, vL v4056), (3, vI v4057), (4, vI v4058), (5, vI v4059), (6, vI v4060), (7, vI v4061)]) rfl rfl rfl ?_)
    refine wp_of e187 c187_160 (rw_iload (pc' := 162) (z := z4089) rfl rfl ?_)
    refine wp_of e187 c187_162 (rw_if_eq (p1 := 180) (p2 := 165) (by decide) rfl ⟨Int.le_trans (by decide) b4090.1, Int.le_trans b4090.2 (by decide)⟩ (fun c4096 => ?_) (fun c4096 => ?_))
    · refine wp_of e187 c187_180 (rw_iconst (pc' := 181) rfl ?_)
      refine wp_of e187 c187_181 (rw_istore (pc' := 183) (z := 0) (L' := [(10, vI 0), (9, vI 0), (8, vI z4089), (0, .ref r0), (1, vL v4056), (3, vI v4057), (4, vI v4058), (5, vI v4059), (6, vI v4060), (7, vI v4061)]) rfl rfl rfl ?_)
      exact wp_lc (ks := [10, 9, 8, 0, 1, 3, 4, 5, 6, 7]) (wl_c rfl (wl_c rfl (wl_c rfl (wl_c rfl (wl_c rfl (wl_c rfl (wl_c rfl (wl_c rfl (wl_c rfl wl_n))))))))) rfl (by decide) (u_187_k_t183o hW g0 qrp grp qrb grb p0 hRC_r0 hDM_rp hFZ_rp v4056 v4057 v4058 v4059 v4060 v4061 0 0 H4062 fo4066 po4067 w4063 f4064 ⟨by omega, by omega⟩ ⟨by omega, by omega⟩ ⟨by omega, by omega⟩ ⟨by omega, by omega⟩ ⟨by omega, by omega⟩ ⟨by omega, by omega⟩ ⟨by omega, by omega⟩ ⟨by omega, by omega⟩ a4093 h4075 (by omega) (by omega))
    · exfalso
      omega
  · exfalso
    omega
set_option maxHeartbeats 60000000 in
theorem u_187_k_t112k {kt : Nat → Option mc_E} {T : wq_T} {H : wq_H} {r0 : Nat} {rp : Nat} {rb : Nat} {B : Nat → Int} {n : Int} {q : Int} {d : xD} {N0 : Nat} {H0 : wq_H} (hW : WT T H) (g0 : T.2.2.2 r0 = some 42) (qrp : H r0 4 = (rp : Int)) (grp : T.2.2.2 rp = some 54) (qrb : H r0 5 = (rb : Int)) (grb : T.2.2.2 rb = some 43) (p0 : xK B n q = 1) (hRC_r0 : RC T H r0 B n q) (hDM_rp : DM T H rp r0 d) (hFZ_rp : FZ T H rp N0 H0) : ∀ (v4116 : Int) (v4117 : Int) (v4118 : Int) (v4119 : Int) (v4120 : Int) (H4121 : wq_H), WT T H4121 → wfr [(42, 8), (42, 9), (42, 10), (42, 11), (42, 12), (42, 13), (42, 14), (42, 15)] T H H4121 → ((-9223372036854775808) ≤ v4116 ∧ v4116 ≤ 9223372036854775807) → (0 ≤ v4117 ∧ v4117 ≤ 23) → (0 ≤ v4118 ∧ v4118 ≤ 30) → (0 ≤ v4119 ∧ v4119 ≤ 12) → (0 ≤ v4120 ∧ v4120 ≤ 16) → RC T H4121 r0 B n (xN B n (xN B n (xN B n (xN B n (xN B n (xN B n (xN B n (xN B n (xN B n (xN B n q)))))))))) → DM T H4121 rp r0 d → FZ T H4121 rp N0 H0 → (xl1 B n q d = xcs B n (xN B n (xN B n (xN B n (xN B n (xN B n (xN B n (xN B n (xN B n (xN B n (xN B n q))))))))))) → (q ≤ (xN B n (xN B n (xN B n (xN B n (xN B n (xN B n (xN B n (xN B n (xN B n (xN B n q))))))))))) → (v4116 = xY B n (xN B n q)) → (v4117 = xV B n (xN B n (xN B n (xN B n q)))) → (v4118 = xV B n (xN B n (xN B n (xN B n (xN B n (xN B n q)))))) → (v4119 = xV B n (xN B n (xN B n (xN B n (xN B n (xN B n (xN B n (xN B n q)))))))) → (v4120 = xV B n (xN B n (xN B n (xN B n (xN B n (xN B n (xN B n (xN B n (xN B n (xN B n q)))))))))) → (v4117 ≤ v4118 ∧ v4118 ≤ v4117 + 7 ∧ v4118 ≤ 23) → (v4119 ≤ v4120 ∧ v4120 ≤ v4119 + 4 ∧ v4120 ≤ 12) → (d 0 3 ≤ 5) → wp kt 4 187 112 [(0, .ref r0), (1, vL v4116), (3, vI v4117), (4, vI v4118), (5, vI v4119), (6, vI v4120)] [] T H4121 (uq_187_k r0 rp rb B n q d N0 H0 T H) := by
  have f0 : wfr [(54, 3), (42, 8), (42, 9), (42, 10), (42, 11), (42, 12), (42, 13), (42, 14), (42, 15), (56, 999), (57, 999), (60, 999), (63, 999), (58, 999), (59, 999), (55, 999), (61, 999), (62, 999)] T H H := wfr.rf
  have u4097 := RC_k hRC_r0
  have u4098 := DM_k hDM_rp
  have h4099 : MA9 T H rp (d 1) := hDM_rp.2.2.2.1
  have h4100 : MA10 T H rp (d 2) := hDM_rp.2.2.2.2.1
  have h4101 : MA11 T H rp (d 3) := hDM_rp.2.2.2.2.2.1
  have h4102 : MA12 T H rp (d 4) := hDM_rp.2.2.2.2.2.2.1
  have h4103 : MA13 T H rp (d 5) := hDM_rp.2.2.2.2.2.2.2.1
  have h4104 : MA14 T H rp (d 6) := hDM_rp.2.2.2.2.2.2.2.2.1
  have h4105 : MA15 T H rp (d 7) := hDM_rp.2.2.2.2.2.2.2.2.2.1
  have h4106 : MA16 T H rp (d 8) := hDM_rp.2.2.2.2.2.2.2.2.2.2.1
  have h4107 : MA17 T H rp (d 9) := hDM_rp.2.2.2.2.2.2.2.2.2.2.2.1
  have h4108 : MA18 T H rp (d 10) := hDM_rp.2.2.2.2.2.2.2.2.2.2.2.2.1
  have h4109 : MA19 T H rp (d 11) := hDM_rp.2.2.2.2.2.2.2.2.2.2.2.2.2.1
  have h4110 : MA20 T H rp (d 12) := hDM_rp.2.2.2.2.2.2.2.2.2.2.2.2.2.2.1
  have h4111 : MA21 T H rp (d 13) := hDM_rp.2.2.2.2.2.2.2.2.2.2.2.2.2.2.2.1
  have h4112 : MA22 T H rp (d 14) := hDM_rp.2.2.2.2.2.2.2.2.2.2.2.2.2.2.2.2.1
  have h4113 : MA23 T H rp (d 15) := hDM_rp.2.2.2.2.2.2.2.2.2.2.2.2.2.2.2.2.2.1
  have h4114 : MA25 T H rp (d 17) := hDM_rp.2.2.2.2.2.2.2.2.2.2.2.2.2.2.2.2.2.2.1
  have h4115 : MA26 T H rp (d 16) := hDM_rp.2.2.2.2.2.2.2.2.2.2.2.2.2.2.2.2.2.2.2
  intro v4116 v4117 v4118 v4119 v4120 H4121 w4122 f4123 b4125 b4126 b4127 b4128 b4129 h4130 h4131 h4132 x4133 x4134 x4135 x4136 x4137 x4138 x4139 x4140 x4141 x4142
  have f4143 : wfr [(54, 3), (42, 8), (42, 9), (42, 10), (42, 11), (42, 12), (42, 13), (42, 14), (42, 15), (56, 999), (57, 999), (60, 999), (63, 999), (58, 999), (59, 999), (55, 999), (61, 999), (62, 999)] T H H4121 := wfr.rf.tr f4123 rfl
  have u4144 := RC_k h4130
  have u4145 := DM_k h4131
  refine wp_of e187 c187_112 (rw_aload_n (pc' := 113) (v := .ref r0) rfl rfl rfl ?_)
  refine wp_of e187 c187_113 (rw_ldcS (pc' := 115) (k := 83) rfl rfl rfl rfl ?_)
  have k4146 : H4121 r0 5 = H r0 5 := (f4123 r0 5 _ g0 rfl)
  have q4147 : H4121 r0 5 = (rb : Int) := k4146.trans qrb
  refine wp_of e187 c187_115 (xc_V (pc' := 118) (r := r0) (as := [.ref 83]) (st := []) (lm_9_240) rfl rfl (Nat.le_of_ble_eq_true rfl) w4122 g0 sh_42 (by decide) rfl (by decide) (u_192_k (B := B) (n := n) (q := ((xN B n (xN B n (xN B n (xN B n (xN B n (xN B n (xN B n (xN B n (xN B n (xN B n q)))))))))))) (kk := 8423732) w4122 g0 rfl q4147 grb (by decide +kernel) h4130) (fun R4148 T4149 H4150 p4151 => ?_))
  obtain ⟨e4152, w4154, f4155, z4156, e4153, b4157, p4158⟩ := p4151
  subst e4152
  subst e4153
  rcases p4158 with ⟨a4159, a4160, a4161⟩ | ⟨a4162, a4163, a4164⟩
  · have f4165 := f4143.tr f4155 rfl
    have f4166 := f4123.tr f4155 rfl
    show wp _ _ 187 118 [(0, .ref r0), (1, vL v4116), (3, vI v4117), (4, vI v4118), (5, vI v4119), (6, vI v4120)] [vI z4156] _ H4150 _
    have u4167 := RC_k a4161
    refine wp_of e187 c187_118 (rw_if_eq (p1 := 131) (p2 := 121) (by decide) rfl ⟨Int.le_trans (by decide) b4157.1, Int.le_trans b4157.2 (by decide)⟩ (fun c4168 => ?_) (fun c4168 => ?_))
    · exfalso
      omega
    · refine wp_of e187 c187_121 (rw_aload_n (pc' := 122) (v := .ref r0) rfl rfl rfl ?_)
      refine wp_of e187 c187_122 (rw_iconst (pc' := 123) rfl ?_)
      refine wp_of e187 c187_123 (rw_bipush (pc' := 125) (z := 23) rfl (by decide) ?_)
      have k4169 : H4150 r0 5 = H4121 r0 5 := (f4155 r0 5 _ g0 rfl)
      have q4170 : H4150 r0 5 = (rb : Int) := k4169.trans q4147
      refine wp_of e187 c187_125 (xc_V (pc' := 128) (r := r0) (as := [vI 0, vI 23]) (st := []) (lm_9_137) rfl rfl (Nat.le_of_ble_eq_true rfl) w4154 g0 sh_42 (by decide) rfl (by decide) (u_184_k (B := B) (n := n) (q := ((xN B n ((xN B n (xN B n (xN B n (xN B n (xN B n (xN B n (xN B n (xN B n (xN B n (xN B n q)))))))))))))) (lo := 0) (hi := 23) w4154 g0 ⟨by decide, by decide⟩ ⟨by decide, by decide⟩ q4170 grb (by omega) (by omega) a4161) (fun R4171 T4172 H4173 p4174 => ?_))
      obtain ⟨e4175, w4177, f4178, z4179, e4176, b4180, p4181⟩ := p4174
      subst e4175
      subst e4176
      rcases p4181 with ⟨a4182, a4183, a4184, a4185⟩ | ⟨a4186, a4187, a4188⟩
      · have f4189 := f4165.tr f4178 rfl
        have f4190 := f4166.tr f4178 rfl
        show wp _ _ 187 128 [(0, .ref r0), (1, vL v4116), (3, vI v4117), (4, vI v4118), (5, vI v4119), (6, vI v4120)] [vI z4179] _ H4173 _
        have u4191 := RC_k a4185
        refine wp_of e187 c187_128 (rw_goto (p1 := 132) (by decide) ?_)
        refine wp_of e187 c187_132 (rw_istore (pc' := 134) (z := z4179) (L' := [(7, vI z4179), (0, .ref r0), (1, vL v4116), (3, vI v4117), (4, vI v4118), (5, vI v4119), (6, vI v4120)]) rfl rfl rfl ?_)
        have _ea : xqa B n ((xN B n (xN B n (xN B n (xN B n (xN B n (xN B n (xN B n (xN B n (xN B n (xN B n q))))))))))) = ((xN B n ((xN B n ((xN B n (xN B n (xN B n (xN B n (xN B n (xN B n (xN B n (xN B n (xN B n (xN B n q))))))))))))))) := by
          unfold xqa
          first | rw [if_pos (Int.le_antisymm (by omega -splitDisjunctions) (by omega -splitDisjunctions))] | rw [if_pos (by omega -splitDisjunctions)] | rw [if_pos (And.intro (by omega -splitDisjunctions) (by omega -splitDisjunctions))] | rw [if_neg (by omega -splitDisjunctions)] | rw [if_neg (by omega)] | rw [if_pos (by omega)]
        have _eh : xhb B n ((xN B n (xN B n (xN B n (xN B n (xN B n (xN B n (xN B n (xN B n (xN B n (xN B n q))))))))))) = z4179 := by
          unfold xhb
          first | (rw [if_pos (Int.le_antisymm (by omega -splitDisjunctions) (by omega -splitDisjunctions))] <;> omega) | (rw [if_pos (by omega -splitDisjunctions)] <;> omega) | (rw [if_pos (And.intro (by omega -splitDisjunctions) (by omega -splitDisjunctions))] <;> omega) | (rw [if_neg (by omega -splitDisjunctions)] <;> omega) | (rw [if_neg (by omega)] <;> omega) | (rw [if_pos (by omega)] <;> omega)
        refine wp_of e187 c187_134 (rw_aload_n (pc' := 135) (v := .ref r0) rfl rfl rfl ?_)
        refine wp_of e187 c187_135 (rw_ldcS (pc' := 137) (k := 84) rfl rfl rfl rfl ?_)
        have k4192 : H4173 r0 5 = H4150 r0 5 := (f4178 r0 5 _ g0 rfl)
        have q4193 : H4173 r0 5 = (rb : Int) := k4192.trans q4170
        refine wp_of e187 c187_137 (xc_V (pc' := 140) (r := r0) (as := [.ref 84]) (st := []) (lm_9_240) rfl rfl (Nat.le_of_ble_eq_true rfl) w4177 g0 sh_42 (by decide) rfl (by decide) (u_192_k (B := B) (n := n) (q := ((xN B n ((xN B n ((xN B n (xN B n (xN B n (xN B n (xN B n (xN B n (xN B n (xN B n (xN B n (xN B n q)))))))))))))))) (kk := 14384) w4177 g0 rfl q4193 grb (by decide +kernel) a4185) (fun R4194 T4195 H4196 p4197 => ?_))
        obtain ⟨e4198, w4200, f4201, z4202, e4199, b4203, p4204⟩ := p4197
        subst e4198
        subst e4199
        rcases p4204 with ⟨a4205, a4206, a4207⟩ | ⟨a4208, a4209, a4210⟩
        · have f4211 := f4189.tr f4201 rfl
          have f4212 := f4190.tr f4201 rfl
          show wp _ _ 187 140 [(7, vI z4179), (0, .ref r0), (1, vL v4116), (3, vI v4117), (4, vI v4118), (5, vI v4119), (6, vI v4120)] [vI z4202] _ H4196 _
          have u4213 := RC_k a4207
          refine wp_of e187 c187_140 (rw_istore (pc' := 142) (z := z4202) (L' := [(8, vI z4202), (7, vI z4179), (0, .ref r0), (1, vL v4116), (3, vI v4117), (4, vI v4118), (5, vI v4119), (6, vI v4120)]) rfl rfl rfl ?_)
          refine wp_of e187 c187_142 (rw_iload (pc' := 144) (z := z4202) rfl rfl ?_)
          refine wp_of e187 c187_144 (rw_if_eq (p1 := 157) (p2 := 147) (by decide) rfl ⟨Int.le_trans (by decide) b4203.1, Int.le_trans b4203.2 (by decide)⟩ (fun c4214 => ?_) (fun c4214 => ?_))
          · exfalso
            omega
          · refine wp_of e187 c187_147 (rw_aload_n (pc' := 148) (v := .ref r0) rfl rfl rfl ?_)
            refine wp_of e187 c187_148 (rw_iconst (pc' := 149) rfl ?_)
            refine wp_of e187 c187_149 (rw_bipush (pc' := 151) (z := 23) rfl (by decide) ?_)
            have k4215 : H4196 r0 5 = H4173 r0 5 := (f4201 r0 5 _ g0 rfl)
            have q4216 : H4196 r0 5 = (rb : Int) := k4215.trans q4193
            refine wp_of e187 c187_151 (xc_V (pc' := 154) (r := r0) (as := [vI 0, vI 23]) (st := []) (lm_9_137) rfl rfl (Nat.le_of_ble_eq_true rfl) w4200 g0 sh_42 (by decide) rfl (by decide) (u_184_k (B := B) (n := n) (q := ((xN B n ((xN B n ((xN B n ((xN B n (xN B n (xN B n (xN B n (xN B n (xN B n (xN B n (xN B n (xN B n (xN B n q)))))))))))))))))) (lo := 0) (hi := 23) w4200 g0 ⟨by decide, by decide⟩ ⟨by decide, by decide⟩ q4216 grb (by omega) (by omega) a4207) (fun R4217 T4218 H4219 p4220 => ?_))
            obtain ⟨e4221, w4223, f4224, z4225, e4222, b4226, p4227⟩ := p4220
            subst e4221
            subst e4222
            rcases p4227 with ⟨a4228, a4229, a4230, a4231⟩ | ⟨a4232, a4233, a4234⟩
            · have f4235 := f4211.tr f4224 rfl
              have f4236 := f4212.tr f4224 rfl
              show wp _ _ 187 154 [(8, vI z4202), (7, vI z4179), (0, .ref r0), (1, vL v4116), (3, vI v4117), (4, vI v4118), (5, vI v4119), (6, vI v4120)] [vI z4225] _ H4219 _
              have u4237 := RC_k a4231
              refine wp_of e187 c187_154 (rw_goto (p1 := 158) (by decide) ?_)
              refine wp_of e187 c187_158 (rw_istore (pc' := 160) (z := z4225) (L' := [(9, vI z4225), (8, vI z4202), (7, vI z4179), (0, .ref r0), (1, vL v4116), (3, vI v4117), (4, vI v4118), (5, vI v4119), (6, vI v4120)]) rfl rfl rfl ?_)
              refine wp_of e187 c187_160 (rw_iload (pc' := 162) (z := z4202) rfl rfl ?_)
              refine wp_of e187 c187_162 (rw_if_eq (p1 := 180) (p2 := 165) (by decide) rfl ⟨Int.le_trans (by decide) b4203.1, Int.le_trans b4203.2 (by decide)⟩ (fun c4238 => ?_) (fun c4238 => ?_))
              · exfalso
                omega
              · refine wp_of e187 c187_165 (rw_aload_n (pc' := 166) (v := .ref r0) rfl rfl rfl ?_)
                refine wp_of e187 c187_166 (rw_ldcS (pc' := 168) (k := 87) rfl rfl rfl rfl ?_)
                refine wp_of e187 c187_168 (rw_iload (pc' := 170) (z := z4225) rfl rfl ?_)
                refine wp_of e187 c187_170 (rw_iconst (pc' := 171) rfl ?_)
                refine wp_of e187 c187_171 (rw_iadd (pc' := 172) rfl ?_)
                refine wp_of e187 c187_172 (rw_bipush (pc' := 174) (z := 24) rfl (by decide) ?_)
                have k4239 : H4219 r0 5 = H4196 r0 5 := (f4224 r0 5 _ g0 rfl)
                have q4240 : H4219 r0 5 = (rb : Int) := k4239.trans q4216
                refine wp_of e187 c187_174 (xc_V (pc' := 177) (r := r0) (as := [.ref 87, vI (z4225 + 1), vI 24]) (st := []) (lm_9_216) rfl rfl (Nat.le_of_ble_eq_true rfl) w4223 g0 sh_42 (by decide) rfl (by decide) (u_182_k (B := B) (n := n) (q := ((xN B n ((xN B n ((xN B n ((xN B n ((xN B n (xN B n (xN B n (xN B n (xN B n (xN B n (xN B n (xN B n (xN B n (xN B n q)))))))))))))))))))) (kk := 655) (lo := (xV B n (xN B n ((xN B n ((xN B n ((xN B n (xN B n (xN B n (xN B n (xN B n (xN B n (xN B n (xN B n (xN B n (xN B n q)))))))))))))))) + 1)) (hi := (min (xV B n (xN B n ((xN B n ((xN B n ((xN B n (xN B n (xN B n (xN B n (xN B n (xN B n (xN B n (xN B n (xN B n (xN B n q)))))))))))))))) + 24) 24)) w4223 g0 rfl ⟨by omega, by omega⟩ ⟨by decide, by decide⟩ q4240 grb (by decide +kernel) (by omega) (by omega) a4231) (fun R4241 T4242 H4243 p4244 => ?_))
                obtain ⟨e4245, w4247, f4248, z4249, e4246, b4250, p4251⟩ := p4244
                subst e4245
                subst e4246
                rcases p4251 with ⟨a4252, a4253, a4254, a4255, a4256, a4257⟩ | ⟨a4258, a4259, a4260⟩ | ⟨a4261, a4262, a4263, a4264⟩
                · have f4265 := f4235.tr f4248 rfl
                  have f4266 := f4236.tr f4248 rfl
                  show wp _ _ 187 177 [(9, vI z4225), (8, vI z4202), (7, vI z4179), (0, .ref r0), (1, vL v4116), (3, vI v4117), (4, vI v4118), (5, vI v4119), (6, vI v4120)] [vI z4249] _ H4243 _
                  have u4267 := RC_k a4257
                  refine wp_of e187 c187_177 (rw_goto (p1 := 181) (by decide) ?_)
                  refine wp_of e187 c187_181 (rw_istore (pc' := 183) (z := z4249) (L' := [(10, vI z4249), (9, vI z4225), (8, vI z4202), (7, vI z4179), (0, .ref r0), (1, vL v4116), (3, vI v4117), (4, vI v4118), (5, vI v4119), (6, vI v4120)]) rfl rfl rfl ?_)
                  have _eb : xqb B n ((xN B n ((xN B n ((xN B n (xN B n (xN B n (xN B n (xN B n (xN B n (xN B n (xN B n (xN B n (xN B n q))))))))))))))) = ((xN B n (xN B n ((xN B n ((xN B n ((xN B n ((xN B n ((xN B n (xN B n (xN B n (xN B n (xN B n (xN B n (xN B n (xN B n (xN B n (xN B n q)))))))))))))))))))))) := by
                    unfold xqb
                    first | rw [if_pos (Int.le_antisymm (by omega -splitDisjunctions) (by omega -splitDisjunctions))] | rw [if_pos (by omega -splitDisjunctions)] | rw [if_pos (And.intro (by omega -splitDisjunctions) (by omega -splitDisjunctions))] | rw [if_neg (by omega -splitDisjunctions)] | rw [if_neg (by omega)] | rw [if_pos (by omega)]
                  have _enf : xnf B n ((xN B n ((xN B n ((xN B n (xN B n (xN B n (xN B n (xN B n (xN B n (xN B n (xN B n (xN B n (xN B n q))))))))))))))) = z4225 := by
                    unfold xnf
                    first | (rw [if_pos (Int.le_antisymm (by omega -splitDisjunctions) (by omega -splitDisjunctions))] <;> omega) | (rw [if_pos (by omega -splitDisjunctions)] <;> omega) | (rw [if_pos (And.intro (by omega -splitDisjunctions) (by omega -splitDisjunctions))] <;> omega) | (rw [if_neg (by omega -splitDisjunctions)] <;> omega) | (rw [if_neg (by omega)] <;> omega) | (rw [if_pos (by omega)] <;> omega)
                  have _ent : xnt B n ((xN B n ((xN B n ((xN B n (xN B n (xN B n (xN B n (xN B n (xN B n (xN B n (xN B n (xN B n (xN B n q))))))))))))))) = z4249 := by
                    unfold xnt
                    first | (rw [if_pos (Int.le_antisymm (by omega -splitDisjunctions) (by omega -splitDisjunctions))] <;> omega) | (rw [if_pos (by omega -splitDisjunctions)] <;> omega) | (rw [if_pos (And.intro (by omega -splitDisjunctions) (by omega -splitDisjunctions))] <;> omega) | (rw [if_neg (by omega -splitDisjunctions)] <;> omega) | (rw [if_neg (by omega)] <;> omega) | (rw [if_pos (by omega)] <;> omega)
                  refine wp_of e187 c187_183 (rw_aload_n (pc' := 184) (v := .ref r0) rfl rfl rfl ?_)
                  refine wp_of e187 c187_184 (rw_ldcS (pc' := 186) (k := 85) rfl rfl rfl rfl ?_)
                  have k4268 : H4243 r0 5 = H4219 r0 5 := (f4248 r0 5 _ g0 rfl)
                  have q4269 : H4243 r0 5 = (rb : Int) := k4268.trans q4240
                  refine wp_of e187 c187_186 (xc_V (pc' := 189) (r := r0) (as := [.ref 85]) (st := []) (lm_9_240) rfl rfl (Nat.le_of_ble_eq_true rfl) w4247 g0 sh_42 (by decide) rfl (by decide) (u_192_k (B := B) (n := n) (q := ((xN B n (xN B n ((xN B n ((xN B n ((xN B n ((xN B n ((xN B n (xN B n (xN B n (xN B n (xN B n (xN B n (xN B n (xN B n (xN B n (xN B n q))))))))))))))))))))))) (kk := 56377) w4247 g0 rfl q4269 grb (by decide +kernel) a4257) (fun R4270 T4271 H4272 p4273 => ?_))
                  obtain ⟨e4274, w4276, f4277, z4278, e4275, b4279, p4280⟩ := p4273
                  subst e4274
                  subst e4275
                  rcases p4280 with ⟨a4281, a4282, a4283⟩ | ⟨a4284, a4285, a4286⟩
                  · have f4287 := f4265.tr f4277 rfl
                    have f4288 := f4266.tr f4277 rfl
                    show wp _ _ 187 189 [(10, vI z4249), (9, vI z4225), (8, vI z4202), (7, vI z4179), (0, .ref r0), (1, vL v4116), (3, vI v4117), (4, vI v4118), (5, vI v4119), (6, vI v4120)] [vI z4278] _ H4272 _
                    have u4289 := RC_k a4283
                    refine wp_of e187 c187_189 (rw_istore (pc' := 191) (z := z4278) (L' := [(11, vI z4278), (10, vI z4249), (9, vI z4225), (8, vI z4202), (7, vI z4179), (0, .ref r0), (1, vL v4116), (3, vI v4117), (4, vI v4118), (5, vI v4119), (6, vI v4120)]) rfl rfl rfl ?_)
                    have _ec : xqc B n ((xN B n (xN B n ((xN B n ((xN B n ((xN B n ((xN B n ((xN B n (xN B n (xN B n (xN B n (xN B n (xN B n (xN B n (xN B n (xN B n (xN B n q)))))))))))))))))))))) = ((xN B n ((xN B n (xN B n ((xN B n ((xN B n ((xN B n ((xN B n ((xN B n (xN B n (xN B n (xN B n (xN B n (xN B n (xN B n (xN B n (xN B n (xN B n q)))))))))))))))))))))))) := by
                      unfold xqc
                      first | rw [if_pos (Int.le_antisymm (by omega -splitDisjunctions) (by omega -splitDisjunctions))] | rw [if_pos (by omega -splitDisjunctions)] | rw [if_pos (And.intro (by omega -splitDisjunctions) (by omega -splitDisjunctions))] | rw [if_neg (by omega -splitDisjunctions)] | rw [if_neg (by omega)] | rw [if_pos (by omega)]
                    have _ew : xaw B n ((xN B n (xN B n ((xN B n ((xN B n ((xN B n ((xN B n ((xN B n (xN B n (xN B n (xN B n (xN B n (xN B n (xN B n (xN B n (xN B n (xN B n q)))))))))))))))))))))) = z4278 := by
                      unfold xaw
                      first | (rw [if_pos (Int.le_antisymm (by omega -splitDisjunctions) (by omega -splitDisjunctions))] <;> omega) | (rw [if_pos (by omega -splitDisjunctions)] <;> omega) | (rw [if_pos (And.intro (by omega -splitDisjunctions) (by omega -splitDisjunctions))] <;> omega) | (rw [if_neg (by omega -splitDisjunctions)] <;> omega) | (rw [if_neg (by omega)] <;> omega) | (rw [if_pos (by omega)] <;> omega)
                    refine wp_of e187 c187_191 (rw_aload_n (pc' := 192) (v := .ref r0) rfl rfl rfl ?_)
                    refine wp_of e187 c187_192 (xg_I (pc' := 195) lf_9_75 w4276 g0 sh_42 (by decide) (by decide) ty_42_9 rfl rfl (fun b4290 b4291 => ?_))
                    refine wp_of e187 c187_195 (rw_iconst (pc' := 196) rfl ?_)
                    refine wp_of e187 c187_196 (rw_icmp_ne (p1 := 200) (p2 := 199) (by decide) rfl ⟨Int.le_trans (by decide) b4290, Int.le_trans b4291 (by decide)⟩ ⟨by decide, by decide⟩ (fun c4292 => ?_) (fun c4292 => ?_))
                    · have o4293 : (xl1 B n q d) = (0, (xN B n (xN B n (xN B n (xN B n (xN B n (xN B n (xN B n (xN B n (xN B n (xN B n q)))))))))), (xN B n ((xN B n (xN B n ((xN B n ((xN B n ((xN B n ((xN B n ((xN B n (xN B n (xN B n (xN B n (xN B n (xN B n (xN B n (xN B n (xN B n (xN B n q)))))))))))))))))))))))) := by
                        rw [x4133]
                        unfold xcs xca xcb xrg
                        try simp only [xs_xs, xs_z]
                        try rw [_ea]
                        try rw [_eb]
                        try rw [_ec]
                        repeat first | rw [xs_0 (Int.le_antisymm (by omega -splitDisjunctions) (by omega -splitDisjunctions))] | rw [xs_1 (by omega -splitDisjunctions)] | rw [if_pos (Int.le_antisymm (by omega -splitDisjunctions) (by omega -splitDisjunctions))] | rw [if_pos (by omega -splitDisjunctions)] | rw [if_pos (And.intro (by omega -splitDisjunctions) (by omega -splitDisjunctions))] | rw [if_neg (by omega -splitDisjunctions)] | rw [xs_1 (by omega)] | rw [if_neg (by omega)] | rw [xs_0 (by omega)] | rw [if_pos (by omega)]
                        first | done | rfl | assumption | (exfalso; omega -splitDisjunctions) | (refine Prod.ext ?_ (Prod.ext ?_ ?_) <;> (try dsimp only) <;> omega) | (exfalso; omega)
                      have o4293a : ((xl1 B n q d)).1 = 0 := by rw [o4293]
                      have o4293b : ((xl1 B n q d)).2.1 = (xN B n (xN B n (xN B n (xN B n (xN B n (xN B n (xN B n (xN B n (xN B n (xN B n q)))))))))) := by rw [o4293]
                      have o4293c : ((xl1 B n q d)).2.2 = (xN B n ((xN B n (xN B n ((xN B n ((xN B n ((xN B n ((xN B n ((xN B n (xN B n (xN B n (xN B n (xN B n (xN B n (xN B n (xN B n (xN B n (xN B n q))))))))))))))))))))))) := by rw [o4293]
                      have h4294 : DM T H4272 rp r0 d := (DM_fr w4247 grp f4277 rfl (DM_fr w4223 grp f4248 rfl (DM_fr w4200 grp f4224 rfl (DM_fr w4177 grp f4201 rfl (DM_fr w4154 grp f4178 rfl (DM_fr w4122 grp f4155 rfl h4131))))))
                      have h4295 : FZ T H4272 rp N0 H0 := (FZ_fr w4247 grp f4277 rfl (FZ_fr w4223 grp f4248 rfl (FZ_fr w4200 grp f4224 rfl (FZ_fr w4177 grp f4201 rfl (FZ_fr w4154 grp f4178 rfl (FZ_fr w4122 grp f4155 rfl h4132))))))
                      exact wp_lc (ks := [11, 10, 9, 8, 7, 0, 1, 3, 4, 5, 6]) (wl_c rfl (wl_c rfl (wl_c rfl (wl_c rfl (wl_c rfl (wl_c rfl (wl_c rfl (wl_c rfl (wl_c rfl (wl_c rfl wl_n)))))))))) rfl (by decide) (u_187_k_t200k hW g0 qrp grp qrb grb p0 hRC_r0 hDM_rp hFZ_rp v4116 v4117 v4118 v4119 v4120 z4179 z4225 z4249 z4278 H4272 w4276 f4288 ⟨by omega, by omega⟩ ⟨by omega, by omega⟩ ⟨by omega, by omega⟩ ⟨by omega, by omega⟩ ⟨by omega, by omega⟩ ⟨by omega, by omega⟩ ⟨by omega, by omega⟩ ⟨by omega, by omega⟩ ⟨by omega, by omega⟩ (by rw [show (xl1 B n q d).2.2 = ((xN B n ((xN B n (xN B n ((xN B n ((xN B n ((xN B n ((xN B n ((xN B n (xN B n (xN B n (xN B n (xN B n (xN B n (xN B n (xN B n (xN B n (xN B n q)))))))))))))))))))))))) by omega]; exact a4283) h4294 h4295 (by omega) (by omega) (by omega) (by omega) (by omega) (by omega) (by omega) (by omega) (by omega) (by omega) (by omega) (by rw [_ea]; exact _enf) (by rw [_ea]; exact _ent) (by rw [_ea, _eb]; exact _ew) (by omega))
                    · exfalso
                      omega
                  · have f4296 := f4265.tr f4277 rfl
                    have f4297 := f4266.tr f4277 rfl
                    show wp _ _ 187 189 [(10, vI z4249), (9, vI z4225), (8, vI z4202), (7, vI z4179), (0, .ref r0), (1, vL v4116), (3, vI v4117), (4, vI v4118), (5, vI v4119), (6, vI v4120)] [vI z4278] _ H4272 _
                    have u4298 := RC_k a4286
                    refine wp_of e187 c187_189 (rw_istore (pc' := 191) (z := z4278) (L' := [(11, vI z4278), (10, vI z4249), (9, vI z4225), (8, vI z4202), (7, vI z4179), (0, .ref r0), (1, vL v4116), (3, vI v4117), (4, vI v4118), (5, vI v4119), (6, vI v4120)]) rfl rfl rfl ?_)
                    have _ec : xqc B n ((xN B n (xN B n ((xN B n ((xN B n ((xN B n ((xN B n ((xN B n (xN B n (xN B n (xN B n (xN B n (xN B n (xN B n (xN B n (xN B n (xN B n q)))))))))))))))))))))) = ((xN B n (xN B n ((xN B n ((xN B n ((xN B n ((xN B n ((xN B n (xN B n (xN B n (xN B n (xN B n (xN B n (xN B n (xN B n (xN B n (xN B n q)))))))))))))))))))))) := by
                      unfold xqc
                      first | rw [if_pos (Int.le_antisymm (by omega -splitDisjunctions) (by omega -splitDisjunctions))] | rw [if_pos (by omega -splitDisjunctions)] | rw [if_pos (And.intro (by omega -splitDisjunctions) (by omega -splitDisjunctions))] | rw [if_neg (by omega -splitDisjunctions)] | rw [if_neg (by omega)] | rw [if_pos (by omega)]
                    have _ew : xaw B n ((xN B n (xN B n ((xN B n ((xN B n ((xN B n ((xN B n ((xN B n (xN B n (xN B n (xN B n (xN B n (xN B n (xN B n (xN B n (xN B n (xN B n q)))))))))))))))))))))) = z4278 := by
                      unfold xaw
                      first | (rw [if_pos (Int.le_antisymm (by omega -splitDisjunctions) (by omega -splitDisjunctions))] <;> omega) | (rw [if_pos (by omega -splitDisjunctions)] <;> omega) | (rw [if_pos (And.intro (by omega -splitDisjunctions) (by omega -splitDisjunctions))] <;> omega) | (rw [if_neg (by omega -splitDisjunctions)] <;> omega) | (rw [if_neg (by omega)] <;> omega) | (rw [if_pos (by omega)] <;> omega)
                    refine wp_of e187 c187_191 (rw_aload_n (pc' := 192) (v := .ref r0) rfl rfl rfl ?_)
                    refine wp_of e187 c187_192 (xg_I (pc' := 195) lf_9_75 w4276 g0 sh_42 (by decide) (by decide) ty_42_9 rfl rfl (fun b4299 b4300 => ?_))
                    refine wp_of e187 c187_195 (rw_iconst (pc' := 196) rfl ?_)
                    refine wp_of e187 c187_196 (rw_icmp_ne (p1 := 200) (p2 := 199) (by decide) rfl ⟨Int.le_trans (by decide) b4299, Int.le_trans b4300 (by decide)⟩ ⟨by decide, by decide⟩ (fun c4301 => ?_) (fun c4301 => ?_))
                    · have o4302 : (xl1 B n q d) = (0, (xN B n (xN B n (xN B n (xN B n (xN B n (xN B n (xN B n (xN B n (xN B n (xN B n q)))))))))), (xN B n (xN B n ((xN B n ((xN B n ((xN B n ((xN B n ((xN B n (xN B n (xN B n (xN B n (xN B n (xN B n (xN B n (xN B n (xN B n (xN B n q)))))))))))))))))))))) := by
                        rw [x4133]
                        unfold xcs xca xcb xrg
                        try simp only [xs_xs, xs_z]
                        try rw [_ea]
                        try rw [_eb]
                        try rw [_ec]
                        repeat first | rw [xs_0 (Int.le_antisymm (by omega -splitDisjunctions) (by omega -splitDisjunctions))] | rw [xs_1 (by omega -splitDisjunctions)] | rw [if_pos (Int.le_antisymm (by omega -splitDisjunctions) (by omega -splitDisjunctions))] | rw [if_pos (by omega -splitDisjunctions)] | rw [if_pos (And.intro (by omega -splitDisjunctions) (by omega -splitDisjunctions))] | rw [if_neg (by omega -splitDisjunctions)] | rw [xs_1 (by omega)] | rw [if_neg (by omega)] | rw [xs_0 (by omega)] | rw [if_pos (by omega)]
                        first | done | rfl | assumption | (exfalso; omega -splitDisjunctions) | (refine Prod.ext ?_ (Prod.ext ?_ ?_) <;> (try dsimp only) <;> omega) | (exfalso; omega)
                      have o4302a : ((xl1 B n q d)).1 = 0 := by rw [o4302]
                      have o4302b : ((xl1 B n q d)).2.1 = (xN B n (xN B n (xN B n (xN B n (xN B n (xN B n (xN B n (xN B n (xN B n (xN B n q)))))))))) := by rw [o4302]
                      have o4302c : ((xl1 B n q d)).2.2 = (xN B n (xN B n ((xN B n ((xN B n ((xN B n ((xN B n ((xN B n (xN B n (xN B n (xN B n (xN B n (xN B n (xN B n (xN B n (xN B n (xN B n q))))))))))))))))))))) := by rw [o4302]
                      have h4303 : DM T H4272 rp r0 d := (DM_fr w4247 grp f4277 rfl (DM_fr w4223 grp f4248 rfl (DM_fr w4200 grp f4224 rfl (DM_fr w4177 grp f4201 rfl (DM_fr w4154 grp f4178 rfl (DM_fr w4122 grp f4155 rfl h4131))))))
                      have h4304 : FZ T H4272 rp N0 H0 := (FZ_fr w4247 grp f4277 rfl (FZ_fr w4223 grp f4248 rfl (FZ_fr w4200 grp f4224 rfl (FZ_fr w4177 grp f4201 rfl (FZ_fr w4154 grp f4178 rfl (FZ_fr w4122 grp f4155 rfl h4132))))))
                      exact wp_lc (ks := [11, 10, 9, 8, 7, 0, 1, 3, 4, 5, 6]) (wl_c rfl (wl_c rfl (wl_c rfl (wl_c rfl (wl_c rfl (wl_c rfl (wl_c rfl (wl_c rfl (wl_c rfl (wl_c rfl wl_n)))))))))) rfl (by decide) (u_187_k_t200k hW g0 qrp grp qrb grb p0 hRC_r0 hDM_rp hFZ_rp v4116 v4117 v4118 v4119 v4120 z4179 z4225 z4249 z4278 H4272 w4276 f4297 ⟨by omega, by omega⟩ ⟨by omega, by omega⟩ ⟨by omega, by omega⟩ ⟨by omega, by omega⟩ ⟨by omega, by omega⟩ ⟨by omega, by omega⟩ ⟨by omega, by omega⟩ ⟨by omega, by omega⟩ ⟨by omega, by omega⟩ (by rw [show (xl1 B n q d).2.2 = ((xN B n (xN B n ((xN B n ((xN B n ((xN B n ((xN B n ((xN B n (xN B n (xN B n (xN B n (xN B n (xN B n (xN B n (xN B n (xN B n (xN B n q)))))))))))))))))))))) by omega]; exact a4286) h4303 h4304 (by omega) (by omega) (by omega) (by omega) (by omega) (by omega) (by omega) (by omega) (by omega) (by omega) (by omega) (by rw [_ea]; exact _enf) (by rw [_ea]; exact _ent) (by rw [_ea, _eb]; exact _ew) (by omega))
                    · exfalso
                      omega
                · have f4305 := f4235.tr f4248 rfl
                  have f4306 := f4236.tr f4248 rfl
                  show wp _ _ 187 177 [(9, vI z4225), (8, vI z4202), (7, vI z4179), (0, .ref r0), (1, vL v4116), (3, vI v4117), (4, vI v4118), (5, vI v4119), (6, vI v4120)] [vI z4249] _ H4243 _
                  have u4307 := RO_k a4260
                  refine wp_of e187 c187_177 (rw_goto (p1 := 181) (by decide) ?_)
                  refine wp_of e187 c187_181 (rw_istore (pc' := 183) (z := z4249) (L' := [(10, vI z4249), (9, vI z4225), (8, vI z4202), (7, vI z4179), (0, .ref r0), (1, vL v4116), (3, vI v4117), (4, vI v4118), (5, vI v4119), (6, vI v4120)]) rfl rfl rfl ?_)
                  have o4308 : (xl1 B n q d) = (xw B n ((xN B n ((xN B n ((xN B n ((xN B n ((xN B n (xN B n (xN B n (xN B n (xN B n (xN B n (xN B n (xN B n (xN B n (xN B n q))))))))))))))))))) 655, ((xN B n ((xN B n ((xN B n ((xN B n ((xN B n (xN B n (xN B n (xN B n (xN B n (xN B n (xN B n (xN B n (xN B n (xN B n q))))))))))))))))))), ((xN B n ((xN B n ((xN B n ((xN B n ((xN B n (xN B n (xN B n (xN B n (xN B n (xN B n (xN B n (xN B n (xN B n (xN B n q)))))))))))))))))))) := by
                    rw [x4133]
                    unfold xcs xca xcb xrg
                    try simp only [xs_xs, xs_z]
                    try rw [_ea]
                    try rw [_eb]
                    try rw [_ec]
                    repeat first | rw [xs_0 (Int.le_antisymm (by omega -splitDisjunctions) (by omega -splitDisjunctions))] | rw [xs_1 (by omega -splitDisjunctions)] | rw [if_pos (Int.le_antisymm (by omega -splitDisjunctions) (by omega -splitDisjunctions))] | rw [if_pos (by omega -splitDisjunctions)] | rw [if_pos (And.intro (by omega -splitDisjunctions) (by omega -splitDisjunctions))] | rw [if_neg (by omega -splitDisjunctions)] | rw [xs_1 (by omega)] | rw [if_neg (by omega)] | rw [xs_0 (by omega)] | rw [if_pos (by omega)]
                    first | done | rfl | assumption | (exfalso; omega -splitDisjunctions) | (refine Prod.ext ?_ (Prod.ext ?_ ?_) <;> (try dsimp only) <;> omega) | (exfalso; omega)
                  have o4308a : ((xl1 B n q d)).1 = xw B n ((xN B n ((xN B n ((xN B n ((xN B n ((xN B n (xN B n (xN B n (xN B n (xN B n (xN B n (xN B n (xN B n (xN B n (xN B n q))))))))))))))))))) 655 := by rw [o4308]
                  have o4308b : ((xl1 B n q d)).2.1 = ((xN B n ((xN B n ((xN B n ((xN B n ((xN B n (xN B n (xN B n (xN B n (xN B n (xN B n (xN B n (xN B n (xN B n (xN B n q))))))))))))))))))) := by rw [o4308]
                  have o4308c : ((xl1 B n q d)).2.2 = ((xN B n ((xN B n ((xN B n ((xN B n ((xN B n (xN B n (xN B n (xN B n (xN B n (xN B n (xN B n (xN B n (xN B n (xN B n q))))))))))))))))))) := by rw [o4308]
                  have h4309 : FZ T H4243 rp N0 H0 := (FZ_fr w4223 grp f4248 rfl (FZ_fr w4200 grp f4224 rfl (FZ_fr w4177 grp f4201 rfl (FZ_fr w4154 grp f4178 rfl (FZ_fr w4122 grp f4155 rfl h4132)))))
                  exact wp_lc (ks := [10, 9, 8, 7, 0, 1, 3, 4, 5, 6]) (wl_c rfl (wl_c rfl (wl_c rfl (wl_c rfl (wl_c rfl (wl_c rfl (wl_c rfl (wl_c rfl (wl_c rfl wl_n))))))))) rfl (by decide) (u_187_k_t183o hW g0 qrp grp qrb grb p0 hRC_r0 hDM_rp hFZ_rp v4116 v4117 v4118 v4119 v4120 z4179 z4225 z4249 H4243 (xw B n ((xN B n ((xN B n ((xN B n ((xN B n ((xN B n (xN B n (xN B n (xN B n (xN B n (xN B n (xN B n (xN B n (xN B n (xN B n q))))))))))))))))))) 655) (((xN B n ((xN B n ((xN B n ((xN B n ((xN B n (xN B n (xN B n (xN B n (xN B n (xN B n (xN B n (xN B n (xN B n (xN B n q)))))))))))))))))))) w4247 f4306 ⟨by omega, by omega⟩ ⟨by omega, by omega⟩ ⟨by omega, by omega⟩ ⟨by omega, by omega⟩ ⟨by omega, by omega⟩ ⟨by omega, by omega⟩ ⟨by omega, by omega⟩ ⟨by omega, by omega⟩ a4260 h4309 (by omega) (by omega))
                · have f4310 := f4235.tr f4248 rfl
                  have f4311 := f4236.tr f4248 rfl
                  show wp _ _ 187 177 [(9, vI z4225), (8, vI z4202), (7, vI z4179), (0, .ref r0), (1, vL v4116), (3, vI v4117), (4, vI v4118), (5, vI v4119), (6, vI v4120)] [vI z4249] _ H4243 _
                  have u4312 := RO_k a4264
                  refine wp_of e187 c187_177 (rw_goto (p1 := 181) (by decide) ?_)
                  refine wp_of e187 c187_181 (rw_istore (pc' := 183) (z := z4249) (L' := [(10, vI z4249), (9, vI z4225), (8, vI z4202), (7, vI z4179), (0, .ref r0), (1, vL v4116), (3, vI v4117), (4, vI v4118), (5, vI v4119), (6, vI v4120)]) rfl rfl rfl ?_)
                  have o4313 : (xl1 B n q d) = (xh B n (xN B n ((xN B n ((xN B n ((xN B n ((xN B n ((xN B n (xN B n (xN B n (xN B n (xN B n (xN B n (xN B n (xN B n (xN B n (xN B n q)))))))))))))))))))) (xV B n (xN B n ((xN B n ((xN B n ((xN B n (xN B n (xN B n (xN B n (xN B n (xN B n (xN B n (xN B n (xN B n (xN B n q)))))))))))))))) + 1) (min (xV B n (xN B n ((xN B n ((xN B n ((xN B n (xN B n (xN B n (xN B n (xN B n (xN B n (xN B n (xN B n (xN B n (xN B n q)))))))))))))))) + 24) 24), (xN B n ((xN B n ((xN B n ((xN B n ((xN B n ((xN B n (xN B n (xN B n (xN B n (xN B n (xN B n (xN B n (xN B n (xN B n (xN B n q)))))))))))))))))))), (xN B n ((xN B n ((xN B n ((xN B n ((xN B n ((xN B n (xN B n (xN B n (xN B n (xN B n (xN B n (xN B n (xN B n (xN B n (xN B n q))))))))))))))))))))) := by
                    rw [x4133]
                    unfold xcs xca xcb xrg
                    try simp only [xs_xs, xs_z]
                    try rw [_ea]
                    try rw [_eb]
                    try rw [_ec]
                    repeat first | rw [xs_0 (Int.le_antisymm (by omega -splitDisjunctions) (by omega -splitDisjunctions))] | rw [xs_1 (by omega -splitDisjunctions)] | rw [if_pos (Int.le_antisymm (by omega -splitDisjunctions) (by omega -splitDisjunctions))] | rw [if_pos (by omega -splitDisjunctions)] | rw [if_pos (And.intro (by omega -splitDisjunctions) (by omega -splitDisjunctions))] | rw [if_neg (by omega -splitDisjunctions)] | rw [xs_1 (by omega)] | rw [if_neg (by omega)] | rw [xs_0 (by omega)] | rw [if_pos (by omega)]
                    first | done | rfl | assumption | (exfalso; omega -splitDisjunctions) | (refine Prod.ext ?_ (Prod.ext ?_ ?_) <;> (try dsimp only) <;> omega) | (exfalso; omega)
                  have o4313a : ((xl1 B n q d)).1 = xh B n (xN B n ((xN B n ((xN B n ((xN B n ((xN B n ((xN B n (xN B n (xN B n (xN B n (xN B n (xN B n (xN B n (xN B n (xN B n (xN B n q)))))))))))))))))))) (xV B n (xN B n ((xN B n ((xN B n ((xN B n (xN B n (xN B n (xN B n (xN B n (xN B n (xN B n (xN B n (xN B n (xN B n q)))))))))))))))) + 1) (min (xV B n (xN B n ((xN B n ((xN B n ((xN B n (xN B n (xN B n (xN B n (xN B n (xN B n (xN B n (xN B n (xN B n (xN B n q)))))))))))))))) + 24) 24) := by rw [o4313]
                  have o4313b : ((xl1 B n q d)).2.1 = (xN B n ((xN B n ((xN B n ((xN B n ((xN B n ((xN B n (xN B n (xN B n (xN B n (xN B n (xN B n (xN B n (xN B n (xN B n (xN B n q)))))))))))))))))))) := by rw [o4313]
                  have o4313c : ((xl1 B n q d)).2.2 = (xN B n ((xN B n ((xN B n ((xN B n ((xN B n ((xN B n (xN B n (xN B n (xN B n (xN B n (xN B n (xN B n (xN B n (xN B n (xN B n q)))))))))))))))))))) := by rw [o4313]
                  have h4314 : FZ T H4243 rp N0 H0 := (FZ_fr w4223 grp f4248 rfl (FZ_fr w4200 grp f4224 rfl (FZ_fr w4177 grp f4201 rfl (FZ_fr w4154 grp f4178 rfl (FZ_fr w4122 grp f4155 rfl h4132)))))
                  exact wp_lc (ks := [10, 9, 8, 7, 0, 1, 3, 4, 5, 6]) (wl_c rfl (wl_c rfl (wl_c rfl (wl_c rfl (wl_c rfl (wl_c rfl (wl_c rfl (wl_c rfl (wl_c rfl wl_n))))))))) rfl (by decide) (u_187_k_t183o hW g0 qrp grp qrb grb p0 hRC_r0 hDM_rp hFZ_rp v4116 v4117 v4118 v4119 v4120 z4179 z4225 z4249 H4243 (xh B n (xN B n ((xN B n ((xN B n ((xN B n ((xN B n ((xN B n (xN B n (xN B n (xN B n (xN B n (xN B n (xN B n (xN B n (xN B n (xN B n q)))))))))))))))))))) (xV B n (xN B n ((xN B n ((xN B n ((xN B n (xN B n (xN B n (xN B n (xN B n (xN B n (xN B n (xN B n (xN B n (xN B n q)))))))))))))))) + 1) (min (xV B n (xN B n ((xN B n ((xN B n ((xN B n (xN B n (xN B n (xN B n (xN B n (xN B n (xN B n (xN B n (xN B n (xN B n q)))))))))))))))) + 24) 24)) ((xN B n ((xN B n ((xN B n ((xN B n ((xN B n ((xN B n (xN B n (xN B n (xN B n (xN B n (xN B n (xN B n (xN B n (xN B n (xN B n q))))))))))))))))))))) w4247 f4311 ⟨by omega, by omega⟩ ⟨by omega, by omega⟩ ⟨by omega, by omega⟩ ⟨by omega, by omega⟩ ⟨by omega, by omega⟩ ⟨by omega, by omega⟩ ⟨by omega, by omega⟩ ⟨by omega, by omega⟩ a4264 h4314 (by omega) (by omega))
            · have f4315 := f4211.tr f4224 rfl
              have f4316 := f4212.tr f4224 rfl
              show wp _ _ 187 154 [(8, vI z4202), (7, vI z4179), (0, .ref r0), (1, vL v4116), (3, vI v4117), (4, vI v4118), (5, vI v4119), (6, vI v4120)] [vI z4225] _ H4219 _
              have u4317 := RO_k a4234
              refine wp_of e187 c187_154 (rw_goto (p1 := 158) (by decide) ?_)
              refine wp_of e187 c187_158 (rw_istore (pc' := 160) (z := z4225) (L' := [(9, vI z4225), (8, vI z4202), (7, vI z4179), (0, .ref r0), (1, vL v4116), (3, vI v4117), (4, vI v4118), (5, vI v4119), (6, vI v4120)]) rfl rfl rfl ?_)
              refine wp_of e187 c187_160 (rw_iload (pc' := 162) (z := z4202) rfl rfl ?_)
              refine wp_of e187 c187_162 (rw_if_eq (p1 := 180) (p2 := 165) (by decide) rfl ⟨Int.le_trans (by decide) b4203.1, Int.le_trans b4203.2 (by decide)⟩ (fun c4318 => ?_) (fun c4318 => ?_))
              · exfalso
                omega
              · refine wp_of e187 c187_165 (rw_aload_n (pc' := 166) (v := .ref r0) rfl rfl rfl ?_)
                refine wp_of e187 c187_166 (rw_ldcS (pc' := 168) (k := 87) rfl rfl rfl rfl ?_)
                refine wp_of e187 c187_168 (rw_iload (pc' := 170) (z := z4225) rfl rfl ?_)
                refine wp_of e187 c187_170 (rw_iconst (pc' := 171) rfl ?_)
                refine wp_of e187 c187_171 (rw_iadd (pc' := 172) rfl ?_)
                refine wp_of e187 c187_172 (rw_bipush (pc' := 174) (z := 24) rfl (by decide) ?_)
                have k4319 : H4219 r0 5 = H4196 r0 5 := (f4224 r0 5 _ g0 rfl)
                have q4320 : H4219 r0 5 = (rb : Int) := k4319.trans q4216
                refine wp_of e187 c187_174 (xc_V (pc' := 177) (r := r0) (as := [.ref 87, vI (z4225 + 1), vI 24]) (st := []) (lm_9_216) rfl rfl (Nat.le_of_ble_eq_true rfl) w4223 g0 sh_42 (by decide) rfl (by decide) (u_182_o (fo := (xh B n ((xN B n ((xN B n ((xN B n ((xN B n (xN B n (xN B n (xN B n (xN B n (xN B n (xN B n (xN B n (xN B n (xN B n q))))))))))))))))) 0 23)) (po := (((xN B n ((xN B n ((xN B n ((xN B n (xN B n (xN B n (xN B n (xN B n (xN B n (xN B n (xN B n (xN B n (xN B n q))))))))))))))))))) (kk := 655) w4223 g0 rfl ⟨by omega, by omega⟩ ⟨by decide, by decide⟩ q4320 grb (by decide +kernel) a4234) (fun R4321 T4322 H4323 p4324 => ?_))
                obtain ⟨e4325, e4327, z4328, e4326, b4329, p4330⟩ := p4324
                subst e4325
                subst e4326
                subst e4327
                obtain ⟨a4331, a4332⟩ := p4330
                show wp _ _ 187 177 [(9, vI z4225), (8, vI z4202), (7, vI z4179), (0, .ref r0), (1, vL v4116), (3, vI v4117), (4, vI v4118), (5, vI v4119), (6, vI v4120)] [vI z4328] _ H4219 _
                have u4333 := RO_k a4332
                refine wp_of e187 c187_177 (rw_goto (p1 := 181) (by decide) ?_)
                refine wp_of e187 c187_181 (rw_istore (pc' := 183) (z := z4328) (L' := [(10, vI z4328), (9, vI z4225), (8, vI z4202), (7, vI z4179), (0, .ref r0), (1, vL v4116), (3, vI v4117), (4, vI v4118), (5, vI v4119), (6, vI v4120)]) rfl rfl rfl ?_)
                have o4334 : (xl1 B n q d) = (xh B n ((xN B n ((xN B n ((xN B n ((xN B n (xN B n (xN B n (xN B n (xN B n (xN B n (xN B n (xN B n (xN B n (xN B n q))))))))))))))))) 0 23, ((xN B n ((xN B n ((xN B n ((xN B n (xN B n (xN B n (xN B n (xN B n (xN B n (xN B n (xN B n (xN B n (xN B n q))))))))))))))))), ((xN B n ((xN B n ((xN B n ((xN B n (xN B n (xN B n (xN B n (xN B n (xN B n (xN B n (xN B n (xN B n (xN B n q)))))))))))))))))) := by
                  rw [x4133]
                  unfold xcs xca xcb xrg
                  try simp only [xs_xs, xs_z]
                  try rw [_ea]
                  try rw [_eb]
                  try rw [_ec]
                  repeat first | rw [xs_0 (Int.le_antisymm (by omega -splitDisjunctions) (by omega -splitDisjunctions))] | rw [xs_1 (by omega -splitDisjunctions)] | rw [if_pos (Int.le_antisymm (by omega -splitDisjunctions) (by omega -splitDisjunctions))] | rw [if_pos (by omega -splitDisjunctions)] | rw [if_pos (And.intro (by omega -splitDisjunctions) (by omega -splitDisjunctions))] | rw [if_neg (by omega -splitDisjunctions)] | rw [xs_1 (by omega)] | rw [if_neg (by omega)] | rw [xs_0 (by omega)] | rw [if_pos (by omega)]
                  first | done | rfl | assumption | (exfalso; omega -splitDisjunctions) | (refine Prod.ext ?_ (Prod.ext ?_ ?_) <;> (try dsimp only) <;> omega) | (exfalso; omega)
                have o4334a : ((xl1 B n q d)).1 = xh B n ((xN B n ((xN B n ((xN B n ((xN B n (xN B n (xN B n (xN B n (xN B n (xN B n (xN B n (xN B n (xN B n (xN B n q))))))))))))))))) 0 23 := by rw [o4334]
                have o4334b : ((xl1 B n q d)).2.1 = ((xN B n ((xN B n ((xN B n ((xN B n (xN B n (xN B n (xN B n (xN B n (xN B n (xN B n (xN B n (xN B n (xN B n q))))))))))))))))) := by rw [o4334]
                have o4334c : ((xl1 B n q d)).2.2 = ((xN B n ((xN B n ((xN B n ((xN B n (xN B n (xN B n (xN B n (xN B n (xN B n (xN B n (xN B n (xN B n (xN B n q))))))))))))))))) := by rw [o4334]
                have h4335 : FZ T H4219 rp N0 H0 := (FZ_fr w4200 grp f4224 rfl (FZ_fr w4177 grp f4201 rfl (FZ_fr w4154 grp f4178 rfl (FZ_fr w4122 grp f4155 rfl h4132))))
                exact wp_lc (ks := [10, 9, 8, 7, 0, 1, 3, 4, 5, 6]) (wl_c rfl (wl_c rfl (wl_c rfl (wl_c rfl (wl_c rfl (wl_c rfl (wl_c rfl (wl_c rfl (wl_c rfl wl_n))))))))) rfl (by decide) (u_187_k_t183o hW g0 qrp grp qrb grb p0 hRC_r0 hDM_rp hFZ_rp v4116 v4117 v4118 v4119 v4120 z4179 z4225 z4328 H4219 (xh B n ((xN B n ((xN B n ((xN B n ((xN B n (xN B n (xN B n (xN B n (xN B n (xN B n (xN B n (xN B n (xN B n (xN B n q))))))))))))))))) 0 23) (((xN B n ((xN B n ((xN B n ((xN B n (xN B n (xN B n (xN B n (xN B n (xN B n (xN B n (xN B n (xN B n (xN B n q)))))))))))))))))) w4223 f4316 ⟨by omega, by omega⟩ ⟨by omega, by omega⟩ ⟨by omega, by omega⟩ ⟨by omega, by omega⟩ ⟨by omega, by omega⟩ ⟨by omega, by omega⟩ ⟨by omega, by omega⟩ ⟨by omega, by omega⟩ a4332 h4335 (by omega) (by omega))
        · have f4336 := f4189.tr f4201 rfl
          have f4337 := f4190.tr f4201 rfl
          show wp _ _ 187 140 [(7, vI z4179), (0, .ref r0), (1, vL v4116), (3, vI v4117), (4, vI v4118), (5, vI v4119), (6, vI v4120)] [vI z4202] _ H4196 _
          have u4338 := RC_k a4210
          refine wp_of e187 c187_140 (rw_istore (pc' := 142) (z := z4202) (L' := [(8, vI z4202), (7, vI z4179), (0, .ref r0), (1, vL v4116), (3, vI v4117), (4, vI v4118), (5, vI v4119), (6, vI v4120)]) rfl rfl rfl ?_)
          refine wp_of e187 c187_142 (rw_iload (pc' := 144) (z := z4202) rfl rfl ?_)
          refine wp_of e187 c187_144 (rw_if_eq (p1 := 157) (p2 := 147) (by decide) rfl ⟨Int.le_trans (by decide) b4203.1, Int.le_trans b4203.2 (by decide)⟩ (fun c4339 => ?_) (fun c4339 => ?_))
          · refine wp_of e187 c187_157 (rw_iconst (pc' := 158) rfl ?_)
            refine wp_of e187 c187_158 (rw_istore (pc' := 160) (z := 0) (L' := [(9, vI 0), (8, vI z4202), (7, vI z4179), (0, .ref r0), (1, vL v4116), (3, vI v4117), (4, vI v4118), (5, vI v4119), (6, vI v4120)]) rfl rfl rfl ?_)
            refine wp_of e187 c187_160 (rw_iload (pc' := 162) (z := z4202) rfl rfl ?_)
            refine wp_of e187 c187_162 (rw_if_eq (p1 := 180) (p2 := 165) (by decide) rfl ⟨Int.le_trans (by decide) b4203.1, Int.le_trans b4203.2 (by decide)⟩ (fun c4340 => ?_) (fun c4340 => ?_))
            · refine wp_of e187 c187_180 (rw_iconst (pc' := 181) rfl ?_)
              refine wp_of e187 c187_181 (rw_istore (pc' := 183) (z := 0) (L' := [(10, vI 0), (9, vI 0), (8, vI z4202), (7, vI z4179), (0, .ref r0), (1, vL v4116), (3, vI v4117), (4, vI v4118), (5, vI v4119), (6, vI v4120)]) rfl rfl rfl ?_)
              have _eb : xqb B n ((xN B n ((xN B n ((xN B n (xN B n (xN B n (xN B n (xN B n (xN B n (xN B n (xN B n (xN B n (xN B n q))))))))))))))) = ((xN B n ((xN B n ((xN B n (xN B n (xN B n (xN B n (xN B n (xN B n (xN B n (xN B n (xN B n (xN B n q))))))))))))))) := by
                unfold xqb
                first | rw [if_pos (Int.le_antisymm (by omega -splitDisjunctions) (by omega -splitDisjunctions))] | rw [if_pos (by omega -splitDisjunctions)] | rw [if_pos (And.intro (by omega -splitDisjunctions) (by omega -splitDisjunctions))] | rw [if_neg (by omega -splitDisjunctions)] | rw [if_neg (by omega)] | rw [if_pos (by omega)]
              have _enf : xnf B n ((xN B n ((xN B n ((xN B n (xN B n (xN B n (xN B n (xN B n (xN B n (xN B n (xN B n (xN B n (xN B n q))))))))))))))) = 0 := by
                unfold xnf
                first | (rw [if_pos (Int.le_antisymm (by omega -splitDisjunctions) (by omega -splitDisjunctions))] <;> omega) | (rw [if_pos (by omega -splitDisjunctions)] <;> omega) | (rw [if_pos (And.intro (by omega -splitDisjunctions) (by omega -splitDisjunctions))] <;> omega) | (rw [if_neg (by omega -splitDisjunctions)] <;> omega) | (rw [if_neg (by omega)] <;> omega) | (rw [if_pos (by omega)] <;> omega)
              have _ent : xnt B n ((xN B n ((xN B n ((xN B n (xN B n (xN B n (xN B n (xN B n (xN B n (xN B n (xN B n (xN B n (xN B n q))))))))))))))) = 0 := by
                unfold xnt
                first | (rw [if_pos (Int.le_antisymm (by omega -splitDisjunctions) (by omega -splitDisjunctions))] <;> omega) | (rw [if_pos (by omega -splitDisjunctions)] <;> omega) | (rw [if_pos (And.intro (by omega -splitDisjunctions) (by omega -splitDisjunctions))] <;> omega) | (rw [if_neg (by omega -splitDisjunctions)] <;> omega) | (rw [if_neg (by omega)] <;> omega) | (rw [if_pos (by omega)] <;> omega)
              refine wp_of e187 c187_183 (rw_aload_n (pc' := 184) (v := .ref r0) rfl rfl rfl ?_)
              refine wp_of e187 c187_184 (rw_ldcS (pc' := 186) (k := 85) rfl rfl rfl rfl ?_)
              have k4341 : H4196 r0 5 = H4173 r0 5 := (f4201 r0 5 _ g0 rfl)
              have q4342 : H4196 r0 5 = (rb : Int) := k4341.trans q4193
              refine wp_of e187 c187_186 (xc_V (pc' := 189) (r := r0) (as := [.ref 85]) (st := []) (lm_9_240) rfl rfl (Nat.le_of_ble_eq_true rfl) w4200 g0 sh_42 (by decide) rfl (by decide) (u_192_k (B := B) (n := n) (q := ((xN B n ((xN B n ((xN B n (xN B n (xN B n (xN B n (xN B n (xN B n (xN B n (xN B n (xN B n (xN B n q)))))))))))))))) (kk := 56377) w4200 g0 rfl q4342 grb (by decide +kernel) a4210) (fun R4343 T4344 H4345 p4346 => ?_))
              obtain ⟨e4347, w4349, f4350, z4351, e4348, b4352, p4353⟩ := p4346
              subst e4347
              subst e4348
              rcases p4353 with ⟨a4354, a4355, a4356⟩ | ⟨a4357, a4358, a4359⟩
              · have f4360 := f4336.tr f4350 rfl
                have f4361 := f4337.tr f4350 rfl
                show wp _ _ 187 189 [(10, vI 0), (9, vI 0), (8, vI z4202), (7, vI z4179), (0, .ref r0), (1, vL v4116), (3, vI v4117), (4, vI v4118), (5, vI v4119), (6, vI v4120)] [vI z4351] _ H4345 _
                have u4362 := RC_k a4356
                refine wp_of e187 c187_189 (rw_istore (pc' := 191) (z := z4351) (L' := [(11, vI z4351), (10, vI 0), (9, vI 0), (8, vI z4202), (7, vI z4179), (0, .ref r0), (1, vL v4116), (3, vI v4117), (4, vI v4118), (5, vI v4119), (6, vI v4120)]) rfl rfl rfl ?_)
                have _ec : xqc B n ((xN B n ((xN B n ((xN B n (xN B n (xN B n (xN B n (xN B n (xN B n (xN B n (xN B n (xN B n (xN B n q))))))))))))))) = ((xN B n ((xN B n ((xN B n ((xN B n (xN B n (xN B n (xN B n (xN B n (xN B n (xN B n (xN B n (xN B n (xN B n q))))))))))))))))) := by
                  unfold xqc
                  first | rw [if_pos (Int.le_antisymm (by omega -splitDisjunctions) (by omega -splitDisjunctions))] | rw [if_pos (by omega -splitDisjunctions)] | rw [if_pos (And.intro (by omega -splitDisjunctions) (by omega -splitDisjunctions))] | rw [if_neg (by omega -splitDisjunctions)] | rw [if_neg (by omega)] | rw [if_pos (by omega)]
                have _ew : xaw B n ((xN B n ((xN B n ((xN B n (xN B n (xN B n (xN B n (xN B n (xN B n (xN B n (xN B n (xN B n (xN B n q))))))))))))))) = z4351 := by
                  unfold xaw
                  first | (rw [if_pos (Int.le_antisymm (by omega -splitDisjunctions) (by omega -splitDisjunctions))] <;> omega) | (rw [if_pos (by omega -splitDisjunctions)] <;> omega) | (rw [if_pos (And.intro (by omega -splitDisjunctions) (by omega -splitDisjunctions))] <;> omega) | (rw [if_neg (by omega -splitDisjunctions)] <;> omega) | (rw [if_neg (by omega)] <;> omega) | (rw [if_pos (by omega)] <;> omega)
                refine wp_of e187 c187_191 (rw_aload_n (pc' := 192) (v := .ref r0) rfl rfl rfl ?_)
                refine wp_of e187 c187_192 (xg_I (pc' := 195) lf_9_75 w4349 g0 sh_42 (by decide) (by decide) ty_42_9 rfl rfl (fun b4363 b4364 => ?_))
                refine wp_of e187 c187_195 (rw_iconst (pc' := 196) rfl ?_)
                refine wp_of e187 c187_196 (rw_icmp_ne (p1 := 200) (p2 := 199) (by decide) rfl ⟨Int.le_trans (by decide) b4363, Int.le_trans b4364 (by decide)⟩ ⟨by decide, by decide⟩ (fun c4365 => ?_) (fun c4365 => ?_))
                · have o4366 : (xl1 B n q d) = (0, (xN B n (xN B n (xN B n (xN B n (xN B n (xN B n (xN B n (xN B n (xN B n (xN B n q)))))))))), (xN B n ((xN B n ((xN B n ((xN B n (xN B n (xN B n (xN B n (xN B n (xN B n (xN B n (xN B n (xN B n (xN B n q))))))))))))))))) := by
                    rw [x4133]
                    unfold xcs xca xcb xrg
                    try simp only [xs_xs, xs_z]
                    try rw [_ea]
                    try rw [_eb]
                    try rw [_ec]
                    repeat first | rw [xs_0 (Int.le_antisymm (by omega -splitDisjunctions) (by omega -splitDisjunctions))] | rw [xs_1 (by omega -splitDisjunctions)] | rw [if_pos (Int.le_antisymm (by omega -splitDisjunctions) (by omega -splitDisjunctions))] | rw [if_pos (by omega -splitDisjunctions)] | rw [if_pos (And.intro (by omega -splitDisjunctions) (by omega -splitDisjunctions))] | rw [if_neg (by omega -splitDisjunctions)] | rw [xs_1 (by omega)] | rw [if_neg (by omega)] | rw [xs_0 (by omega)] | rw [if_pos (by omega)]
                    first | done | rfl | assumption | (exfalso; omega -splitDisjunctions) | (refine Prod.ext ?_ (Prod.ext ?_ ?_) <;> (try dsimp only) <;> omega) | (exfalso; omega)
                  have o4366a : ((xl1 B n q d)).1 = 0 := by rw [o4366]
                  have o4366b : ((xl1 B n q d)).2.1 = (xN B n (xN B n (xN B n (xN B n (xN B n (xN B n (xN B n (xN B n (xN B n (xN B n q)))))))))) := by rw [o4366]
                  have o4366c : ((xl1 B n q d)).2.2 = (xN B n ((xN B n ((xN B n ((xN B n (xN B n (xN B n (xN B n (xN B n (xN B n (xN B n (xN B n (xN B n (xN B n q)))))))))))))))) := by rw [o4366]
                  have h4367 : DM T H4345 rp r0 d := (DM_fr w4200 grp f4350 rfl (DM_fr w4177 grp f4201 rfl (DM_fr w4154 grp f4178 rfl (DM_fr w4122 grp f4155 rfl h4131))))
                  have h4368 : FZ T H4345 rp N0 H0 := (FZ_fr w4200 grp f4350 rfl (FZ_fr w4177 grp f4201 rfl (FZ_fr w4154 grp f4178 rfl (FZ_fr w4122 grp f4155 rfl h4132))))
                  exact wp_lc (ks := [11, 10, 9, 8, 7, 0, 1, 3, 4, 5, 6]) (wl_c rfl (wl_c rfl (wl_c rfl (wl_c rfl (wl_c rfl (wl_c rfl (wl_c rfl (wl_c rfl (wl_c rfl (wl_c rfl wl_n)))))))))) rfl (by decide) (u_187_k_t200k hW g0 qrp grp qrb grb p0 hRC_r0 hDM_rp hFZ_rp v4116 v4117 v4118 v4119 v4120 z4179 0 0 z4351 H4345 w4349 f4361 ⟨by omega, by omega⟩ ⟨by omega, by omega⟩ ⟨by omega, by omega⟩ ⟨by omega, by omega⟩ ⟨by omega, by omega⟩ ⟨by omega, by omega⟩ ⟨by omega, by omega⟩ ⟨by omega, by omega⟩ ⟨by omega, by omega⟩ (by rw [show (xl1 B n q d).2.2 = ((xN B n ((xN B n ((xN B n ((xN B n (xN B n (xN B n (xN B n (xN B n (xN B n (xN B n (xN B n (xN B n (xN B n q))))))))))))))))) by omega]; exact a4356) h4367 h4368 (by omega) (by omega) (by omega) (by omega) (by omega) (by omega) (by omega) (by omega) (by omega) (by omega) (by omega) (by rw [_ea]; exact _enf) (by rw [_ea]; exact _ent) (by rw [_ea, _eb]; exact _ew) (by omega))
                · exfalso
                  omega
              · have f4369 := f4336.tr f4350 rfl
                have f4370 := f4337.tr f4350 rfl
                show wp _ _ 187 189 [(10, vI 0), (9, vI 0), (8, vI z4202), (7, vI z4179), (0, .ref r0), (1, vL v4116), (3, vI v4117), (4, vI v4118), (5, vI v4119), (6, vI v4120)] [vI z4351] _ H4345 _
                have u4371 := RC_k a4359
                refine wp_of e187 c187_189 (rw_istore (pc' := 191) (z := z4351) (L' := [(11, vI z4351), (10, vI 0), (9, vI 0), (8, vI z4202), (7, vI z4179), (0, .ref r0), (1, vL v4116), (3, vI v4117), (4, vI v4118), (5, vI v4119), (6, vI v4120)]) rfl rfl rfl ?_)
                have _ec : xqc B n ((xN B n ((xN B n ((xN B n (xN B n (xN B n (xN B n (xN B n (xN B n (xN B n (xN B n (xN B n (xN B n q))))))))))))))) = ((xN B n ((xN B n ((xN B n (xN B n (xN B n (xN B n (xN B n (xN B n (xN B n (xN B n (xN B n (xN B n q))))))))))))))) := by
                  unfold xqc
                  first | rw [if_pos (Int.le_antisymm (by omega -splitDisjunctions) (by omega -splitDisjunctions))] | rw [if_pos (by omega -splitDisjunctions)] | rw [if_pos (And.intro (by omega -splitDisjunctions) (by omega -splitDisjunctions))] | rw [if_neg (by omega -splitDisjunctions)] | rw [if_neg (by omega)] | rw [if_pos (by omega)]
                have _ew : xaw B n ((xN B n ((xN B n ((xN B n (xN B n (xN B n (xN B n (xN B n (xN B n (xN B n (xN B n (xN B n (xN B n q))))))))))))))) = z4351 := by
                  unfold xaw
                  first | (rw [if_pos (Int.le_antisymm (by omega -splitDisjunctions) (by omega -splitDisjunctions))] <;> omega) | (rw [if_pos (by omega -splitDisjunctions)] <;> omega) | (rw [if_pos (And.intro (by omega -splitDisjunctions) (by omega -splitDisjunctions))] <;> omega) | (rw [if_neg (by omega -splitDisjunctions)] <;> omega) | (rw [if_neg (by omega)] <;> omega) | (rw [if_pos (by omega)] <;> omega)
                refine wp_of e187 c187_191 (rw_aload_n (pc' := 192) (v := .ref r0) rfl rfl rfl ?_)
                refine wp_of e187 c187_192 (xg_I (pc' := 195) lf_9_75 w4349 g0 sh_42 (by decide) (by decide) ty_42_9 rfl rfl (fun b4372 b4373 => ?_))
                refine wp_of e187 c187_195 (rw_iconst (pc' := 196) rfl ?_)
                refine wp_of e187 c187_196 (rw_icmp_ne (p1 := 200) (p2 := 199) (by decide) rfl ⟨Int.le_trans (by decide) b4372, Int.le_trans b4373 (by decide)⟩ ⟨by decide, by decide⟩ (fun c4374 => ?_) (fun c4374 => ?_))
                · have o4375 : (xl1 B n q d) = (0, (xN B n (xN B n (xN B n (xN B n (xN B n (xN B n (xN B n (xN B n (xN B n (xN B n q)))))))))), (xN B n ((xN B n ((xN B n (xN B n (xN B n (xN B n (xN B n (xN B n (xN B n (xN B n (xN B n (xN B n q))))))))))))))) := by
                    rw [x4133]
                    unfold xcs xca xcb xrg
                    try simp only [xs_xs, xs_z]
                    try rw [_ea]
                    try rw [_eb]
                    try rw [_ec]
                    repeat first | rw [xs_0 (Int.le_antisymm (by omega -splitDisjunctions) (by omega -splitDisjunctions))] | rw [xs_1 (by omega -splitDisjunctions)] | rw [if_pos (Int.le_antisymm (by omega -splitDisjunctions) (by omega -splitDisjunctions))] | rw [if_pos (by omega -splitDisjunctions)] | rw [if_pos (And.intro (by omega -splitDisjunctions) (by omega -splitDisjunctions))] | rw [if_neg (by omega -splitDisjunctions)] | rw [xs_1 (by omega)] | rw [if_neg (by omega)] | rw [xs_0 (by omega)] | rw [if_pos (by omega)]
                    first | done | rfl | assumption | (exfalso; omega -splitDisjunctions) | (refine Prod.ext ?_ (Prod.ext ?_ ?_) <;> (try dsimp only) <;> omega) | (exfalso; omega)
                  have o4375a : ((xl1 B n q d)).1 = 0 := by rw [o4375]
                  have o4375b : ((xl1 B n q d)).2.1 = (xN B n (xN B n (xN B n (xN B n (xN B n (xN B n (xN B n (xN B n (xN B n (xN B n q)))))))))) := by rw [o4375]
                  have o4375c : ((xl1 B n q d)).2.2 = (xN B n ((xN B n ((xN B n (xN B n (xN B n (xN B n (xN B n (xN B n (xN B n (xN B n (xN B n (xN B n q)))))))))))))) := by rw [o4375]
                  have h4376 : DM T H4345 rp r0 d := (DM_fr w4200 grp f4350 rfl (DM_fr w4177 grp f4201 rfl (DM_fr w4154 grp f4178 rfl (DM_fr w4122 grp f4155 rfl h4131))))
                  have h4377 : FZ T H4345 rp N0 H0 := (FZ_fr w4200 grp f4350 rfl (FZ_fr w4177 grp f4201 rfl (FZ_fr w4154 grp f4178 rfl (FZ_fr w4122 grp f4155 rfl h4132))))
                  exact wp_lc (ks := [11, 10, 9, 8, 7, 0, 1, 3, 4, 5, 6]) (wl_c rfl (wl_c rfl (wl_c rfl (wl_c rfl (wl_c rfl (wl_c rfl (wl_c rfl (wl_c rfl (wl_c rfl (wl_c rfl wl_n)))))))))) rfl (by decide) (u_187_k_t200k hW g0 qrp grp qrb grb p0 hRC_r0 hDM_rp hFZ_rp v4116 v4117 v4118 v4119 v4120 z4179 0 0 z4351 H4345 w4349 f4370 ⟨by omega, by omega⟩ ⟨by omega, by omega⟩ ⟨by omega, by omega⟩ ⟨by omega, by omega⟩ ⟨by omega, by omega⟩ ⟨by omega, by omega⟩ ⟨by omega, by omega⟩ ⟨by omega, by omega⟩ ⟨by omega, by omega⟩ (by rw [show (xl1 B n q d).2.2 = ((xN B n ((xN B n ((xN B n (xN B n (xN B n (xN B n (xN B n (xN B n (xN B n (xN B n (xN B n (xN B n q))))))))))))))) by omega]; exact a4359) h4376 h4377 (by omega) (by omega) (by omega) (by omega) (by omega) (by omega) (by omega) (by omega) (by omega) (by omega) (by omega) (by rw [_ea]; exact _enf) (by rw [_ea]; exact _ent) (by rw [_ea, _eb]; exact _ew) (by omega))
                · exfalso
                  omega
            · exfalso
              omega
          · exfalso
            omega
      · have f4378 := f4165.tr f4178 rfl
        have f4379 := f4166.tr f4178 rfl
        show wp _ _ 187 128 [(0, .ref r0), (1, vL v4116), (3, vI v4117), (4, vI v4118), (5, vI v4119), (6, vI v4120)] [vI z4179] _ H4173 _
        have u4380 := RO_k a4188
        refine wp_of e187 c187_128 (rw_goto (p1 := 132) (by decide) ?_)
        refine wp_of e187 c187_132 (rw_istore (pc' := 134) (z := z4179) (L' := [(7, vI z4179), (0, .ref r0), (1, vL v4116), (3, vI v4117), (4, vI v4118), (5, vI v4119), (6, vI v4120)]) rfl rfl rfl ?_)
        have o4381 : (xl1 B n q d) = (xh B n ((xN B n ((xN B n (xN B n (xN B n (xN B n (xN B n (xN B n (xN B n (xN B n (xN B n (xN B n q))))))))))))) 0 23, ((xN B n ((xN B n (xN B n (xN B n (xN B n (xN B n (xN B n (xN B n (xN B n (xN B n (xN B n q))))))))))))), ((xN B n ((xN B n (xN B n (xN B n (xN B n (xN B n (xN B n (xN B n (xN B n (xN B n (xN B n q)))))))))))))) := by
          rw [x4133]
          unfold xcs xca xcb xrg
          try simp only [xs_xs, xs_z]
          try rw [_ea]
          try rw [_eb]
          try rw [_ec]
          repeat first | rw [xs_0 (Int.le_antisymm (by omega -splitDisjunctions) (by omega -splitDisjunctions))] | rw [xs_1 (by omega -splitDisjunctions)] | rw [if_pos (Int.le_antisymm (by omega -splitDisjunctions) (by omega -splitDisjunctions))] | rw [if_pos (by omega -splitDisjunctions)] | rw [if_pos (And.intro (by omega -splitDisjunctions) (by omega -splitDisjunctions))] | rw [if_neg (by omega -splitDisjunctions)] | rw [xs_1 (by omega)] | rw [if_neg (by omega)] | rw [xs_0 (by omega)] | rw [if_pos (by omega)]
          first | done | rfl | assumption | (exfalso; omega -splitDisjunctions) | (refine Prod.ext ?_ (Prod.ext ?_ ?_) <;> (try dsimp only) <;> omega) | (exfalso; omega)
        have o4381a : ((xl1 B n q d)).1 = xh B n ((xN B n ((xN B n (xN B n (xN B n (xN B n (xN B n (xN B n (xN B n (xN B n (xN B n (xN B n q))))))))))))) 0 23 := by rw [o4381]
        have o4381b : ((xl1 B n q d)).2.1 = ((xN B n ((xN B n (xN B n (xN B n (xN B n (xN B n (xN B n (xN B n (xN B n (xN B n (xN B n q))))))))))))) := by rw [o4381]
        have o4381c : ((xl1 B n q d)).2.2 = ((xN B n ((xN B n (xN B n (xN B n (xN B n (xN B n (xN B n (xN B n (xN B n (xN B n (xN B n q))))))))))))) := by rw [o4381]
        have h4382 : FZ T H4173 rp N0 H0 := (FZ_fr w4154 grp f4178 rfl (FZ_fr w4122 grp f4155 rfl h4132))
        exact wp_lc (ks := [7, 0, 1, 3, 4, 5, 6]) (wl_c rfl (wl_c rfl (wl_c rfl (wl_c rfl (wl_c rfl (wl_c rfl (wl_c rfl wl_n))))))) rfl (by decide) (u_187_k_t134o hW g0 qrp grp qrb grb p0 hRC_r0 hDM_rp hFZ_rp v4116 v4117 v4118 v4119 v4120 z4179 H4173 (xh B n ((xN B n ((xN B n (xN B n (xN B n (xN B n (xN B n (xN B n (xN B n (xN B n (xN B n (xN B n q))))))))))))) 0 23) (((xN B n ((xN B n (xN B n (xN B n (xN B n (xN B n (xN B n (xN B n (xN B n (xN B n (xN B n q)))))))))))))) w4177 f4379 ⟨by omega, by omega⟩ ⟨by omega, by omega⟩ ⟨by omega, by omega⟩ ⟨by omega, by omega⟩ ⟨by omega, by omega⟩ ⟨by omega, by omega⟩ a4188 h4382 (by omega) (by omega))
  · have f4383 := f4143.tr f4155 rfl
    have f4384 := f4123.tr f4155 rfl
    show wp _ _ 187 118 [(0, .ref r0), (1, vL v4116), (3, vI v4117), (4, vI v4118), (5, vI v4119), (6, vI v4120)] [vI z4156] _ H4150 _
    have u4385 := RC_k a4164
    refine wp_of e187 c187_118 (rw_if_eq (p1 := 131) (p2 := 121) (by decide) rfl ⟨Int.le_trans (by decide) b4157.1, Int.le_trans b4157.2 (by decide)⟩ (fun c4386 => ?_) (fun c4386 => ?_))
    · refine wp_of e187 c187_131 (rw_iconst (pc' := 132) rfl ?_)
      refine wp_of e187 c187_132 (rw_istore (pc' := 134) (z := -1) (L' := [(7, vI (-1)), (0, .ref r0), (1, vL v4116), (3, vI v4117), (4, vI v4118), (5, vI v4119), (6, vI v4120)]) rfl rfl rfl ?_)
      have _ea : xqa B n ((xN B n (xN B n (xN B n (xN B n (xN B n (xN B n (xN B n (xN B n (xN B n (xN B n q))))))))))) = ((xN B n (xN B n (xN B n (xN B n (xN B n (xN B n (xN B n (xN B n (xN B n (xN B n q))))))))))) := by
        unfold xqa
        first | rw [if_pos (Int.le_antisymm (by omega -splitDisjunctions) (by omega -splitDisjunctions))] | rw [if_pos (by omega -splitDisjunctions)] | rw [if_pos (And.intro (by omega -splitDisjunctions) (by omega -splitDisjunctions))] | rw [if_neg (by omega -splitDisjunctions)] | rw [if_neg (by omega)] | rw [if_pos (by omega)]
      have _eh : xhb B n ((xN B n (xN B n (xN B n (xN B n (xN B n (xN B n (xN B n (xN B n (xN B n (xN B n q))))))))))) = (-1) := by
        unfold xhb
        first | (rw [if_pos (Int.le_antisymm (by omega -splitDisjunctions) (by omega -splitDisjunctions))] <;> omega) | (rw [if_pos (by omega -splitDisjunctions)] <;> omega) | (rw [if_pos (And.intro (by omega -splitDisjunctions) (by omega -splitDisjunctions))] <;> omega) | (rw [if_neg (by omega -splitDisjunctions)] <;> omega) | (rw [if_neg (by omega)] <;> omega) | (rw [if_pos (by omega)] <;> omega)
      refine wp_of e187 c187_134 (rw_aload_n (pc' := 135) (v := .ref r0) rfl rfl rfl ?_)
      refine wp_of e187 c187_135 (rw_ldcS (pc' := 137) (k := 84) rfl rfl rfl rfl ?_)
      have k4387 : H4150 r0 5 = H4121 r0 5 := (f4155 r0 5 _ g0 rfl)
      have q4388 : H4150 r0 5 = (rb : Int) := k4387.trans q4147
      refine wp_of e187 c187_137 (xc_V (pc' := 140) (r := r0) (as := [.ref 84]) (st := []) (lm_9_240) rfl rfl (Nat.le_of_ble_eq_true rfl) w4154 g0 sh_42 (by decide) rfl (by decide) (u_192_k (B := B) (n := n) (q := ((xN B n (xN B n (xN B n (xN B n (xN B n (xN B n (xN B n (xN B n (xN B n (xN B n q)))))))))))) (kk := 14384) w4154 g0 rfl q4388 grb (by decide +kernel) a4164) (fun R4389 T4390 H4391 p4392 => ?_))
      obtain ⟨e4393, w4395, f4396, z4397, e4394, b4398, p4399⟩ := p4392
      subst e4393
      subst e4394
      rcases p4399 with ⟨a4400, a4401, a4402⟩ | ⟨a4403, a4404, a4405⟩
      · have f4406 := f4383.tr f4396 rfl
        have f4407 := f4384.tr f4396 rfl
        show wp _ _ 187 140 [(7, vI (-1)), (0, .ref r0), (1, vL v4116), (3, vI v4117), (4, vI v4118), (5, vI v4119), (6, vI v4120)] [vI z4397] _ H4391 _
        have u4408 := RC_k a4402
        refine wp_of e187 c187_140 (rw_istore (pc' := 142) (z := z4397) (L' := [(8, vI z4397), (7, vI (-1)), (0, .ref r0), (1, vL v4116), (3, vI v4117), (4, vI v4118), (5, vI v4119), (6, vI v4120)]) rfl rfl rfl ?_)
        refine wp_of e187 c187_142 (rw_iload (pc' := 144) (z := z4397) rfl rfl ?_)
        refine wp_of e187 c187_144 (rw_if_eq (p1 := 157) (p2 := 147) (by decide) rfl ⟨Int.le_trans (by decide) b4398.1, Int.le_trans b4398.2 (by decide)⟩ (fun c4409 => ?_) (fun c4409 => ?_))
        · exfalso
          omega
        · refine wp_of e187 c187_147 (rw_aload_n (pc' := 148) (v := .ref r0) rfl rfl rfl ?_)
          refine wp_of e187 c187_148 (rw_iconst (pc' := 149) rfl ?_)
          refine wp_of e187 c187_149 (rw_bipush (pc' := 151) (z := 23) rfl (by decide) ?_)
          have k4410 : H4391 r0 5 = H4150 r0 5 := (f4396 r0 5 _ g0 rfl)
          have q4411 : H4391 r0 5 = (rb : Int) := k4410.trans q4388
          refine wp_of e187 c187_151 (xc_V (pc' := 154) (r := r0) (as := [vI 0, vI 23]) (st := []) (lm_9_137) rfl rfl (Nat.le_of_ble_eq_true rfl) w4395 g0 sh_42 (by decide) rfl (by decide) (u_184_k (B := B) (n := n) (q := ((xN B n ((xN B n (xN B n (xN B n (xN B n (xN B n (xN B n (xN B n (xN B n (xN B n (xN B n q)))))))))))))) (lo := 0) (hi := 23) w4395 g0 ⟨by decide, by decide⟩ ⟨by decide, by decide⟩ q4411 grb (by omega) (by omega) a4402) (fun R4412 T4413 H4414 p4415 => ?_))
          obtain ⟨e4416, w4418, f4419, z4420, e4417, b4421, p4422⟩ := p4415
          subst e4416
          subst e4417
          rcases p4422 with ⟨a4423, a4424, a4425, a4426⟩ | ⟨a4427, a4428, a4429⟩
          · have f4430 := f4406.tr f4419 rfl
            have f4431 := f4407.tr f4419 rfl
            show wp _ _ 187 154 [(8, vI z4397), (7, vI (-1)), (0, .ref r0), (1, vL v4116), (3, vI v4117), (4, vI v4118), (5, vI v4119), (6, vI v4120)] [vI z4420] _ H4414 _
            have u4432 := RC_k a4426
            refine wp_of e187 c187_154 (rw_goto (p1 := 158) (by decide) ?_)
            refine wp_of e187 c187_158 (rw_istore (pc' := 160) (z := z4420) (L' := [(9, vI z4420), (8, vI z4397), (7, vI (-1)), (0, .ref r0), (1, vL v4116), (3, vI v4117), (4, vI v4118), (5, vI v4119), (6, vI v4120)]) rfl rfl rfl ?_)
            refine wp_of e187 c187_160 (rw_iload (pc' := 162) (z := z4397) rfl rfl ?_)
            refine wp_of e187 c187_162 (rw_if_eq (p1 := 180) (p2 := 165) (by decide) rfl ⟨Int.le_trans (by decide) b4398.1, Int.le_trans b4398.2 (by decide)⟩ (fun c4433 => ?_) (fun c4433 => ?_))
            · exfalso
              omega
            · refine wp_of e187 c187_165 (rw_aload_n (pc' := 166) (v := .ref r0) rfl rfl rfl ?_)
              refine wp_of e187 c187_166 (rw_ldcS (pc' := 168) (k := 87) rfl rfl rfl rfl ?_)
              refine wp_of e187 c187_168 (rw_iload (pc' := 170) (z := z4420) rfl rfl ?_)
              refine wp_of e187 c187_170 (rw_iconst (pc' := 171) rfl ?_)
              refine wp_of e187 c187_171 (rw_iadd (pc' := 172) rfl ?_)
              refine wp_of e187 c187_172 (rw_bipush (pc' := 174) (z := 24) rfl (by decide) ?_)
              have k4434 : H4414 r0 5 = H4391 r0 5 := (f4419 r0 5 _ g0 rfl)
              have q4435 : H4414 r0 5 = (rb : Int) := k4434.trans q4411
              refine wp_of e187 c187_174 (xc_V (pc' := 177) (r := r0) (as := [.ref 87, vI (z4420 + 1), vI 24]) (st := []) (lm_9_216) rfl rfl (Nat.le_of_ble_eq_true rfl) w4418 g0 sh_42 (by decide) rfl (by decide) (u_182_k (B := B) (n := n) (q := ((xN B n ((xN B n ((xN B n (xN B n (xN B n (xN B n (xN B n (xN B n (xN B n (xN B n (xN B n (xN B n q)))))))))))))))) (kk := 655) (lo := (xV B n (xN B n ((xN B n (xN B n (xN B n (xN B n (xN B n (xN B n (xN B n (xN B n (xN B n (xN B n q)))))))))))) + 1)) (hi := (min (xV B n (xN B n ((xN B n (xN B n (xN B n (xN B n (xN B n (xN B n (xN B n (xN B n (xN B n (xN B n q)))))))))))) + 24) 24)) w4418 g0 rfl ⟨by omega, by omega⟩ ⟨by decide, by decide⟩ q4435 grb (by decide +kernel) (by omega) (by omega) a4426) (fun R4436 T4437 H4438 p4439 => ?_))
              obtain ⟨e4440, w4442, f4443, z4444, e4441, b4445, p4446⟩ := p4439
              subst e4440
              subst e4441
              rcases p4446 with ⟨a4447, a4448, a4449, a4450, a4451, a4452⟩ | ⟨a4453, a4454, a4455⟩ | ⟨a4456, a4457, a4458, a4459⟩
              · have f4460 := f4430.tr f4443 rfl
                have f4461 := f4431.tr f4443 rfl
                show wp _ _ 187 177 [(9, vI z4420), (8, vI z4397), (7, vI (-1)), (0, .ref r0), (1, vL v4116), (3, vI v4117), (4, vI v4118), (5, vI v4119), (6, vI v4120)] [vI z4444] _ H4438 _
                have u4462 := RC_k a4452
                refine wp_of e187 c187_177 (rw_goto (p1 := 181) (by decide) ?_)
                refine wp_of e187 c187_181 (rw_istore (pc' := 183) (z := z4444) (L' := [(10, vI z4444), (9, vI z4420), (8, vI z4397), (7, vI (-1)), (0, .ref r0), (1, vL v4116), (3, vI v4117), (4, vI v4118), (5, vI v4119), (6, vI v4120)]) rfl rfl rfl ?_)
                have _eb : xqb B n ((xN B n (xN B n (xN B n (xN B n (xN B n (xN B n (xN B n (xN B n (xN B n (xN B n q))))))))))) = ((xN B n (xN B n ((xN B n ((xN B n ((xN B n (xN B n (xN B n (xN B n (xN B n (xN B n (xN B n (xN B n (xN B n (xN B n q)))))))))))))))))) := by
                  unfold xqb
                  first | rw [if_pos (Int.le_antisymm (by omega -splitDisjunctions) (by omega -splitDisjunctions))] | rw [if_pos (by omega -splitDisjunctions)] | rw [if_pos (And.intro (by omega -splitDisjunctions) (by omega -splitDisjunctions))] | rw [if_neg (by omega -splitDisjunctions)] | rw [if_neg (by omega)] | rw [if_pos (by omega)]
                have _enf : xnf B n ((xN B n (xN B n (xN B n (xN B n (xN B n (xN B n (xN B n (xN B n (xN B n (xN B n q))))))))))) = z4420 := by
                  unfold xnf
                  first | (rw [if_pos (Int.le_antisymm (by omega -splitDisjunctions) (by omega -splitDisjunctions))] <;> omega) | (rw [if_pos (by omega -splitDisjunctions)] <;> omega) | (rw [if_pos (And.intro (by omega -splitDisjunctions) (by omega -splitDisjunctions))] <;> omega) | (rw [if_neg (by omega -splitDisjunctions)] <;> omega) | (rw [if_neg (by omega)] <;> omega) | (rw [if_pos (by omega)] <;> omega)
                have _ent : xnt B n ((xN B n (xN B n (xN B n (xN B n (xN B n (xN B n (xN B n (xN B n (xN B n (xN B n q))))))))))) = z4444 := by
                  unfold xnt
                  first | (rw [if_pos (Int.le_antisymm (by omega -splitDisjunctions) (by omega -splitDisjunctions))] <;> omega) | (rw [if_pos (by omega -splitDisjunctions)] <;> omega) | (rw [if_pos (And.intro (by omega -splitDisjunctions) (by omega -splitDisjunctions))] <;> omega) | (rw [if_neg (by omega -splitDisjunctions)] <;> omega) | (rw [if_neg (by omega)] <;> omega) | (rw [if_pos (by omega)] <;> omega)
                refine wp_of e187 c187_183 (rw_aload_n (pc' := 184) (v := .ref r0) rfl rfl rfl ?_)
                refine wp_of e187 c187_184 (rw_ldcS (pc' := 186) (k := 85) rfl rfl rfl rfl ?_)
                have k4463 : H4438 r0 5 = H4414 r0 5 := (f4443 r0 5 _ g0 rfl)
                have q4464 : H4438 r0 5 = (rb : Int) := k4463.trans q4435
                refine wp_of e187 c187_186 (xc_V (pc' := 189) (r := r0) (as := [.ref 85]) (st := []) (lm_9_240) rfl rfl (Nat.le_of_ble_eq_true rfl) w4442 g0 sh_42 (by decide) rfl (by decide) (u_192_k (B := B) (n := n) (q := ((xN B n (xN B n ((xN B n ((xN B n ((xN B n (xN B n (xN B n (xN B n (xN B n (xN B n (xN B n (xN B n (xN B n (xN B n q))))))))))))))))))) (kk := 56377) w4442 g0 rfl q4464 grb (by decide +kernel) a4452) (fun R4465 T4466 H4467 p4468 => ?_))
                obtain ⟨e4469, w4471, f4472, z4473, e4470, b4474, p4475⟩ := p4468
                subst e4469
                subst e4470
                rcases p4475 with ⟨a4476, a4477, a4478⟩ | ⟨a4479, a4480, a4481⟩
                · have f4482 := f4460.tr f4472 rfl
                  have f4483 := f4461.tr f4472 rfl
                  show wp _ _ 187 189 [(10, vI z4444), (9, vI z4420), (8, vI z4397), (7, vI (-1)), (0, .ref r0), (1, vL v4116), (3, vI v4117), (4, vI v4118), (5, vI v4119), (6, vI v4120)] [vI z4473] _ H4467 _
                  have u4484 := RC_k a4478
                  refine wp_of e187 c187_189 (rw_istore (pc' := 191) (z := z4473) (L' := [(11, vI z4473), (10, vI z4444), (9, vI z4420), (8, vI z4397), (7, vI (-1)), (0, .ref r0), (1, vL v4116), (3, vI v4117), (4, vI v4118), (5, vI v4119), (6, vI v4120)]) rfl rfl rfl ?_)
                  have _ec : xqc B n ((xN B n (xN B n ((xN B n ((xN B n ((xN B n (xN B n (xN B n (xN B n (xN B n (xN B n (xN B n (xN B n (xN B n (xN B n q)))))))))))))))))) = ((xN B n ((xN B n (xN B n ((xN B n ((xN B n ((xN B n (xN B n (xN B n (xN B n (xN B n (xN B n (xN B n (xN B n (xN B n (xN B n q)))))))))))))))))))) := by
                    unfold xqc
                    first | rw [if_pos (Int.le_antisymm (by omega -splitDisjunctions) (by omega -splitDisjunctions))] | rw [if_pos (by omega -splitDisjunctions)] | rw [if_pos (And.intro (by omega -splitDisjunctions) (by omega -splitDisjunctions))] | rw [if_neg (by omega -splitDisjunctions)] | rw [if_neg (by omega)] | rw [if_pos (by omega)]
                  have _ew : xaw B n ((xN B n (xN B n ((xN B n ((xN B n ((xN B n (xN B n (xN B n (xN B n (xN B n (xN B n (xN B n (xN B n (xN B n (xN B n q)))))))))))))))))) = z4473 := by
                    unfold xaw
                    first | (rw [if_pos (Int.le_antisymm (by omega -splitDisjunctions) (by omega -splitDisjunctions))] <;> omega) | (rw [if_pos (by omega -splitDisjunctions)] <;> omega) | (rw [if_pos (And.intro (by omega -splitDisjunctions) (by omega -splitDisjunctions))] <;> omega) | (rw [if_neg (by omega -splitDisjunctions)] <;> omega) | (rw [if_neg (by omega)] <;> omega) | (rw [if_pos (by omega)] <;> omega)
                  refine wp_of e187 c187_191 (rw_aload_n (pc' := 192) (v := .ref r0) rfl rfl rfl ?_)
                  refine wp_of e187 c187_192 (xg_I (pc' := 195) lf_9_75 w4471 g0 sh_42 (by decide) (by decide) ty_42_9 rfl rfl (fun b4485 b4486 => ?_))
                  refine wp_of e187 c187_195 (rw_iconst (pc' := 196) rfl ?_)
                  refine wp_of e187 c187_196 (rw_icmp_ne (p1 := 200) (p2 := 199) (by decide) rfl ⟨Int.le_trans (by decide) b4485, Int.le_trans b4486 (by decide)⟩ ⟨by decide, by decide⟩ (fun c4487 => ?_) (fun c4487 => ?_))
                  · have o4488 : (xl1 B n q d) = (0, (xN B n (xN B n (xN B n (xN B n (xN B n (xN B n (xN B n (xN B n (xN B n (xN B n q)))))))))), (xN B n ((xN B n (xN B n ((xN B n ((xN B n ((xN B n (xN B n (xN B n (xN B n (xN B n (xN B n (xN B n (xN B n (xN B n (xN B n q)))))))))))))))))))) := by
                      rw [x4133]
                      unfold xcs xca xcb xrg
                      try simp only [xs_xs, xs_z]
                      try rw [_ea]
                      try rw [_eb]
                      try rw [_ec]
                      repeat first | rw [xs_0 (Int.le_antisymm (by omega -splitDisjunctions) (by omega -splitDisjunctions))] | rw [xs_1 (by omega -splitDisjunctions)] | rw [if_pos (Int.le_antisymm (by omega -splitDisjunctions) (by omega -splitDisjunctions))] | rw [if_pos (by omega -splitDisjunctions)] | rw [if_pos (And.intro (by omega -splitDisjunctions) (by omega -splitDisjunctions))] | rw [if_neg (by omega -splitDisjunctions)] | rw [xs_1 (by omega)] | rw [if_neg (by omega)] | rw [xs_0 (by omega)] | rw [if_pos (by omega)]
                      first | done | rfl | assumption | (exfalso; omega -splitDisjunctions) | (refine Prod.ext ?_ (Prod.ext ?_ ?_) <;> (try dsimp only) <;> omega) | (exfalso; omega)
                    have o4488a : ((xl1 B n q d)).1 = 0 := by rw [o4488]
                    have o4488b : ((xl1 B n q d)).2.1 = (xN B n (xN B n (xN B n (xN B n (xN B n (xN B n (xN B n (xN B n (xN B n (xN B n q)))))))))) := by rw [o4488]
                    have o4488c : ((xl1 B n q d)).2.2 = (xN B n ((xN B n (xN B n ((xN B n ((xN B n ((xN B n (xN B n (xN B n (xN B n (xN B n (xN B n (xN B n (xN B n (xN B n (xN B n q))))))))))))))))))) := by rw [o4488]
                    have h4489 : DM T H4467 rp r0 d := (DM_fr w4442 grp f4472 rfl (DM_fr w4418 grp f4443 rfl (DM_fr w4395 grp f4419 rfl (DM_fr w4154 grp f4396 rfl (DM_fr w4122 grp f4155 rfl h4131)))))
                    have h4490 : FZ T H4467 rp N0 H0 := (FZ_fr w4442 grp f4472 rfl (FZ_fr w4418 grp f4443 rfl (FZ_fr w4395 grp f4419 rfl (FZ_fr w4154 grp f4396 rfl (FZ_fr w4122 grp f4155 rfl h4132)))))
                    exact wp_lc (ks := [11, 10, 9, 8, 7, 0, 1, 3, 4, 5, 6]) (wl_c rfl (wl_c rfl (wl_c rfl (wl_c rfl (wl_c rfl (wl_c rfl (wl_c rfl (wl_c rfl (wl_c rfl (wl_c rfl wl_n)))))))))) rfl (by decide) (u_187_k_t200k hW g0 qrp grp qrb grb p0 hRC_r0 hDM_rp hFZ_rp v4116 v4117 v4118 v4119 v4120 (-1) z4420 z4444 z4473 H4467 w4471 f4483 ⟨by omega, by omega⟩ ⟨by omega, by omega⟩ ⟨by omega, by omega⟩ ⟨by omega, by omega⟩ ⟨by omega, by omega⟩ ⟨by omega, by omega⟩ ⟨by omega, by omega⟩ ⟨by omega, by omega⟩ ⟨by omega, by omega⟩ (by rw [show (xl1 B n q d).2.2 = ((xN B n ((xN B n (xN B n ((xN B n ((xN B n ((xN B n (xN B n (xN B n (xN B n (xN B n (xN B n (xN B n (xN B n (xN B n (xN B n q)))))))))))))))))))) by omega]; exact a4478) h4489 h4490 (by omega) (by omega) (by omega) (by omega) (by omega) (by omega) (by omega) (by omega) (by omega) (by omega) (by omega) (by rw [_ea]; exact _enf) (by rw [_ea]; exact _ent) (by rw [_ea, _eb]; exact _ew) (by omega))
                  · exfalso
                    omega
                · have f4491 := f4460.tr f4472 rfl
                  have f4492 := f4461.tr f4472 rfl
                  show wp _ _ 187 189 [(10, vI z4444), (9, vI z4420), (8, vI z4397), (7, vI (-1)), (0, .ref r0), (1, vL v4116), (3, vI v4117), (4, vI v4118), (5, vI v4119), (6, vI v4120)] [vI z4473] _ H4467 _
                  have u4493 := RC_k a4481
                  refine wp_of e187 c187_189 (rw_istore (pc' := 191) (z := z4473) (L' := [(11, vI z4473), (10, vI z4444), (9, vI z4420), (8, vI z4397), (7, vI (-1)), (0, .ref r0), (1, vL v4116), (3, vI v4117), (4, vI v4118), (5, vI v4119), (6, vI v4120)]) rfl rfl rfl ?_)
                  have _ec : xqc B n ((xN B n (xN B n ((xN B n ((xN B n ((xN B n (xN B n (xN B n (xN B n (xN B n (xN B n (xN B n (xN B n (xN B n (xN B n q)))))))))))))))))) = ((xN B n (xN B n ((xN B n ((xN B n ((xN B n (xN B n (xN B n (xN B n (xN B n (xN B n (xN B n (xN B n (xN B n (xN B n q)))))))))))))))))) := by
                    unfold xqc
                    first | rw [if_pos (Int.le_antisymm (by omega -splitDisjunctions) (by omega -splitDisjunctions))] | rw [if_pos (by omega -splitDisjunctions)] | rw [if_pos (And.intro (by omega -splitDisjunctions) (by omega -splitDisjunctions))] | rw [if_neg (by omega -splitDisjunctions)] | rw [if_neg (by omega)] | rw [if_pos (by omega)]
                  have _ew : xaw B n ((xN B n (xN B n ((xN B n ((xN B n ((xN B n (xN B n (xN B n (xN B n (xN B n (xN B n (xN B n (xN B n (xN B n (xN B n q)))))))))))))))))) = z4473 := by
                    unfold xaw
                    first | (rw [if_pos (Int.le_antisymm (by omega -splitDisjunctions) (by omega -splitDisjunctions))] <;> omega) | (rw [if_pos (by omega -splitDisjunctions)] <;> omega) | (rw [if_pos (And.intro (by omega -splitDisjunctions) (by omega -splitDisjunctions))] <;> omega) | (rw [if_neg (by omega -splitDisjunctions)] <;> omega) | (rw [if_neg (by omega)] <;> omega) | (rw [if_pos (by omega)] <;> omega)
                  refine wp_of e187 c187_191 (rw_aload_n (pc' := 192) (v := .ref r0) rfl rfl rfl ?_)
                  refine wp_of e187 c187_192 (xg_I (pc' := 195) lf_9_75 w4471 g0 sh_42 (by decide) (by decide) ty_42_9 rfl rfl (fun b4494 b4495 => ?_))
                  refine wp_of e187 c187_195 (rw_iconst (pc' := 196) rfl ?_)
                  refine wp_of e187 c187_196 (rw_icmp_ne (p1 := 200) (p2 := 199) (by decide) rfl ⟨Int.le_trans (by decide) b4494, Int.le_trans b4495 (by decide)⟩ ⟨by decide, by decide⟩ (fun c4496 => ?_) (fun c4496 => ?_))
                  · have o4497 : (xl1 B n q d) = (0, (xN B n (xN B n (xN B n (xN B n (xN B n (xN B n (xN B n (xN B n (xN B n (xN B n q)))))))))), (xN B n (xN B n ((xN B n ((xN B n ((xN B n (xN B n (xN B n (xN B n (xN B n (xN B n (xN B n (xN B n (xN B n (xN B n q)))))))))))))))))) := by
                      rw [x4133]
                      unfold xcs xca xcb xrg
                      try simp only [xs_xs, xs_z]
                      try rw [_ea]
                      try rw [_eb]
                      try rw [_ec]
                      repeat first | rw [xs_0 (Int.le_antisymm (by omega -splitDisjunctions) (by omega -splitDisjunctions))] | rw [xs_1 (by omega -splitDisjunctions)] | rw [if_pos (Int.le_antisymm (by omega -splitDisjunctions) (by omega -splitDisjunctions))] | rw [if_pos (by omega -splitDisjunctions)] | rw [if_pos (And.intro (by omega -splitDisjunctions) (by omega -splitDisjunctions))] | rw [if_neg (by omega -splitDisjunctions)] | rw [xs_1 (by omega)] | rw [if_neg (by omega)] | rw [xs_0 (by omega)] | rw [if_pos (by omega)]
                      first | done | rfl | assumption | (exfalso; omega -splitDisjunctions) | (refine Prod.ext ?_ (Prod.ext ?_ ?_) <;> (try dsimp only) <;> omega) | (exfalso; omega)
                    have o4497a : ((xl1 B n q d)).1 = 0 := by rw [o4497]
                    have o4497b : ((xl1 B n q d)).2.1 = (xN B n (xN B n (xN B n (xN B n (xN B n (xN B n (xN B n (xN B n (xN B n (xN B n q)))))))))) := by rw [o4497]
                    have o4497c : ((xl1 B n q d)).2.2 = (xN B n (xN B n ((xN B n ((xN B n ((xN B n (xN B n (xN B n (xN B n (xN B n (xN B n (xN B n (xN B n (xN B n (xN B n q))))))))))))))))) := by rw [o4497]
                    have h4498 : DM T H4467 rp r0 d := (DM_fr w4442 grp f4472 rfl (DM_fr w4418 grp f4443 rfl (DM_fr w4395 grp f4419 rfl (DM_fr w4154 grp f4396 rfl (DM_fr w4122 grp f4155 rfl h4131)))))
                    have h4499 : FZ T H4467 rp N0 H0 := (FZ_fr w4442 grp f4472 rfl (FZ_fr w4418 grp f4443 rfl (FZ_fr w4395 grp f4419 rfl (FZ_fr w4154 grp f4396 rfl (FZ_fr w4122 grp f4155 rfl h4132)))))
                    exact wp_lc (ks := [11, 10, 9, 8, 7, 0, 1, 3, 4, 5, 6]) (wl_c rfl (wl_c rfl (wl_c rfl (wl_c rfl (wl_c rfl (wl_c rfl (wl_c rfl (wl_c rfl (wl_c rfl (wl_c rfl wl_n)))))))))) rfl (by decide) (u_187_k_t200k hW g0 qrp grp qrb grb p0 hRC_r0 hDM_rp hFZ_rp v4116 v4117 v4118 v4119 v4120 (-1) z4420 z4444 z4473 H4467 w4471 f4492 ⟨by omega, by omega⟩ ⟨by omega, by omega⟩ ⟨by omega, by omega⟩ ⟨by omega, by omega⟩ ⟨by omega, by omega⟩ ⟨by omega, by omega⟩ ⟨by omega, by omega⟩ ⟨by omega, by omega⟩ ⟨by omega, by omega⟩ (by rw [show (xl1 B n q d).2.2 = ((xN B n (xN B n ((xN B n ((xN B n ((xN B n (xN B n (xN B n (xN B n (xN B n (xN B n (xN B n (xN B n (xN B n (xN B n q)))))))))))))))))) by omega]; exact a4481) h4498 h4499 (by omega) (by omega) (by omega) (by omega) (by omega) (by omega) (by omega) (by omega) (by omega) (by omega) (by omega) (by rw [_ea]; exact _enf) (by rw [_ea]; exact _ent) (by rw [_ea, _eb]; exact _ew) (by omega))
                  · exfalso
                    omega
              · have f4500 := f4430.tr f4443 rfl
                have f4501 := f4431.tr f4443 rfl
                show wp _ _ 187 177 [(9, vI z4420), (8, vI z4397), (7, vI (-1)), (0, .ref r0), (1, vL v4116), (3, vI v4117), (4, vI v4118), (5, vI v4119), (6, vI v4120)] [vI z4444] _ H4438 _
                have u4502 := RO_k a4455
                refine wp_of e187 c187_177 (rw_goto (p1 := 181) (by decide) ?_)
                refine wp_of e187 c187_181 (rw_istore (pc' := 183) (z := z4444) (L' := [(10, vI z4444), (9, vI z4420), (8, vI z4397), (7, vI (-1)), (0, .ref r0), (1, vL v4116), (3, vI v4117), (4, vI v4118), (5, vI v4119), (6, vI v4120)]) rfl rfl rfl ?_)
                have o4503 : (xl1 B n q d) = (xw B n ((xN B n ((xN B n ((xN B n (xN B n (xN B n (xN B n (xN B n (xN B n (xN B n (xN B n (xN B n (xN B n q))))))))))))))) 655, ((xN B n ((xN B n ((xN B n (xN B n (xN B n (xN B n (xN B n (xN B n (xN B n (xN B n (xN B n (xN B n q))))))))))))))), ((xN B n ((xN B n ((xN B n (xN B n (xN B n (xN B n (xN B n (xN B n (xN B n (xN B n (xN B n (xN B n q)))))))))))))))) := by
                  rw [x4133]
                  unfold xcs xca xcb xrg
                  try simp only [xs_xs, xs_z]
                  try rw [_ea]
                  try rw [_eb]
                  try rw [_ec]
                  repeat first | rw [xs_0 (Int.le_antisymm (by omega -splitDisjunctions) (by omega -splitDisjunctions))] | rw [xs_1 (by omega -splitDisjunctions)] | rw [if_pos (Int.le_antisymm (by omega -splitDisjunctions) (by omega -splitDisjunctions))] | rw [if_pos (by omega -splitDisjunctions)] | rw [if_pos (And.intro (by omega -splitDisjunctions) (by omega -splitDisjunctions))] | rw [if_neg (by omega -splitDisjunctions)] | rw [xs_1 (by omega)] | rw [if_neg (by omega)] | rw [xs_0 (by omega)] | rw [if_pos (by omega)]
                  first | done | rfl | assumption | (exfalso; omega -splitDisjunctions) | (refine Prod.ext ?_ (Prod.ext ?_ ?_) <;> (try dsimp only) <;> omega) | (exfalso; omega)
                have o4503a : ((xl1 B n q d)).1 = xw B n ((xN B n ((xN B n ((xN B n (xN B n (xN B n (xN B n (xN B n (xN B n (xN B n (xN B n (xN B n (xN B n q))))))))))))))) 655 := by rw [o4503]
                have o4503b : ((xl1 B n q d)).2.1 = ((xN B n ((xN B n ((xN B n (xN B n (xN B n (xN B n (xN B n (xN B n (xN B n (xN B n (xN B n (xN B n q))))))))))))))) := by rw [o4503]
                have o4503c : ((xl1 B n q d)).2.2 = ((xN B n ((xN B n ((xN B n (xN B n (xN B n (xN B n (xN B n (xN B n (xN B n (xN B n (xN B n (xN B n q))))))))))))))) := by rw [o4503]
                have h4504 : FZ T H4438 rp N0 H0 := (FZ_fr w4418 grp f4443 rfl (FZ_fr w4395 grp f4419 rfl (FZ_fr w4154 grp f4396 rfl (FZ_fr w4122 grp f4155 rfl h4132))))
                exact wp_lc (ks := [10, 9, 8, 7, 0, 1, 3, 4, 5, 6]) (wl_c rfl (wl_c rfl (wl_c rfl (wl_c rfl (wl_c rfl (wl_c rfl (wl_c rfl (wl_c rfl (wl_c rfl wl_n))))))))) rfl (by decide) (u_187_k_t183o hW g0 qrp grp qrb grb p0 hRC_r0 hDM_rp hFZ_rp v4116 v4117 v4118 v4119 v4120 (-1) z4420 z4444 H4438 (xw B n ((xN B n ((xN B n ((xN B n (xN B n (xN B n (xN B n (xN B n (xN B n (xN B n (xN B n (xN B n (xN B n q))))))))))))))) 655) (((xN B n ((xN B n ((xN B n (xN B n (xN B n (xN B n (xN B n (xN B n (xN B n (xN B n (xN B n (xN B n q)))))))))))))))) w4442 f4501 ⟨by omega, by omega⟩ ⟨by omega, by omega⟩ ⟨by omega, by omega⟩ ⟨by omega, by omega⟩ ⟨by omega, by omega⟩ ⟨by omega, by omega⟩ ⟨by omega, by omega⟩ ⟨by omega, by omega⟩ a4455 h4504 (by omega) (by omega))
              · have f4505 := f4430.tr f4443 rfl
                have f4506 := f4431.tr f4443 rfl
                show wp _ _ 187 177 [(9, vI z4420), (8, vI z4397), (7, vI (-1)), (0, .ref r0), (1, vL v4116), (3, vI v4117), (4, vI v4118), (5, vI v4119), (6, vI v4120)] [vI z4444] _ H4438 _
                have u4507 := RO_k a4459
                refine wp_of e187 c187_177 (rw_goto (p1 := 181) (by decide) ?_)
                refine wp_of e187 c187_181 (rw_istore (pc' := 183) (z := z4444) (L' := [(10, vI z4444), (9, vI z4420), (8, vI z4397), (7, vI (-1)), (0, .ref r0), (1, vL v4116), (3, vI v4117), (4, vI v4118), (5, vI v4119), (6, vI v4120)]) rfl rfl rfl ?_)
                have o4508 : (xl1 B n q d) = (xh B n (xN B n ((xN B n ((xN B n ((xN B n (xN B n (xN B n (xN B n (xN B n (xN B n (xN B n (xN B n (xN B n (xN B n q)))))))))))))))) (xV B n (xN B n ((xN B n (xN B n (xN B n (xN B n (xN B n (xN B n (xN B n (xN B n (xN B n (xN B n q)))))))))))) + 1) (min (xV B n (xN B n ((xN B n (xN B n (xN B n (xN B n (xN B n (xN B n (xN B n (xN B n (xN B n (xN B n q)))))))))))) + 24) 24), (xN B n ((xN B n ((xN B n ((xN B n (xN B n (xN B n (xN B n (xN B n (xN B n (xN B n (xN B n (xN B n (xN B n q)))))))))))))))), (xN B n ((xN B n ((xN B n ((xN B n (xN B n (xN B n (xN B n (xN B n (xN B n (xN B n (xN B n (xN B n (xN B n q))))))))))))))))) := by
                  rw [x4133]
                  unfold xcs xca xcb xrg
                  try simp only [xs_xs, xs_z]
                  try rw [_ea]
                  try rw [_eb]
                  try rw [_ec]
                  repeat first | rw [xs_0 (Int.le_antisymm (by omega -splitDisjunctions) (by omega -splitDisjunctions))] | rw [xs_1 (by omega -splitDisjunctions)] | rw [if_pos (Int.le_antisymm (by omega -splitDisjunctions) (by omega -splitDisjunctions))] | rw [if_pos (by omega -splitDisjunctions)] | rw [if_pos (And.intro (by omega -splitDisjunctions) (by omega -splitDisjunctions))] | rw [if_neg (by omega -splitDisjunctions)] | rw [xs_1 (by omega)] | rw [if_neg (by omega)] | rw [xs_0 (by omega)] | rw [if_pos (by omega)]
                  first | done | rfl | assumption | (exfalso; omega -splitDisjunctions) | (refine Prod.ext ?_ (Prod.ext ?_ ?_) <;> (try dsimp only) <;> omega) | (exfalso; omega)
                have o4508a : ((xl1 B n q d)).1 = xh B n (xN B n ((xN B n ((xN B n ((xN B n (xN B n (xN B n (xN B n (xN B n (xN B n (xN B n (xN B n (xN B n (xN B n q)))))))))))))))) (xV B n (xN B n ((xN B n (xN B n (xN B n (xN B n (xN B n (xN B n (xN B n (xN B n (xN B n (xN B n q)))))))))))) + 1) (min (xV B n (xN B n ((xN B n (xN B n (xN B n (xN B n (xN B n (xN B n (xN B n (xN B n (xN B n (xN B n q)))))))))))) + 24) 24) := by rw [o4508]
                have o4508b : ((xl1 B n q d)).2.1 = (xN B n ((xN B n ((xN B n ((xN B n (xN B n (xN B n (xN B n (xN B n (xN B n (xN B n (xN B n (xN B n (xN B n q)))))))))))))))) := by rw [o4508]
                have o4508c : ((xl1 B n q d)).2.2 = (xN B n ((xN B n ((xN B n ((xN B n (xN B n (xN B n (xN B n (xN B n (xN B n (xN B n (xN B n (xN B n (xN B n q)))))))))))))))) := by rw [o4508]
                have h4509 : FZ T H4438 rp N0 H0 := (FZ_fr w4418 grp f4443 rfl (FZ_fr w4395 grp f4419 rfl (FZ_fr w4154 grp f4396 rfl (FZ_fr w4122 grp f4155 rfl h4132))))
                exact wp_lc (ks := [10, 9, 8, 7, 0, 1, 3, 4, 5, 6]) (wl_c rfl (wl_c rfl (wl_c rfl (wl_c rfl (wl_c rfl (wl_c rfl (wl_c rfl (wl_c rfl (wl_c rfl wl_n))))))))) rfl (by decide) (u_187_k_t183o hW g0 qrp grp qrb grb p0 hRC_r0 hDM_rp hFZ_rp v4116 v4117 v4118 v4119 v4120 (-1) z4420 z4444 H4438 (xh B n (xN B n ((xN B n ((xN B n ((xN B n (xN B n (xN B n (xN B n (xN B n (xN B n (xN B n (xN B n (xN B n (xN B n q)))))))))))))))) (xV B n (xN B n ((xN B n (xN B n (xN B n (xN B n (xN B n (xN B n (xN B n (xN B n (xN B n (xN B n q)))))))))))) + 1) (min (xV B n (xN B n ((xN B n (xN B n (xN B n (xN B n (xN B n (xN B n (xN B n (xN B n (xN B n (xN B n q)))))))))))) + 24) 24)) ((xN B n ((xN B n ((xN B n ((xN B n (xN B n (xN B n (xN B n (xN B n (xN B n (xN B n (xN B n (xN B n (xN B n q))))))))))))))))) w4442 f4506 ⟨by omega, by omega⟩ ⟨by omega, by omega⟩ ⟨by omega, by omega⟩ ⟨by omega, by omega⟩ ⟨by omega, by omega⟩ ⟨by omega, by omega⟩ ⟨by omega, by omega⟩ ⟨by omega, by omega⟩ a4459 h4509 (by omega) (by omega))
          · have f4510 := f4406.tr f4419 rfl
            have f4511 := f4407.tr f4419 rfl
            show wp _ _ 187 154 [(8, vI z4397), (7, vI (-1)), (0, .ref r0), (1, vL v4116), (3, vI v4117), (4, vI v4118), (5, vI v4119), (6, vI v4120)] [vI z4420] _ H4414 _
            have u4512 := RO_k a4429
            refine wp_of e187 c187_154 (rw_goto (p1 := 158) (by decide) ?_)
            refine wp_of e187 c187_158 (rw_istore (pc' := 160) (z := z4420) (L' := [(9, vI z4420), (8, vI z4397), (7, vI (-1)), (0, .ref r0), (1, vL v4116), (3, vI v4117), (4, vI v4118), (5, vI v4119), (6, vI v4120)]) rfl rfl rfl ?_)
            refine wp_of e187 c187_160 (rw_iload (pc' := 162) (z := z4397) rfl rfl ?_)
            refine wp_of e187 c187_162 (rw_if_eq (p1 := 180) (p2 := 165) (by decide) rfl ⟨Int.le_trans (by decide) b4398.1, Int.le_trans b4398.2 (by decide)⟩ (fun c4513 => ?_) (fun c4513 => ?_))
            · exfalso
              omega
            · refine wp_of e187 c187_165 (rw_aload_n (pc' := 166) (v := .ref r0) rfl rfl rfl ?_)
              refine wp_of e187 c187_166 (rw_ldcS (pc' := 168) (k := 87) rfl rfl rfl rfl ?_)
              refine wp_of e187 c187_168 (rw_iload (pc' := 170) (z := z4420) rfl rfl ?_)
              refine wp_of e187 c187_170 (rw_iconst (pc' := 171) rfl ?_)
              refine wp_of e187 c187_171 (rw_iadd (pc' := 172) rfl ?_)
              refine wp_of e187 c187_172 (rw_bipush (pc' := 174) (z := 24) rfl (by decide) ?_)
              have k4514 : H4414 r0 5 = H4391 r0 5 := (f4419 r0 5 _ g0 rfl)
              have q4515 : H4414 r0 5 = (rb : Int) := k4514.trans q4411
              refine wp_of e187 c187_174 (xc_V (pc' := 177) (r := r0) (as := [.ref 87, vI (z4420 + 1), vI 24]) (st := []) (lm_9_216) rfl rfl (Nat.le_of_ble_eq_true rfl) w4418 g0 sh_42 (by decide) rfl (by decide) (u_182_o (fo := (xh B n ((xN B n ((xN B n (xN B n (xN B n (xN B n (xN B n (xN B n (xN B n (xN B n (xN B n (xN B n q))))))))))))) 0 23)) (po := (((xN B n ((xN B n (xN B n (xN B n (xN B n (xN B n (xN B n (xN B n (xN B n (xN B n (xN B n q))))))))))))))) (kk := 655) w4418 g0 rfl ⟨by omega, by omega⟩ ⟨by decide, by decide⟩ q4515 grb (by decide +kernel) a4429) (fun R4516 T4517 H4518 p4519 => ?_))
              obtain ⟨e4520, e4522, z4523, e4521, b4524, p4525⟩ := p4519
              subst e4520
              subst e4521
              subst e4522
              obtain ⟨a4526, a4527⟩ := p4525
              show wp _ _ 187 177 [(9, vI z4420), (8, vI z4397), (7, vI (-1)), (0, .ref r0), (1, vL v4116), (3, vI v4117), (4, vI v4118), (5, vI v4119), (6, vI v4120)] [vI z4523] _ H4414 _
              have u4528 := RO_k a4527
              refine wp_of e187 c187_177 (rw_goto (p1 := 181) (by decide) ?_)
              refine wp_of e187 c187_181 (rw_istore (pc' := 183) (z := z4523) (L' := [(10, vI z4523), (9, vI z4420), (8, vI z4397), (7, vI (-1)), (0, .ref r0), (1, vL v4116), (3, vI v4117), (4, vI v4118), (5, vI v4119), (6, vI v4120)]) rfl rfl rfl ?_)
              have o4529 : (xl1 B n q d) = (xh B n ((xN B n ((xN B n (xN B n (xN B n (xN B n (xN B n (xN B n (xN B n (xN B n (xN B n (xN B n q))))))))))))) 0 23, ((xN B n ((xN B n (xN B n (xN B n (xN B n (xN B n (xN B n (xN B n (xN B n (xN B n (xN B n q))))))))))))), ((xN B n ((xN B n (xN B n (xN B n (xN B n (xN B n (xN B n (xN B n (xN B n (xN B n (xN B n q)))))))))))))) := by
                rw [x4133]
                unfold xcs xca xcb xrg
                try simp only [xs_xs, xs_z]
                try rw [_ea]
                try rw [_eb]
                try rw [_ec]
                repeat first | rw [xs_0 (Int.le_antisymm (by omega -splitDisjunctions) (by omega -splitDisjunctions))] | rw [xs_1 (by omega -splitDisjunctions)] | rw [if_pos (Int.le_antisymm (by omega -splitDisjunctions) (by omega -splitDisjunctions))] | rw [if_pos (by omega -splitDisjunctions)] | rw [if_pos (And.intro (by omega -splitDisjunctions) (by omega -splitDisjunctions))] | rw [if_neg (by omega -splitDisjunctions)] | rw [xs_1 (by omega)] | rw [if_neg (by omega)] | rw [xs_0 (by omega)] | rw [if_pos (by omega)]
                first | done | rfl | assumption | (exfalso; omega -splitDisjunctions) | (refine Prod.ext ?_ (Prod.ext ?_ ?_) <;> (try dsimp only) <;> omega) | (exfalso; omega)
              have o4529a : ((xl1 B n q d)).1 = xh B n ((xN B n ((xN B n (xN B n (xN B n (xN B n (xN B n (xN B n (xN B n (xN B n (xN B n (xN B n q))))))))))))) 0 23 := by rw [o4529]
              have o4529b : ((xl1 B n q d)).2.1 = ((xN B n ((xN B n (xN B n (xN B n (xN B n (xN B n (xN B n (xN B n (xN B n (xN B n (xN B n q))))))))))))) := by rw [o4529]
              have o4529c : ((xl1 B n q d)).2.2 = ((xN B n ((xN B n (xN B n (xN B n (xN B n (xN B n (xN B n (xN B n (xN B n (xN B n (xN B n q))))))))))))) := by rw [o4529]
              have h4530 : FZ T H4414 rp N0 H0 := (FZ_fr w4395 grp f4419 rfl (FZ_fr w4154 grp f4396 rfl (FZ_fr w4122 grp f4155 rfl h4132)))
              exact wp_lc (ks := [10, 9, 8, 7, 0, 1, 3, 4, 5, 6]) (wl_c rfl (wl_c rfl (wl_c rfl (wl_c rfl (wl_c rfl (wl_c rfl (wl_c rfl (wl_c rfl (wl_c rfl wl_n))))))))) rfl (by decide) (u_187_k_t183o hW g0 qrp grp qrb grb p0 hRC_r0 hDM_rp hFZ_rp v4116 v4117 v4118 v4119 v4120 (-1) z4420 z4523 H4414 (xh B n ((xN B n ((xN B n (xN B n (xN B n (xN B n (xN B n (xN B n (xN B n (xN B n (xN B n (xN B n q))))))))))))) 0 23) (((xN B n ((xN B n (xN B n (xN B n (xN B n (xN B n (xN B n (xN B n (xN B n (xN B n (xN B n q)))))))))))))) w4418 f4511 ⟨by omega, by omega⟩ ⟨by omega, by omega⟩ ⟨by omega, by omega⟩ ⟨by omega, by omega⟩ ⟨by omega, by omega⟩ ⟨by omega, by omega⟩ ⟨by omega, by omega⟩ ⟨by omega, by omega⟩ a4527 h4530 (by omega) (by omega))
      · have f4531 := f4383.tr f4396 rfl
        have f4532 := f4384.tr f4396 rfl
        show wp _ _ 187 140 [(7, vI (-1)), (0, .ref r0), (1, vL v4116), (3, vI v4117), (4, vI v4118), (5, vI v4119), (6, vI v4120)] [vI z4397] _ H4391 _
        have u4533 := RC_k a4405
        refine wp_of e187 c187_140 (rw_istore (pc' := 142) (z := z4397) (L' := [(8, vI z4397), (7, vI (-1)), (0, .ref r0), (1, vL v4116), (3, vI v4117), (4, vI v4118), (5, vI v4119), (6, vI v4120)]) rfl rfl rfl ?_)
        refine wp_of e187 c187_142 (rw_iload (pc' := 144) (z := z4397) rfl rfl ?_)
        refine wp_of e187 c187_144 (rw_if_eq (p1 := 157) (p2 := 147) (by decide) rfl ⟨Int.le_trans (by decide) b4398.1, Int.le_trans b4398.2 (by decide)⟩ (fun c4534 => ?_) (fun c4534 => ?_))
        · refine wp_of e187 c187_157 (rw_iconst (pc' := 158) rfl ?_)
          refine wp_of e187 c187_158 (rw_istore (pc' := 160) (z := 0) (L' := [(9, vI 0), (8, vI z4397), (7, vI (-1)), (0, .ref r0), (1, vL v4116), (3, vI v4117), (4, vI v4118), (5, vI v4119), (6, vI v4120)]) rfl rfl rfl ?_)
          refine wp_of e187 c187_160 (rw_iload (pc' := 162) (z := z4397) rfl rfl ?_)
          refine wp_of e187 c187_162 (rw_if_eq (p1 := 180) (p2 := 165) (by decide) rfl ⟨Int.le_trans (by decide) b4398.1, Int.le_trans b4398.2 (by decide)⟩ (fun c4535 => ?_) (fun c4535 => ?_))
          · refine wp_of e187 c187_180 (rw_iconst (pc' := 181) rfl ?_)
            refine wp_of e187 c187_181 (rw_istore (pc' := 183) (z := 0) (L' := [(10, vI 0), (9, vI 0), (8, vI z4397), (7, vI (-1)), (0, .ref r0), (1, vL v4116), (3, vI v4117), (4, vI v4118), (5, vI v4119), (6, vI v4120)]) rfl rfl rfl ?_)
            have _eb : xqb B n ((xN B n (xN B n (xN B n (xN B n (xN B n (xN B n (xN B n (xN B n (xN B n (xN B n q))))))))))) = ((xN B n (xN B n (xN B n (xN B n (xN B n (xN B n (xN B n (xN B n (xN B n (xN B n q))))))))))) := by
              unfold xqb
              first | rw [if_pos (Int.le_antisymm (by omega -splitDisjunctions) (by omega -splitDisjunctions))] | rw [if_pos (by omega -splitDisjunctions)] | rw [if_pos (And.intro (by omega -splitDisjunctions) (by omega -splitDisjunctions))] | rw [if_neg (by omega -splitDisjunctions)] | rw [if_neg (by omega)] | rw [if_pos (by omega)]
            have _enf : xnf B n ((xN B n (xN B n (xN B n (xN B n (xN B n (xN B n (xN B n (xN B n (xN B n (xN B n q))))))))))) = 0 := by
              unfold xnf
              first | (rw [if_pos (Int.le_antisymm (by omega -splitDisjunctions) (by omega -splitDisjunctions))] <;> omega) | (rw [if_pos (by omega -splitDisjunctions)] <;> omega) | (rw [if_pos (And.intro (by omega -splitDisjunctions) (by omega -splitDisjunctions))] <;> omega) | (rw [if_neg (by omega -splitDisjunctions)] <;> omega) | (rw [if_neg (by omega)] <;> omega) | (rw [if_pos (by omega)] <;> omega)
            have _ent : xnt B n ((xN B n (xN B n (xN B n (xN B n (xN B n (xN B n (xN B n (xN B n (xN B n (xN B n q))))))))))) = 0 := by
              unfold xnt
              first | (rw [if_pos (Int.le_antisymm (by omega -splitDisjunctions) (by omega -splitDisjunctions))] <;> omega) | (rw [if_pos (by omega -splitDisjunctions)] <;> omega) | (rw [if_pos (And.intro (by omega -splitDisjunctions) (by omega -splitDisjunctions))] <;> omega) | (rw [if_neg (by omega -splitDisjunctions)] <;> omega) | (rw [if_neg (by omega)] <;> omega) | (rw [if_pos (by omega)] <;> omega)
            refine wp_of e187 c187_183 (rw_aload_n (pc' := 184) (v := .ref r0) rfl rfl rfl ?_)
            refine wp_of e187 c187_184 (rw_ldcS (pc' := 186) (k := 85) rfl rfl rfl rfl ?_)
            have k4536 : H4391 r0 5 = H4150 r0 5 := (f4396 r0 5 _ g0 rfl)
            have q4537 : H4391 r0 5 = (rb : Int) := k4536.trans q4388
            refine wp_of e187 c187_186 (xc_V (pc' := 189) (r := r0) (as := [.ref 85]) (st := []) (lm_9_240) rfl rfl (Nat.le_of_ble_eq_true rfl) w4395 g0 sh_42 (by decide) rfl (by decide) (u_192_k (B := B) (n := n) (q := ((xN B n (xN B n (xN B n (xN B n (xN B n (xN B n (xN B n (xN B n (xN B n (xN B n q)))))))))))) (kk := 56377) w4395 g0 rfl q4537 grb (by decide +kernel) a4405) (fun R4538 T4539 H4540 p4541 => ?_))
            obtain ⟨e4542, w4544, f4545, z4546, e4543, b4547, p4548⟩ := p4541
            subst e4542
            subst e4543
            rcases p4548 with ⟨a4549, a4550, a4551⟩ | ⟨a4552, a4553, a4554⟩
            · have f4555 := f4531.tr f4545 rfl
              have f4556 := f4532.tr f4545 rfl
              show wp _ _ 187 189 [(10, vI 0), (9, vI 0), (8, vI z4397), (7, vI (-1)), (0, .ref r0), (1, vL v4116), (3, vI v4117), (4, vI v4118), (5, vI v4119), (6, vI v4120)] [vI z4546] _ H4540 _
              have u4557 := RC_k a4551
              refine wp_of e187 c187_189 (rw_istore (pc' := 191) (z := z4546) (L' := [(11, vI z4546), (10, vI 0), (9, vI 0), (8, vI z4397), (7, vI (-1)), (0, .ref r0), (1, vL v4116), (3, vI v4117), (4, vI v4118), (5, vI v4119), (6, vI v4120)]) rfl rfl rfl ?_)
              have _ec : xqc B n ((xN B n (xN B n (xN B n (xN B n (xN B n (xN B n (xN B n (xN B n (xN B n (xN B n q))))))))))) = ((xN B n ((xN B n (xN B n (xN B n (xN B n (xN B n (xN B n (xN B n (xN B n (xN B n (xN B n q))))))))))))) := by
                unfold xqc
                first | rw [if_pos (Int.le_antisymm (by omega -splitDisjunctions) (by omega -splitDisjunctions))] | rw [if_pos (by omega -splitDisjunctions)] | rw [if_pos (And.intro (by omega -splitDisjunctions) (by omega -splitDisjunctions))] | rw [if_neg (by omega -splitDisjunctions)] | rw [if_neg (by omega)] | rw [if_pos (by omega)]
              have _ew : xaw B n ((xN B n (xN B n (xN B n (xN B n (xN B n (xN B n (xN B n (xN B n (xN B n (xN B n q))))))))))) = z4546 := by
                unfold xaw
                first | (rw [if_pos (Int.le_antisymm (by omega -splitDisjunctions) (by omega -splitDisjunctions))] <;> omega) | (rw [if_pos (by omega -splitDisjunctions)] <;> omega) | (rw [if_pos (And.intro (by omega -splitDisjunctions) (by omega -splitDisjunctions))] <;> omega) | (rw [if_neg (by omega -splitDisjunctions)] <;> omega) | (rw [if_neg (by omega)] <;> omega) | (rw [if_pos (by omega)] <;> omega)
              refine wp_of e187 c187_191 (rw_aload_n (pc' := 192) (v := .ref r0) rfl rfl rfl ?_)
              refine wp_of e187 c187_192 (xg_I (pc' := 195) lf_9_75 w4544 g0 sh_42 (by decide) (by decide) ty_42_9 rfl rfl (fun b4558 b4559 => ?_))
              refine wp_of e187 c187_195 (rw_iconst (pc' := 196) rfl ?_)
              refine wp_of e187 c187_196 (rw_icmp_ne (p1 := 200) (p2 := 199) (by decide) rfl ⟨Int.le_trans (by decide) b4558, Int.le_trans b4559 (by decide)⟩ ⟨by decide, by decide⟩ (fun c4560 => ?_) (fun c4560 => ?_))
              · have o4561 : (xl1 B n q d) = (0, (xN B n (xN B n (xN B n (xN B n (xN B n (xN B n (xN B n (xN B n (xN B n (xN B n q)))))))))), (xN B n ((xN B n (xN B n (xN B n (xN B n (xN B n (xN B n (xN B n (xN B n (xN B n (xN B n q))))))))))))) := by
                  rw [x4133]
                  unfold xcs xca xcb xrg
                  try simp only [xs_xs, xs_z]
                  try rw [_ea]
                  try rw [_eb]
                  try rw [_ec]
                  repeat first | rw [xs_0 (Int.le_antisymm (by omega -splitDisjunctions) (by omega -splitDisjunctions))] | rw [xs_1 (by omega -splitDisjunctions)] | rw [if_pos (Int.le_antisymm (by omega -splitDisjunctions) (by omega -splitDisjunctions))] | rw [if_pos (by omega -splitDisjunctions)] | rw [if_pos (And.intro (by omega -splitDisjunctions) (by omega -splitDisjunctions))] | rw [if_neg (by omega -splitDisjunctions)] | rw [xs_1 (by omega)] | rw [if_neg (by omega)] | rw [xs_0 (by omega)] | rw [if_pos (by omega)]
                  first | done | rfl | assumption | (exfalso; omega -splitDisjunctions) | (refine Prod.ext ?_ (Prod.ext ?_ ?_) <;> (try dsimp only) <;> omega) | (exfalso; omega)
                have o4561a : ((xl1 B n q d)).1 = 0 := by rw [o4561]
                have o4561b : ((xl1 B n q d)).2.1 = (xN B n (xN B n (xN B n (xN B n (xN B n (xN B n (xN B n (xN B n (xN B n (xN B n q)))))))))) := by rw [o4561]
                have o4561c : ((xl1 B n q d)).2.2 = (xN B n ((xN B n (xN B n (xN B n (xN B n (xN B n (xN B n (xN B n (xN B n (xN B n (xN B n q)))))))))))) := by rw [o4561]
                have h4562 : DM T H4540 rp r0 d := (DM_fr w4395 grp f4545 rfl (DM_fr w4154 grp f4396 rfl (DM_fr w4122 grp f4155 rfl h4131)))
                have h4563 : FZ T H4540 rp N0 H0 := (FZ_fr w4395 grp f4545 rfl (FZ_fr w4154 grp f4396 rfl (FZ_fr w4122 grp f4155 rfl h4132)))
                exact wp_lc (ks := [11, 10, 9, 8, 7, 0, 1, 3, 4, 5, 6]) (wl_c rfl (wl_c rfl (wl_c rfl (wl_c rfl (wl_c rfl (wl_c rfl (wl_c rfl (wl_c rfl (wl_c rfl (wl_c rfl wl_n)))))))))) rfl (by decide) (u_187_k_t200k hW g0 qrp grp qrb grb p0 hRC_r0 hDM_rp hFZ_rp v4116 v4117 v4118 v4119 v4120 (-1) 0 0 z4546 H4540 w4544 f4556 ⟨by omega, by omega⟩ ⟨by omega, by omega⟩ ⟨by omega, by omega⟩ ⟨by omega, by omega⟩ ⟨by omega, by omega⟩ ⟨by omega, by omega⟩ ⟨by omega, by omega⟩ ⟨by omega, by omega⟩ ⟨by omega, by omega⟩ (by rw [show (xl1 B n q d).2.2 = ((xN B n ((xN B n (xN B n (xN B n (xN B n (xN B n (xN B n (xN B n (xN B n (xN B n (xN B n q))))))))))))) by omega]; exact a4551) h4562 h4563 (by omega) (by omega) (by omega) (by omega) (by omega) (by omega) (by omega) (by omega) (by omega) (by omega) (by omega) (by rw [_ea]; exact _enf) (by rw [_ea]; exact _ent) (by rw [_ea, _eb]; exact _ew) (by omega))
              · exfalso
                omega
            · have f4564 := f4531.tr f4545 rfl
              have f4565 := f4532.tr f4545 rfl
              show wp _ _ 187 189 [(10, vI 0), (9, vI 0), (8, vI z4397), (7, vI (-1)), (0, .ref r0), (1, vL v4116), (3, vI v4117), (4, vI v4118), (5, vI v4119), (6, vI v4120)] [vI z4546] _ H4540 _
              have u4566 := RC_k a4554
              refine wp_of e187 c187_189 (rw_istore (pc' := 191) (z := z4546) (L' := [(11, vI z4546), (10, vI 0), (9, vI 0), (8, vI z4397), (7, vI (-1)), (0, .ref r0), (1, vL v4116), (3, vI v4117), (4, vI v4118), (5, vI v4119), (6, vI v4120)]) rfl rfl rfl ?_)
              have _ec : xqc B n ((xN B n (xN B n (xN B n (xN B n (xN B n (xN B n (xN B n (xN B n (xN B n (xN B n q))))))))))) = ((xN B n (xN B n (xN B n (xN B n (xN B n (xN B n (xN B n (xN B n (xN B n (xN B n q))))))))))) := by
                unfold xqc
                first | rw [if_pos (Int.le_antisymm (by omega -splitDisjunctions) (by omega -splitDisjunctions))] | rw [if_pos (by omega -splitDisjunctions)] | rw [if_pos (And.intro (by omega -splitDisjunctions) (by omega -splitDisjunctions))] | rw [if_neg (by omega -splitDisjunctions)] | rw [if_neg (by omega)] | rw [if_pos (by omega)]
              have _ew : xaw B n ((xN B n (xN B n (xN B n (xN B n (xN B n (xN B n (xN B n (xN B n (xN B n (xN B n q))))))))))) = z4546 := by
                unfold xaw
                first | (rw [if_pos (Int.le_antisymm (by omega -splitDisjunctions) (by omega -splitDisjunctions))] <;> omega) | (rw [if_pos (by omega -splitDisjunctions)] <;> omega) | (rw [if_pos (And.intro (by omega -splitDisjunctions) (by omega -splitDisjunctions))] <;> omega) | (rw [if_neg (by omega -splitDisjunctions)] <;> omega) | (rw [if_neg (by omega)] <;> omega) | (rw [if_pos (by omega)] <;> omega)
              refine wp_of e187 c187_191 (rw_aload_n (pc' := 192) (v := .ref r0) rfl rfl rfl ?_)
              refine wp_of e187 c187_192 (xg_I (pc' := 195) lf_9_75 w4544 g0 sh_42 (by decide) (by decide) ty_42_9 rfl rfl (fun b4567 b4568 => ?_))
              refine wp_of e187 c187_195 (rw_iconst (pc' := 196) rfl ?_)
              refine wp_of e187 c187_196 (rw_icmp_ne (p1 := 200) (p2 := 199) (by decide) rfl ⟨Int.le_trans (by decide) b4567, Int.le_trans b4568 (by decide)⟩ ⟨by decide, by decide⟩ (fun c4569 => ?_) (fun c4569 => ?_))
              · have o4570 : (xl1 B n q d) = (0, (xN B n (xN B n (xN B n (xN B n (xN B n (xN B n (xN B n (xN B n (xN B n (xN B n q)))))))))), (xN B n (xN B n (xN B n (xN B n (xN B n (xN B n (xN B n (xN B n (xN B n (xN B n q))))))))))) := by
                  rw [x4133]
                  unfold xcs xca xcb xrg
                  try simp only [xs_xs, xs_z]
                  try rw [_ea]
                  try rw [_eb]
                  try rw [_ec]
                  repeat first | rw [xs_0 (Int.le_antisymm (by omega -splitDisjunctions) (by omega -splitDisjunctions))] | rw [xs_1 (by omega -splitDisjunctions)] | rw [if_pos (Int.le_antisymm (by omega -splitDisjunctions) (by omega -splitDisjunctions))] | rw [if_pos (by omega -splitDisjunctions)] | rw [if_pos (And.intro (by omega -splitDisjunctions) (by omega -splitDisjunctions))] | rw [if_neg (by omega -splitDisjunctions)] | rw [xs_1 (by omega)] | rw [if_neg (by omega)] | rw [xs_0 (by omega)] | rw [if_pos (by omega)]
                  first | done | rfl | assumption | (exfalso; omega -splitDisjunctions) | (refine Prod.ext ?_ (Prod.ext ?_ ?_) <;> (try dsimp only) <;> omega) | (exfalso; omega)
                have o4570a : ((xl1 B n q d)).1 = 0 := by rw [o4570]
                have o4570b : ((xl1 B n q d)).2.1 = (xN B n (xN B n (xN B n (xN B n (xN B n (xN B n (xN B n (xN B n (xN B n (xN B n q)))))))))) := by rw [o4570]
                have o4570c : ((xl1 B n q d)).2.2 = (xN B n (xN B n (xN B n (xN B n (xN B n (xN B n (xN B n (xN B n (xN B n (xN B n q)))))))))) := by rw [o4570]
                have h4571 : DM T H4540 rp r0 d := (DM_fr w4395 grp f4545 rfl (DM_fr w4154 grp f4396 rfl (DM_fr w4122 grp f4155 rfl h4131)))
                have h4572 : FZ T H4540 rp N0 H0 := (FZ_fr w4395 grp f4545 rfl (FZ_fr w4154 grp f4396 rfl (FZ_fr w4122 grp f4155 rfl h4132)))
                exact wp_lc (ks := [11, 10, 9, 8, 7, 0, 1, 3, 4, 5, 6]) (wl_c rfl (wl_c rfl (wl_c rfl (wl_c rfl (wl_c rfl (wl_c rfl (wl_c rfl (wl_c rfl (wl_c rfl (wl_c rfl wl_n)))))))))) rfl (by decide) (u_187_k_t200k hW g0 qrp grp qrb grb p0 hRC_r0 hDM_rp hFZ_rp v4116 v4117 v4118 v4119 v4120 (-1) 0 0 z4546 H4540 w4544 f4565 ⟨by omega, by omega⟩ ⟨by omega, by omega⟩ ⟨by omega, by omega⟩ ⟨by omega, by omega⟩ ⟨by omega, by omega⟩ ⟨by omega, by omega⟩ ⟨by omega, by omega⟩ ⟨by omega, by omega⟩ ⟨by omega, by omega⟩ (by rw [show (xl1 B n q d).2.2 = ((xN B n (xN B n (xN B n (xN B n (xN B n (xN B n (xN B n (xN B n (xN B n (xN B n q))))))))))) by omega]; exact a4554) h4571 h4572 (by omega) (by omega) (by omega) (by omega) (by omega) (by omega) (by omega) (by omega) (by omega) (by omega) (by omega) (by rw [_ea]; exact _enf) (by rw [_ea]; exact _ent) (by rw [_ea, _eb]; exact _ew) (by omega))
              · exfalso
                omega
          · exfalso
            omega
        · exfalso
          omega
    · exfalso
      omega
set_option maxHeartbeats 60000000 in
theorem u_187_k_t112o {kt : Nat → Option mc_E} {T : wq_T} {H : wq_H} {r0 : Nat} {rp : Nat} {rb : Nat} {B : Nat → Int} {n : Int} {q : Int} {d : xD} {N0 : Nat} {H0 : wq_H} (hW : WT T H) (g0 : T.2.2.2 r0 = some 42) (qrp : H r0 4 = (rp : Int)) (grp : T.2.2.2 rp = some 54) (qrb : H r0 5 = (rb : Int)) (grb : T.2.2.2 rb = some 43) (p0 : xK B n q = 1) (hRC_r0 : RC T H r0 B n q) (hDM_rp : DM T H rp r0 d) (hFZ_rp : FZ T H rp N0 H0) : ∀ (v4592 : Int) (v4593 : Int) (v4594 : Int) (v4595 : Int) (v4596 : Int) (H4597 : wq_H) (fo4601 : Int) (po4602 : Int), WT T H4597 → wfr [(42, 8), (42, 9), (42, 10), (42, 11), (42, 12), (42, 13), (42, 14), (42, 15)] T H H4597 → ((-9223372036854775808) ≤ v4592 ∧ v4592 ≤ 9223372036854775807) → (0 ≤ v4593 ∧ v4593 ≤ 23) → (0 ≤ v4594 ∧ v4594 ≤ 30) → (0 ≤ v4595 ∧ v4595 ≤ 12) → (0 ≤ v4596 ∧ v4596 ≤ 16) → RO T H4597 r0 fo4601 po4602 → FZ T H4597 rp N0 H0 → ((xl1 B n q d).1 = fo4601) → ((xl1 B n q d).2.1 = po4602) → wp kt 4 187 112 [(0, .ref r0), (1, vL v4592), (3, vI v4593), (4, vI v4594), (5, vI v4595), (6, vI v4596)] [] T H4597 (uq_187_k r0 rp rb B n q d N0 H0 T H) := by
  have f0 : wfr [(54, 3), (42, 8), (42, 9), (42, 10), (42, 11), (42, 12), (42, 13), (42, 14), (42, 15), (56, 999), (57, 999), (60, 999), (63, 999), (58, 999), (59, 999), (55, 999), (61, 999), (62, 999)] T H H := wfr.rf
  have u4573 := RC_k hRC_r0
  have u4574 := DM_k hDM_rp
  have h4575 : MA9 T H rp (d 1) := hDM_rp.2.2.2.1
  have h4576 : MA10 T H rp (d 2) := hDM_rp.2.2.2.2.1
  have h4577 : MA11 T H rp (d 3) := hDM_rp.2.2.2.2.2.1
  have h4578 : MA12 T H rp (d 4) := hDM_rp.2.2.2.2.2.2.1
  have h4579 : MA13 T H rp (d 5) := hDM_rp.2.2.2.2.2.2.2.1
  have h4580 : MA14 T H rp (d 6) := hDM_rp.2.2.2.2.2.2.2.2.1
  have h4581 : MA15 T H rp (d 7) := hDM_rp.2.2.2.2.2.2.2.2.2.1
  have h4582 : MA16 T H rp (d 8) := hDM_rp.2.2.2.2.2.2.2.2.2.2.1
  have h4583 : MA17 T H rp (d 9) := hDM_rp.2.2.2.2.2.2.2.2.2.2.2.1
  have h4584 : MA18 T H rp (d 10) := hDM_rp.2.2.2.2.2.2.2.2.2.2.2.2.1
  have h4585 : MA19 T H rp (d 11) := hDM_rp.2.2.2.2.2.2.2.2.2.2.2.2.2.1
  have h4586 : MA20 T H rp (d 12) := hDM_rp.2.2.2.2.2.2.2.2.2.2.2.2.2.2.1
  have h4587 : MA21 T H rp (d 13) := hDM_rp.2.2.2.2.2.2.2.2.2.2.2.2.2.2.2.1
  have h4588 : MA22 T H rp (d 14) := hDM_rp.2.2.2.2.2.2.2.2.2.2.2.2.2.2.2.2.1
  have h4589 : MA23 T H rp (d 15) := hDM_rp.2.2.2.2.2.2.2.2.2.2.2.2.2.2.2.2.2.1
  have h4590 : MA25 T H rp (d 17) := hDM_rp.2.2.2.2.2.2.2.2.2.2.2.2.2.2.2.2.2.2.1
  have h4591 : MA26 T H rp (d 16) := hDM_rp.2.2.2.2.2.2.2.2.2.2.2.2.2.2.2.2.2.2.2
  intro v4592 v4593 v4594 v4595 v4596 H4597 fo4601 po4602 w4598 f4599 b4603 b4604 b4605 b4606 b4607 h4608 h4609 x4610 x4611
  have f4612 : wfr [(54, 3), (42, 8), (42, 9), (42, 10), (42, 11), (42, 12), (42, 13), (42, 14), (42, 15), (56, 999), (57, 999), (60, 999), (63, 999), (58, 999), (59, 999), (55, 999), (61, 999), (62, 999)] T H H4597 := wfr.rf.tr f4599 rfl
  have u4613 := RO_k h4608
  refine wp_of e187 c187_112 (rw_aload_n (pc' := 113) (v := .ref r0) rfl rfl rfl ?_)
  refine wp_of e187 c187_113 (rw_ldcS (pc' := 115) (k := 83) rfl rfl rfl rfl ?_)
  have k4614 : H4597 r0 5 = H r0 5 := (f4599 r0 5 _ g0 rfl)
  have q4615 : H4597 r0 5 = (rb : Int) := k4614.trans qrb
  refine wp_of e187 c187_115 (xc_V (pc' := 118) (r := r0) (as := [.ref 83]) (st := []) (lm_9_240) rfl rfl (Nat.le_of_ble_eq_true rfl) w4598 g0 sh_42 (by decide) rfl (by decide) (u_192_o (fo := fo4601) (po := po4602) (kk := 8423732) w4598 g0 rfl q4615 grb (by decide +kernel) h4608) (fun R4616 T4617 H4618 p4619 => ?_))
  obtain ⟨e4620, e4622, z4623, e4621, b4624, p4625⟩ := p4619
  subst e4620
  subst e4621
  subst e4622
  obtain ⟨a4626, a4627⟩ := p4625
  show wp _ _ 187 118 [(0, .ref r0), (1, vL v4592), (3, vI v4593), (4, vI v4594), (5, vI v4595), (6, vI v4596)] [vI z4623] _ H4597 _
  have u4628 := RO_k a4627
  refine wp_of e187 c187_118 (rw_if_eq (p1 := 131) (p2 := 121) (by decide) rfl ⟨Int.le_trans (by decide) b4624.1, Int.le_trans b4624.2 (by decide)⟩ (fun c4629 => ?_) (fun c4629 => ?_))
  · refine wp_of e187 c187_131 (rw_iconst (pc' := 132) rfl ?_)
    refine wp_of e187 c187_132 (rw_istore (pc' := 134) (z := -1) (L' := [(7, vI (-1)), (0, .ref r0), (1, vL v4592), (3, vI v4593), (4, vI v4594), (5, vI v4595), (6, vI v4596)]) rfl rfl rfl ?_)
    exact wp_lc (ks := [7, 0, 1, 3, 4, 5, 6]) (wl_c rfl (wl_c rfl (wl_c rfl (wl_c rfl (wl_c rfl (wl_c rfl (wl_c rfl wl_n))))))) rfl (by decide) (u_187_k_t134o hW g0 qrp grp qrb grb p0 hRC_r0 hDM_rp hFZ_rp v4592 v4593 v4594 v4595 v4596 (-1) H4597 fo4601 po4602 w4598 f4599 ⟨by omega, by omega⟩ ⟨by omega, by omega⟩ ⟨by omega, by omega⟩ ⟨by omega, by omega⟩ ⟨by omega, by omega⟩ ⟨by omega, by omega⟩ a4627 h4609 (by omega) (by omega))
  · exfalso
    omega
set_option maxHeartbeats 60000000 in
theorem u_187_k_t93o {kt : Nat → Option mc_E} {T : wq_T} {H : wq_H} {r0 : Nat} {rp : Nat} {rb : Nat} {B : Nat → Int} {n : Int} {q : Int} {d : xD} {N0 : Nat} {H0 : wq_H} (hW : WT T H) (g0 : T.2.2.2 r0 = some 42) (qrp : H r0 4 = (rp : Int)) (grp : T.2.2.2 rp = some 54) (qrb : H r0 5 = (rb : Int)) (grb : T.2.2.2 rb = some 43) (p0 : xK B n q = 1) (hRC_r0 : RC T H r0 B n q) (hDM_rp : DM T H rp r0 d) (hFZ_rp : FZ T H rp N0 H0) : ∀ (v4649 : Int) (v4650 : Int) (v4651 : Int) (v4652 : Int) (H4653 : wq_H) (fo4657 : Int) (po4658 : Int), WT T H4653 → wfr [(42, 8), (42, 9), (42, 10), (42, 11), (42, 12), (42, 13), (42, 14), (42, 15)] T H H4653 → ((-9223372036854775808) ≤ v4649 ∧ v4649 ≤ 9223372036854775807) → (0 ≤ v4650 ∧ v4650 ≤ 23) → (0 ≤ v4651 ∧ v4651 ≤ 30) → (0 ≤ v4652 ∧ v4652 ≤ 12) → RO T H4653 r0 fo4657 po4658 → FZ T H4653 rp N0 H0 → ((xl1 B n q d).1 = fo4657) → ((xl1 B n q d).2.1 = po4658) → wp kt 4 187 93 [(0, .ref r0), (1, vL v4649), (3, vI v4650), (4, vI v4651), (5, vI v4652)] [] T H4653 (uq_187_k r0 rp rb B n q d N0 H0 T H) := by
  have f0 : wfr [(54, 3), (42, 8), (42, 9), (42, 10), (42, 11), (42, 12), (42, 13), (42, 14), (42, 15), (56, 999), (57, 999), (60, 999), (63, 999), (58, 999), (59, 999), (55, 999), (61, 999), (62, 999)] T H H := wfr.rf
  have u4630 := RC_k hRC_r0
  have u4631 := DM_k hDM_rp
  have h4632 : MA9 T H rp (d 1) := hDM_rp.2.2.2.1
  have h4633 : MA10 T H rp (d 2) := hDM_rp.2.2.2.2.1
  have h4634 : MA11 T H rp (d 3) := hDM_rp.2.2.2.2.2.1
  have h4635 : MA12 T H rp (d 4) := hDM_rp.2.2.2.2.2.2.1
  have h4636 : MA13 T H rp (d 5) := hDM_rp.2.2.2.2.2.2.2.1
  have h4637 : MA14 T H rp (d 6) := hDM_rp.2.2.2.2.2.2.2.2.1
  have h4638 : MA15 T H rp (d 7) := hDM_rp.2.2.2.2.2.2.2.2.2.1
  have h4639 : MA16 T H rp (d 8) := hDM_rp.2.2.2.2.2.2.2.2.2.2.1
  have h4640 : MA17 T H rp (d 9) := hDM_rp.2.2.2.2.2.2.2.2.2.2.2.1
  have h4641 : MA18 T H rp (d 10) := hDM_rp.2.2.2.2.2.2.2.2.2.2.2.2.1
  have h4642 : MA19 T H rp (d 11) := hDM_rp.2.2.2.2.2.2.2.2.2.2.2.2.2.1
  have h4643 : MA20 T H rp (d 12) := hDM_rp.2.2.2.2.2.2.2.2.2.2.2.2.2.2.1
  have h4644 : MA21 T H rp (d 13) := hDM_rp.2.2.2.2.2.2.2.2.2.2.2.2.2.2.2.1
  have h4645 : MA22 T H rp (d 14) := hDM_rp.2.2.2.2.2.2.2.2.2.2.2.2.2.2.2.2.1
  have h4646 : MA23 T H rp (d 15) := hDM_rp.2.2.2.2.2.2.2.2.2.2.2.2.2.2.2.2.2.1
  have h4647 : MA25 T H rp (d 17) := hDM_rp.2.2.2.2.2.2.2.2.2.2.2.2.2.2.2.2.2.2.1
  have h4648 : MA26 T H rp (d 16) := hDM_rp.2.2.2.2.2.2.2.2.2.2.2.2.2.2.2.2.2.2.2
  intro v4649 v4650 v4651 v4652 H4653 fo4657 po4658 w4654 f4655 b4659 b4660 b4661 b4662 h4663 h4664 x4665 x4666
  have f4667 : wfr [(54, 3), (42, 8), (42, 9), (42, 10), (42, 11), (42, 12), (42, 13), (42, 14), (42, 15), (56, 999), (57, 999), (60, 999), (63, 999), (58, 999), (59, 999), (55, 999), (61, 999), (62, 999)] T H H4653 := wfr.rf.tr f4655 rfl
  have u4668 := RO_k h4663
  refine wp_of e187 c187_93 (rw_aload_n (pc' := 94) (v := .ref r0) rfl rfl rfl ?_)
  refine wp_of e187 c187_94 (rw_ldcS (pc' := 96) (k := 87) rfl rfl rfl rfl ?_)
  refine wp_of e187 c187_96 (rw_iload (pc' := 98) (z := v4652) rfl rfl ?_)
  refine wp_of e187 c187_98 (rw_bipush (pc' := 100) (z := 12) rfl (by decide) ?_)
  refine wp_of e187 c187_100 (rw_iload (pc' := 102) (z := v4652) rfl rfl ?_)
  refine wp_of e187 c187_102 (rw_iconst (pc' := 103) rfl ?_)
  refine wp_of e187 c187_103 (rw_iadd (pc' := 104) rfl ?_)
  refine wp_of e187 c187_104 (xc_S (pc' := 107) (as := [vI 12, vI (v4652 + 4)]) (st := [vI v4652, .ref 87, .ref r0]) (lm_9_235) rfl rfl (Nat.le_of_ble_eq_true rfl) rfl (by decide) (u_191  w4654 ⟨by decide, by decide⟩ ⟨by omega, by omega⟩) (fun R4669 T4670 H4671 p4672 => ?_))
  obtain ⟨e4673, e4675, z4676, e4674, b4677, p4678⟩ := p4672
  subst e4673
  subst e4674
  subst e4675
  show wp _ _ 187 107 [(0, .ref r0), (1, vL v4649), (3, vI v4650), (4, vI v4651), (5, vI v4652)] [vI z4676, vI v4652, .ref 87, .ref r0] _ H4653 _
  have k4680 : H4653 r0 5 = H r0 5 := (f4655 r0 5 _ g0 rfl)
  have q4681 : H4653 r0 5 = (rb : Int) := k4680.trans qrb
  refine wp_of e187 c187_107 (xc_V (pc' := 110) (r := r0) (as := [.ref 87, vI v4652, vI z4676]) (st := []) (lm_9_216) rfl rfl (Nat.le_of_ble_eq_true rfl) w4654 g0 sh_42 (by decide) rfl (by decide) (u_182_o (fo := fo4657) (po := po4658) (kk := 655) w4654 g0 rfl ⟨by omega, by omega⟩ ⟨b4677.1, b4677.2⟩ q4681 grb (by decide +kernel) h4663) (fun R4682 T4683 H4684 p4685 => ?_))
  obtain ⟨e4686, e4688, z4689, e4687, b4690, p4691⟩ := p4685
  subst e4686
  subst e4687
  subst e4688
  obtain ⟨a4692, a4693⟩ := p4691
  show wp _ _ 187 110 [(0, .ref r0), (1, vL v4649), (3, vI v4650), (4, vI v4651), (5, vI v4652)] [vI z4689] _ H4653 _
  have u4694 := RO_k a4693
  refine wp_of e187 c187_110 (rw_istore (pc' := 112) (z := z4689) (L' := [(6, vI z4689), (0, .ref r0), (1, vL v4649), (3, vI v4650), (4, vI v4651), (5, vI v4652)]) rfl rfl rfl ?_)
  exact wp_lc (ks := [6, 0, 1, 3, 4, 5]) (wl_c rfl (wl_c rfl (wl_c rfl (wl_c rfl (wl_c rfl (wl_c rfl wl_n)))))) rfl (by decide) (u_187_k_t112o hW g0 qrp grp qrb grb p0 hRC_r0 hDM_rp hFZ_rp v4649 v4650 v4651 v4652 z4689 H4653 fo4657 po4658 w4654 f4655 ⟨by omega, by omega⟩ ⟨by omega, by omega⟩ ⟨by omega, by omega⟩ ⟨by omega, by omega⟩ ⟨by omega, by omega⟩ a4693 h4664 (by omega) (by omega))
set_option maxHeartbeats 60000000 in
theorem u_187_k_t82o {kt : Nat → Option mc_E} {T : wq_T} {H : wq_H} {r0 : Nat} {rp : Nat} {rb : Nat} {B : Nat → Int} {n : Int} {q : Int} {d : xD} {N0 : Nat} {H0 : wq_H} (hW : WT T H) (g0 : T.2.2.2 r0 = some 42) (qrp : H r0 4 = (rp : Int)) (grp : T.2.2.2 rp = some 54) (qrb : H r0 5 = (rb : Int)) (grb : T.2.2.2 rb = some 43) (p0 : xK B n q = 1) (hRC_r0 : RC T H r0 B n q) (hDM_rp : DM T H rp r0 d) (hFZ_rp : FZ T H rp N0 H0) : ∀ (v4714 : Int) (v4715 : Int) (v4716 : Int) (H4717 : wq_H) (fo4721 : Int) (po4722 : Int), WT T H4717 → wfr [(42, 8), (42, 9), (42, 10), (42, 11), (42, 12), (42, 13), (42, 14), (42, 15)] T H H4717 → ((-9223372036854775808) ≤ v4714 ∧ v4714 ≤ 9223372036854775807) → (0 ≤ v4715 ∧ v4715 ≤ 23) → (0 ≤ v4716 ∧ v4716 ≤ 30) → RO T H4717 r0 fo4721 po4722 → FZ T H4717 rp N0 H0 → ((xl1 B n q d).1 = fo4721) → ((xl1 B n q d).2.1 = po4722) → wp kt 4 187 82 [(0, .ref r0), (1, vL v4714), (3, vI v4715), (4, vI v4716)] [] T H4717 (uq_187_k r0 rp rb B n q d N0 H0 T H) := by
  have f0 : wfr [(54, 3), (42, 8), (42, 9), (42, 10), (42, 11), (42, 12), (42, 13), (42, 14), (42, 15), (56, 999), (57, 999), (60, 999), (63, 999), (58, 999), (59, 999), (55, 999), (61, 999), (62, 999)] T H H := wfr.rf
  have u4695 := RC_k hRC_r0
  have u4696 := DM_k hDM_rp
  have h4697 : MA9 T H rp (d 1) := hDM_rp.2.2.2.1
  have h4698 : MA10 T H rp (d 2) := hDM_rp.2.2.2.2.1
  have h4699 : MA11 T H rp (d 3) := hDM_rp.2.2.2.2.2.1
  have h4700 : MA12 T H rp (d 4) := hDM_rp.2.2.2.2.2.2.1
  have h4701 : MA13 T H rp (d 5) := hDM_rp.2.2.2.2.2.2.2.1
  have h4702 : MA14 T H rp (d 6) := hDM_rp.2.2.2.2.2.2.2.2.1
  have h4703 : MA15 T H rp (d 7) := hDM_rp.2.2.2.2.2.2.2.2.2.1
  have h4704 : MA16 T H rp (d 8) := hDM_rp.2.2.2.2.2.2.2.2.2.2.1
  have h4705 : MA17 T H rp (d 9) := hDM_rp.2.2.2.2.2.2.2.2.2.2.2.1
  have h4706 : MA18 T H rp (d 10) := hDM_rp.2.2.2.2.2.2.2.2.2.2.2.2.1
  have h4707 : MA19 T H rp (d 11) := hDM_rp.2.2.2.2.2.2.2.2.2.2.2.2.2.1
  have h4708 : MA20 T H rp (d 12) := hDM_rp.2.2.2.2.2.2.2.2.2.2.2.2.2.2.1
  have h4709 : MA21 T H rp (d 13) := hDM_rp.2.2.2.2.2.2.2.2.2.2.2.2.2.2.2.1
  have h4710 : MA22 T H rp (d 14) := hDM_rp.2.2.2.2.2.2.2.2.2.2.2.2.2.2.2.2.1
  have h4711 : MA23 T H rp (d 15) := hDM_rp.2.2.2.2.2.2.2.2.2.2.2.2.2.2.2.2.2.1
  have h4712 : MA25 T H rp (d 17) := hDM_rp.2.2.2.2.2.2.2.2.2.2.2.2.2.2.2.2.2.2.1
  have h4713 : MA26 T H rp (d 16) := hDM_rp.2.2.2.2.2.2.2.2.2.2.2.2.2.2.2.2.2.2.2
  intro v4714 v4715 v4716 H4717 fo4721 po4722 w4718 f4719 b4723 b4724 b4725 h4726 h4727 x4728 x4729
  have f4730 : wfr [(54, 3), (42, 8), (42, 9), (42, 10), (42, 11), (42, 12), (42, 13), (42, 14), (42, 15), (56, 999), (57, 999), (60, 999), (63, 999), (58, 999), (59, 999), (55, 999), (61, 999), (62, 999)] T H H4717 := wfr.rf.tr f4719 rfl
  have u4731 := RO_k h4726
  refine wp_of e187 c187_82 (rw_aload_n (pc' := 83) (v := .ref r0) rfl rfl rfl ?_)
  refine wp_of e187 c187_83 (rw_ldcS (pc' := 85) (k := 88) rfl rfl rfl rfl ?_)
  refine wp_of e187 c187_85 (rw_iconst (pc' := 86) rfl ?_)
  refine wp_of e187 c187_86 (rw_bipush (pc' := 88) (z := 12) rfl (by decide) ?_)
  have k4732 : H4717 r0 5 = H r0 5 := (f4719 r0 5 _ g0 rfl)
  have q4733 : H4717 r0 5 = (rb : Int) := k4732.trans qrb
  refine wp_of e187 c187_88 (xc_V (pc' := 91) (r := r0) (as := [.ref 88, vI 0, vI 12]) (st := []) (lm_9_216) rfl rfl (Nat.le_of_ble_eq_true rfl) w4718 g0 sh_42 (by decide) rfl (by decide) (u_182_o (fo := fo4721) (po := po4722) (kk := 409031) w4718 g0 rfl ⟨by decide, by decide⟩ ⟨by decide, by decide⟩ q4733 grb (by decide +kernel) h4726) (fun R4734 T4735 H4736 p4737 => ?_))
  obtain ⟨e4738, e4740, z4741, e4739, b4742, p4743⟩ := p4737
  subst e4738
  subst e4739
  subst e4740
  obtain ⟨a4744, a4745⟩ := p4743
  show wp _ _ 187 91 [(0, .ref r0), (1, vL v4714), (3, vI v4715), (4, vI v4716)] [vI z4741] _ H4717 _
  have u4746 := RO_k a4745
  refine wp_of e187 c187_91 (rw_istore (pc' := 93) (z := z4741) (L' := [(5, vI z4741), (0, .ref r0), (1, vL v4714), (3, vI v4715), (4, vI v4716)]) rfl rfl rfl ?_)
  exact wp_lc (ks := [5, 0, 1, 3, 4]) (wl_c rfl (wl_c rfl (wl_c rfl (wl_c rfl (wl_c rfl wl_n))))) rfl (by decide) (u_187_k_t93o hW g0 qrp grp qrb grb p0 hRC_r0 hDM_rp hFZ_rp v4714 v4715 v4716 z4741 H4717 fo4721 po4722 w4718 f4719 ⟨by omega, by omega⟩ ⟨by omega, by omega⟩ ⟨by omega, by omega⟩ ⟨by omega, by omega⟩ a4745 h4727 (by omega) (by omega))
set_option maxHeartbeats 60000000 in
theorem u_187_k_t64o {kt : Nat → Option mc_E} {T : wq_T} {H : wq_H} {r0 : Nat} {rp : Nat} {rb : Nat} {B : Nat → Int} {n : Int} {q : Int} {d : xD} {N0 : Nat} {H0 : wq_H} (hW : WT T H) (g0 : T.2.2.2 r0 = some 42) (qrp : H r0 4 = (rp : Int)) (grp : T.2.2.2 rp = some 54) (qrb : H r0 5 = (rb : Int)) (grb : T.2.2.2 rb = some 43) (p0 : xK B n q = 1) (hRC_r0 : RC T H r0 B n q) (hDM_rp : DM T H rp r0 d) (hFZ_rp : FZ T H rp N0 H0) : ∀ (v4766 : Int) (v4767 : Int) (H4768 : wq_H) (fo4772 : Int) (po4773 : Int), WT T H4768 → wfr [(42, 8), (42, 9), (42, 10), (42, 11), (42, 12), (42, 13), (42, 14), (42, 15)] T H H4768 → ((-9223372036854775808) ≤ v4766 ∧ v4766 ≤ 9223372036854775807) → (0 ≤ v4767 ∧ v4767 ≤ 23) → RO T H4768 r0 fo4772 po4773 → FZ T H4768 rp N0 H0 → ((xl1 B n q d).1 = fo4772) → ((xl1 B n q d).2.1 = po4773) → wp kt 4 187 64 [(0, .ref r0), (1, vL v4766), (3, vI v4767)] [] T H4768 (uq_187_k r0 rp rb B n q d N0 H0 T H) := by
  have f0 : wfr [(54, 3), (42, 8), (42, 9), (42, 10), (42, 11), (42, 12), (42, 13), (42, 14), (42, 15), (56, 999), (57, 999), (60, 999), (63, 999), (58, 999), (59, 999), (55, 999), (61, 999), (62, 999)] T H H := wfr.rf
  have u4747 := RC_k hRC_r0
  have u4748 := DM_k hDM_rp
  have h4749 : MA9 T H rp (d 1) := hDM_rp.2.2.2.1
  have h4750 : MA10 T H rp (d 2) := hDM_rp.2.2.2.2.1
  have h4751 : MA11 T H rp (d 3) := hDM_rp.2.2.2.2.2.1
  have h4752 : MA12 T H rp (d 4) := hDM_rp.2.2.2.2.2.2.1
  have h4753 : MA13 T H rp (d 5) := hDM_rp.2.2.2.2.2.2.2.1
  have h4754 : MA14 T H rp (d 6) := hDM_rp.2.2.2.2.2.2.2.2.1
  have h4755 : MA15 T H rp (d 7) := hDM_rp.2.2.2.2.2.2.2.2.2.1
  have h4756 : MA16 T H rp (d 8) := hDM_rp.2.2.2.2.2.2.2.2.2.2.1
  have h4757 : MA17 T H rp (d 9) := hDM_rp.2.2.2.2.2.2.2.2.2.2.2.1
  have h4758 : MA18 T H rp (d 10) := hDM_rp.2.2.2.2.2.2.2.2.2.2.2.2.1
  have h4759 : MA19 T H rp (d 11) := hDM_rp.2.2.2.2.2.2.2.2.2.2.2.2.2.1
  have h4760 : MA20 T H rp (d 12) := hDM_rp.2.2.2.2.2.2.2.2.2.2.2.2.2.2.1
  have h4761 : MA21 T H rp (d 13) := hDM_rp.2.2.2.2.2.2.2.2.2.2.2.2.2.2.2.1
  have h4762 : MA22 T H rp (d 14) := hDM_rp.2.2.2.2.2.2.2.2.2.2.2.2.2.2.2.2.1
  have h4763 : MA23 T H rp (d 15) := hDM_rp.2.2.2.2.2.2.2.2.2.2.2.2.2.2.2.2.2.1
  have h4764 : MA25 T H rp (d 17) := hDM_rp.2.2.2.2.2.2.2.2.2.2.2.2.2.2.2.2.2.2.1
  have h4765 : MA26 T H rp (d 16) := hDM_rp.2.2.2.2.2.2.2.2.2.2.2.2.2.2.2.2.2.2.2
  intro v4766 v4767 H4768 fo4772 po4773 w4769 f4770 b4774 b4775 h4776 h4777 x4778 x4779
  have f4780 : wfr [(54, 3), (42, 8), (42, 9), (42, 10), (42, 11), (42, 12), (42, 13), (42, 14), (42, 15), (56, 999), (57, 999), (60, 999), (63, 999), (58, 999), (59, 999), (55, 999), (61, 999), (62, 999)] T H H4768 := wfr.rf.tr f4770 rfl
  have u4781 := RO_k h4776
  refine wp_of e187 c187_64 (rw_aload_n (pc' := 65) (v := .ref r0) rfl rfl rfl ?_)
  refine wp_of e187 c187_65 (rw_ldcS (pc' := 67) (k := 87) rfl rfl rfl rfl ?_)
  refine wp_of e187 c187_67 (rw_iload_n (pc' := 68) (z := v4767) rfl rfl ?_)
  refine wp_of e187 c187_68 (rw_bipush (pc' := 70) (z := 23) rfl (by decide) ?_)
  refine wp_of e187 c187_70 (rw_iload_n (pc' := 71) (z := v4767) rfl rfl ?_)
  refine wp_of e187 c187_71 (rw_bipush (pc' := 73) (z := 7) rfl (by decide) ?_)
  refine wp_of e187 c187_73 (rw_iadd (pc' := 74) rfl ?_)
  refine wp_of e187 c187_74 (xc_S (pc' := 77) (as := [vI 23, vI (v4767 + 7)]) (st := [vI v4767, .ref 87, .ref r0]) (lm_9_235) rfl rfl (Nat.le_of_ble_eq_true rfl) rfl (by decide) (u_191  w4769 ⟨by decide, by decide⟩ ⟨by omega, by omega⟩) (fun R4782 T4783 H4784 p4785 => ?_))
  obtain ⟨e4786, e4788, z4789, e4787, b4790, p4791⟩ := p4785
  subst e4786
  subst e4787
  subst e4788
  show wp _ _ 187 77 [(0, .ref r0), (1, vL v4766), (3, vI v4767)] [vI z4789, vI v4767, .ref 87, .ref r0] _ H4768 _
  have k4793 : H4768 r0 5 = H r0 5 := (f4770 r0 5 _ g0 rfl)
  have q4794 : H4768 r0 5 = (rb : Int) := k4793.trans qrb
  refine wp_of e187 c187_77 (xc_V (pc' := 80) (r := r0) (as := [.ref 87, vI v4767, vI z4789]) (st := []) (lm_9_216) rfl rfl (Nat.le_of_ble_eq_true rfl) w4769 g0 sh_42 (by decide) rfl (by decide) (u_182_o (fo := fo4772) (po := po4773) (kk := 655) w4769 g0 rfl ⟨by omega, by omega⟩ ⟨b4790.1, b4790.2⟩ q4794 grb (by decide +kernel) h4776) (fun R4795 T4796 H4797 p4798 => ?_))
  obtain ⟨e4799, e4801, z4802, e4800, b4803, p4804⟩ := p4798
  subst e4799
  subst e4800
  subst e4801
  obtain ⟨a4805, a4806⟩ := p4804
  show wp _ _ 187 80 [(0, .ref r0), (1, vL v4766), (3, vI v4767)] [vI z4802] _ H4768 _
  have u4807 := RO_k a4806
  refine wp_of e187 c187_80 (rw_istore (pc' := 82) (z := z4802) (L' := [(4, vI z4802), (0, .ref r0), (1, vL v4766), (3, vI v4767)]) rfl rfl rfl ?_)
  exact wp_lc (ks := [4, 0, 1, 3]) (wl_c rfl (wl_c rfl (wl_c rfl (wl_c rfl wl_n)))) rfl (by decide) (u_187_k_t82o hW g0 qrp grp qrb grb p0 hRC_r0 hDM_rp hFZ_rp v4766 v4767 z4802 H4768 fo4772 po4773 w4769 f4770 ⟨by omega, by omega⟩ ⟨by omega, by omega⟩ ⟨by omega, by omega⟩ a4806 h4777 (by omega) (by omega))
set_option maxHeartbeats 60000000 in
theorem u_187_k_t54o {kt : Nat → Option mc_E} {T : wq_T} {H : wq_H} {r0 : Nat} {rp : Nat} {rb : Nat} {B : Nat → Int} {n : Int} {q : Int} {d : xD} {N0 : Nat} {H0 : wq_H} (hW : WT T H) (g0 : T.2.2.2 r0 = some 42) (qrp : H r0 4 = (rp : Int)) (grp : T.2.2.2 rp = some 54) (qrb : H r0 5 = (rb : Int)) (grb : T.2.2.2 rb = some 43) (p0 : xK B n q = 1) (hRC_r0 : RC T H r0 B n q) (hDM_rp : DM T H rp r0 d) (hFZ_rp : FZ T H rp N0 H0) : ∀ (v4827 : Int) (H4828 : wq_H) (fo4832 : Int) (po4833 : Int), WT T H4828 → wfr [(42, 8), (42, 9), (42, 10), (42, 11), (42, 12), (42, 13), (42, 14), (42, 15)] T H H4828 → ((-9223372036854775808) ≤ v4827 ∧ v4827 ≤ 9223372036854775807) → RO T H4828 r0 fo4832 po4833 → FZ T H4828 rp N0 H0 → ((xl1 B n q d).1 = fo4832) → ((xl1 B n q d).2.1 = po4833) → wp kt 4 187 54 [(0, .ref r0), (1, vL v4827)] [] T H4828 (uq_187_k r0 rp rb B n q d N0 H0 T H) := by
  have f0 : wfr [(54, 3), (42, 8), (42, 9), (42, 10), (42, 11), (42, 12), (42, 13), (42, 14), (42, 15), (56, 999), (57, 999), (60, 999), (63, 999), (58, 999), (59, 999), (55, 999), (61, 999), (62, 999)] T H H := wfr.rf
  have u4808 := RC_k hRC_r0
  have u4809 := DM_k hDM_rp
  have h4810 : MA9 T H rp (d 1) := hDM_rp.2.2.2.1
  have h4811 : MA10 T H rp (d 2) := hDM_rp.2.2.2.2.1
  have h4812 : MA11 T H rp (d 3) := hDM_rp.2.2.2.2.2.1
  have h4813 : MA12 T H rp (d 4) := hDM_rp.2.2.2.2.2.2.1
  have h4814 : MA13 T H rp (d 5) := hDM_rp.2.2.2.2.2.2.2.1
  have h4815 : MA14 T H rp (d 6) := hDM_rp.2.2.2.2.2.2.2.2.1
  have h4816 : MA15 T H rp (d 7) := hDM_rp.2.2.2.2.2.2.2.2.2.1
  have h4817 : MA16 T H rp (d 8) := hDM_rp.2.2.2.2.2.2.2.2.2.2.1
  have h4818 : MA17 T H rp (d 9) := hDM_rp.2.2.2.2.2.2.2.2.2.2.2.1
  have h4819 : MA18 T H rp (d 10) := hDM_rp.2.2.2.2.2.2.2.2.2.2.2.2.1
  have h4820 : MA19 T H rp (d 11) := hDM_rp.2.2.2.2.2.2.2.2.2.2.2.2.2.1
  have h4821 : MA20 T H rp (d 12) := hDM_rp.2.2.2.2.2.2.2.2.2.2.2.2.2.2.1
  have h4822 : MA21 T H rp (d 13) := hDM_rp.2.2.2.2.2.2.2.2.2.2.2.2.2.2.2.1
  have h4823 : MA22 T H rp (d 14) := hDM_rp.2.2.2.2.2.2.2.2.2.2.2.2.2.2.2.2.1
  have h4824 : MA23 T H rp (d 15) := hDM_rp.2.2.2.2.2.2.2.2.2.2.2.2.2.2.2.2.2.1
  have h4825 : MA25 T H rp (d 17) := hDM_rp.2.2.2.2.2.2.2.2.2.2.2.2.2.2.2.2.2.2.1
  have h4826 : MA26 T H rp (d 16) := hDM_rp.2.2.2.2.2.2.2.2.2.2.2.2.2.2.2.2.2.2.2
  intro v4827 H4828 fo4832 po4833 w4829 f4830 b4834 h4835 h4836 x4837 x4838
  have f4839 : wfr [(54, 3), (42, 8), (42, 9), (42, 10), (42, 11), (42, 12), (42, 13), (42, 14), (42, 15), (56, 999), (57, 999), (60, 999), (63, 999), (58, 999), (59, 999), (55, 999), (61, 999), (62, 999)] T H H4828 := wfr.rf.tr f4830 rfl
  have u4840 := RO_k h4835
  refine wp_of e187 c187_54 (rw_aload_n (pc' := 55) (v := .ref r0) rfl rfl rfl ?_)
  refine wp_of e187 c187_55 (rw_ldcS (pc' := 57) (k := 86) rfl rfl rfl rfl ?_)
  refine wp_of e187 c187_57 (rw_iconst (pc' := 58) rfl ?_)
  refine wp_of e187 c187_58 (rw_bipush (pc' := 60) (z := 23) rfl (by decide) ?_)
  have k4841 : H4828 r0 5 = H r0 5 := (f4830 r0 5 _ g0 rfl)
  have q4842 : H4828 r0 5 = (rb : Int) := k4841.trans qrb
  refine wp_of e187 c187_60 (xc_V (pc' := 63) (r := r0) (as := [.ref 86, vI 0, vI 23]) (st := []) (lm_9_216) rfl rfl (Nat.le_of_ble_eq_true rfl) w4829 g0 sh_42 (by decide) rfl (by decide) (u_182_o (fo := fo4832) (po := po4833) (kk := 2212) w4829 g0 rfl ⟨by decide, by decide⟩ ⟨by decide, by decide⟩ q4842 grb (by decide +kernel) h4835) (fun R4843 T4844 H4845 p4846 => ?_))
  obtain ⟨e4847, e4849, z4850, e4848, b4851, p4852⟩ := p4846
  subst e4847
  subst e4848
  subst e4849
  obtain ⟨a4853, a4854⟩ := p4852
  show wp _ _ 187 63 [(0, .ref r0), (1, vL v4827)] [vI z4850] _ H4828 _
  have u4855 := RO_k a4854
  refine wp_of e187 c187_63 (rw_istore_n (pc' := 64) (z := z4850) (L' := [(3, vI z4850), (0, .ref r0), (1, vL v4827)]) rfl rfl rfl ?_)
  exact wp_lc (ks := [3, 0, 1]) (wl_c rfl (wl_c rfl (wl_c rfl wl_n))) rfl (by decide) (u_187_k_t64o hW g0 qrp grp qrb grb p0 hRC_r0 hDM_rp hFZ_rp v4827 z4850 H4828 fo4832 po4833 w4829 f4830 ⟨by omega, by omega⟩ ⟨by omega, by omega⟩ a4854 h4836 (by omega) (by omega))
set_option maxHeartbeats 60000000 in
theorem u_187_k_t45o {kt : Nat → Option mc_E} {T : wq_T} {H : wq_H} {r0 : Nat} {rp : Nat} {rb : Nat} {B : Nat → Int} {n : Int} {q : Int} {d : xD} {N0 : Nat} {H0 : wq_H} (hW : WT T H) (g0 : T.2.2.2 r0 = some 42) (qrp : H r0 4 = (rp : Int)) (grp : T.2.2.2 rp = some 54) (qrb : H r0 5 = (rb : Int)) (grb : T.2.2.2 rb = some 43) (p0 : xK B n q = 1) (hRC_r0 : RC T H r0 B n q) (hDM_rp : DM T H rp r0 d) (hFZ_rp : FZ T H rp N0 H0) : ∀  (H4875 : wq_H) (fo4879 : Int) (po4880 : Int), WT T H4875 → wfr [(42, 8), (42, 9), (42, 10), (42, 11), (42, 12), (42, 13), (42, 14), (42, 15)] T H H4875 → RO T H4875 r0 fo4879 po4880 → FZ T H4875 rp N0 H0 → ((xl1 B n q d).1 = fo4879) → ((xl1 B n q d).2.1 = po4880) → wp kt 4 187 45 [(0, .ref r0)] [] T H4875 (uq_187_k r0 rp rb B n q d N0 H0 T H) := by
  have f0 : wfr [(54, 3), (42, 8), (42, 9), (42, 10), (42, 11), (42, 12), (42, 13), (42, 14), (42, 15), (56, 999), (57, 999), (60, 999), (63, 999), (58, 999), (59, 999), (55, 999), (61, 999), (62, 999)] T H H := wfr.rf
  have u4856 := RC_k hRC_r0
  have u4857 := DM_k hDM_rp
  have h4858 : MA9 T H rp (d 1) := hDM_rp.2.2.2.1
  have h4859 : MA10 T H rp (d 2) := hDM_rp.2.2.2.2.1
  have h4860 : MA11 T H rp (d 3) := hDM_rp.2.2.2.2.2.1
  have h4861 : MA12 T H rp (d 4) := hDM_rp.2.2.2.2.2.2.1
  have h4862 : MA13 T H rp (d 5) := hDM_rp.2.2.2.2.2.2.2.1
  have h4863 : MA14 T H rp (d 6) := hDM_rp.2.2.2.2.2.2.2.2.1
  have h4864 : MA15 T H rp (d 7) := hDM_rp.2.2.2.2.2.2.2.2.2.1
  have h4865 : MA16 T H rp (d 8) := hDM_rp.2.2.2.2.2.2.2.2.2.2.1
  have h4866 : MA17 T H rp (d 9) := hDM_rp.2.2.2.2.2.2.2.2.2.2.2.1
  have h4867 : MA18 T H rp (d 10) := hDM_rp.2.2.2.2.2.2.2.2.2.2.2.2.1
  have h4868 : MA19 T H rp (d 11) := hDM_rp.2.2.2.2.2.2.2.2.2.2.2.2.2.1
  have h4869 : MA20 T H rp (d 12) := hDM_rp.2.2.2.2.2.2.2.2.2.2.2.2.2.2.1
  have h4870 : MA21 T H rp (d 13) := hDM_rp.2.2.2.2.2.2.2.2.2.2.2.2.2.2.2.1
  have h4871 : MA22 T H rp (d 14) := hDM_rp.2.2.2.2.2.2.2.2.2.2.2.2.2.2.2.2.1
  have h4872 : MA23 T H rp (d 15) := hDM_rp.2.2.2.2.2.2.2.2.2.2.2.2.2.2.2.2.2.1
  have h4873 : MA25 T H rp (d 17) := hDM_rp.2.2.2.2.2.2.2.2.2.2.2.2.2.2.2.2.2.2.1
  have h4874 : MA26 T H rp (d 16) := hDM_rp.2.2.2.2.2.2.2.2.2.2.2.2.2.2.2.2.2.2.2
  intro H4875 fo4879 po4880 w4876 f4877 h4881 h4882 x4883 x4884
  have f4885 : wfr [(54, 3), (42, 8), (42, 9), (42, 10), (42, 11), (42, 12), (42, 13), (42, 14), (42, 15), (56, 999), (57, 999), (60, 999), (63, 999), (58, 999), (59, 999), (55, 999), (61, 999), (62, 999)] T H H4875 := wfr.rf.tr f4877 rfl
  have u4886 := RO_k h4881
  refine wp_of e187 c187_45 (rw_aload_n (pc' := 46) (v := .ref r0) rfl rfl rfl ?_)
  refine wp_of e187 c187_46 (xg_L (pc' := 49) lf_9_94 w4876 g0 sh_42 (by decide) (by decide) ty_42_15 rfl rfl (fun b4887 b4888 => ?_))
  refine wp_of e187 c187_49 (rw_lstore_n (pc' := 50) (z := H4875 r0 15) (L' := [(1, vL (H4875 r0 15)), (0, .ref r0)]) rfl rfl rfl ?_)
  refine wp_of e187 c187_50 (rw_aload_n (pc' := 51) (v := .ref r0) rfl rfl rfl ?_)
  refine wp_of e187 c187_51 (xc_V (pc' := 54) (r := r0) (as := []) (st := []) (lm_9_118) rfl rfl (Nat.le_of_ble_eq_true rfl) w4876 g0 sh_42 (by decide) rfl (by decide) (u_172_o (fo := fo4879) (po := po4880) w4876 g0 h4881) (fun R4889 T4890 H4891 p4892 => ?_))
  obtain ⟨e4893, e4895, e4894, p4896⟩ := p4892
  subst e4893
  subst e4894
  subst e4895
  show wp _ _ 187 54 [(1, vL (H4875 r0 15)), (0, .ref r0)] [] _ H4875 _
  have u4898 := RO_k p4896
  exact wp_lc (ks := [1, 0]) (wl_c rfl (wl_c rfl wl_n)) rfl (by decide) (u_187_k_t54o hW g0 qrp grp qrb grb p0 hRC_r0 hDM_rp hFZ_rp (H4875 r0 15) H4875 fo4879 po4880 w4876 f4877 ⟨by omega, by omega⟩ p4896 h4882 (by omega) (by omega))
set_option maxHeartbeats 60000000 in
theorem u_187_k_t25o {kt : Nat → Option mc_E} {T : wq_T} {H : wq_H} {r0 : Nat} {rp : Nat} {rb : Nat} {B : Nat → Int} {n : Int} {q : Int} {d : xD} {N0 : Nat} {H0 : wq_H} (hW : WT T H) (g0 : T.2.2.2 r0 = some 42) (qrp : H r0 4 = (rp : Int)) (grp : T.2.2.2 rp = some 54) (qrb : H r0 5 = (rb : Int)) (grb : T.2.2.2 rb = some 43) (p0 : xK B n q = 1) (hRC_r0 : RC T H r0 B n q) (hDM_rp : DM T H rp r0 d) (hFZ_rp : FZ T H rp N0 H0) : ∀  (H4918 : wq_H) (fo4922 : Int) (po4923 : Int), WT T H4918 → wfr [(42, 8), (42, 9), (42, 10), (42, 11), (42, 12), (42, 13), (42, 14), (42, 15)] T H H4918 → RO T H4918 r0 fo4922 po4923 → FZ T H4918 rp N0 H0 → ((xl1 B n q d).1 = fo4922) → ((xl1 B n q d).2.1 = po4923) → wp kt 4 187 25 [(0, .ref r0)] [] T H4918 (uq_187_k r0 rp rb B n q d N0 H0 T H) := by
  have f0 : wfr [(54, 3), (42, 8), (42, 9), (42, 10), (42, 11), (42, 12), (42, 13), (42, 14), (42, 15), (56, 999), (57, 999), (60, 999), (63, 999), (58, 999), (59, 999), (55, 999), (61, 999), (62, 999)] T H H := wfr.rf
  have u4899 := RC_k hRC_r0
  have u4900 := DM_k hDM_rp
  have h4901 : MA9 T H rp (d 1) := hDM_rp.2.2.2.1
  have h4902 : MA10 T H rp (d 2) := hDM_rp.2.2.2.2.1
  have h4903 : MA11 T H rp (d 3) := hDM_rp.2.2.2.2.2.1
  have h4904 : MA12 T H rp (d 4) := hDM_rp.2.2.2.2.2.2.1
  have h4905 : MA13 T H rp (d 5) := hDM_rp.2.2.2.2.2.2.2.1
  have h4906 : MA14 T H rp (d 6) := hDM_rp.2.2.2.2.2.2.2.2.1
  have h4907 : MA15 T H rp (d 7) := hDM_rp.2.2.2.2.2.2.2.2.2.1
  have h4908 : MA16 T H rp (d 8) := hDM_rp.2.2.2.2.2.2.2.2.2.2.1
  have h4909 : MA17 T H rp (d 9) := hDM_rp.2.2.2.2.2.2.2.2.2.2.2.1
  have h4910 : MA18 T H rp (d 10) := hDM_rp.2.2.2.2.2.2.2.2.2.2.2.2.1
  have h4911 : MA19 T H rp (d 11) := hDM_rp.2.2.2.2.2.2.2.2.2.2.2.2.2.1
  have h4912 : MA20 T H rp (d 12) := hDM_rp.2.2.2.2.2.2.2.2.2.2.2.2.2.2.1
  have h4913 : MA21 T H rp (d 13) := hDM_rp.2.2.2.2.2.2.2.2.2.2.2.2.2.2.2.1
  have h4914 : MA22 T H rp (d 14) := hDM_rp.2.2.2.2.2.2.2.2.2.2.2.2.2.2.2.2.1
  have h4915 : MA23 T H rp (d 15) := hDM_rp.2.2.2.2.2.2.2.2.2.2.2.2.2.2.2.2.2.1
  have h4916 : MA25 T H rp (d 17) := hDM_rp.2.2.2.2.2.2.2.2.2.2.2.2.2.2.2.2.2.2.1
  have h4917 : MA26 T H rp (d 16) := hDM_rp.2.2.2.2.2.2.2.2.2.2.2.2.2.2.2.2.2.2.2
  intro H4918 fo4922 po4923 w4919 f4920 h4924 h4925 x4926 x4927
  have f4928 : wfr [(54, 3), (42, 8), (42, 9), (42, 10), (42, 11), (42, 12), (42, 13), (42, 14), (42, 15), (56, 999), (57, 999), (60, 999), (63, 999), (58, 999), (59, 999), (55, 999), (61, 999), (62, 999)] T H H4918 := wfr.rf.tr f4920 rfl
  have u4929 := RO_k h4924
  refine wp_of e187 c187_25 (rw_aload_n (pc' := 26) (v := .ref r0) rfl rfl rfl ?_)
  have k4930 : H4918 r0 4 = H r0 4 := (f4920 r0 4 _ g0 rfl)
  have q4931 : H4918 r0 4 = (rp : Int) := k4930.trans qrp
  refine wp_of e187 c187_26 (xg_K (pc' := 29) lf_9_166 w4919 g0 sh_42 (by decide) (by decide) rfl q4931 rfl ?_)
  refine wp_of e187 c187_29 (rw_aload_n (pc' := 30) (v := .ref r0) rfl rfl rfl ?_)
  refine wp_of e187 c187_30 (xg_L (pc' := 33) lf_9_94 w4919 g0 sh_42 (by decide) (by decide) ty_42_15 rfl rfl (fun b4932 b4933 => ?_))
  refine wp_of e187 c187_33 (xc_V (pc' := 36) (r := rp) (as := [vL (H4918 r0 15)]) (st := []) (lm_9_170) rfl rfl (Nat.le_of_ble_eq_true rfl) w4919 grp sh_54 (by decide) rfl (by decide) (u_190_o  w4919 grp ⟨b4932, b4933⟩) (fun R4934 T4935 H4936 p4937 => ?_))
  obtain ⟨e4938, e4940, z4941, e4939, b4942, p4943⟩ := p4937
  subst e4938
  subst e4939
  subst e4940
  show wp _ _ 187 36 [(0, .ref r0)] [vI z4941] _ H4918 _
  refine wp_of e187 c187_36 (rw_iconst (pc' := 37) rfl ?_)
  refine wp_of e187 c187_37 (rw_icmp_eq (p1 := 45) (p2 := 40) (by decide) rfl ⟨Int.le_trans (by decide) b4942.1, Int.le_trans b4942.2 (by decide)⟩ ⟨by decide, by decide⟩ (fun c4945 => ?_) (fun c4945 => ?_))
  · exact wp_lc (ks := [0]) (wl_c rfl wl_n) rfl (by decide) (u_187_k_t45o hW g0 qrp grp qrb grb p0 hRC_r0 hDM_rp hFZ_rp H4918 fo4922 po4923 w4919 f4920 h4924 h4925 (by omega) (by omega))
  · refine wp_of e187 c187_40 (rw_aload_n (pc' := 41) (v := .ref r0) rfl rfl rfl ?_)
    refine wp_of e187 c187_41 (rw_iconst (pc' := 42) rfl ?_)
    refine wp_of e187 c187_42 (xc_V (pc' := 45) (r := r0) (as := [vI 3]) (st := []) (lm_9_121) rfl rfl (Nat.le_of_ble_eq_true rfl) w4919 g0 sh_42 (by decide) rfl (by decide) (u_181_o (fo := fo4922) (po := po4923) w4919 g0 ⟨by decide, by decide⟩ h4924) (fun R4946 T4947 H4948 p4949 => ?_))
    obtain ⟨e4950, e4952, e4951, p4953⟩ := p4949
    subst e4950
    subst e4951
    subst e4952
    show wp _ _ 187 45 [(0, .ref r0)] [] _ H4918 _
    have u4955 := RO_k p4953
    exact wp_lc (ks := [0]) (wl_c rfl wl_n) rfl (by decide) (u_187_k_t45o hW g0 qrp grp qrb grb p0 hRC_r0 hDM_rp hFZ_rp H4918 fo4922 po4923 w4919 f4920 p4953 h4925 (by omega) (by omega))

set_option maxHeartbeats 60000000 in
theorem u_187_k {kt : Nat → Option mc_E} {T : wq_T} {H : wq_H} {r0 : Nat} {rp : Nat} {rb : Nat} {B : Nat → Int} {n : Int} {q : Int} {d : xD} {N0 : Nat} {H0 : wq_H} (hW : WT T H) (g0 : T.2.2.2 r0 = some 42) (qrp : H r0 4 = (rp : Int)) (grp : T.2.2.2 rp = some 54) (qrb : H r0 5 = (rb : Int)) (grb : T.2.2.2 rb = some 43) (p0 : xK B n q = 1) (hRC_r0 : RC T H r0 B n q) (hDM_rp : DM T H rp r0 d) (hFZ_rp : FZ T H rp N0 H0) : wpc kt 5 187 [.ref r0] T H (uq_187_k r0 rp rb B n q d N0 H0 T H) := by
  refine wp_enter e187 (Nat.le_of_ble_eq_true rfl) rfl ?_
  have f0 : wfr [(54, 3), (42, 8), (42, 9), (42, 10), (42, 11), (42, 12), (42, 13), (42, 14), (42, 15), (56, 999), (57, 999), (60, 999), (63, 999), (58, 999), (59, 999), (55, 999), (61, 999), (62, 999)] T H H := wfr.rf
  show wp _ _ 187 0 [(0, .ref r0)] [] _ H _
  have u3743 := RC_k hRC_r0
  have u3744 := DM_k hDM_rp
  have h3745 : MA9 T H rp (d 1) := hDM_rp.2.2.2.1
  have h3746 : MA10 T H rp (d 2) := hDM_rp.2.2.2.2.1
  have h3747 : MA11 T H rp (d 3) := hDM_rp.2.2.2.2.2.1
  have h3748 : MA12 T H rp (d 4) := hDM_rp.2.2.2.2.2.2.1
  have h3749 : MA13 T H rp (d 5) := hDM_rp.2.2.2.2.2.2.2.1
  have h3750 : MA14 T H rp (d 6) := hDM_rp.2.2.2.2.2.2.2.2.1
  have h3751 : MA15 T H rp (d 7) := hDM_rp.2.2.2.2.2.2.2.2.2.1
  have h3752 : MA16 T H rp (d 8) := hDM_rp.2.2.2.2.2.2.2.2.2.2.1
  have h3753 : MA17 T H rp (d 9) := hDM_rp.2.2.2.2.2.2.2.2.2.2.2.1
  have h3754 : MA18 T H rp (d 10) := hDM_rp.2.2.2.2.2.2.2.2.2.2.2.2.1
  have h3755 : MA19 T H rp (d 11) := hDM_rp.2.2.2.2.2.2.2.2.2.2.2.2.2.1
  have h3756 : MA20 T H rp (d 12) := hDM_rp.2.2.2.2.2.2.2.2.2.2.2.2.2.2.1
  have h3757 : MA21 T H rp (d 13) := hDM_rp.2.2.2.2.2.2.2.2.2.2.2.2.2.2.2.1
  have h3758 : MA22 T H rp (d 14) := hDM_rp.2.2.2.2.2.2.2.2.2.2.2.2.2.2.2.2.1
  have h3759 : MA23 T H rp (d 15) := hDM_rp.2.2.2.2.2.2.2.2.2.2.2.2.2.2.2.2.2.1
  have h3760 : MA25 T H rp (d 17) := hDM_rp.2.2.2.2.2.2.2.2.2.2.2.2.2.2.2.2.2.2.1
  have h3761 : MA26 T H rp (d 16) := hDM_rp.2.2.2.2.2.2.2.2.2.2.2.2.2.2.2.2.2.2.2
  have f0s : wfr [(42, 8), (42, 9), (42, 10), (42, 11), (42, 12), (42, 13), (42, 14), (42, 15)] T H H := wfr.rf
  refine wp_of e187 c187_0 (rw_aload_n (pc' := 1) (v := .ref r0) rfl rfl rfl ?_)
  refine wp_of e187 c187_1 (rw_aload_n (pc' := 2) (v := .ref r0) rfl rfl rfl ?_)
  refine wp_of e187 c187_2 (xg_K (pc' := 5) lf_9_166 hW g0 sh_42 (by decide) (by decide) rfl qrp rfl ?_)
  refine wp_of e187 c187_5 (xg_I (pc' := 8) lf_9_188 hW grp sh_54 (by decide) (by decide) ty_54_3 rfl rfl (fun b4956 b4957 => ?_))
  refine wp_of e187 c187_8 (rw_bipush (pc' := 10) (z := 6) rfl (by decide) ?_)
  refine wp_of e187 c187_10 (xc_V (pc' := 13) (r := r0) (as := [vI (H rp 3), vI 6]) (st := []) (lm_9_228) rfl rfl (Nat.le_of_ble_eq_true rfl) hW g0 sh_42 (by decide) rfl (by decide) (u_188_k (B := B) (n := n) (q := q) hW g0 ⟨Int.le_trans (by decide) b4956, Int.le_trans b4957 (by decide)⟩ ⟨by decide, by decide⟩ qrb grb (by omega) hRC_r0) (fun R4958 T4959 H4960 p4961 => ?_))
  obtain ⟨e4962, w4964, f4965, e4963, p4966⟩ := p4961
  subst e4962
  subst e4963
  rcases p4966 with ⟨a4967, a4968⟩ | ⟨a4969, a4970⟩
  · have f4971 := f0.tr f4965 rfl
    have f4972 := f0s.tr f4965 rfl
    show wp _ _ 187 13 [(0, .ref r0)] [] _ H4960 _
    have u4973 := RC_k a4968
    have _m := @xnm_b B n (xN B n q) d
    refine wp_of e187 c187_13 (rw_aload_n (pc' := 14) (v := .ref r0) rfl rfl rfl ?_)
    refine wp_of e187 c187_14 (xc_V (pc' := 17) (r := r0) (as := []) (st := []) (lm_9_162) rfl rfl (Nat.le_of_ble_eq_true rfl) w4964 g0 sh_42 (by decide) rfl (by decide) (u_189_k (B := B) (n := n) (q := ((xN B n q))) w4964 g0 a4968) (fun R4974 T4975 H4976 p4977 => ?_))
    obtain ⟨e4978, e4980, z4981, e4979, b4982, p4983⟩ := p4977
    subst e4978
    subst e4979
    subst e4980
    rcases p4983 with ⟨a4984, a4985, a4986, a4987⟩ | ⟨a4988, a4989⟩
    · show wp _ _ 187 17 [(0, .ref r0)] [vI z4981] _ H4960 _
      refine wp_of e187 c187_17 (rw_if_ne (p1 := 25) (p2 := 20) (by decide) rfl ⟨Int.le_trans (by decide) b4982.1, Int.le_trans b4982.2 (by decide)⟩ (fun c4990 => ?_) (fun c4990 => ?_))
      · refine wp_of e187 c187_25 (rw_aload_n (pc' := 26) (v := .ref r0) rfl rfl rfl ?_)
        have k4991 : H4960 r0 4 = H r0 4 := (f4965 r0 4 _ g0 rfl)
        have q4992 : H4960 r0 4 = (rp : Int) := k4991.trans qrp
        refine wp_of e187 c187_26 (xg_K (pc' := 29) lf_9_166 w4964 g0 sh_42 (by decide) (by decide) rfl q4992 rfl ?_)
        refine wp_of e187 c187_29 (rw_aload_n (pc' := 30) (v := .ref r0) rfl rfl rfl ?_)
        refine wp_of e187 c187_30 (xg_L (pc' := 33) lf_9_94 w4964 g0 sh_42 (by decide) (by decide) ty_42_15 rfl rfl (fun b4993 b4994 => ?_))
        have h4995 : DM T H4960 rp r0 d := (DM_fr hW grp f4965 rfl hDM_rp)
        refine wp_of e187 c187_33 (xc_V (pc' := 36) (r := rp) (as := [vL (H4960 r0 15)]) (st := []) (lm_9_170) rfl rfl (Nat.le_of_ble_eq_true rfl) w4964 grp sh_54 (by decide) rfl (by decide) (u_190_k (mm := r0) (d := d) (y := (xY B n (xN B n q))) w4964 grp ⟨b4993, b4994⟩ (by omega) h4995) (fun R4996 T4997 H4998 p4999 => ?_))
        obtain ⟨e5000, e5002, z5003, e5001, b5004, p5005⟩ := p4999
        subst e5000
        subst e5001
        subst e5002
        obtain ⟨a5006, a5007⟩ := p5005
        show wp _ _ 187 36 [(0, .ref r0)] [vI z5003] _ H4960 _
        refine wp_of e187 c187_36 (rw_iconst (pc' := 37) rfl ?_)
        refine wp_of e187 c187_37 (rw_icmp_eq (p1 := 45) (p2 := 40) (by decide) rfl ⟨Int.le_trans (by decide) b5004.1, Int.le_trans b5004.2 (by decide)⟩ ⟨by decide, by decide⟩ (fun c5008 => ?_) (fun c5008 => ?_))
        · refine wp_of e187 c187_45 (rw_aload_n (pc' := 46) (v := .ref r0) rfl rfl rfl ?_)
          refine wp_of e187 c187_46 (xg_L (pc' := 49) lf_9_94 w4964 g0 sh_42 (by decide) (by decide) ty_42_15 rfl rfl (fun b5009 b5010 => ?_))
          refine wp_of e187 c187_49 (rw_lstore_n (pc' := 50) (z := H4960 r0 15) (L' := [(1, vL (H4960 r0 15)), (0, .ref r0)]) rfl rfl rfl ?_)
          refine wp_of e187 c187_50 (rw_aload_n (pc' := 51) (v := .ref r0) rfl rfl rfl ?_)
          have k5011 : H4960 r0 5 = H r0 5 := (f4965 r0 5 _ g0 rfl)
          have q5012 : H4960 r0 5 = (rb : Int) := k5011.trans qrb
          have u5013 := RC_a a4968
          have h5014 : TM T H4960 rb B := RC_tm a4968 q5012
          refine wp_of e187 c187_51 (xc_V (pc' := 54) (r := r0) (as := []) (st := []) (lm_9_118) rfl rfl (Nat.le_of_ble_eq_true rfl) w4964 g0 sh_42 (by decide) rfl (by decide) (u_172_k (B := B) (n := n) (a := (xE B n ((xN B n q)))) (q := (xN B n ((xN B n q)))) w4964 g0 q5012 grb (by omega) (by omega) (by omega) (by omega) (by omega) (rfl) h5014) (fun R5015 T5016 H5017 p5018 => ?_))
          obtain ⟨e5019, w5021, f5022, e5020, p5023⟩ := p5018
          subst e5019
          subst e5020
          have f5025 := f4971.tr f5022 rfl
          have f5026 := f4972.tr f5022 rfl
          show wp _ _ 187 54 [(1, vL (H4960 r0 15)), (0, .ref r0)] [] _ H5017 _
          have u5027 := RC_k p5023
          refine wp_of e187 c187_54 (rw_aload_n (pc' := 55) (v := .ref r0) rfl rfl rfl ?_)
          refine wp_of e187 c187_55 (rw_ldcS (pc' := 57) (k := 86) rfl rfl rfl rfl ?_)
          refine wp_of e187 c187_57 (rw_iconst (pc' := 58) rfl ?_)
          refine wp_of e187 c187_58 (rw_bipush (pc' := 60) (z := 23) rfl (by decide) ?_)
          have k5028 : H5017 r0 5 = H4960 r0 5 := (f5022 r0 5 _ g0 rfl)
          have q5029 : H5017 r0 5 = (rb : Int) := k5028.trans q5012
          refine wp_of e187 c187_60 (xc_V (pc' := 63) (r := r0) (as := [.ref 86, vI 0, vI 23]) (st := []) (lm_9_216) rfl rfl (Nat.le_of_ble_eq_true rfl) w5021 g0 sh_42 (by decide) rfl (by decide) (u_182_k (B := B) (n := n) (q := ((xN B n ((xN B n q))))) (kk := 2212) (lo := 0) (hi := 23) w5021 g0 rfl ⟨by decide, by decide⟩ ⟨by decide, by decide⟩ q5029 grb (by decide +kernel) (by omega) (by omega) p5023) (fun R5030 T5031 H5032 p5033 => ?_))
          obtain ⟨e5034, w5036, f5037, z5038, e5035, b5039, p5040⟩ := p5033
          subst e5034
          subst e5035
          rcases p5040 with ⟨a5041, a5042, a5043, a5044, a5045, a5046⟩ | ⟨a5047, a5048, a5049⟩ | ⟨a5050, a5051, a5052, a5053⟩
          · have f5054 := f5025.tr f5037 rfl
            have f5055 := f5026.tr f5037 rfl
            show wp _ _ 187 63 [(1, vL (H4960 r0 15)), (0, .ref r0)] [vI z5038] _ H5032 _
            have u5056 := RC_k a5046
            refine wp_of e187 c187_63 (rw_istore_n (pc' := 64) (z := z5038) (L' := [(3, vI z5038), (1, vL (H4960 r0 15)), (0, .ref r0)]) rfl rfl rfl ?_)
            refine wp_of e187 c187_64 (rw_aload_n (pc' := 65) (v := .ref r0) rfl rfl rfl ?_)
            refine wp_of e187 c187_65 (rw_ldcS (pc' := 67) (k := 87) rfl rfl rfl rfl ?_)
            refine wp_of e187 c187_67 (rw_iload_n (pc' := 68) (z := z5038) rfl rfl ?_)
            refine wp_of e187 c187_68 (rw_bipush (pc' := 70) (z := 23) rfl (by decide) ?_)
            refine wp_of e187 c187_70 (rw_iload_n (pc' := 71) (z := z5038) rfl rfl ?_)
            refine wp_of e187 c187_71 (rw_bipush (pc' := 73) (z := 7) rfl (by decide) ?_)
            refine wp_of e187 c187_73 (rw_iadd (pc' := 74) rfl ?_)
            refine wp_of e187 c187_74 (xc_S (pc' := 77) (as := [vI 23, vI (z5038 + 7)]) (st := [vI z5038, .ref 87, .ref r0]) (lm_9_235) rfl rfl (Nat.le_of_ble_eq_true rfl) rfl (by decide) (u_191  w5036 ⟨by decide, by decide⟩ ⟨by omega, by omega⟩) (fun R5057 T5058 H5059 p5060 => ?_))
            obtain ⟨e5061, e5063, z5064, e5062, b5065, p5066⟩ := p5060
            subst e5061
            subst e5062
            subst e5063
            show wp _ _ 187 77 [(3, vI z5038), (1, vL (H4960 r0 15)), (0, .ref r0)] [vI z5064, vI z5038, .ref 87, .ref r0] _ H5032 _
            have k5068 : H5032 r0 5 = H5017 r0 5 := (f5037 r0 5 _ g0 rfl)
            have q5069 : H5032 r0 5 = (rb : Int) := k5068.trans q5029
            refine wp_of e187 c187_77 (xc_V (pc' := 80) (r := r0) (as := [.ref 87, vI z5038, vI z5064]) (st := []) (lm_9_216) rfl rfl (Nat.le_of_ble_eq_true rfl) w5036 g0 sh_42 (by decide) rfl (by decide) (u_182_k (B := B) (n := n) (q := ((xN B n (xN B n ((xN B n ((xN B n q)))))))) (kk := 655) (lo := (xV B n (xN B n (xN B n (xN B n q))) + 0)) (hi := (min (xV B n (xN B n (xN B n (xN B n q))) + 7) 23)) w5036 g0 rfl ⟨b5039.1, b5039.2⟩ ⟨b5065.1, b5065.2⟩ q5069 grb (by decide +kernel) (by omega) (by omega) a5046) (fun R5070 T5071 H5072 p5073 => ?_))
            obtain ⟨e5074, w5076, f5077, z5078, e5075, b5079, p5080⟩ := p5073
            subst e5074
            subst e5075
            rcases p5080 with ⟨a5081, a5082, a5083, a5084, a5085, a5086⟩ | ⟨a5087, a5088, a5089⟩ | ⟨a5090, a5091, a5092, a5093⟩
            · have f5094 := f5054.tr f5077 rfl
              have f5095 := f5055.tr f5077 rfl
              show wp _ _ 187 80 [(3, vI z5038), (1, vL (H4960 r0 15)), (0, .ref r0)] [vI z5078] _ H5072 _
              have u5096 := RC_k a5086
              refine wp_of e187 c187_80 (rw_istore (pc' := 82) (z := z5078) (L' := [(4, vI z5078), (3, vI z5038), (1, vL (H4960 r0 15)), (0, .ref r0)]) rfl rfl rfl ?_)
              refine wp_of e187 c187_82 (rw_aload_n (pc' := 83) (v := .ref r0) rfl rfl rfl ?_)
              refine wp_of e187 c187_83 (rw_ldcS (pc' := 85) (k := 88) rfl rfl rfl rfl ?_)
              refine wp_of e187 c187_85 (rw_iconst (pc' := 86) rfl ?_)
              refine wp_of e187 c187_86 (rw_bipush (pc' := 88) (z := 12) rfl (by decide) ?_)
              have k5097 : H5072 r0 5 = H5032 r0 5 := (f5077 r0 5 _ g0 rfl)
              have q5098 : H5072 r0 5 = (rb : Int) := k5097.trans q5069
              refine wp_of e187 c187_88 (xc_V (pc' := 91) (r := r0) (as := [.ref 88, vI 0, vI 12]) (st := []) (lm_9_216) rfl rfl (Nat.le_of_ble_eq_true rfl) w5076 g0 sh_42 (by decide) rfl (by decide) (u_182_k (B := B) (n := n) (q := ((xN B n (xN B n ((xN B n (xN B n ((xN B n ((xN B n q))))))))))) (kk := 409031) (lo := 0) (hi := 12) w5076 g0 rfl ⟨by decide, by decide⟩ ⟨by decide, by decide⟩ q5098 grb (by decide +kernel) (by omega) (by omega) a5086) (fun R5099 T5100 H5101 p5102 => ?_))
              obtain ⟨e5103, w5105, f5106, z5107, e5104, b5108, p5109⟩ := p5102
              subst e5103
              subst e5104
              rcases p5109 with ⟨a5110, a5111, a5112, a5113, a5114, a5115⟩ | ⟨a5116, a5117, a5118⟩ | ⟨a5119, a5120, a5121, a5122⟩
              · have f5123 := f5094.tr f5106 rfl
                have f5124 := f5095.tr f5106 rfl
                show wp _ _ 187 91 [(4, vI z5078), (3, vI z5038), (1, vL (H4960 r0 15)), (0, .ref r0)] [vI z5107] _ H5101 _
                have u5125 := RC_k a5115
                refine wp_of e187 c187_91 (rw_istore (pc' := 93) (z := z5107) (L' := [(5, vI z5107), (4, vI z5078), (3, vI z5038), (1, vL (H4960 r0 15)), (0, .ref r0)]) rfl rfl rfl ?_)
                refine wp_of e187 c187_93 (rw_aload_n (pc' := 94) (v := .ref r0) rfl rfl rfl ?_)
                refine wp_of e187 c187_94 (rw_ldcS (pc' := 96) (k := 87) rfl rfl rfl rfl ?_)
                refine wp_of e187 c187_96 (rw_iload (pc' := 98) (z := z5107) rfl rfl ?_)
                refine wp_of e187 c187_98 (rw_bipush (pc' := 100) (z := 12) rfl (by decide) ?_)
                refine wp_of e187 c187_100 (rw_iload (pc' := 102) (z := z5107) rfl rfl ?_)
                refine wp_of e187 c187_102 (rw_iconst (pc' := 103) rfl ?_)
                refine wp_of e187 c187_103 (rw_iadd (pc' := 104) rfl ?_)
                refine wp_of e187 c187_104 (xc_S (pc' := 107) (as := [vI 12, vI (z5107 + 4)]) (st := [vI z5107, .ref 87, .ref r0]) (lm_9_235) rfl rfl (Nat.le_of_ble_eq_true rfl) rfl (by decide) (u_191  w5105 ⟨by decide, by decide⟩ ⟨by omega, by omega⟩) (fun R5126 T5127 H5128 p5129 => ?_))
                obtain ⟨e5130, e5132, z5133, e5131, b5134, p5135⟩ := p5129
                subst e5130
                subst e5131
                subst e5132
                show wp _ _ 187 107 [(5, vI z5107), (4, vI z5078), (3, vI z5038), (1, vL (H4960 r0 15)), (0, .ref r0)] [vI z5133, vI z5107, .ref 87, .ref r0] _ H5101 _
                have k5137 : H5101 r0 5 = H5072 r0 5 := (f5106 r0 5 _ g0 rfl)
                have q5138 : H5101 r0 5 = (rb : Int) := k5137.trans q5098
                refine wp_of e187 c187_107 (xc_V (pc' := 110) (r := r0) (as := [.ref 87, vI z5107, vI z5133]) (st := []) (lm_9_216) rfl rfl (Nat.le_of_ble_eq_true rfl) w5105 g0 sh_42 (by decide) rfl (by decide) (u_182_k (B := B) (n := n) (q := ((xN B n (xN B n ((xN B n (xN B n ((xN B n (xN B n ((xN B n ((xN B n q)))))))))))))) (kk := 655) (lo := (xV B n (xN B n (xN B n (xN B n (xN B n (xN B n (xN B n (xN B n q))))))) + 0)) (hi := (min (xV B n (xN B n (xN B n (xN B n (xN B n (xN B n (xN B n (xN B n q))))))) + 4) 12)) w5105 g0 rfl ⟨b5108.1, b5108.2⟩ ⟨b5134.1, b5134.2⟩ q5138 grb (by decide +kernel) (by omega) (by omega) a5115) (fun R5139 T5140 H5141 p5142 => ?_))
                obtain ⟨e5143, w5145, f5146, z5147, e5144, b5148, p5149⟩ := p5142
                subst e5143
                subst e5144
                rcases p5149 with ⟨a5150, a5151, a5152, a5153, a5154, a5155⟩ | ⟨a5156, a5157, a5158⟩ | ⟨a5159, a5160, a5161, a5162⟩
                · have f5163 := f5123.tr f5146 rfl
                  have f5164 := f5124.tr f5146 rfl
                  show wp _ _ 187 110 [(5, vI z5107), (4, vI z5078), (3, vI z5038), (1, vL (H4960 r0 15)), (0, .ref r0)] [vI z5147] _ H5141 _
                  have u5165 := RC_k a5155
                  refine wp_of e187 c187_110 (rw_istore (pc' := 112) (z := z5147) (L' := [(6, vI z5147), (5, vI z5107), (4, vI z5078), (3, vI z5038), (1, vL (H4960 r0 15)), (0, .ref r0)]) rfl rfl rfl ?_)
                  have hS : xl1 B n q d = xcs B n (xN B n (xN B n (xN B n (xN B n (xN B n (xN B n (xN B n (xN B n (xN B n (xN B n q)))))))))) := by
                    unfold xl1 xper xbd xrg
                    try simp only [xs_xs, xs_z]
                    repeat first | rw [xs_0 (Int.le_antisymm (by omega -splitDisjunctions) (by omega -splitDisjunctions))] | rw [xs_1 (by omega -splitDisjunctions)] | rw [if_pos (Int.le_antisymm (by omega -splitDisjunctions) (by omega -splitDisjunctions))] | rw [if_pos (by omega -splitDisjunctions)] | rw [if_pos (And.intro (by omega -splitDisjunctions) (by omega -splitDisjunctions))] | rw [if_neg (by omega -splitDisjunctions)] | rw [xs_1 (by omega)] | rw [if_neg (by omega)] | rw [xs_0 (by omega)] | rw [if_pos (by omega)]
                    first | done | rfl
                  have h5166 : DM T H5141 rp r0 d := (DM_fr w5105 grp f5146 rfl (DM_fr w5076 grp f5106 rfl (DM_fr w5036 grp f5077 rfl (DM_fr w5021 grp f5037 rfl (DM_fr w4964 grp f5022 rfl h4995)))))
                  have h5167 : FZ T H5141 rp N0 H0 := (FZ_fr w5105 grp f5146 rfl (FZ_fr w5076 grp f5106 rfl (FZ_fr w5036 grp f5077 rfl (FZ_fr w5021 grp f5037 rfl (FZ_fr w4964 grp f5022 rfl (FZ_fr hW grp f4965 rfl hFZ_rp))))))
                  exact wp_lc (ks := [6, 5, 4, 3, 1, 0]) (wl_c rfl (wl_c rfl (wl_c rfl (wl_c rfl (wl_c rfl (wl_c rfl wl_n)))))) rfl (by decide) (u_187_k_t112k hW g0 qrp grp qrb grb p0 hRC_r0 hDM_rp hFZ_rp (H4960 r0 15) z5038 z5078 z5107 z5147 H5141 w5145 f5164 ⟨by omega, by omega⟩ ⟨by omega, by omega⟩ ⟨by omega, by omega⟩ ⟨by omega, by omega⟩ ⟨by omega, by omega⟩ a5155 h5166 h5167 (hS) (by omega) (by omega) (by omega) (by omega) (by omega) (by omega) (by omega) (by omega) (by omega))
                · have f5168 := f5123.tr f5146 rfl
                  have f5169 := f5124.tr f5146 rfl
                  show wp _ _ 187 110 [(5, vI z5107), (4, vI z5078), (3, vI z5038), (1, vL (H4960 r0 15)), (0, .ref r0)] [vI z5147] _ H5141 _
                  have u5170 := RO_k a5158
                  refine wp_of e187 c187_110 (rw_istore (pc' := 112) (z := z5147) (L' := [(6, vI z5147), (5, vI z5107), (4, vI z5078), (3, vI z5038), (1, vL (H4960 r0 15)), (0, .ref r0)]) rfl rfl rfl ?_)
                  have o5171 : (xl1 B n q d) = (xw B n ((xN B n (xN B n ((xN B n (xN B n ((xN B n (xN B n ((xN B n ((xN B n q))))))))))))) 655, ((xN B n (xN B n ((xN B n (xN B n ((xN B n (xN B n ((xN B n ((xN B n q))))))))))))), ((xN B n (xN B n ((xN B n (xN B n ((xN B n (xN B n ((xN B n ((xN B n q)))))))))))))) := by
                    unfold xl1 xper xbd xcs xca xcb xrg
                    try simp only [xs_xs, xs_z]
                    try rw [_ea]
                    try rw [_eb]
                    try rw [_ec]
                    repeat first | rw [xs_0 (Int.le_antisymm (by omega -splitDisjunctions) (by omega -splitDisjunctions))] | rw [xs_1 (by omega -splitDisjunctions)] | rw [if_pos (Int.le_antisymm (by omega -splitDisjunctions) (by omega -splitDisjunctions))] | rw [if_pos (by omega -splitDisjunctions)] | rw [if_pos (And.intro (by omega -splitDisjunctions) (by omega -splitDisjunctions))] | rw [if_neg (by omega -splitDisjunctions)] | rw [xs_1 (by omega)] | rw [if_neg (by omega)] | rw [xs_0 (by omega)] | rw [if_pos (by omega)]
                    first | done | rfl | assumption | (exfalso; omega -splitDisjunctions) | (refine Prod.ext ?_ (Prod.ext ?_ ?_) <;> (try dsimp only) <;> omega) | (exfalso; omega)
                  have o5171a : ((xl1 B n q d)).1 = xw B n ((xN B n (xN B n ((xN B n (xN B n ((xN B n (xN B n ((xN B n ((xN B n q))))))))))))) 655 := by rw [o5171]
                  have o5171b : ((xl1 B n q d)).2.1 = ((xN B n (xN B n ((xN B n (xN B n ((xN B n (xN B n ((xN B n ((xN B n q))))))))))))) := by rw [o5171]
                  have o5171c : ((xl1 B n q d)).2.2 = ((xN B n (xN B n ((xN B n (xN B n ((xN B n (xN B n ((xN B n ((xN B n q))))))))))))) := by rw [o5171]
                  have h5172 : FZ T H5141 rp N0 H0 := (FZ_fr w5105 grp f5146 rfl (FZ_fr w5076 grp f5106 rfl (FZ_fr w5036 grp f5077 rfl (FZ_fr w5021 grp f5037 rfl (FZ_fr w4964 grp f5022 rfl (FZ_fr hW grp f4965 rfl hFZ_rp))))))
                  exact wp_lc (ks := [6, 5, 4, 3, 1, 0]) (wl_c rfl (wl_c rfl (wl_c rfl (wl_c rfl (wl_c rfl (wl_c rfl wl_n)))))) rfl (by decide) (u_187_k_t112o hW g0 qrp grp qrb grb p0 hRC_r0 hDM_rp hFZ_rp (H4960 r0 15) z5038 z5078 z5107 z5147 H5141 (xw B n ((xN B n (xN B n ((xN B n (xN B n ((xN B n (xN B n ((xN B n ((xN B n q))))))))))))) 655) (((xN B n (xN B n ((xN B n (xN B n ((xN B n (xN B n ((xN B n ((xN B n q)))))))))))))) w5145 f5169 ⟨by omega, by omega⟩ ⟨by omega, by omega⟩ ⟨by omega, by omega⟩ ⟨by omega, by omega⟩ ⟨by omega, by omega⟩ a5158 h5172 (by omega) (by omega))
                · have f5173 := f5123.tr f5146 rfl
                  have f5174 := f5124.tr f5146 rfl
                  show wp _ _ 187 110 [(5, vI z5107), (4, vI z5078), (3, vI z5038), (1, vL (H4960 r0 15)), (0, .ref r0)] [vI z5147] _ H5141 _
                  have u5175 := RO_k a5162
                  refine wp_of e187 c187_110 (rw_istore (pc' := 112) (z := z5147) (L' := [(6, vI z5147), (5, vI z5107), (4, vI z5078), (3, vI z5038), (1, vL (H4960 r0 15)), (0, .ref r0)]) rfl rfl rfl ?_)
                  have o5176 : (xl1 B n q d) = (xh B n (xN B n ((xN B n (xN B n ((xN B n (xN B n ((xN B n (xN B n ((xN B n ((xN B n q)))))))))))))) (xV B n (xN B n (xN B n (xN B n (xN B n (xN B n (xN B n (xN B n q))))))) + 0) (min (xV B n (xN B n (xN B n (xN B n (xN B n (xN B n (xN B n (xN B n q))))))) + 4) 12), (xN B n ((xN B n (xN B n ((xN B n (xN B n ((xN B n (xN B n ((xN B n ((xN B n q)))))))))))))), (xN B n ((xN B n (xN B n ((xN B n (xN B n ((xN B n (xN B n ((xN B n ((xN B n q))))))))))))))) := by
                    unfold xl1 xper xbd xcs xca xcb xrg
                    try simp only [xs_xs, xs_z]
                    try rw [_ea]
                    try rw [_eb]
                    try rw [_ec]
                    repeat first | rw [xs_0 (Int.le_antisymm (by omega -splitDisjunctions) (by omega -splitDisjunctions))] | rw [xs_1 (by omega -splitDisjunctions)] | rw [if_pos (Int.le_antisymm (by omega -splitDisjunctions) (by omega -splitDisjunctions))] | rw [if_pos (by omega -splitDisjunctions)] | rw [if_pos (And.intro (by omega -splitDisjunctions) (by omega -splitDisjunctions))] | rw [if_neg (by omega -splitDisjunctions)] | rw [xs_1 (by omega)] | rw [if_neg (by omega)] | rw [xs_0 (by omega)] | rw [if_pos (by omega)]
                    first | done | rfl | assumption | (exfalso; omega -splitDisjunctions) | (refine Prod.ext ?_ (Prod.ext ?_ ?_) <;> (try dsimp only) <;> omega) | (exfalso; omega)
                  have o5176a : ((xl1 B n q d)).1 = xh B n (xN B n ((xN B n (xN B n ((xN B n (xN B n ((xN B n (xN B n ((xN B n ((xN B n q)))))))))))))) (xV B n (xN B n (xN B n (xN B n (xN B n (xN B n (xN B n (xN B n q))))))) + 0) (min (xV B n (xN B n (xN B n (xN B n (xN B n (xN B n (xN B n (xN B n q))))))) + 4) 12) := by rw [o5176]
                  have o5176b : ((xl1 B n q d)).2.1 = (xN B n ((xN B n (xN B n ((xN B n (xN B n ((xN B n (xN B n ((xN B n ((xN B n q)))))))))))))) := by rw [o5176]
                  have o5176c : ((xl1 B n q d)).2.2 = (xN B n ((xN B n (xN B n ((xN B n (xN B n ((xN B n (xN B n ((xN B n ((xN B n q)))))))))))))) := by rw [o5176]
                  have h5177 : FZ T H5141 rp N0 H0 := (FZ_fr w5105 grp f5146 rfl (FZ_fr w5076 grp f5106 rfl (FZ_fr w5036 grp f5077 rfl (FZ_fr w5021 grp f5037 rfl (FZ_fr w4964 grp f5022 rfl (FZ_fr hW grp f4965 rfl hFZ_rp))))))
                  exact wp_lc (ks := [6, 5, 4, 3, 1, 0]) (wl_c rfl (wl_c rfl (wl_c rfl (wl_c rfl (wl_c rfl (wl_c rfl wl_n)))))) rfl (by decide) (u_187_k_t112o hW g0 qrp grp qrb grb p0 hRC_r0 hDM_rp hFZ_rp (H4960 r0 15) z5038 z5078 z5107 z5147 H5141 (xh B n (xN B n ((xN B n (xN B n ((xN B n (xN B n ((xN B n (xN B n ((xN B n ((xN B n q)))))))))))))) (xV B n (xN B n (xN B n (xN B n (xN B n (xN B n (xN B n (xN B n q))))))) + 0) (min (xV B n (xN B n (xN B n (xN B n (xN B n (xN B n (xN B n (xN B n q))))))) + 4) 12)) ((xN B n ((xN B n (xN B n ((xN B n (xN B n ((xN B n (xN B n ((xN B n ((xN B n q))))))))))))))) w5145 f5174 ⟨by omega, by omega⟩ ⟨by omega, by omega⟩ ⟨by omega, by omega⟩ ⟨by omega, by omega⟩ ⟨by omega, by omega⟩ a5162 h5177 (by omega) (by omega))
              · have f5178 := f5094.tr f5106 rfl
                have f5179 := f5095.tr f5106 rfl
                show wp _ _ 187 91 [(4, vI z5078), (3, vI z5038), (1, vL (H4960 r0 15)), (0, .ref r0)] [vI z5107] _ H5101 _
                have u5180 := RO_k a5118
                refine wp_of e187 c187_91 (rw_istore (pc' := 93) (z := z5107) (L' := [(5, vI z5107), (4, vI z5078), (3, vI z5038), (1, vL (H4960 r0 15)), (0, .ref r0)]) rfl rfl rfl ?_)
                have o5181 : (xl1 B n q d) = (xw B n ((xN B n (xN B n ((xN B n (xN B n ((xN B n ((xN B n q)))))))))) 409031, ((xN B n (xN B n ((xN B n (xN B n ((xN B n ((xN B n q)))))))))), ((xN B n (xN B n ((xN B n (xN B n ((xN B n ((xN B n q))))))))))) := by
                  unfold xl1 xper xbd xcs xca xcb xrg
                  try simp only [xs_xs, xs_z]
                  try rw [_ea]
                  try rw [_eb]
                  try rw [_ec]
                  repeat first | rw [xs_0 (Int.le_antisymm (by omega -splitDisjunctions) (by omega -splitDisjunctions))] | rw [xs_1 (by omega -splitDisjunctions)] | rw [if_pos (Int.le_antisymm (by omega -splitDisjunctions) (by omega -splitDisjunctions))] | rw [if_pos (by omega -splitDisjunctions)] | rw [if_pos (And.intro (by omega -splitDisjunctions) (by omega -splitDisjunctions))] | rw [if_neg (by omega -splitDisjunctions)] | rw [xs_1 (by omega)] | rw [if_neg (by omega)] | rw [xs_0 (by omega)] | rw [if_pos (by omega)]
                  first | done | rfl | assumption | (exfalso; omega -splitDisjunctions) | (refine Prod.ext ?_ (Prod.ext ?_ ?_) <;> (try dsimp only) <;> omega) | (exfalso; omega)
                have o5181a : ((xl1 B n q d)).1 = xw B n ((xN B n (xN B n ((xN B n (xN B n ((xN B n ((xN B n q)))))))))) 409031 := by rw [o5181]
                have o5181b : ((xl1 B n q d)).2.1 = ((xN B n (xN B n ((xN B n (xN B n ((xN B n ((xN B n q)))))))))) := by rw [o5181]
                have o5181c : ((xl1 B n q d)).2.2 = ((xN B n (xN B n ((xN B n (xN B n ((xN B n ((xN B n q)))))))))) := by rw [o5181]
                have h5182 : FZ T H5101 rp N0 H0 := (FZ_fr w5076 grp f5106 rfl (FZ_fr w5036 grp f5077 rfl (FZ_fr w5021 grp f5037 rfl (FZ_fr w4964 grp f5022 rfl (FZ_fr hW grp f4965 rfl hFZ_rp)))))
                exact wp_lc (ks := [5, 4, 3, 1, 0]) (wl_c rfl (wl_c rfl (wl_c rfl (wl_c rfl (wl_c rfl wl_n))))) rfl (by decide) (u_187_k_t93o hW g0 qrp grp qrb grb p0 hRC_r0 hDM_rp hFZ_rp (H4960 r0 15) z5038 z5078 z5107 H5101 (xw B n ((xN B n (xN B n ((xN B n (xN B n ((xN B n ((xN B n q)))))))))) 409031) (((xN B n (xN B n ((xN B n (xN B n ((xN B n ((xN B n q))))))))))) w5105 f5179 ⟨by omega, by omega⟩ ⟨by omega, by omega⟩ ⟨by omega, by omega⟩ ⟨by omega, by omega⟩ a5118 h5182 (by omega) (by omega))
              · have f5183 := f5094.tr f5106 rfl
                have f5184 := f5095.tr f5106 rfl
                show wp _ _ 187 91 [(4, vI z5078), (3, vI z5038), (1, vL (H4960 r0 15)), (0, .ref r0)] [vI z5107] _ H5101 _
                have u5185 := RO_k a5122
                refine wp_of e187 c187_91 (rw_istore (pc' := 93) (z := z5107) (L' := [(5, vI z5107), (4, vI z5078), (3, vI z5038), (1, vL (H4960 r0 15)), (0, .ref r0)]) rfl rfl rfl ?_)
                have o5186 : (xl1 B n q d) = (xh B n (xN B n ((xN B n (xN B n ((xN B n (xN B n ((xN B n ((xN B n q))))))))))) 0 12, (xN B n ((xN B n (xN B n ((xN B n (xN B n ((xN B n ((xN B n q))))))))))), (xN B n ((xN B n (xN B n ((xN B n (xN B n ((xN B n ((xN B n q)))))))))))) := by
                  unfold xl1 xper xbd xcs xca xcb xrg
                  try simp only [xs_xs, xs_z]
                  try rw [_ea]
                  try rw [_eb]
                  try rw [_ec]
                  repeat first | rw [xs_0 (Int.le_antisymm (by omega -splitDisjunctions) (by omega -splitDisjunctions))] | rw [xs_1 (by omega -splitDisjunctions)] | rw [if_pos (Int.le_antisymm (by omega -splitDisjunctions) (by omega -splitDisjunctions))] | rw [if_pos (by omega -splitDisjunctions)] | rw [if_pos (And.intro (by omega -splitDisjunctions) (by omega -splitDisjunctions))] | rw [if_neg (by omega -splitDisjunctions)] | rw [xs_1 (by omega)] | rw [if_neg (by omega)] | rw [xs_0 (by omega)] | rw [if_pos (by omega)]
                  first | done | rfl | assumption | (exfalso; omega -splitDisjunctions) | (refine Prod.ext ?_ (Prod.ext ?_ ?_) <;> (try dsimp only) <;> omega) | (exfalso; omega)
                have o5186a : ((xl1 B n q d)).1 = xh B n (xN B n ((xN B n (xN B n ((xN B n (xN B n ((xN B n ((xN B n q))))))))))) 0 12 := by rw [o5186]
                have o5186b : ((xl1 B n q d)).2.1 = (xN B n ((xN B n (xN B n ((xN B n (xN B n ((xN B n ((xN B n q))))))))))) := by rw [o5186]
                have o5186c : ((xl1 B n q d)).2.2 = (xN B n ((xN B n (xN B n ((xN B n (xN B n ((xN B n ((xN B n q))))))))))) := by rw [o5186]
                have h5187 : FZ T H5101 rp N0 H0 := (FZ_fr w5076 grp f5106 rfl (FZ_fr w5036 grp f5077 rfl (FZ_fr w5021 grp f5037 rfl (FZ_fr w4964 grp f5022 rfl (FZ_fr hW grp f4965 rfl hFZ_rp)))))
                exact wp_lc (ks := [5, 4, 3, 1, 0]) (wl_c rfl (wl_c rfl (wl_c rfl (wl_c rfl (wl_c rfl wl_n))))) rfl (by decide) (u_187_k_t93o hW g0 qrp grp qrb grb p0 hRC_r0 hDM_rp hFZ_rp (H4960 r0 15) z5038 z5078 z5107 H5101 (xh B n (xN B n ((xN B n (xN B n ((xN B n (xN B n ((xN B n ((xN B n q))))))))))) 0 12) ((xN B n ((xN B n (xN B n ((xN B n (xN B n ((xN B n ((xN B n q)))))))))))) w5105 f5184 ⟨by omega, by omega⟩ ⟨by omega, by omega⟩ ⟨by omega, by omega⟩ ⟨by omega, by omega⟩ a5122 h5187 (by omega) (by omega))
            · have f5188 := f5054.tr f5077 rfl
              have f5189 := f5055.tr f5077 rfl
              show wp _ _ 187 80 [(3, vI z5038), (1, vL (H4960 r0 15)), (0, .ref r0)] [vI z5078] _ H5072 _
              have u5190 := RO_k a5089
              refine wp_of e187 c187_80 (rw_istore (pc' := 82) (z := z5078) (L' := [(4, vI z5078), (3, vI z5038), (1, vL (H4960 r0 15)), (0, .ref r0)]) rfl rfl rfl ?_)
              have o5191 : (xl1 B n q d) = (xw B n ((xN B n (xN B n ((xN B n ((xN B n q))))))) 655, ((xN B n (xN B n ((xN B n ((xN B n q))))))), ((xN B n (xN B n ((xN B n ((xN B n q)))))))) := by
                unfold xl1 xper xbd xcs xca xcb xrg
                try simp only [xs_xs, xs_z]
                try rw [_ea]
                try rw [_eb]
                try rw [_ec]
                repeat first | rw [xs_0 (Int.le_antisymm (by omega -splitDisjunctions) (by omega -splitDisjunctions))] | rw [xs_1 (by omega -splitDisjunctions)] | rw [if_pos (Int.le_antisymm (by omega -splitDisjunctions) (by omega -splitDisjunctions))] | rw [if_pos (by omega -splitDisjunctions)] | rw [if_pos (And.intro (by omega -splitDisjunctions) (by omega -splitDisjunctions))] | rw [if_neg (by omega -splitDisjunctions)] | rw [xs_1 (by omega)] | rw [if_neg (by omega)] | rw [xs_0 (by omega)] | rw [if_pos (by omega)]
                first | done | rfl | assumption | (exfalso; omega -splitDisjunctions) | (refine Prod.ext ?_ (Prod.ext ?_ ?_) <;> (try dsimp only) <;> omega) | (exfalso; omega)
              have o5191a : ((xl1 B n q d)).1 = xw B n ((xN B n (xN B n ((xN B n ((xN B n q))))))) 655 := by rw [o5191]
              have o5191b : ((xl1 B n q d)).2.1 = ((xN B n (xN B n ((xN B n ((xN B n q))))))) := by rw [o5191]
              have o5191c : ((xl1 B n q d)).2.2 = ((xN B n (xN B n ((xN B n ((xN B n q))))))) := by rw [o5191]
              have h5192 : FZ T H5072 rp N0 H0 := (FZ_fr w5036 grp f5077 rfl (FZ_fr w5021 grp f5037 rfl (FZ_fr w4964 grp f5022 rfl (FZ_fr hW grp f4965 rfl hFZ_rp))))
              exact wp_lc (ks := [4, 3, 1, 0]) (wl_c rfl (wl_c rfl (wl_c rfl (wl_c rfl wl_n)))) rfl (by decide) (u_187_k_t82o hW g0 qrp grp qrb grb p0 hRC_r0 hDM_rp hFZ_rp (H4960 r0 15) z5038 z5078 H5072 (xw B n ((xN B n (xN B n ((xN B n ((xN B n q))))))) 655) (((xN B n (xN B n ((xN B n ((xN B n q)))))))) w5076 f5189 ⟨by omega, by omega⟩ ⟨by omega, by omega⟩ ⟨by omega, by omega⟩ a5089 h5192 (by omega) (by omega))
            · have f5193 := f5054.tr f5077 rfl
              have f5194 := f5055.tr f5077 rfl
              show wp _ _ 187 80 [(3, vI z5038), (1, vL (H4960 r0 15)), (0, .ref r0)] [vI z5078] _ H5072 _
              have u5195 := RO_k a5093
              refine wp_of e187 c187_80 (rw_istore (pc' := 82) (z := z5078) (L' := [(4, vI z5078), (3, vI z5038), (1, vL (H4960 r0 15)), (0, .ref r0)]) rfl rfl rfl ?_)
              have o5196 : (xl1 B n q d) = (xh B n (xN B n ((xN B n (xN B n ((xN B n ((xN B n q)))))))) (xV B n (xN B n (xN B n (xN B n q))) + 0) (min (xV B n (xN B n (xN B n (xN B n q))) + 7) 23), (xN B n ((xN B n (xN B n ((xN B n ((xN B n q)))))))), (xN B n ((xN B n (xN B n ((xN B n ((xN B n q))))))))) := by
                unfold xl1 xper xbd xcs xca xcb xrg
                try simp only [xs_xs, xs_z]
                try rw [_ea]
                try rw [_eb]
                try rw [_ec]
                repeat first | rw [xs_0 (Int.le_antisymm (by omega -splitDisjunctions) (by omega -splitDisjunctions))] | rw [xs_1 (by omega -splitDisjunctions)] | rw [if_pos (Int.le_antisymm (by omega -splitDisjunctions) (by omega -splitDisjunctions))] | rw [if_pos (by omega -splitDisjunctions)] | rw [if_pos (And.intro (by omega -splitDisjunctions) (by omega -splitDisjunctions))] | rw [if_neg (by omega -splitDisjunctions)] | rw [xs_1 (by omega)] | rw [if_neg (by omega)] | rw [xs_0 (by omega)] | rw [if_pos (by omega)]
                first | done | rfl | assumption | (exfalso; omega -splitDisjunctions) | (refine Prod.ext ?_ (Prod.ext ?_ ?_) <;> (try dsimp only) <;> omega) | (exfalso; omega)
              have o5196a : ((xl1 B n q d)).1 = xh B n (xN B n ((xN B n (xN B n ((xN B n ((xN B n q)))))))) (xV B n (xN B n (xN B n (xN B n q))) + 0) (min (xV B n (xN B n (xN B n (xN B n q))) + 7) 23) := by rw [o5196]
              have o5196b : ((xl1 B n q d)).2.1 = (xN B n ((xN B n (xN B n ((xN B n ((xN B n q)))))))) := by rw [o5196]
              have o5196c : ((xl1 B n q d)).2.2 = (xN B n ((xN B n (xN B n ((xN B n ((xN B n q)))))))) := by rw [o5196]
              have h5197 : FZ T H5072 rp N0 H0 := (FZ_fr w5036 grp f5077 rfl (FZ_fr w5021 grp f5037 rfl (FZ_fr w4964 grp f5022 rfl (FZ_fr hW grp f4965 rfl hFZ_rp))))
              exact wp_lc (ks := [4, 3, 1, 0]) (wl_c rfl (wl_c rfl (wl_c rfl (wl_c rfl wl_n)))) rfl (by decide) (u_187_k_t82o hW g0 qrp grp qrb grb p0 hRC_r0 hDM_rp hFZ_rp (H4960 r0 15) z5038 z5078 H5072 (xh B n (xN B n ((xN B n (xN B n ((xN B n ((xN B n q)))))))) (xV B n (xN B n (xN B n (xN B n q))) + 0) (min (xV B n (xN B n (xN B n (xN B n q))) + 7) 23)) ((xN B n ((xN B n (xN B n ((xN B n ((xN B n q))))))))) w5076 f5194 ⟨by omega, by omega⟩ ⟨by omega, by omega⟩ ⟨by omega, by omega⟩ a5093 h5197 (by omega) (by omega))
          · have f5198 := f5025.tr f5037 rfl
            have f5199 := f5026.tr f5037 rfl
            show wp _ _ 187 63 [(1, vL (H4960 r0 15)), (0, .ref r0)] [vI z5038] _ H5032 _
            have u5200 := RO_k a5049
            refine wp_of e187 c187_63 (rw_istore_n (pc' := 64) (z := z5038) (L' := [(3, vI z5038), (1, vL (H4960 r0 15)), (0, .ref r0)]) rfl rfl rfl ?_)
            have o5201 : (xl1 B n q d) = (xw B n ((xN B n ((xN B n q)))) 2212, ((xN B n ((xN B n q)))), ((xN B n ((xN B n q))))) := by
              unfold xl1 xper xbd xcs xca xcb xrg
              try simp only [xs_xs, xs_z]
              try rw [_ea]
              try rw [_eb]
              try rw [_ec]
              repeat first | rw [xs_0 (Int.le_antisymm (by omega -splitDisjunctions) (by omega -splitDisjunctions))] | rw [xs_1 (by omega -splitDisjunctions)] | rw [if_pos (Int.le_antisymm (by omega -splitDisjunctions) (by omega -splitDisjunctions))] | rw [if_pos (by omega -splitDisjunctions)] | rw [if_pos (And.intro (by omega -splitDisjunctions) (by omega -splitDisjunctions))] | rw [if_neg (by omega -splitDisjunctions)] | rw [xs_1 (by omega)] | rw [if_neg (by omega)] | rw [xs_0 (by omega)] | rw [if_pos (by omega)]
              first | done | rfl | assumption | (exfalso; omega -splitDisjunctions) | (refine Prod.ext ?_ (Prod.ext ?_ ?_) <;> (try dsimp only) <;> omega) | (exfalso; omega)
            have o5201a : ((xl1 B n q d)).1 = xw B n ((xN B n ((xN B n q)))) 2212 := by rw [o5201]
            have o5201b : ((xl1 B n q d)).2.1 = ((xN B n ((xN B n q)))) := by rw [o5201]
            have o5201c : ((xl1 B n q d)).2.2 = ((xN B n ((xN B n q)))) := by rw [o5201]
            have h5202 : FZ T H5032 rp N0 H0 := (FZ_fr w5021 grp f5037 rfl (FZ_fr w4964 grp f5022 rfl (FZ_fr hW grp f4965 rfl hFZ_rp)))
            exact wp_lc (ks := [3, 1, 0]) (wl_c rfl (wl_c rfl (wl_c rfl wl_n))) rfl (by decide) (u_187_k_t64o hW g0 qrp grp qrb grb p0 hRC_r0 hDM_rp hFZ_rp (H4960 r0 15) z5038 H5032 (xw B n ((xN B n ((xN B n q)))) 2212) (((xN B n ((xN B n q))))) w5036 f5199 ⟨by omega, by omega⟩ ⟨by omega, by omega⟩ a5049 h5202 (by omega) (by omega))
          · have f5203 := f5025.tr f5037 rfl
            have f5204 := f5026.tr f5037 rfl
            show wp _ _ 187 63 [(1, vL (H4960 r0 15)), (0, .ref r0)] [vI z5038] _ H5032 _
            have u5205 := RO_k a5053
            refine wp_of e187 c187_63 (rw_istore_n (pc' := 64) (z := z5038) (L' := [(3, vI z5038), (1, vL (H4960 r0 15)), (0, .ref r0)]) rfl rfl rfl ?_)
            have o5206 : (xl1 B n q d) = (xh B n (xN B n ((xN B n ((xN B n q))))) 0 23, (xN B n ((xN B n ((xN B n q))))), (xN B n ((xN B n ((xN B n q)))))) := by
              unfold xl1 xper xbd xcs xca xcb xrg
              try simp only [xs_xs, xs_z]
              try rw [_ea]
              try rw [_eb]
              try rw [_ec]
              repeat first | rw [xs_0 (Int.le_antisymm (by omega -splitDisjunctions) (by omega -splitDisjunctions))] | rw [xs_1 (by omega -splitDisjunctions)] | rw [if_pos (Int.le_antisymm (by omega -splitDisjunctions) (by omega -splitDisjunctions))] | rw [if_pos (by omega -splitDisjunctions)] | rw [if_pos (And.intro (by omega -splitDisjunctions) (by omega -splitDisjunctions))] | rw [if_neg (by omega -splitDisjunctions)] | rw [xs_1 (by omega)] | rw [if_neg (by omega)] | rw [xs_0 (by omega)] | rw [if_pos (by omega)]
              first | done | rfl | assumption | (exfalso; omega -splitDisjunctions) | (refine Prod.ext ?_ (Prod.ext ?_ ?_) <;> (try dsimp only) <;> omega) | (exfalso; omega)
            have o5206a : ((xl1 B n q d)).1 = xh B n (xN B n ((xN B n ((xN B n q))))) 0 23 := by rw [o5206]
            have o5206b : ((xl1 B n q d)).2.1 = (xN B n ((xN B n ((xN B n q))))) := by rw [o5206]
            have o5206c : ((xl1 B n q d)).2.2 = (xN B n ((xN B n ((xN B n q))))) := by rw [o5206]
            have h5207 : FZ T H5032 rp N0 H0 := (FZ_fr w5021 grp f5037 rfl (FZ_fr w4964 grp f5022 rfl (FZ_fr hW grp f4965 rfl hFZ_rp)))
            exact wp_lc (ks := [3, 1, 0]) (wl_c rfl (wl_c rfl (wl_c rfl wl_n))) rfl (by decide) (u_187_k_t64o hW g0 qrp grp qrb grb p0 hRC_r0 hDM_rp hFZ_rp (H4960 r0 15) z5038 H5032 (xh B n (xN B n ((xN B n ((xN B n q))))) 0 23) ((xN B n ((xN B n ((xN B n q)))))) w5036 f5204 ⟨by omega, by omega⟩ ⟨by omega, by omega⟩ a5053 h5207 (by omega) (by omega))
        · refine wp_of e187 c187_40 (rw_aload_n (pc' := 41) (v := .ref r0) rfl rfl rfl ?_)
          refine wp_of e187 c187_41 (rw_iconst (pc' := 42) rfl ?_)
          refine wp_of e187 c187_42 (xc_V (pc' := 45) (r := r0) (as := [vI 3]) (st := []) (lm_9_121) rfl rfl (Nat.le_of_ble_eq_true rfl) w4964 g0 sh_42 (by decide) rfl (by decide) (u_181_k (B := B) (n := n) (q := ((xN B n q))) w4964 g0 ⟨by decide, by decide⟩ (by omega) a4968) (fun R5208 T5209 H5210 p5211 => ?_))
          obtain ⟨e5212, w5214, f5215, e5213, p5216⟩ := p5211
          subst e5212
          subst e5213
          have f5218 := f4971.tr f5215 rfl
          have f5219 := f4972.tr f5215 rfl
          show wp _ _ 187 45 [(0, .ref r0)] [] _ H5210 _
          have u5220 := RO_k p5216
          have o5221 : (xl1 B n q d) = (xnm B n (xN B n q) d, (xN B n q), (xN B n q)) := by
            unfold xl1 xper xbd xcs xca xcb xrg
            try simp only [xs_xs, xs_z]
            try rw [_ea]
            try rw [_eb]
            try rw [_ec]
            repeat first | rw [xs_0 (Int.le_antisymm (by omega -splitDisjunctions) (by omega -splitDisjunctions))] | rw [xs_1 (by omega -splitDisjunctions)] | rw [if_pos (Int.le_antisymm (by omega -splitDisjunctions) (by omega -splitDisjunctions))] | rw [if_pos (by omega -splitDisjunctions)] | rw [if_pos (And.intro (by omega -splitDisjunctions) (by omega -splitDisjunctions))] | rw [if_neg (by omega -splitDisjunctions)] | rw [xs_1 (by omega)] | rw [if_neg (by omega)] | rw [xs_0 (by omega)] | rw [if_pos (by omega)]
            first | done | rfl | assumption | (exfalso; omega -splitDisjunctions) | (refine Prod.ext ?_ (Prod.ext ?_ ?_) <;> (try dsimp only) <;> omega) | (exfalso; omega)
          have o5221a : ((xl1 B n q d)).1 = xnm B n (xN B n q) d := by rw [o5221]
          have o5221b : ((xl1 B n q d)).2.1 = (xN B n q) := by rw [o5221]
          have o5221c : ((xl1 B n q d)).2.2 = (xN B n q) := by rw [o5221]
          have h5222 : FZ T H5210 rp N0 H0 := (FZ_fr w4964 grp f5215 rfl (FZ_fr hW grp f4965 rfl hFZ_rp))
          exact wp_lc (ks := [0]) (wl_c rfl wl_n) rfl (by decide) (u_187_k_t45o hW g0 qrp grp qrb grb p0 hRC_r0 hDM_rp hFZ_rp H5210 3 (((xN B n q))) w5214 f5219 p5216 h5222 (by omega) (by omega))
      · exfalso
        omega
    · show wp _ _ 187 17 [(0, .ref r0)] [vI z4981] _ H4960 _
      refine wp_of e187 c187_17 (rw_if_ne (p1 := 25) (p2 := 20) (by decide) rfl ⟨Int.le_trans (by decide) b4982.1, Int.le_trans b4982.2 (by decide)⟩ (fun c5223 => ?_) (fun c5223 => ?_))
      · exfalso
        omega
      · refine wp_of e187 c187_20 (rw_aload_n (pc' := 21) (v := .ref r0) rfl rfl rfl ?_)
        refine wp_of e187 c187_21 (rw_iconst (pc' := 22) rfl ?_)
        refine wp_of e187 c187_22 (xc_V (pc' := 25) (r := r0) (as := [vI 1]) (st := []) (lm_9_121) rfl rfl (Nat.le_of_ble_eq_true rfl) w4964 g0 sh_42 (by decide) rfl (by decide) (u_181_k (B := B) (n := n) (q := ((xN B n q))) w4964 g0 ⟨by decide, by decide⟩ (by omega) a4968) (fun R5224 T5225 H5226 p5227 => ?_))
        obtain ⟨e5228, w5230, f5231, e5229, p5232⟩ := p5227
        subst e5228
        subst e5229
        have f5234 := f4971.tr f5231 rfl
        have f5235 := f4972.tr f5231 rfl
        show wp _ _ 187 25 [(0, .ref r0)] [] _ H5226 _
        have u5236 := RO_k p5232
        have o5237 : (xl1 B n q d) = (xnm B n (xN B n q) d, (xN B n q), (xN B n q)) := by
          unfold xl1 xper xbd xcs xca xcb xrg
          try simp only [xs_xs, xs_z]
          try rw [_ea]
          try rw [_eb]
          try rw [_ec]
          repeat first | rw [xs_0 (Int.le_antisymm (by omega -splitDisjunctions) (by omega -splitDisjunctions))] | rw [xs_1 (by omega -splitDisjunctions)] | rw [if_pos (Int.le_antisymm (by omega -splitDisjunctions) (by omega -splitDisjunctions))] | rw [if_pos (by omega -splitDisjunctions)] | rw [if_pos (And.intro (by omega -splitDisjunctions) (by omega -splitDisjunctions))] | rw [if_neg (by omega -splitDisjunctions)] | rw [xs_1 (by omega)] | rw [if_neg (by omega)] | rw [xs_0 (by omega)] | rw [if_pos (by omega)]
          first | done | rfl | assumption | (exfalso; omega -splitDisjunctions) | (refine Prod.ext ?_ (Prod.ext ?_ ?_) <;> (try dsimp only) <;> omega) | (exfalso; omega)
        have o5237a : ((xl1 B n q d)).1 = xnm B n (xN B n q) d := by rw [o5237]
        have o5237b : ((xl1 B n q d)).2.1 = (xN B n q) := by rw [o5237]
        have o5237c : ((xl1 B n q d)).2.2 = (xN B n q) := by rw [o5237]
        have h5238 : FZ T H5226 rp N0 H0 := (FZ_fr w4964 grp f5231 rfl (FZ_fr hW grp f4965 rfl hFZ_rp))
        exact wp_lc (ks := [0]) (wl_c rfl wl_n) rfl (by decide) (u_187_k_t25o hW g0 qrp grp qrb grb p0 hRC_r0 hDM_rp hFZ_rp H5226 1 (((xN B n q))) w5230 f5235 p5232 h5238 (by omega) (by omega))
  · have f5239 := f0.tr f4965 rfl
    have f5240 := f0s.tr f4965 rfl
    show wp _ _ 187 13 [(0, .ref r0)] [] _ H4960 _
    have u5241 := RO_k a4970
    refine wp_of e187 c187_13 (rw_aload_n (pc' := 14) (v := .ref r0) rfl rfl rfl ?_)
    refine wp_of e187 c187_14 (xc_V (pc' := 17) (r := r0) (as := []) (st := []) (lm_9_162) rfl rfl (Nat.le_of_ble_eq_true rfl) w4964 g0 sh_42 (by decide) rfl (by decide) (u_189_o (fo := 5) (po := q) w4964 g0 a4970) (fun R5242 T5243 H5244 p5245 => ?_))
    obtain ⟨e5246, e5248, z5249, e5247, b5250, p5251⟩ := p5245
    subst e5246
    subst e5247
    subst e5248
    show wp _ _ 187 17 [(0, .ref r0)] [vI z5249] _ H4960 _
    refine wp_of e187 c187_17 (rw_if_ne (p1 := 25) (p2 := 20) (by decide) rfl ⟨Int.le_trans (by decide) b5250.1, Int.le_trans b5250.2 (by decide)⟩ (fun c5253 => ?_) (fun c5253 => ?_))
    · exfalso
      omega
    · refine wp_of e187 c187_20 (rw_aload_n (pc' := 21) (v := .ref r0) rfl rfl rfl ?_)
      refine wp_of e187 c187_21 (rw_iconst (pc' := 22) rfl ?_)
      refine wp_of e187 c187_22 (xc_V (pc' := 25) (r := r0) (as := [vI 1]) (st := []) (lm_9_121) rfl rfl (Nat.le_of_ble_eq_true rfl) w4964 g0 sh_42 (by decide) rfl (by decide) (u_181_o (fo := 5) (po := q) w4964 g0 ⟨by decide, by decide⟩ a4970) (fun R5254 T5255 H5256 p5257 => ?_))
      obtain ⟨e5258, e5260, e5259, p5261⟩ := p5257
      subst e5258
      subst e5259
      subst e5260
      show wp _ _ 187 25 [(0, .ref r0)] [] _ H4960 _
      have u5263 := RO_k p5261
      have o5264 : (xl1 B n q d) = (5, q, q) := by
        unfold xl1 xper xbd xcs xca xcb xrg
        try simp only [xs_xs, xs_z]
        try rw [_ea]
        try rw [_eb]
        try rw [_ec]
        repeat first | rw [xs_0 (Int.le_antisymm (by omega -splitDisjunctions) (by omega -splitDisjunctions))] | rw [xs_1 (by omega -splitDisjunctions)] | rw [if_pos (Int.le_antisymm (by omega -splitDisjunctions) (by omega -splitDisjunctions))] | rw [if_pos (by omega -splitDisjunctions)] | rw [if_pos (And.intro (by omega -splitDisjunctions) (by omega -splitDisjunctions))] | rw [if_neg (by omega -splitDisjunctions)] | rw [xs_1 (by omega)] | rw [if_neg (by omega)] | rw [xs_0 (by omega)] | rw [if_pos (by omega)]
        first | done | rfl | assumption | (exfalso; omega -splitDisjunctions) | (refine Prod.ext ?_ (Prod.ext ?_ ?_) <;> (try dsimp only) <;> omega) | (exfalso; omega)
      have o5264a : ((xl1 B n q d)).1 = 5 := by rw [o5264]
      have o5264b : ((xl1 B n q d)).2.1 = q := by rw [o5264]
      have o5264c : ((xl1 B n q d)).2.2 = q := by rw [o5264]
      have h5265 : FZ T H4960 rp N0 H0 := (FZ_fr hW grp f4965 rfl hFZ_rp)
      exact wp_lc (ks := [0]) (wl_c rfl wl_n) rfl (by decide) (u_187_k_t25o hW g0 qrp grp qrb grb p0 hRC_r0 hDM_rp hFZ_rp H4960 5 q w4964 f5240 p5261 h5265 (by omega) (by omega))
