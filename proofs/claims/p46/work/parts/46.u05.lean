/-! what methods do (own work, written by wip/gen3/sx3.py) -/
/-! StrikeAwakeModel.readPerson()V k -/
abbrev uq_187_k (r0 : Nat) (rp : Nat) (rb : Nat) (B : Nat → Int) (n : Int) (q : Int) (d : xD) (T : wq_T) (H : wq_H) : Option Value → wq_T → wq_H → Prop := fun r T' H' => T = T' ∧ WT T H' ∧ wfr [(54, 3), (42, 8), (42, 9), (42, 10), (42, 11), (42, 12), (42, 13), (42, 14), (42, 15), (56, 999), (57, 999), (60, 999), (63, 999), (58, 999), (59, 999), (55, 999), (61, 999), (62, 999)] T H H' ∧ none = r ∧ ((((xl1 B n q d).1 = 0) ∧ (q ≤ (xl1 B n q d).2.2) ∧ (∀ a, a ≠ rp → T.2.2.2 a = some 54 → H' a 3 = H a 3) ∧ RC T H' r0 B n (xl1 B n q d).2.2 ∧ DM T H' rp r0 (xdper B n (xN B n q) d)) ∨ (((xl1 B n q d).1 ≠ 0) ∧ (∀ a, a ≠ rp → T.2.2.2 a = some 54 → H' a 3 = H a 3) ∧ RO T H' r0 ((xl1 B n q d).1) ((xl1 B n q d).2.1)))
set_option maxHeartbeats 60000000 in
theorem u_187_k_t200k {kt : Nat → Option mc_E} {T : wq_T} {H : wq_H} {r0 : Nat} {rp : Nat} {rb : Nat} {B : Nat → Int} {n : Int} {q : Int} {d : xD} (hW : WT T H) (g0 : T.2.2.2 r0 = some 42) (qrp : H r0 4 = (rp : Int)) (grp : T.2.2.2 rp = some 54) (qrb : H r0 5 = (rb : Int)) (grb : T.2.2.2 rb = some 43) (p0 : xK B n q = 1) (hRC_r0 : RC T H r0 B n q) (hDM_rp : DM T H rp r0 d) : ∀ (v3781 : Int) (v3782 : Int) (v3783 : Int) (v3784 : Int) (v3785 : Int) (v3786 : Int) (v3787 : Int) (v3788 : Int) (v3789 : Int) (H3790 : wq_H), WT T H3790 → wfr [(42, 8), (42, 9), (42, 10), (42, 11), (42, 12), (42, 13), (42, 14), (42, 15)] T H H3790 → ((-9223372036854775808) ≤ v3781 ∧ v3781 ≤ 9223372036854775807) → (0 ≤ v3782 ∧ v3782 ≤ 23) → (0 ≤ v3783 ∧ v3783 ≤ 30) → (0 ≤ v3784 ∧ v3784 ≤ 12) → (0 ≤ v3785 ∧ v3785 ≤ 16) → ((-1) ≤ v3786 ∧ v3786 ≤ 23) → (0 ≤ v3787 ∧ v3787 ≤ 23) → (0 ≤ v3788 ∧ v3788 ≤ 24) → (0 ≤ v3789 ∧ v3789 ≤ 1) → RC T H3790 r0 B n (xl1 B n q d).2.2 → DM T H3790 rp r0 d → ((xl1 B n q d).1 = 0) → (q ≤ (xl1 B n q d).2.2) → (v3781 = xY B n (xN B n q)) → (v3782 = xV B n (xN B n (xN B n (xN B n q)))) → (v3783 = xV B n (xN B n (xN B n (xN B n (xN B n (xN B n q)))))) → (v3784 = xV B n (xN B n (xN B n (xN B n (xN B n (xN B n (xN B n (xN B n q)))))))) → (v3785 = xV B n (xN B n (xN B n (xN B n (xN B n (xN B n (xN B n (xN B n (xN B n (xN B n q)))))))))) → (v3782 ≤ v3783 ∧ v3783 ≤ v3782 + 7 ∧ v3783 ≤ 23) → (v3784 ≤ v3785 ∧ v3785 ≤ v3784 + 4 ∧ v3785 ≤ 12) → (v3787 ≤ v3788) → (xhb B n (xN B n (xN B n (xN B n (xN B n (xN B n (xN B n (xN B n (xN B n (xN B n (xN B n q)))))))))) = v3786) → (xnf B n (xqa B n (xN B n (xN B n (xN B n (xN B n (xN B n (xN B n (xN B n (xN B n (xN B n (xN B n q))))))))))) = v3787) → (xnt B n (xqa B n (xN B n (xN B n (xN B n (xN B n (xN B n (xN B n (xN B n (xN B n (xN B n (xN B n q))))))))))) = v3788) → (xaw B n (xqb B n (xqa B n (xN B n (xN B n (xN B n (xN B n (xN B n (xN B n (xN B n (xN B n (xN B n (xN B n q)))))))))))) = v3789) → (d 0 3 ≤ 5) → wp kt 4 187 200 [(0, .ref r0), (1, vL v3781), (3, vI v3782), (4, vI v3783), (5, vI v3784), (6, vI v3785), (7, vI v3786), (9, vI v3787), (10, vI v3788), (11, vI v3789)] [] T H3790 (uq_187_k r0 rp rb B n q d T H) := by
  have f0 : wfr [(54, 3), (42, 8), (42, 9), (42, 10), (42, 11), (42, 12), (42, 13), (42, 14), (42, 15), (56, 999), (57, 999), (60, 999), (63, 999), (58, 999), (59, 999), (55, 999), (61, 999), (62, 999)] T H H := wfr.rf
  have u3762 := RC_k hRC_r0
  have u3763 := DM_k hDM_rp
  have h3764 : MA9 T H rp (d 1) := hDM_rp.2.2.2.1
  have h3765 : MA10 T H rp (d 2) := hDM_rp.2.2.2.2.1
  have h3766 : MA11 T H rp (d 3) := hDM_rp.2.2.2.2.2.1
  have h3767 : MA12 T H rp (d 4) := hDM_rp.2.2.2.2.2.2.1
  have h3768 : MA13 T H rp (d 5) := hDM_rp.2.2.2.2.2.2.2.1
  have h3769 : MA14 T H rp (d 6) := hDM_rp.2.2.2.2.2.2.2.2.1
  have h3770 : MA15 T H rp (d 7) := hDM_rp.2.2.2.2.2.2.2.2.2.1
  have h3771 : MA16 T H rp (d 8) := hDM_rp.2.2.2.2.2.2.2.2.2.2.1
  have h3772 : MA17 T H rp (d 9) := hDM_rp.2.2.2.2.2.2.2.2.2.2.2.1
  have h3773 : MA18 T H rp (d 10) := hDM_rp.2.2.2.2.2.2.2.2.2.2.2.2.1
  have h3774 : MA19 T H rp (d 11) := hDM_rp.2.2.2.2.2.2.2.2.2.2.2.2.2.1
  have h3775 : MA20 T H rp (d 12) := hDM_rp.2.2.2.2.2.2.2.2.2.2.2.2.2.2.1
  have h3776 : MA21 T H rp (d 13) := hDM_rp.2.2.2.2.2.2.2.2.2.2.2.2.2.2.2.1
  have h3777 : MA22 T H rp (d 14) := hDM_rp.2.2.2.2.2.2.2.2.2.2.2.2.2.2.2.2.1
  have h3778 : MA23 T H rp (d 15) := hDM_rp.2.2.2.2.2.2.2.2.2.2.2.2.2.2.2.2.2.1
  have h3779 : MA25 T H rp (d 17) := hDM_rp.2.2.2.2.2.2.2.2.2.2.2.2.2.2.2.2.2.2.1
  have h3780 : MA26 T H rp (d 16) := hDM_rp.2.2.2.2.2.2.2.2.2.2.2.2.2.2.2.2.2.2.2
  intro v3781 v3782 v3783 v3784 v3785 v3786 v3787 v3788 v3789 H3790 w3791 f3792 b3794 b3795 b3796 b3797 b3798 b3799 b3800 b3801 b3802 h3803 h3804 x3805 x3806 x3807 x3808 x3809 x3810 x3811 x3812 x3813 x3814 x3815 x3816 x3817 x3818 x3819
  have f3820 : wfr [(54, 3), (42, 8), (42, 9), (42, 10), (42, 11), (42, 12), (42, 13), (42, 14), (42, 15), (56, 999), (57, 999), (60, 999), (63, 999), (58, 999), (59, 999), (55, 999), (61, 999), (62, 999)] T H H3790 := wfr.rf.tr f3792 rfl
  have u3821 := RC_k h3803
  have u3822 := DM_k h3804
  refine wp_of e187 c187_200 (rw_aload_n (pc' := 201) (v := .ref r0) rfl rfl rfl ?_)
  have k3823 : H3790 r0 4 = H r0 4 := (f3792 r0 4 _ g0 rfl)
  have q3824 : H3790 r0 4 = (rp : Int) := k3823.trans qrp
  refine wp_of e187 c187_201 (xg_K (pc' := 204) lf_9_166 w3791 g0 sh_42 (by decide) (by decide) rfl q3824 rfl ?_)
  refine wp_of e187 c187_204 (xg_I (pc' := 207) lf_9_188 w3791 grp sh_54 (by decide) (by decide) ty_54_3 rfl rfl (fun b3825 b3826 => ?_))
  refine wp_of e187 c187_207 (rw_istore (pc' := 209) (z := H3790 rp 3) (L' := [(12, vI (H3790 rp 3)), (0, .ref r0), (1, vL v3781), (3, vI v3782), (4, vI v3783), (5, vI v3784), (6, vI v3785), (7, vI v3786), (9, vI v3787), (10, vI v3788), (11, vI v3789)]) rfl rfl rfl ?_)
  have _k := @xdper_k ((H3790 rp 3)).toNat d B n (xN B n q) (by omega)
  refine wp_of e187 c187_209 (rw_aload_n (pc' := 210) (v := .ref r0) rfl rfl rfl ?_)
  refine wp_of e187 c187_210 (xg_K (pc' := 213) lf_9_166 w3791 g0 sh_42 (by decide) (by decide) rfl q3824 rfl ?_)
  refine wp_of e187 c187_213 (xg_R (pc' := 216) lf_9_243 w3791 grp sh_54 (by decide) (by decide) ty_54_9 rfl rfl (fun r3827 q3828 g3829 => ?_))
  refine wp_of e187 c187_216 (rw_iload (pc' := 218) (z := H3790 rp 3) rfl rfl ?_)
  refine wp_of e187 c187_218 (rw_lload_n (pc' := 219) (z := v3781) rfl rfl ?_)
  have h3830 : MA9 T H3790 rp (d 1) := (MA9_fr hW grp f3792 rfl h3764)
  refine wp_of e187 c187_219 (xs_L (pc' := 220) w3791 g3829 (by decide) sh_55 (by decide) (ty_55 _) (by omega) (by omega) ⟨by omega, by omega⟩ (by omega) (by omega) rfl (fun H3831 e3832 w3833 => ?_))
  have f3834 := f3820.put' e3832 g3829 rfl
  have h3835 : MA9 T H3831 rp (xdper B n (xN B n q) d 1) := MA_put h3830 q3828 grp g3829 (by decide) e3832 (by omega) (fun j hj => xdper_n (k := ((H3790 rp 3).toNat)) (by omega) (by omega) hj)
  refine wp_of e187 c187_220 (rw_aload_n (pc' := 221) (v := .ref r0) rfl rfl rfl ?_)
  have k3836 : H3831 r0 4 = H3790 r0 4 := (wq_u_t e3832 g3829 g0 rfl 4)
  have q3837 : H3831 r0 4 = (rp : Int) := k3836.trans q3824
  refine wp_of e187 c187_221 (xg_K (pc' := 224) lf_9_166 w3833 g0 sh_42 (by decide) (by decide) rfl q3837 rfl ?_)
  refine wp_of e187 c187_224 (xg_R (pc' := 227) lf_9_247 w3833 grp sh_54 (by decide) (by decide) ty_54_10 rfl rfl (fun r3838 q3839 g3840 => ?_))
  refine wp_of e187 c187_227 (rw_iload (pc' := 229) (z := H3790 rp 3) rfl rfl ?_)
  refine wp_of e187 c187_229 (rw_iload_n (pc' := 230) (z := v3782) rfl rfl ?_)
  have h3841 : MA10 T H3831 rp (d 2) := (MA10_fr w3791 grp ((wfr.rf (l := [(55, 999)])).put' e3832 g3829 rfl) rfl (MA10_fr hW grp f3792 rfl h3765))
  refine wp_of e187 c187_230 (xs_I (pc' := 231) w3833 g3840 (by decide) sh_56 (by decide) (ty_56 _) (by omega) (by omega) ⟨by omega, by omega⟩ (by omega) (by omega) rfl (fun H3842 e3843 w3844 => ?_))
  have f3845 := f3834.put' e3843 g3840 rfl
  have h3846 : MA10 T H3842 rp (xdper B n (xN B n q) d 2) := MA_put h3841 q3839 grp g3840 (by decide) e3843 (by omega) (fun j hj => xdper_n (k := ((H3790 rp 3).toNat)) (by omega) (by omega) hj)
  refine wp_of e187 c187_231 (rw_aload_n (pc' := 232) (v := .ref r0) rfl rfl rfl ?_)
  have k3847 : H3842 r0 4 = H3831 r0 4 := (wq_u_t e3843 g3840 g0 rfl 4)
  have q3848 : H3842 r0 4 = (rp : Int) := k3847.trans q3837
  refine wp_of e187 c187_232 (xg_K (pc' := 235) lf_9_166 w3844 g0 sh_42 (by decide) (by decide) rfl q3848 rfl ?_)
  refine wp_of e187 c187_235 (xg_R (pc' := 238) lf_9_250 w3844 grp sh_54 (by decide) (by decide) ty_54_11 rfl rfl (fun r3849 q3850 g3851 => ?_))
  refine wp_of e187 c187_238 (rw_iload (pc' := 240) (z := H3790 rp 3) rfl rfl ?_)
  refine wp_of e187 c187_240 (rw_iload (pc' := 242) (z := v3783) rfl rfl ?_)
  have h3852 : MA11 T H3842 rp (d 3) := (MA11_fr w3833 grp ((wfr.rf (l := [(56, 999)])).put' e3843 g3840 rfl) rfl (MA11_fr w3791 grp ((wfr.rf (l := [(55, 999)])).put' e3832 g3829 rfl) rfl (MA11_fr hW grp f3792 rfl h3766)))
  refine wp_of e187 c187_242 (xs_I (pc' := 243) w3844 g3851 (by decide) sh_57 (by decide) (ty_57 _) (by omega) (by omega) ⟨by omega, by omega⟩ (by omega) (by omega) rfl (fun H3853 e3854 w3855 => ?_))
  have f3856 := f3845.put' e3854 g3851 rfl
  have h3857 : MA11 T H3853 rp (xdper B n (xN B n q) d 3) := MA_put h3852 q3850 grp g3851 (by decide) e3854 (by omega) (fun j hj => xdper_n (k := ((H3790 rp 3).toNat)) (by omega) (by omega) hj)
  refine wp_of e187 c187_243 (rw_aload_n (pc' := 244) (v := .ref r0) rfl rfl rfl ?_)
  have k3858 : H3853 r0 4 = H3842 r0 4 := (wq_u_t e3854 g3851 g0 rfl 4)
  have q3859 : H3853 r0 4 = (rp : Int) := k3858.trans q3848
  refine wp_of e187 c187_244 (xg_K (pc' := 247) lf_9_166 w3855 g0 sh_42 (by decide) (by decide) rfl q3859 rfl ?_)
  refine wp_of e187 c187_247 (xg_R (pc' := 250) lf_9_253 w3855 grp sh_54 (by decide) (by decide) ty_54_12 rfl rfl (fun r3860 q3861 g3862 => ?_))
  refine wp_of e187 c187_250 (rw_iload (pc' := 252) (z := H3790 rp 3) rfl rfl ?_)
  refine wp_of e187 c187_252 (rw_iload (pc' := 254) (z := v3784) rfl rfl ?_)
  have h3863 : MA12 T H3853 rp (d 4) := (MA12_fr w3844 grp ((wfr.rf (l := [(57, 999)])).put' e3854 g3851 rfl) rfl (MA12_fr w3833 grp ((wfr.rf (l := [(56, 999)])).put' e3843 g3840 rfl) rfl (MA12_fr w3791 grp ((wfr.rf (l := [(55, 999)])).put' e3832 g3829 rfl) rfl (MA12_fr hW grp f3792 rfl h3767))))
  refine wp_of e187 c187_254 (xs_I (pc' := 255) w3855 g3862 (by decide) sh_58 (by decide) (ty_58 _) (by omega) (by omega) ⟨by omega, by omega⟩ (by omega) (by omega) rfl (fun H3864 e3865 w3866 => ?_))
  have f3867 := f3856.put' e3865 g3862 rfl
  have h3868 : MA12 T H3864 rp (xdper B n (xN B n q) d 4) := MA_put h3863 q3861 grp g3862 (by decide) e3865 (by omega) (fun j hj => xdper_n (k := ((H3790 rp 3).toNat)) (by omega) (by omega) hj)
  refine wp_of e187 c187_255 (rw_aload_n (pc' := 256) (v := .ref r0) rfl rfl rfl ?_)
  have k3869 : H3864 r0 4 = H3853 r0 4 := (wq_u_t e3865 g3862 g0 rfl 4)
  have q3870 : H3864 r0 4 = (rp : Int) := k3869.trans q3859
  refine wp_of e187 c187_256 (xg_K (pc' := 259) lf_9_166 w3866 g0 sh_42 (by decide) (by decide) rfl q3870 rfl ?_)
  refine wp_of e187 c187_259 (xg_R (pc' := 262) lf_9_256 w3866 grp sh_54 (by decide) (by decide) ty_54_13 rfl rfl (fun r3871 q3872 g3873 => ?_))
  refine wp_of e187 c187_262 (rw_iload (pc' := 264) (z := H3790 rp 3) rfl rfl ?_)
  refine wp_of e187 c187_264 (rw_iload (pc' := 266) (z := v3785) rfl rfl ?_)
  have h3874 : MA13 T H3864 rp (d 5) := (MA13_fr w3855 grp ((wfr.rf (l := [(58, 999)])).put' e3865 g3862 rfl) rfl (MA13_fr w3844 grp ((wfr.rf (l := [(57, 999)])).put' e3854 g3851 rfl) rfl (MA13_fr w3833 grp ((wfr.rf (l := [(56, 999)])).put' e3843 g3840 rfl) rfl (MA13_fr w3791 grp ((wfr.rf (l := [(55, 999)])).put' e3832 g3829 rfl) rfl (MA13_fr hW grp f3792 rfl h3768)))))
  refine wp_of e187 c187_266 (xs_I (pc' := 267) w3866 g3873 (by decide) sh_59 (by decide) (ty_59 _) (by omega) (by omega) ⟨by omega, by omega⟩ (by omega) (by omega) rfl (fun H3875 e3876 w3877 => ?_))
  have f3878 := f3867.put' e3876 g3873 rfl
  have h3879 : MA13 T H3875 rp (xdper B n (xN B n q) d 5) := MA_put h3874 q3872 grp g3873 (by decide) e3876 (by omega) (fun j hj => xdper_n (k := ((H3790 rp 3).toNat)) (by omega) (by omega) hj)
  refine wp_of e187 c187_267 (rw_aload_n (pc' := 268) (v := .ref r0) rfl rfl rfl ?_)
  have k3880 : H3875 r0 4 = H3864 r0 4 := (wq_u_t e3876 g3873 g0 rfl 4)
  have q3881 : H3875 r0 4 = (rp : Int) := k3880.trans q3870
  refine wp_of e187 c187_268 (xg_K (pc' := 271) lf_9_166 w3877 g0 sh_42 (by decide) (by decide) rfl q3881 rfl ?_)
  refine wp_of e187 c187_271 (xg_R (pc' := 274) lf_9_259 w3877 grp sh_54 (by decide) (by decide) ty_54_14 rfl rfl (fun r3882 q3883 g3884 => ?_))
  refine wp_of e187 c187_274 (rw_iload (pc' := 276) (z := H3790 rp 3) rfl rfl ?_)
  refine wp_of e187 c187_276 (rw_iload (pc' := 278) (z := v3786) rfl rfl ?_)
  have h3885 : MA14 T H3875 rp (d 6) := (MA14_fr w3866 grp ((wfr.rf (l := [(59, 999)])).put' e3876 g3873 rfl) rfl (MA14_fr w3855 grp ((wfr.rf (l := [(58, 999)])).put' e3865 g3862 rfl) rfl (MA14_fr w3844 grp ((wfr.rf (l := [(57, 999)])).put' e3854 g3851 rfl) rfl (MA14_fr w3833 grp ((wfr.rf (l := [(56, 999)])).put' e3843 g3840 rfl) rfl (MA14_fr w3791 grp ((wfr.rf (l := [(55, 999)])).put' e3832 g3829 rfl) rfl (MA14_fr hW grp f3792 rfl h3769))))))
  refine wp_of e187 c187_278 (xs_I (pc' := 279) w3877 g3884 (by decide) sh_60 (by decide) (ty_60 _) (by omega) (by omega) ⟨by omega, by omega⟩ (by omega) (by omega) rfl (fun H3886 e3887 w3888 => ?_))
  have f3889 := f3878.put' e3887 g3884 rfl
  have h3890 : MA14 T H3886 rp (xdper B n (xN B n q) d 6) := MA_put h3885 q3883 grp g3884 (by decide) e3887 (by omega) (fun j hj => xdper_n (k := ((H3790 rp 3).toNat)) (by omega) (by omega) hj)
  refine wp_of e187 c187_279 (rw_aload_n (pc' := 280) (v := .ref r0) rfl rfl rfl ?_)
  have k3891 : H3886 r0 4 = H3875 r0 4 := (wq_u_t e3887 g3884 g0 rfl 4)
  have q3892 : H3886 r0 4 = (rp : Int) := k3891.trans q3881
  refine wp_of e187 c187_280 (xg_K (pc' := 283) lf_9_166 w3888 g0 sh_42 (by decide) (by decide) rfl q3892 rfl ?_)
  refine wp_of e187 c187_283 (xg_R (pc' := 286) lf_9_261 w3888 grp sh_54 (by decide) (by decide) ty_54_15 rfl rfl (fun r3893 q3894 g3895 => ?_))
  refine wp_of e187 c187_286 (rw_iload (pc' := 288) (z := H3790 rp 3) rfl rfl ?_)
  refine wp_of e187 c187_288 (rw_iload (pc' := 290) (z := v3787) rfl rfl ?_)
  have h3896 : MA15 T H3886 rp (d 7) := (MA15_fr w3877 grp ((wfr.rf (l := [(60, 999)])).put' e3887 g3884 rfl) rfl (MA15_fr w3866 grp ((wfr.rf (l := [(59, 999)])).put' e3876 g3873 rfl) rfl (MA15_fr w3855 grp ((wfr.rf (l := [(58, 999)])).put' e3865 g3862 rfl) rfl (MA15_fr w3844 grp ((wfr.rf (l := [(57, 999)])).put' e3854 g3851 rfl) rfl (MA15_fr w3833 grp ((wfr.rf (l := [(56, 999)])).put' e3843 g3840 rfl) rfl (MA15_fr w3791 grp ((wfr.rf (l := [(55, 999)])).put' e3832 g3829 rfl) rfl (MA15_fr hW grp f3792 rfl h3770)))))))
  refine wp_of e187 c187_290 (xs_I (pc' := 291) w3888 g3895 (by decide) sh_61 (by decide) (ty_61 _) (by omega) (by omega) ⟨by omega, by omega⟩ (by omega) (by omega) rfl (fun H3897 e3898 w3899 => ?_))
  have f3900 := f3889.put' e3898 g3895 rfl
  have h3901 : MA15 T H3897 rp (xdper B n (xN B n q) d 7) := MA_put h3896 q3894 grp g3895 (by decide) e3898 (by omega) (fun j hj => xdper_n (k := ((H3790 rp 3).toNat)) (by omega) (by omega) hj)
  refine wp_of e187 c187_291 (rw_aload_n (pc' := 292) (v := .ref r0) rfl rfl rfl ?_)
  have k3902 : H3897 r0 4 = H3886 r0 4 := (wq_u_t e3898 g3895 g0 rfl 4)
  have q3903 : H3897 r0 4 = (rp : Int) := k3902.trans q3892
  refine wp_of e187 c187_292 (xg_K (pc' := 295) lf_9_166 w3899 g0 sh_42 (by decide) (by decide) rfl q3903 rfl ?_)
  refine wp_of e187 c187_295 (xg_R (pc' := 298) lf_9_264 w3899 grp sh_54 (by decide) (by decide) ty_54_16 rfl rfl (fun r3904 q3905 g3906 => ?_))
  refine wp_of e187 c187_298 (rw_iload (pc' := 300) (z := H3790 rp 3) rfl rfl ?_)
  refine wp_of e187 c187_300 (rw_iload (pc' := 302) (z := v3788) rfl rfl ?_)
  have h3907 : MA16 T H3897 rp (d 8) := (MA16_fr w3888 grp ((wfr.rf (l := [(61, 999)])).put' e3898 g3895 rfl) rfl (MA16_fr w3877 grp ((wfr.rf (l := [(60, 999)])).put' e3887 g3884 rfl) rfl (MA16_fr w3866 grp ((wfr.rf (l := [(59, 999)])).put' e3876 g3873 rfl) rfl (MA16_fr w3855 grp ((wfr.rf (l := [(58, 999)])).put' e3865 g3862 rfl) rfl (MA16_fr w3844 grp ((wfr.rf (l := [(57, 999)])).put' e3854 g3851 rfl) rfl (MA16_fr w3833 grp ((wfr.rf (l := [(56, 999)])).put' e3843 g3840 rfl) rfl (MA16_fr w3791 grp ((wfr.rf (l := [(55, 999)])).put' e3832 g3829 rfl) rfl (MA16_fr hW grp f3792 rfl h3771))))))))
  refine wp_of e187 c187_302 (xs_I (pc' := 303) w3899 g3906 (by decide) sh_62 (by decide) (ty_62 _) (by omega) (by omega) ⟨by omega, by omega⟩ (by omega) (by omega) rfl (fun H3908 e3909 w3910 => ?_))
  have f3911 := f3900.put' e3909 g3906 rfl
  have h3912 : MA16 T H3908 rp (xdper B n (xN B n q) d 8) := MA_put h3907 q3905 grp g3906 (by decide) e3909 (by omega) (fun j hj => xdper_n (k := ((H3790 rp 3).toNat)) (by omega) (by omega) hj)
  refine wp_of e187 c187_303 (rw_aload_n (pc' := 304) (v := .ref r0) rfl rfl rfl ?_)
  have k3913 : H3908 r0 4 = H3897 r0 4 := (wq_u_t e3909 g3906 g0 rfl 4)
  have q3914 : H3908 r0 4 = (rp : Int) := k3913.trans q3903
  refine wp_of e187 c187_304 (xg_K (pc' := 307) lf_9_166 w3910 g0 sh_42 (by decide) (by decide) rfl q3914 rfl ?_)
  refine wp_of e187 c187_307 (xg_R (pc' := 310) lf_9_267 w3910 grp sh_54 (by decide) (by decide) ty_54_17 rfl rfl (fun r3915 q3916 g3917 => ?_))
  refine wp_of e187 c187_310 (rw_iload (pc' := 312) (z := H3790 rp 3) rfl rfl ?_)
  refine wp_of e187 c187_312 (rw_iload (pc' := 314) (z := v3789) rfl rfl ?_)
  have h3918 : MA17 T H3908 rp (d 9) := (MA17_fr w3899 grp ((wfr.rf (l := [(62, 999)])).put' e3909 g3906 rfl) rfl (MA17_fr w3888 grp ((wfr.rf (l := [(61, 999)])).put' e3898 g3895 rfl) rfl (MA17_fr w3877 grp ((wfr.rf (l := [(60, 999)])).put' e3887 g3884 rfl) rfl (MA17_fr w3866 grp ((wfr.rf (l := [(59, 999)])).put' e3876 g3873 rfl) rfl (MA17_fr w3855 grp ((wfr.rf (l := [(58, 999)])).put' e3865 g3862 rfl) rfl (MA17_fr w3844 grp ((wfr.rf (l := [(57, 999)])).put' e3854 g3851 rfl) rfl (MA17_fr w3833 grp ((wfr.rf (l := [(56, 999)])).put' e3843 g3840 rfl) rfl (MA17_fr w3791 grp ((wfr.rf (l := [(55, 999)])).put' e3832 g3829 rfl) rfl (MA17_fr hW grp f3792 rfl h3772)))))))))
  refine wp_of e187 c187_314 (xs_Z (pc' := 315) w3910 g3917 (by decide) sh_63 (by decide) (ty_63 _) (by omega) (by omega) ⟨by omega, by omega⟩ (by omega) (by omega) rfl (fun H3919 e3920 w3921 => ?_))
  have f3922 := f3911.put' e3920 g3917 rfl
  have h3923 : MA17 T H3919 rp (xdper B n (xN B n q) d 9) := MA_put h3918 q3916 grp g3917 (by decide) e3920 (by omega) (fun j hj => xdper_n (k := ((H3790 rp 3).toNat)) (by omega) (by omega) hj)
  refine wp_of e187 c187_315 (rw_aload_n (pc' := 316) (v := .ref r0) rfl rfl rfl ?_)
  have k3924 : H3919 r0 4 = H3908 r0 4 := (wq_u_t e3920 g3917 g0 rfl 4)
  have q3925 : H3919 r0 4 = (rp : Int) := k3924.trans q3914
  refine wp_of e187 c187_316 (xg_K (pc' := 319) lf_9_166 w3921 g0 sh_42 (by decide) (by decide) rfl q3925 rfl ?_)
  refine wp_of e187 c187_319 (rw_dup (pc' := 320) rfl rfl ?_)
  have k3926 : H3919 rp 3 = H3790 rp 3 := ((wq_u_t e3920 g3917 grp rfl 3).trans ((wq_u_t e3909 g3906 grp rfl 3).trans ((wq_u_t e3898 g3895 grp rfl 3).trans ((wq_u_t e3887 g3884 grp rfl 3).trans ((wq_u_t e3876 g3873 grp rfl 3).trans ((wq_u_t e3865 g3862 grp rfl 3).trans ((wq_u_t e3854 g3851 grp rfl 3).trans ((wq_u_t e3843 g3840 grp rfl 3).trans (wq_u_t e3832 g3829 grp rfl 3)))))))))
  refine wp_of e187 c187_320 (xg_I (pc' := 323) lf_9_188 w3921 grp sh_54 (by decide) (by decide) ty_54_3 rfl rfl (fun b3927 b3928 => ?_))
  refine wp_of e187 c187_323 (rw_iconst (pc' := 324) rfl ?_)
  refine wp_of e187 c187_324 (rw_iadd (pc' := 325) rfl ?_)
  refine wp_of e187 c187_325 (xp_I (pc' := 328) lf_9_188 w3921 grp sh_54 (by decide) (by decide) ty_54_3 rfl rfl (by omega) (by omega) ⟨by omega, by omega⟩ rfl (fun H3929 e3930 w3931 => ?_))
  have f3932 := f3922.put' e3930 grp rfl
  have k3933 : H3929 rp 3 = (H3919 rp 3) + 1 := wq_u_s e3930
  have k3934 : H3929 rp 0 = H3790 rp 0 := ((wq_u_j e3930 rfl).trans ((wq_u_t e3920 g3917 grp rfl 0).trans ((wq_u_t e3909 g3906 grp rfl 0).trans ((wq_u_t e3898 g3895 grp rfl 0).trans ((wq_u_t e3887 g3884 grp rfl 0).trans ((wq_u_t e3876 g3873 grp rfl 0).trans ((wq_u_t e3865 g3862 grp rfl 0).trans ((wq_u_t e3854 g3851 grp rfl 0).trans ((wq_u_t e3843 g3840 grp rfl 0).trans (wq_u_t e3832 g3829 grp rfl 0))))))))))
  have k3935 : H3929 rp 1 = H3790 rp 1 := ((wq_u_j e3930 rfl).trans ((wq_u_t e3920 g3917 grp rfl 1).trans ((wq_u_t e3909 g3906 grp rfl 1).trans ((wq_u_t e3898 g3895 grp rfl 1).trans ((wq_u_t e3887 g3884 grp rfl 1).trans ((wq_u_t e3876 g3873 grp rfl 1).trans ((wq_u_t e3865 g3862 grp rfl 1).trans ((wq_u_t e3854 g3851 grp rfl 1).trans ((wq_u_t e3843 g3840 grp rfl 1).trans (wq_u_t e3832 g3829 grp rfl 1))))))))))
  have k3936 : H3929 rp 2 = H3790 rp 2 := ((wq_u_j e3930 rfl).trans ((wq_u_t e3920 g3917 grp rfl 2).trans ((wq_u_t e3909 g3906 grp rfl 2).trans ((wq_u_t e3898 g3895 grp rfl 2).trans ((wq_u_t e3887 g3884 grp rfl 2).trans ((wq_u_t e3876 g3873 grp rfl 2).trans ((wq_u_t e3865 g3862 grp rfl 2).trans ((wq_u_t e3854 g3851 grp rfl 2).trans ((wq_u_t e3843 g3840 grp rfl 2).trans (wq_u_t e3832 g3829 grp rfl 2))))))))))
  have k3937 : H3929 rp 4 = H3790 rp 4 := ((wq_u_j e3930 rfl).trans ((wq_u_t e3920 g3917 grp rfl 4).trans ((wq_u_t e3909 g3906 grp rfl 4).trans ((wq_u_t e3898 g3895 grp rfl 4).trans ((wq_u_t e3887 g3884 grp rfl 4).trans ((wq_u_t e3876 g3873 grp rfl 4).trans ((wq_u_t e3865 g3862 grp rfl 4).trans ((wq_u_t e3854 g3851 grp rfl 4).trans ((wq_u_t e3843 g3840 grp rfl 4).trans (wq_u_t e3832 g3829 grp rfl 4))))))))))
  have k3938 : H3929 rp 5 = H3790 rp 5 := ((wq_u_j e3930 rfl).trans ((wq_u_t e3920 g3917 grp rfl 5).trans ((wq_u_t e3909 g3906 grp rfl 5).trans ((wq_u_t e3898 g3895 grp rfl 5).trans ((wq_u_t e3887 g3884 grp rfl 5).trans ((wq_u_t e3876 g3873 grp rfl 5).trans ((wq_u_t e3865 g3862 grp rfl 5).trans ((wq_u_t e3854 g3851 grp rfl 5).trans ((wq_u_t e3843 g3840 grp rfl 5).trans (wq_u_t e3832 g3829 grp rfl 5))))))))))
  have k3939 : H3929 rp 6 = H3790 rp 6 := ((wq_u_j e3930 rfl).trans ((wq_u_t e3920 g3917 grp rfl 6).trans ((wq_u_t e3909 g3906 grp rfl 6).trans ((wq_u_t e3898 g3895 grp rfl 6).trans ((wq_u_t e3887 g3884 grp rfl 6).trans ((wq_u_t e3876 g3873 grp rfl 6).trans ((wq_u_t e3865 g3862 grp rfl 6).trans ((wq_u_t e3854 g3851 grp rfl 6).trans ((wq_u_t e3843 g3840 grp rfl 6).trans (wq_u_t e3832 g3829 grp rfl 6))))))))))
  have k3940 : H3929 rp 7 = H3790 rp 7 := ((wq_u_j e3930 rfl).trans ((wq_u_t e3920 g3917 grp rfl 7).trans ((wq_u_t e3909 g3906 grp rfl 7).trans ((wq_u_t e3898 g3895 grp rfl 7).trans ((wq_u_t e3887 g3884 grp rfl 7).trans ((wq_u_t e3876 g3873 grp rfl 7).trans ((wq_u_t e3865 g3862 grp rfl 7).trans ((wq_u_t e3854 g3851 grp rfl 7).trans ((wq_u_t e3843 g3840 grp rfl 7).trans (wq_u_t e3832 g3829 grp rfl 7))))))))))
  have k3941 : H3929 rp 8 = H3790 rp 8 := ((wq_u_j e3930 rfl).trans ((wq_u_t e3920 g3917 grp rfl 8).trans ((wq_u_t e3909 g3906 grp rfl 8).trans ((wq_u_t e3898 g3895 grp rfl 8).trans ((wq_u_t e3887 g3884 grp rfl 8).trans ((wq_u_t e3876 g3873 grp rfl 8).trans ((wq_u_t e3865 g3862 grp rfl 8).trans ((wq_u_t e3854 g3851 grp rfl 8).trans ((wq_u_t e3843 g3840 grp rfl 8).trans (wq_u_t e3832 g3829 grp rfl 8))))))))))
  have k3942 : H3929 r0 16 = H3790 r0 16 := ((wq_u_t e3930 grp g0 rfl 16).trans ((wq_u_t e3920 g3917 g0 rfl 16).trans ((wq_u_t e3909 g3906 g0 rfl 16).trans ((wq_u_t e3898 g3895 g0 rfl 16).trans ((wq_u_t e3887 g3884 g0 rfl 16).trans ((wq_u_t e3876 g3873 g0 rfl 16).trans ((wq_u_t e3865 g3862 g0 rfl 16).trans ((wq_u_t e3854 g3851 g0 rfl 16).trans ((wq_u_t e3843 g3840 g0 rfl 16).trans (wq_u_t e3832 g3829 g0 rfl 16))))))))))
  have _l := @xdper_v B n (xN B n q) d
  have h3943 : RC T H3929 r0 B n (xl1 B n q d).2.2 := (RC_fr w3921 g0 ((wfr.rf (l := [(54, 3)])).put' e3930 grp rfl) rfl (RC_fr w3910 g0 ((wfr.rf (l := [(63, 999)])).put' e3920 g3917 rfl) rfl (RC_fr w3899 g0 ((wfr.rf (l := [(62, 999)])).put' e3909 g3906 rfl) rfl (RC_fr w3888 g0 ((wfr.rf (l := [(61, 999)])).put' e3898 g3895 rfl) rfl (RC_fr w3877 g0 ((wfr.rf (l := [(60, 999)])).put' e3887 g3884 rfl) rfl (RC_fr w3866 g0 ((wfr.rf (l := [(59, 999)])).put' e3876 g3873 rfl) rfl (RC_fr w3855 g0 ((wfr.rf (l := [(58, 999)])).put' e3865 g3862 rfl) rfl (RC_fr w3844 g0 ((wfr.rf (l := [(57, 999)])).put' e3854 g3851 rfl) rfl (RC_fr w3833 g0 ((wfr.rf (l := [(56, 999)])).put' e3843 g3840 rfl) rfl (RC_fr w3791 g0 ((wfr.rf (l := [(55, 999)])).put' e3832 g3829 rfl) rfl h3803))))))))))
  have h3944 : MA9 T H3929 rp (xdper B n (xN B n q) d 1) := (MA9_fr w3921 grp ((wfr.rf (l := [(54, 3)])).put' e3930 grp rfl) rfl (MA9_fr w3910 grp ((wfr.rf (l := [(63, 999)])).put' e3920 g3917 rfl) rfl (MA9_fr w3899 grp ((wfr.rf (l := [(62, 999)])).put' e3909 g3906 rfl) rfl (MA9_fr w3888 grp ((wfr.rf (l := [(61, 999)])).put' e3898 g3895 rfl) rfl (MA9_fr w3877 grp ((wfr.rf (l := [(60, 999)])).put' e3887 g3884 rfl) rfl (MA9_fr w3866 grp ((wfr.rf (l := [(59, 999)])).put' e3876 g3873 rfl) rfl (MA9_fr w3855 grp ((wfr.rf (l := [(58, 999)])).put' e3865 g3862 rfl) rfl (MA9_fr w3844 grp ((wfr.rf (l := [(57, 999)])).put' e3854 g3851 rfl) rfl (MA9_fr w3833 grp ((wfr.rf (l := [(56, 999)])).put' e3843 g3840 rfl) rfl h3835)))))))))
  have h3945 : MA10 T H3929 rp (xdper B n (xN B n q) d 2) := (MA10_fr w3921 grp ((wfr.rf (l := [(54, 3)])).put' e3930 grp rfl) rfl (MA10_fr w3910 grp ((wfr.rf (l := [(63, 999)])).put' e3920 g3917 rfl) rfl (MA10_fr w3899 grp ((wfr.rf (l := [(62, 999)])).put' e3909 g3906 rfl) rfl (MA10_fr w3888 grp ((wfr.rf (l := [(61, 999)])).put' e3898 g3895 rfl) rfl (MA10_fr w3877 grp ((wfr.rf (l := [(60, 999)])).put' e3887 g3884 rfl) rfl (MA10_fr w3866 grp ((wfr.rf (l := [(59, 999)])).put' e3876 g3873 rfl) rfl (MA10_fr w3855 grp ((wfr.rf (l := [(58, 999)])).put' e3865 g3862 rfl) rfl (MA10_fr w3844 grp ((wfr.rf (l := [(57, 999)])).put' e3854 g3851 rfl) rfl h3846))))))))
  have h3946 : MA11 T H3929 rp (xdper B n (xN B n q) d 3) := (MA11_fr w3921 grp ((wfr.rf (l := [(54, 3)])).put' e3930 grp rfl) rfl (MA11_fr w3910 grp ((wfr.rf (l := [(63, 999)])).put' e3920 g3917 rfl) rfl (MA11_fr w3899 grp ((wfr.rf (l := [(62, 999)])).put' e3909 g3906 rfl) rfl (MA11_fr w3888 grp ((wfr.rf (l := [(61, 999)])).put' e3898 g3895 rfl) rfl (MA11_fr w3877 grp ((wfr.rf (l := [(60, 999)])).put' e3887 g3884 rfl) rfl (MA11_fr w3866 grp ((wfr.rf (l := [(59, 999)])).put' e3876 g3873 rfl) rfl (MA11_fr w3855 grp ((wfr.rf (l := [(58, 999)])).put' e3865 g3862 rfl) rfl h3857)))))))
  have h3947 : MA12 T H3929 rp (xdper B n (xN B n q) d 4) := (MA12_fr w3921 grp ((wfr.rf (l := [(54, 3)])).put' e3930 grp rfl) rfl (MA12_fr w3910 grp ((wfr.rf (l := [(63, 999)])).put' e3920 g3917 rfl) rfl (MA12_fr w3899 grp ((wfr.rf (l := [(62, 999)])).put' e3909 g3906 rfl) rfl (MA12_fr w3888 grp ((wfr.rf (l := [(61, 999)])).put' e3898 g3895 rfl) rfl (MA12_fr w3877 grp ((wfr.rf (l := [(60, 999)])).put' e3887 g3884 rfl) rfl (MA12_fr w3866 grp ((wfr.rf (l := [(59, 999)])).put' e3876 g3873 rfl) rfl h3868))))))
  have h3948 : MA13 T H3929 rp (xdper B n (xN B n q) d 5) := (MA13_fr w3921 grp ((wfr.rf (l := [(54, 3)])).put' e3930 grp rfl) rfl (MA13_fr w3910 grp ((wfr.rf (l := [(63, 999)])).put' e3920 g3917 rfl) rfl (MA13_fr w3899 grp ((wfr.rf (l := [(62, 999)])).put' e3909 g3906 rfl) rfl (MA13_fr w3888 grp ((wfr.rf (l := [(61, 999)])).put' e3898 g3895 rfl) rfl (MA13_fr w3877 grp ((wfr.rf (l := [(60, 999)])).put' e3887 g3884 rfl) rfl h3879)))))
  have h3949 : MA14 T H3929 rp (xdper B n (xN B n q) d 6) := (MA14_fr w3921 grp ((wfr.rf (l := [(54, 3)])).put' e3930 grp rfl) rfl (MA14_fr w3910 grp ((wfr.rf (l := [(63, 999)])).put' e3920 g3917 rfl) rfl (MA14_fr w3899 grp ((wfr.rf (l := [(62, 999)])).put' e3909 g3906 rfl) rfl (MA14_fr w3888 grp ((wfr.rf (l := [(61, 999)])).put' e3898 g3895 rfl) rfl h3890))))
  have h3950 : MA15 T H3929 rp (xdper B n (xN B n q) d 7) := (MA15_fr w3921 grp ((wfr.rf (l := [(54, 3)])).put' e3930 grp rfl) rfl (MA15_fr w3910 grp ((wfr.rf (l := [(63, 999)])).put' e3920 g3917 rfl) rfl (MA15_fr w3899 grp ((wfr.rf (l := [(62, 999)])).put' e3909 g3906 rfl) rfl h3901)))
  have h3951 : MA16 T H3929 rp (xdper B n (xN B n q) d 8) := (MA16_fr w3921 grp ((wfr.rf (l := [(54, 3)])).put' e3930 grp rfl) rfl (MA16_fr w3910 grp ((wfr.rf (l := [(63, 999)])).put' e3920 g3917 rfl) rfl h3912))
  have h3952 : MA17 T H3929 rp (xdper B n (xN B n q) d 9) := (MA17_fr w3921 grp ((wfr.rf (l := [(54, 3)])).put' e3930 grp rfl) rfl h3923)
  have h3953 : MA18 T H3929 rp (d 10) := (MA18_fr w3921 grp ((wfr.rf (l := [(54, 3)])).put' e3930 grp rfl) rfl (MA18_fr w3910 grp ((wfr.rf (l := [(63, 999)])).put' e3920 g3917 rfl) rfl (MA18_fr w3899 grp ((wfr.rf (l := [(62, 999)])).put' e3909 g3906 rfl) rfl (MA18_fr w3888 grp ((wfr.rf (l := [(61, 999)])).put' e3898 g3895 rfl) rfl (MA18_fr w3877 grp ((wfr.rf (l := [(60, 999)])).put' e3887 g3884 rfl) rfl (MA18_fr w3866 grp ((wfr.rf (l := [(59, 999)])).put' e3876 g3873 rfl) rfl (MA18_fr w3855 grp ((wfr.rf (l := [(58, 999)])).put' e3865 g3862 rfl) rfl (MA18_fr w3844 grp ((wfr.rf (l := [(57, 999)])).put' e3854 g3851 rfl) rfl (MA18_fr w3833 grp ((wfr.rf (l := [(56, 999)])).put' e3843 g3840 rfl) rfl (MA18_fr w3791 grp ((wfr.rf (l := [(55, 999)])).put' e3832 g3829 rfl) rfl (MA18_fr hW grp f3792 rfl h3773)))))))))))
  have h3954 : MA19 T H3929 rp (d 11) := (MA19_fr w3921 grp ((wfr.rf (l := [(54, 3)])).put' e3930 grp rfl) rfl (MA19_fr w3910 grp ((wfr.rf (l := [(63, 999)])).put' e3920 g3917 rfl) rfl (MA19_fr w3899 grp ((wfr.rf (l := [(62, 999)])).put' e3909 g3906 rfl) rfl (MA19_fr w3888 grp ((wfr.rf (l := [(61, 999)])).put' e3898 g3895 rfl) rfl (MA19_fr w3877 grp ((wfr.rf (l := [(60, 999)])).put' e3887 g3884 rfl) rfl (MA19_fr w3866 grp ((wfr.rf (l := [(59, 999)])).put' e3876 g3873 rfl) rfl (MA19_fr w3855 grp ((wfr.rf (l := [(58, 999)])).put' e3865 g3862 rfl) rfl (MA19_fr w3844 grp ((wfr.rf (l := [(57, 999)])).put' e3854 g3851 rfl) rfl (MA19_fr w3833 grp ((wfr.rf (l := [(56, 999)])).put' e3843 g3840 rfl) rfl (MA19_fr w3791 grp ((wfr.rf (l := [(55, 999)])).put' e3832 g3829 rfl) rfl (MA19_fr hW grp f3792 rfl h3774)))))))))))
  have h3955 : MA20 T H3929 rp (d 12) := (MA20_fr w3921 grp ((wfr.rf (l := [(54, 3)])).put' e3930 grp rfl) rfl (MA20_fr w3910 grp ((wfr.rf (l := [(63, 999)])).put' e3920 g3917 rfl) rfl (MA20_fr w3899 grp ((wfr.rf (l := [(62, 999)])).put' e3909 g3906 rfl) rfl (MA20_fr w3888 grp ((wfr.rf (l := [(61, 999)])).put' e3898 g3895 rfl) rfl (MA20_fr w3877 grp ((wfr.rf (l := [(60, 999)])).put' e3887 g3884 rfl) rfl (MA20_fr w3866 grp ((wfr.rf (l := [(59, 999)])).put' e3876 g3873 rfl) rfl (MA20_fr w3855 grp ((wfr.rf (l := [(58, 999)])).put' e3865 g3862 rfl) rfl (MA20_fr w3844 grp ((wfr.rf (l := [(57, 999)])).put' e3854 g3851 rfl) rfl (MA20_fr w3833 grp ((wfr.rf (l := [(56, 999)])).put' e3843 g3840 rfl) rfl (MA20_fr w3791 grp ((wfr.rf (l := [(55, 999)])).put' e3832 g3829 rfl) rfl (MA20_fr hW grp f3792 rfl h3775)))))))))))
  have h3956 : MA21 T H3929 rp (d 13) := (MA21_fr w3921 grp ((wfr.rf (l := [(54, 3)])).put' e3930 grp rfl) rfl (MA21_fr w3910 grp ((wfr.rf (l := [(63, 999)])).put' e3920 g3917 rfl) rfl (MA21_fr w3899 grp ((wfr.rf (l := [(62, 999)])).put' e3909 g3906 rfl) rfl (MA21_fr w3888 grp ((wfr.rf (l := [(61, 999)])).put' e3898 g3895 rfl) rfl (MA21_fr w3877 grp ((wfr.rf (l := [(60, 999)])).put' e3887 g3884 rfl) rfl (MA21_fr w3866 grp ((wfr.rf (l := [(59, 999)])).put' e3876 g3873 rfl) rfl (MA21_fr w3855 grp ((wfr.rf (l := [(58, 999)])).put' e3865 g3862 rfl) rfl (MA21_fr w3844 grp ((wfr.rf (l := [(57, 999)])).put' e3854 g3851 rfl) rfl (MA21_fr w3833 grp ((wfr.rf (l := [(56, 999)])).put' e3843 g3840 rfl) rfl (MA21_fr w3791 grp ((wfr.rf (l := [(55, 999)])).put' e3832 g3829 rfl) rfl (MA21_fr hW grp f3792 rfl h3776)))))))))))
  have h3957 : MA22 T H3929 rp (d 14) := (MA22_fr w3921 grp ((wfr.rf (l := [(54, 3)])).put' e3930 grp rfl) rfl (MA22_fr w3910 grp ((wfr.rf (l := [(63, 999)])).put' e3920 g3917 rfl) rfl (MA22_fr w3899 grp ((wfr.rf (l := [(62, 999)])).put' e3909 g3906 rfl) rfl (MA22_fr w3888 grp ((wfr.rf (l := [(61, 999)])).put' e3898 g3895 rfl) rfl (MA22_fr w3877 grp ((wfr.rf (l := [(60, 999)])).put' e3887 g3884 rfl) rfl (MA22_fr w3866 grp ((wfr.rf (l := [(59, 999)])).put' e3876 g3873 rfl) rfl (MA22_fr w3855 grp ((wfr.rf (l := [(58, 999)])).put' e3865 g3862 rfl) rfl (MA22_fr w3844 grp ((wfr.rf (l := [(57, 999)])).put' e3854 g3851 rfl) rfl (MA22_fr w3833 grp ((wfr.rf (l := [(56, 999)])).put' e3843 g3840 rfl) rfl (MA22_fr w3791 grp ((wfr.rf (l := [(55, 999)])).put' e3832 g3829 rfl) rfl (MA22_fr hW grp f3792 rfl h3777)))))))))))
  have h3958 : MA23 T H3929 rp (d 15) := (MA23_fr w3921 grp ((wfr.rf (l := [(54, 3)])).put' e3930 grp rfl) rfl (MA23_fr w3910 grp ((wfr.rf (l := [(63, 999)])).put' e3920 g3917 rfl) rfl (MA23_fr w3899 grp ((wfr.rf (l := [(62, 999)])).put' e3909 g3906 rfl) rfl (MA23_fr w3888 grp ((wfr.rf (l := [(61, 999)])).put' e3898 g3895 rfl) rfl (MA23_fr w3877 grp ((wfr.rf (l := [(60, 999)])).put' e3887 g3884 rfl) rfl (MA23_fr w3866 grp ((wfr.rf (l := [(59, 999)])).put' e3876 g3873 rfl) rfl (MA23_fr w3855 grp ((wfr.rf (l := [(58, 999)])).put' e3865 g3862 rfl) rfl (MA23_fr w3844 grp ((wfr.rf (l := [(57, 999)])).put' e3854 g3851 rfl) rfl (MA23_fr w3833 grp ((wfr.rf (l := [(56, 999)])).put' e3843 g3840 rfl) rfl (MA23_fr w3791 grp ((wfr.rf (l := [(55, 999)])).put' e3832 g3829 rfl) rfl (MA23_fr hW grp f3792 rfl h3778)))))))))))
  have h3959 : MA25 T H3929 rp (d 17) := (MA25_fr w3921 grp ((wfr.rf (l := [(54, 3)])).put' e3930 grp rfl) rfl (MA25_fr w3910 grp ((wfr.rf (l := [(63, 999)])).put' e3920 g3917 rfl) rfl (MA25_fr w3899 grp ((wfr.rf (l := [(62, 999)])).put' e3909 g3906 rfl) rfl (MA25_fr w3888 grp ((wfr.rf (l := [(61, 999)])).put' e3898 g3895 rfl) rfl (MA25_fr w3877 grp ((wfr.rf (l := [(60, 999)])).put' e3887 g3884 rfl) rfl (MA25_fr w3866 grp ((wfr.rf (l := [(59, 999)])).put' e3876 g3873 rfl) rfl (MA25_fr w3855 grp ((wfr.rf (l := [(58, 999)])).put' e3865 g3862 rfl) rfl (MA25_fr w3844 grp ((wfr.rf (l := [(57, 999)])).put' e3854 g3851 rfl) rfl (MA25_fr w3833 grp ((wfr.rf (l := [(56, 999)])).put' e3843 g3840 rfl) rfl (MA25_fr w3791 grp ((wfr.rf (l := [(55, 999)])).put' e3832 g3829 rfl) rfl (MA25_fr hW grp f3792 rfl h3779)))))))))))
  have h3960 : MA26 T H3929 rp (d 16) := (MA26_fr w3921 grp ((wfr.rf (l := [(54, 3)])).put' e3930 grp rfl) rfl (MA26_fr w3910 grp ((wfr.rf (l := [(63, 999)])).put' e3920 g3917 rfl) rfl (MA26_fr w3899 grp ((wfr.rf (l := [(62, 999)])).put' e3909 g3906 rfl) rfl (MA26_fr w3888 grp ((wfr.rf (l := [(61, 999)])).put' e3898 g3895 rfl) rfl (MA26_fr w3877 grp ((wfr.rf (l := [(60, 999)])).put' e3887 g3884 rfl) rfl (MA26_fr w3866 grp ((wfr.rf (l := [(59, 999)])).put' e3876 g3873 rfl) rfl (MA26_fr w3855 grp ((wfr.rf (l := [(58, 999)])).put' e3865 g3862 rfl) rfl (MA26_fr w3844 grp ((wfr.rf (l := [(57, 999)])).put' e3854 g3851 rfl) rfl (MA26_fr w3833 grp ((wfr.rf (l := [(56, 999)])).put' e3843 g3840 rfl) rfl (MA26_fr w3791 grp ((wfr.rf (l := [(55, 999)])).put' e3832 g3829 rfl) rfl (MA26_fr hW grp f3792 rfl h3780)))))))))))
  exact wp_return e187 c187_328 rfl ⟨rfl, w3931, f3932, rfl, (Or.inl ⟨by omega, by omega, (fun a ha ga => ((wq_u_a e3930 ha 3).trans ((wq_u_t e3920 g3917 ga rfl 3).trans ((wq_u_t e3909 g3906 ga rfl 3).trans ((wq_u_t e3898 g3895 ga rfl 3).trans ((wq_u_t e3887 g3884 ga rfl 3).trans ((wq_u_t e3876 g3873 ga rfl 3).trans ((wq_u_t e3865 g3862 ga rfl 3).trans ((wq_u_t e3854 g3851 ga rfl 3).trans ((wq_u_t e3843 g3840 ga rfl 3).trans ((wq_u_t e3832 g3829 ga rfl 3).trans (f3792 a 3 _ ga rfl)))))))))))), h3943, DM_mk hDM_rp.1 ⟨by omega, by omega, by omega, by omega, by omega, by omega, by omega, by omega, by omega, by omega, by omega, by omega⟩ (xdP_per hDM_rp.2.2.1 (k := ((H3790 rp 3)).toNat) (by omega) ⟨by omega, by omega, by omega, by omega, by omega, by omega, by omega, by omega, by omega, by omega, by omega, by omega, by omega, by omega, by omega⟩) h3944 h3945 h3946 h3947 h3948 h3949 h3950 h3951 h3952 h3953 h3954 h3955 h3956 h3957 h3958 h3959 h3960 ⟨rfl, rfl, rfl, rfl, rfl, rfl, rfl, rfl, rfl, (by unfold xdper; rw [wq_u_row (by decide), wq_u_row (by decide), wq_u_row (by decide), wq_u_row (by decide), wq_u_row (by decide), wq_u_row (by decide), wq_u_row (by decide), wq_u_row (by decide), wq_u_row (by decide), wq_u_row (by decide)]), (by unfold xdper; rw [wq_u_row (by decide), wq_u_row (by decide), wq_u_row (by decide), wq_u_row (by decide), wq_u_row (by decide), wq_u_row (by decide), wq_u_row (by decide), wq_u_row (by decide), wq_u_row (by decide), wq_u_row (by decide)]), (by unfold xdper; rw [wq_u_row (by decide), wq_u_row (by decide), wq_u_row (by decide), wq_u_row (by decide), wq_u_row (by decide), wq_u_row (by decide), wq_u_row (by decide), wq_u_row (by decide), wq_u_row (by decide), wq_u_row (by decide)]), (by unfold xdper; rw [wq_u_row (by decide), wq_u_row (by decide), wq_u_row (by decide), wq_u_row (by decide), wq_u_row (by decide), wq_u_row (by decide), wq_u_row (by decide), wq_u_row (by decide), wq_u_row (by decide), wq_u_row (by decide)]), (by unfold xdper; rw [wq_u_row (by decide), wq_u_row (by decide), wq_u_row (by decide), wq_u_row (by decide), wq_u_row (by decide), wq_u_row (by decide), wq_u_row (by decide), wq_u_row (by decide), wq_u_row (by decide), wq_u_row (by decide)]), (by unfold xdper; rw [wq_u_row (by decide), wq_u_row (by decide), wq_u_row (by decide), wq_u_row (by decide), wq_u_row (by decide), wq_u_row (by decide), wq_u_row (by decide), wq_u_row (by decide), wq_u_row (by decide), wq_u_row (by decide)]), (by unfold xdper; rw [wq_u_row (by decide), wq_u_row (by decide), wq_u_row (by decide), wq_u_row (by decide), wq_u_row (by decide), wq_u_row (by decide), wq_u_row (by decide), wq_u_row (by decide), wq_u_row (by decide), wq_u_row (by decide)]), (by unfold xdper; rw [wq_u_row (by decide), wq_u_row (by decide), wq_u_row (by decide), wq_u_row (by decide), wq_u_row (by decide), wq_u_row (by decide), wq_u_row (by decide), wq_u_row (by decide), wq_u_row (by decide), wq_u_row (by decide)])⟩⟩)⟩
set_option maxHeartbeats 60000000 in
theorem u_187_k_t183o {kt : Nat → Option mc_E} {T : wq_T} {H : wq_H} {r0 : Nat} {rp : Nat} {rb : Nat} {B : Nat → Int} {n : Int} {q : Int} {d : xD} (hW : WT T H) (g0 : T.2.2.2 r0 = some 42) (qrp : H r0 4 = (rp : Int)) (grp : T.2.2.2 rp = some 54) (qrb : H r0 5 = (rb : Int)) (grb : T.2.2.2 rb = some 43) (p0 : xK B n q = 1) (hRC_r0 : RC T H r0 B n q) (hDM_rp : DM T H rp r0 d) : ∀ (v3980 : Int) (v3981 : Int) (v3982 : Int) (v3983 : Int) (v3984 : Int) (v3985 : Int) (v3986 : Int) (v3987 : Int) (H3988 : wq_H) (fo3992 : Int) (po3993 : Int), WT T H3988 → wfr [(42, 8), (42, 9), (42, 10), (42, 11), (42, 12), (42, 13), (42, 14), (42, 15)] T H H3988 → ((-9223372036854775808) ≤ v3980 ∧ v3980 ≤ 9223372036854775807) → (0 ≤ v3981 ∧ v3981 ≤ 23) → (0 ≤ v3982 ∧ v3982 ≤ 30) → (0 ≤ v3983 ∧ v3983 ≤ 12) → (0 ≤ v3984 ∧ v3984 ≤ 16) → ((-1) ≤ v3985 ∧ v3985 ≤ 23) → (0 ≤ v3986 ∧ v3986 ≤ 23) → (0 ≤ v3987 ∧ v3987 ≤ 24) → RO T H3988 r0 fo3992 po3993 → ((xl1 B n q d).1 = fo3992) → ((xl1 B n q d).2.1 = po3993) → wp kt 4 187 183 [(0, .ref r0), (1, vL v3980), (3, vI v3981), (4, vI v3982), (5, vI v3983), (6, vI v3984), (7, vI v3985), (9, vI v3986), (10, vI v3987)] [] T H3988 (uq_187_k r0 rp rb B n q d T H) := by
  have f0 : wfr [(54, 3), (42, 8), (42, 9), (42, 10), (42, 11), (42, 12), (42, 13), (42, 14), (42, 15), (56, 999), (57, 999), (60, 999), (63, 999), (58, 999), (59, 999), (55, 999), (61, 999), (62, 999)] T H H := wfr.rf
  have u3961 := RC_k hRC_r0
  have u3962 := DM_k hDM_rp
  have h3963 : MA9 T H rp (d 1) := hDM_rp.2.2.2.1
  have h3964 : MA10 T H rp (d 2) := hDM_rp.2.2.2.2.1
  have h3965 : MA11 T H rp (d 3) := hDM_rp.2.2.2.2.2.1
  have h3966 : MA12 T H rp (d 4) := hDM_rp.2.2.2.2.2.2.1
  have h3967 : MA13 T H rp (d 5) := hDM_rp.2.2.2.2.2.2.2.1
  have h3968 : MA14 T H rp (d 6) := hDM_rp.2.2.2.2.2.2.2.2.1
  have h3969 : MA15 T H rp (d 7) := hDM_rp.2.2.2.2.2.2.2.2.2.1
  have h3970 : MA16 T H rp (d 8) := hDM_rp.2.2.2.2.2.2.2.2.2.2.1
  have h3971 : MA17 T H rp (d 9) := hDM_rp.2.2.2.2.2.2.2.2.2.2.2.1
  have h3972 : MA18 T H rp (d 10) := hDM_rp.2.2.2.2.2.2.2.2.2.2.2.2.1
  have h3973 : MA19 T H rp (d 11) := hDM_rp.2.2.2.2.2.2.2.2.2.2.2.2.2.1
  have h3974 : MA20 T H rp (d 12) := hDM_rp.2.2.2.2.2.2.2.2.2.2.2.2.2.2.1
  have h3975 : MA21 T H rp (d 13) := hDM_rp.2.2.2.2.2.2.2.2.2.2.2.2.2.2.2.1
  have h3976 : MA22 T H rp (d 14) := hDM_rp.2.2.2.2.2.2.2.2.2.2.2.2.2.2.2.2.1
  have h3977 : MA23 T H rp (d 15) := hDM_rp.2.2.2.2.2.2.2.2.2.2.2.2.2.2.2.2.2.1
  have h3978 : MA25 T H rp (d 17) := hDM_rp.2.2.2.2.2.2.2.2.2.2.2.2.2.2.2.2.2.2.1
  have h3979 : MA26 T H rp (d 16) := hDM_rp.2.2.2.2.2.2.2.2.2.2.2.2.2.2.2.2.2.2.2
  intro v3980 v3981 v3982 v3983 v3984 v3985 v3986 v3987 H3988 fo3992 po3993 w3989 f3990 b3994 b3995 b3996 b3997 b3998 b3999 b4000 b4001 h4002 x4003 x4004
  have f4005 : wfr [(54, 3), (42, 8), (42, 9), (42, 10), (42, 11), (42, 12), (42, 13), (42, 14), (42, 15), (56, 999), (57, 999), (60, 999), (63, 999), (58, 999), (59, 999), (55, 999), (61, 999), (62, 999)] T H H3988 := wfr.rf.tr f3990 rfl
  have u4006 := RO_k h4002
  refine wp_of e187 c187_183 (rw_aload_n (pc' := 184) (v := .ref r0) rfl rfl rfl ?_)
  refine wp_of e187 c187_184 (rw_ldcS (pc' := 186) (k := 85) rfl rfl rfl rfl ?_)
  have k4007 : H3988 r0 5 = H r0 5 := (f3990 r0 5 _ g0 rfl)
  have q4008 : H3988 r0 5 = (rb : Int) := k4007.trans qrb
  refine wp_of e187 c187_186 (xc_V (pc' := 189) (r := r0) (as := [.ref 85]) (st := []) (lm_9_240) rfl rfl (Nat.le_of_ble_eq_true rfl) w3989 g0 sh_42 (by decide) rfl (by decide) (u_192_o (fo := fo3992) (po := po3993) (kk := 56377) w3989 g0 rfl q4008 grb (by decide +kernel) h4002) (fun R4009 T4010 H4011 p4012 => ?_))
  obtain ⟨e4013, e4015, z4016, e4014, b4017, p4018⟩ := p4012
  subst e4013
  subst e4014
  subst e4015
  obtain ⟨a4019, a4020⟩ := p4018
  show wp _ _ 187 189 [(0, .ref r0), (1, vL v3980), (3, vI v3981), (4, vI v3982), (5, vI v3983), (6, vI v3984), (7, vI v3985), (9, vI v3986), (10, vI v3987)] [vI z4016] _ H3988 _
  have u4021 := RO_k a4020
  refine wp_of e187 c187_189 (rw_istore (pc' := 191) (z := z4016) (L' := [(11, vI z4016), (0, .ref r0), (1, vL v3980), (3, vI v3981), (4, vI v3982), (5, vI v3983), (6, vI v3984), (7, vI v3985), (9, vI v3986), (10, vI v3987)]) rfl rfl rfl ?_)
  refine wp_of e187 c187_191 (rw_aload_n (pc' := 192) (v := .ref r0) rfl rfl rfl ?_)
  refine wp_of e187 c187_192 (xg_I (pc' := 195) lf_9_75 w3989 g0 sh_42 (by decide) (by decide) ty_42_9 rfl rfl (fun b4022 b4023 => ?_))
  refine wp_of e187 c187_195 (rw_iconst (pc' := 196) rfl ?_)
  refine wp_of e187 c187_196 (rw_icmp_ne (p1 := 200) (p2 := 199) (by decide) rfl ⟨by omega, by omega⟩ ⟨by omega, by omega⟩ (fun c4024 => ?_) (fun c4024 => ?_))
  · exfalso
    omega
  · exact wp_return e187 c187_199 rfl ⟨rfl, w3989, f4005, rfl, (Or.inr ⟨by omega, (fun a ha ga => (f3990 a 3 _ ga rfl)), RO_eq a4020 (by omega) (by omega)⟩)⟩
set_option maxHeartbeats 60000000 in
theorem u_187_k_t134o {kt : Nat → Option mc_E} {T : wq_T} {H : wq_H} {r0 : Nat} {rp : Nat} {rb : Nat} {B : Nat → Int} {n : Int} {q : Int} {d : xD} (hW : WT T H) (g0 : T.2.2.2 r0 = some 42) (qrp : H r0 4 = (rp : Int)) (grp : T.2.2.2 rp = some 54) (qrb : H r0 5 = (rb : Int)) (grb : T.2.2.2 rb = some 43) (p0 : xK B n q = 1) (hRC_r0 : RC T H r0 B n q) (hDM_rp : DM T H rp r0 d) : ∀ (v4044 : Int) (v4045 : Int) (v4046 : Int) (v4047 : Int) (v4048 : Int) (v4049 : Int) (H4050 : wq_H) (fo4054 : Int) (po4055 : Int), WT T H4050 → wfr [(42, 8), (42, 9), (42, 10), (42, 11), (42, 12), (42, 13), (42, 14), (42, 15)] T H H4050 → ((-9223372036854775808) ≤ v4044 ∧ v4044 ≤ 9223372036854775807) → (0 ≤ v4045 ∧ v4045 ≤ 23) → (0 ≤ v4046 ∧ v4046 ≤ 30) → (0 ≤ v4047 ∧ v4047 ≤ 12) → (0 ≤ v4048 ∧ v4048 ≤ 16) → ((-1) ≤ v4049 ∧ v4049 ≤ 23) → RO T H4050 r0 fo4054 po4055 → ((xl1 B n q d).1 = fo4054) → ((xl1 B n q d).2.1 = po4055) → wp kt 4 187 134 [(0, .ref r0), (1, vL v4044), (3, vI v4045), (4, vI v4046), (5, vI v4047), (6, vI v4048), (7, vI v4049)] [] T H4050 (uq_187_k r0 rp rb B n q d T H) := by
  have f0 : wfr [(54, 3), (42, 8), (42, 9), (42, 10), (42, 11), (42, 12), (42, 13), (42, 14), (42, 15), (56, 999), (57, 999), (60, 999), (63, 999), (58, 999), (59, 999), (55, 999), (61, 999), (62, 999)] T H H := wfr.rf
  have u4025 := RC_k hRC_r0
  have u4026 := DM_k hDM_rp
  have h4027 : MA9 T H rp (d 1) := hDM_rp.2.2.2.1
  have h4028 : MA10 T H rp (d 2) := hDM_rp.2.2.2.2.1
  have h4029 : MA11 T H rp (d 3) := hDM_rp.2.2.2.2.2.1
  have h4030 : MA12 T H rp (d 4) := hDM_rp.2.2.2.2.2.2.1
  have h4031 : MA13 T H rp (d 5) := hDM_rp.2.2.2.2.2.2.2.1
  have h4032 : MA14 T H rp (d 6) := hDM_rp.2.2.2.2.2.2.2.2.1
  have h4033 : MA15 T H rp (d 7) := hDM_rp.2.2.2.2.2.2.2.2.2.1
  have h4034 : MA16 T H rp (d 8) := hDM_rp.2.2.2.2.2.2.2.2.2.2.1
  have h4035 : MA17 T H rp (d 9) := hDM_rp.2.2.2.2.2.2.2.2.2.2.2.1
  have h4036 : MA18 T H rp (d 10) := hDM_rp.2.2.2.2.2.2.2.2.2.2.2.2.1
  have h4037 : MA19 T H rp (d 11) := hDM_rp.2.2.2.2.2.2.2.2.2.2.2.2.2.1
  have h4038 : MA20 T H rp (d 12) := hDM_rp.2.2.2.2.2.2.2.2.2.2.2.2.2.2.1
  have h4039 : MA21 T H rp (d 13) := hDM_rp.2.2.2.2.2.2.2.2.2.2.2.2.2.2.2.1
  have h4040 : MA22 T H rp (d 14) := hDM_rp.2.2.2.2.2.2.2.2.2.2.2.2.2.2.2.2.1
  have h4041 : MA23 T H rp (d 15) := hDM_rp.2.2.2.2.2.2.2.2.2.2.2.2.2.2.2.2.2.1
  have h4042 : MA25 T H rp (d 17) := hDM_rp.2.2.2.2.2.2.2.2.2.2.2.2.2.2.2.2.2.2.1
  have h4043 : MA26 T H rp (d 16) := hDM_rp.2.2.2.2.2.2.2.2.2.2.2.2.2.2.2.2.2.2.2
  intro v4044 v4045 v4046 v4047 v4048 v4049 H4050 fo4054 po4055 w4051 f4052 b4056 b4057 b4058 b4059 b4060 b4061 h4062 x4063 x4064
  have f4065 : wfr [(54, 3), (42, 8), (42, 9), (42, 10), (42, 11), (42, 12), (42, 13), (42, 14), (42, 15), (56, 999), (57, 999), (60, 999), (63, 999), (58, 999), (59, 999), (55, 999), (61, 999), (62, 999)] T H H4050 := wfr.rf.tr f4052 rfl
  have u4066 := RO_k h4062
  refine wp_of e187 c187_134 (rw_aload_n (pc' := 135) (v := .ref r0) rfl rfl rfl ?_)
  refine wp_of e187 c187_135 (rw_ldcS (pc' := 137) (k := 84) rfl rfl rfl rfl ?_)
  have k4067 : H4050 r0 5 = H r0 5 := (f4052 r0 5 _ g0 rfl)
  have q4068 : H4050 r0 5 = (rb : Int) := k4067.trans qrb
  refine wp_of e187 c187_137 (xc_V (pc' := 140) (r := r0) (as := [.ref 84]) (st := []) (lm_9_240) rfl rfl (Nat.le_of_ble_eq_true rfl) w4051 g0 sh_42 (by decide) rfl (by decide) (u_192_o (fo := fo4054) (po := po4055) (kk := 14384) w4051 g0 rfl q4068 grb (by decide +kernel) h4062) (fun R4069 T4070 H4071 p4072 => ?_))
  obtain ⟨e4073, e4075, z4076, e4074, b4077, p4078⟩ := p4072
  subst e4073
  subst e4074
  subst e4075
  obtain ⟨a4079, a4080⟩ := p4078
  show wp _ _ 187 140 [(0, .ref r0), (1, vL v4044), (3, vI v4045), (4, vI v4046), (5, vI v4047), (6, vI v4048), (7, vI v4049)] [vI z4076] _ H4050 _
  have u4081 := RO_k a4080
  refine wp_of e187 c187_140 (rw_istore (pc' := 142) (z := z4076) (L' := [(8, vI z4076), (0, .ref r0), (1, vL v4044), (3, vI v4045), (4, vI v4046), (5, vI v4047), (6, vI v4048), (7, vI v4049)]) rfl rfl rfl ?_)
  refine wp_of e187 c187_142 (rw_iload (pc' := 144) (z := z4076) rfl rfl ?_)
  refine wp_of e187 c187_144 (rw_if_eq (p1 := 157) (p2 := 147) (by decide) rfl ⟨by omega, by omega⟩ (fun c4082 => ?_) (fun c4082 => ?_))
  · refine wp_of e187 c187_157 (rw_iconst (pc' := 158) rfl ?_)
    refine wp_of e187 c187_158 (rw_istore (pc' := 160) (z := 0) (L' := [(9, vI 0), (8, vI z4076), (0, .ref r0), (1, vL v4044), (3, vI v4045), (4, vI v4046), (5, vI v4047), (6, vI v4048), (7, vI v4049)]) rfl rfl rfl ?_)
    refine wp_of e187 c187_160 (rw_iload (pc' := 162) (z := z4076) rfl rfl ?_)
    refine wp_of e187 c187_162 (rw_if_eq (p1 := 180) (p2 := 165) (by decide) rfl ⟨by omega, by omega⟩ (fun c4083 => ?_) (fun c4083 => ?_))
    · refine wp_of e187 c187_180 (rw_iconst (pc' := 181) rfl ?_)
      refine wp_of e187 c187_181 (rw_istore (pc' := 183) (z := 0) (L' := [(10, vI 0), (9, vI 0), (8, vI z4076), (0, .ref r0), (1, vL v4044), (3, vI v4045), (4, vI v4046), (5, vI v4047), (6, vI v4048), (7, vI v4049)]) rfl rfl rfl ?_)
      exact wp_lc (ks := [10, 9, 8, 0, 1, 3, 4, 5, 6, 7]) (wl_c rfl (wl_c rfl (wl_c rfl (wl_c rfl (wl_c rfl (wl_c rfl (wl_c rfl (wl_c rfl (wl_c rfl wl_n))))))))) rfl (by decide) (u_187_k_t183o hW g0 qrp grp qrb grb p0 hRC_r0 hDM_rp v4044 v4045 v4046 v4047 v4048 v4049 0 0 H4050 fo4054 po4055 w4051 f4052 ⟨by omega, by omega⟩ ⟨by omega, by omega⟩ ⟨by omega, by omega⟩ ⟨by omega, by omega⟩ ⟨by omega, by omega⟩ ⟨by omega, by omega⟩ ⟨by omega, by omega⟩ ⟨by omega, by omega⟩ a4080 (by omega) (by omega))
    · exfalso
      omega
  · exfalso
    omega
set_option maxHeartbeats 60000000 in
theorem u_187_k_t112k {kt : Nat → Option mc_E} {T : wq_T} {H : wq_H} {r0 : Nat} {rp : Nat} {rb : Nat} {B : Nat → Int} {n : Int} {q : Int} {d : xD} (hW : WT T H) (g0 : T.2.2.2 r0 = some 42) (qrp : H r0 4 = (rp : Int)) (grp : T.2.2.2 rp = some 54) (qrb : H r0 5 = (rb : Int)) (grb : T.2.2.2 rb = some 43) (p0 : xK B n q = 1) (hRC_r0 : RC T H r0 B n q) (hDM_rp : DM T H rp r0 d) : ∀ (v4103 : Int) (v4104 : Int) (v4105 : Int) (v4106 : Int) (v4107 : Int) (H4108 : wq_H), WT T H4108 → wfr [(42, 8), (42, 9), (42, 10), (42, 11), (42, 12), (42, 13), (42, 14), (42, 15)] T H H4108 → ((-9223372036854775808) ≤ v4103 ∧ v4103 ≤ 9223372036854775807) → (0 ≤ v4104 ∧ v4104 ≤ 23) → (0 ≤ v4105 ∧ v4105 ≤ 30) → (0 ≤ v4106 ∧ v4106 ≤ 12) → (0 ≤ v4107 ∧ v4107 ≤ 16) → RC T H4108 r0 B n (xN B n (xN B n (xN B n (xN B n (xN B n (xN B n (xN B n (xN B n (xN B n (xN B n q)))))))))) → DM T H4108 rp r0 d → (xl1 B n q d = xcs B n (xN B n (xN B n (xN B n (xN B n (xN B n (xN B n (xN B n (xN B n (xN B n (xN B n q))))))))))) → (q ≤ (xN B n (xN B n (xN B n (xN B n (xN B n (xN B n (xN B n (xN B n (xN B n (xN B n q))))))))))) → (v4103 = xY B n (xN B n q)) → (v4104 = xV B n (xN B n (xN B n (xN B n q)))) → (v4105 = xV B n (xN B n (xN B n (xN B n (xN B n (xN B n q)))))) → (v4106 = xV B n (xN B n (xN B n (xN B n (xN B n (xN B n (xN B n (xN B n q)))))))) → (v4107 = xV B n (xN B n (xN B n (xN B n (xN B n (xN B n (xN B n (xN B n (xN B n (xN B n q)))))))))) → (v4104 ≤ v4105 ∧ v4105 ≤ v4104 + 7 ∧ v4105 ≤ 23) → (v4106 ≤ v4107 ∧ v4107 ≤ v4106 + 4 ∧ v4107 ≤ 12) → (d 0 3 ≤ 5) → wp kt 4 187 112 [(0, .ref r0), (1, vL v4103), (3, vI v4104), (4, vI v4105), (5, vI v4106), (6, vI v4107)] [] T H4108 (uq_187_k r0 rp rb B n q d T H) := by
  have f0 : wfr [(54, 3), (42, 8), (42, 9), (42, 10), (42, 11), (42, 12), (42, 13), (42, 14), (42, 15), (56, 999), (57, 999), (60, 999), (63, 999), (58, 999), (59, 999), (55, 999), (61, 999), (62, 999)] T H H := wfr.rf
  have u4084 := RC_k hRC_r0
  have u4085 := DM_k hDM_rp
  have h4086 : MA9 T H rp (d 1) := hDM_rp.2.2.2.1
  have h4087 : MA10 T H rp (d 2) := hDM_rp.2.2.2.2.1
  have h4088 : MA11 T H rp (d 3) := hDM_rp.2.2.2.2.2.1
  have h4089 : MA12 T H rp (d 4) := hDM_rp.2.2.2.2.2.2.1
  have h4090 : MA13 T H rp (d 5) := hDM_rp.2.2.2.2.2.2.2.1
  have h4091 : MA14 T H rp (d 6) := hDM_rp.2.2.2.2.2.2.2.2.1
  have h4092 : MA15 T H rp (d 7) := hDM_rp.2.2.2.2.2.2.2.2.2.1
  have h4093 : MA16 T H rp (d 8) := hDM_rp.2.2.2.2.2.2.2.2.2.2.1
  have h4094 : MA17 T H rp (d 9) := hDM_rp.2.2.2.2.2.2.2.2.2.2.2.1
  have h4095 : MA18 T H rp (d 10) := hDM_rp.2.2.2.2.2.2.2.2.2.2.2.2.1
  have h4096 : MA19 T H rp (d 11) := hDM_rp.2.2.2.2.2.2.2.2.2.2.2.2.2.1
  have h4097 : MA20 T H rp (d 12) := hDM_rp.2.2.2.2.2.2.2.2.2.2.2.2.2.2.1
  have h4098 : MA21 T H rp (d 13) := hDM_rp.2.2.2.2.2.2.2.2.2.2.2.2.2.2.2.1
  have h4099 : MA22 T H rp (d 14) := hDM_rp.2.2.2.2.2.2.2.2.2.2.2.2.2.2.2.2.1
  have h4100 : MA23 T H rp (d 15) := hDM_rp.2.2.2.2.2.2.2.2.2.2.2.2.2.2.2.2.2.1
  have h4101 : MA25 T H rp (d 17) := hDM_rp.2.2.2.2.2.2.2.2.2.2.2.2.2.2.2.2.2.2.1
  have h4102 : MA26 T H rp (d 16) := hDM_rp.2.2.2.2.2.2.2.2.2.2.2.2.2.2.2.2.2.2.2
  intro v4103 v4104 v4105 v4106 v4107 H4108 w4109 f4110 b4112 b4113 b4114 b4115 b4116 h4117 h4118 x4119 x4120 x4121 x4122 x4123 x4124 x4125 x4126 x4127 x4128
  have f4129 : wfr [(54, 3), (42, 8), (42, 9), (42, 10), (42, 11), (42, 12), (42, 13), (42, 14), (42, 15), (56, 999), (57, 999), (60, 999), (63, 999), (58, 999), (59, 999), (55, 999), (61, 999), (62, 999)] T H H4108 := wfr.rf.tr f4110 rfl
  have u4130 := RC_k h4117
  have u4131 := DM_k h4118
  refine wp_of e187 c187_112 (rw_aload_n (pc' := 113) (v := .ref r0) rfl rfl rfl ?_)
  refine wp_of e187 c187_113 (rw_ldcS (pc' := 115) (k := 83) rfl rfl rfl rfl ?_)
  have k4132 : H4108 r0 5 = H r0 5 := (f4110 r0 5 _ g0 rfl)
  have q4133 : H4108 r0 5 = (rb : Int) := k4132.trans qrb
  refine wp_of e187 c187_115 (xc_V (pc' := 118) (r := r0) (as := [.ref 83]) (st := []) (lm_9_240) rfl rfl (Nat.le_of_ble_eq_true rfl) w4109 g0 sh_42 (by decide) rfl (by decide) (u_192_k (B := B) (n := n) (q := ((xN B n (xN B n (xN B n (xN B n (xN B n (xN B n (xN B n (xN B n (xN B n (xN B n q)))))))))))) (kk := 8423732) w4109 g0 rfl q4133 grb (by decide +kernel) h4117) (fun R4134 T4135 H4136 p4137 => ?_))
  obtain ⟨e4138, w4140, f4141, z4142, e4139, b4143, p4144⟩ := p4137
  subst e4138
  subst e4139
  rcases p4144 with ⟨a4145, a4146, a4147⟩ | ⟨a4148, a4149, a4150⟩
  · have f4151 := f4129.tr f4141 rfl
    have f4152 := f4110.tr f4141 rfl
    show wp _ _ 187 118 [(0, .ref r0), (1, vL v4103), (3, vI v4104), (4, vI v4105), (5, vI v4106), (6, vI v4107)] [vI z4142] _ H4136 _
    have u4153 := RC_k a4147
    refine wp_of e187 c187_118 (rw_if_eq (p1 := 131) (p2 := 121) (by decide) rfl ⟨by omega, by omega⟩ (fun c4154 => ?_) (fun c4154 => ?_))
    · exfalso
      omega
    · refine wp_of e187 c187_121 (rw_aload_n (pc' := 122) (v := .ref r0) rfl rfl rfl ?_)
      refine wp_of e187 c187_122 (rw_iconst (pc' := 123) rfl ?_)
      refine wp_of e187 c187_123 (rw_bipush (pc' := 125) (z := 23) rfl (by decide) ?_)
      have k4155 : H4136 r0 5 = H4108 r0 5 := (f4141 r0 5 _ g0 rfl)
      have q4156 : H4136 r0 5 = (rb : Int) := k4155.trans q4133
      refine wp_of e187 c187_125 (xc_V (pc' := 128) (r := r0) (as := [vI 0, vI 23]) (st := []) (lm_9_137) rfl rfl (Nat.le_of_ble_eq_true rfl) w4140 g0 sh_42 (by decide) rfl (by decide) (u_184_k (B := B) (n := n) (q := ((xN B n ((xN B n (xN B n (xN B n (xN B n (xN B n (xN B n (xN B n (xN B n (xN B n (xN B n q)))))))))))))) (lo := 0) (hi := 23) w4140 g0 ⟨by omega, by omega⟩ ⟨by omega, by omega⟩ q4156 grb (by omega) (by omega) a4147) (fun R4157 T4158 H4159 p4160 => ?_))
      obtain ⟨e4161, w4163, f4164, z4165, e4162, b4166, p4167⟩ := p4160
      subst e4161
      subst e4162
      rcases p4167 with ⟨a4168, a4169, a4170, a4171⟩ | ⟨a4172, a4173, a4174⟩
      · have f4175 := f4151.tr f4164 rfl
        have f4176 := f4152.tr f4164 rfl
        show wp _ _ 187 128 [(0, .ref r0), (1, vL v4103), (3, vI v4104), (4, vI v4105), (5, vI v4106), (6, vI v4107)] [vI z4165] _ H4159 _
        have u4177 := RC_k a4171
        refine wp_of e187 c187_128 (rw_goto (p1 := 132) (by decide) ?_)
        refine wp_of e187 c187_132 (rw_istore (pc' := 134) (z := z4165) (L' := [(7, vI z4165), (0, .ref r0), (1, vL v4103), (3, vI v4104), (4, vI v4105), (5, vI v4106), (6, vI v4107)]) rfl rfl rfl ?_)
        have _ea : xqa B n ((xN B n (xN B n (xN B n (xN B n (xN B n (xN B n (xN B n (xN B n (xN B n (xN B n q))))))))))) = ((xN B n ((xN B n ((xN B n (xN B n (xN B n (xN B n (xN B n (xN B n (xN B n (xN B n (xN B n (xN B n q))))))))))))))) := by
          unfold xqa
          first | rw [if_pos (by omega)] | rw [if_neg (by omega)]
        have _eh : xhb B n ((xN B n (xN B n (xN B n (xN B n (xN B n (xN B n (xN B n (xN B n (xN B n (xN B n q))))))))))) = z4165 := by
          unfold xhb
          first | (rw [if_pos (by omega)] <;> omega) | (rw [if_neg (by omega)] <;> omega)
        refine wp_of e187 c187_134 (rw_aload_n (pc' := 135) (v := .ref r0) rfl rfl rfl ?_)
        refine wp_of e187 c187_135 (rw_ldcS (pc' := 137) (k := 84) rfl rfl rfl rfl ?_)
        have k4178 : H4159 r0 5 = H4136 r0 5 := (f4164 r0 5 _ g0 rfl)
        have q4179 : H4159 r0 5 = (rb : Int) := k4178.trans q4156
        refine wp_of e187 c187_137 (xc_V (pc' := 140) (r := r0) (as := [.ref 84]) (st := []) (lm_9_240) rfl rfl (Nat.le_of_ble_eq_true rfl) w4163 g0 sh_42 (by decide) rfl (by decide) (u_192_k (B := B) (n := n) (q := ((xN B n ((xN B n ((xN B n (xN B n (xN B n (xN B n (xN B n (xN B n (xN B n (xN B n (xN B n (xN B n q)))))))))))))))) (kk := 14384) w4163 g0 rfl q4179 grb (by decide +kernel) a4171) (fun R4180 T4181 H4182 p4183 => ?_))
        obtain ⟨e4184, w4186, f4187, z4188, e4185, b4189, p4190⟩ := p4183
        subst e4184
        subst e4185
        rcases p4190 with ⟨a4191, a4192, a4193⟩ | ⟨a4194, a4195, a4196⟩
        · have f4197 := f4175.tr f4187 rfl
          have f4198 := f4176.tr f4187 rfl
          show wp _ _ 187 140 [(7, vI z4165), (0, .ref r0), (1, vL v4103), (3, vI v4104), (4, vI v4105), (5, vI v4106), (6, vI v4107)] [vI z4188] _ H4182 _
          have u4199 := RC_k a4193
          refine wp_of e187 c187_140 (rw_istore (pc' := 142) (z := z4188) (L' := [(8, vI z4188), (7, vI z4165), (0, .ref r0), (1, vL v4103), (3, vI v4104), (4, vI v4105), (5, vI v4106), (6, vI v4107)]) rfl rfl rfl ?_)
          refine wp_of e187 c187_142 (rw_iload (pc' := 144) (z := z4188) rfl rfl ?_)
          refine wp_of e187 c187_144 (rw_if_eq (p1 := 157) (p2 := 147) (by decide) rfl ⟨by omega, by omega⟩ (fun c4200 => ?_) (fun c4200 => ?_))
          · exfalso
            omega
          · refine wp_of e187 c187_147 (rw_aload_n (pc' := 148) (v := .ref r0) rfl rfl rfl ?_)
            refine wp_of e187 c187_148 (rw_iconst (pc' := 149) rfl ?_)
            refine wp_of e187 c187_149 (rw_bipush (pc' := 151) (z := 23) rfl (by decide) ?_)
            have k4201 : H4182 r0 5 = H4159 r0 5 := (f4187 r0 5 _ g0 rfl)
            have q4202 : H4182 r0 5 = (rb : Int) := k4201.trans q4179
            refine wp_of e187 c187_151 (xc_V (pc' := 154) (r := r0) (as := [vI 0, vI 23]) (st := []) (lm_9_137) rfl rfl (Nat.le_of_ble_eq_true rfl) w4186 g0 sh_42 (by decide) rfl (by decide) (u_184_k (B := B) (n := n) (q := ((xN B n ((xN B n ((xN B n ((xN B n (xN B n (xN B n (xN B n (xN B n (xN B n (xN B n (xN B n (xN B n (xN B n q)))))))))))))))))) (lo := 0) (hi := 23) w4186 g0 ⟨by omega, by omega⟩ ⟨by omega, by omega⟩ q4202 grb (by omega) (by omega) a4193) (fun R4203 T4204 H4205 p4206 => ?_))
            obtain ⟨e4207, w4209, f4210, z4211, e4208, b4212, p4213⟩ := p4206
            subst e4207
            subst e4208
            rcases p4213 with ⟨a4214, a4215, a4216, a4217⟩ | ⟨a4218, a4219, a4220⟩
            · have f4221 := f4197.tr f4210 rfl
              have f4222 := f4198.tr f4210 rfl
              show wp _ _ 187 154 [(8, vI z4188), (7, vI z4165), (0, .ref r0), (1, vL v4103), (3, vI v4104), (4, vI v4105), (5, vI v4106), (6, vI v4107)] [vI z4211] _ H4205 _
              have u4223 := RC_k a4217
              refine wp_of e187 c187_154 (rw_goto (p1 := 158) (by decide) ?_)
              refine wp_of e187 c187_158 (rw_istore (pc' := 160) (z := z4211) (L' := [(9, vI z4211), (8, vI z4188), (7, vI z4165), (0, .ref r0), (1, vL v4103), (3, vI v4104), (4, vI v4105), (5, vI v4106), (6, vI v4107)]) rfl rfl rfl ?_)
              refine wp_of e187 c187_160 (rw_iload (pc' := 162) (z := z4188) rfl rfl ?_)
              refine wp_of e187 c187_162 (rw_if_eq (p1 := 180) (p2 := 165) (by decide) rfl ⟨by omega, by omega⟩ (fun c4224 => ?_) (fun c4224 => ?_))
              · exfalso
                omega
              · refine wp_of e187 c187_165 (rw_aload_n (pc' := 166) (v := .ref r0) rfl rfl rfl ?_)
                refine wp_of e187 c187_166 (rw_ldcS (pc' := 168) (k := 87) rfl rfl rfl rfl ?_)
                refine wp_of e187 c187_168 (rw_iload (pc' := 170) (z := z4211) rfl rfl ?_)
                refine wp_of e187 c187_170 (rw_iconst (pc' := 171) rfl ?_)
                refine wp_of e187 c187_171 (rw_iadd (pc' := 172) rfl ?_)
                refine wp_of e187 c187_172 (rw_bipush (pc' := 174) (z := 24) rfl (by decide) ?_)
                have k4225 : H4205 r0 5 = H4182 r0 5 := (f4210 r0 5 _ g0 rfl)
                have q4226 : H4205 r0 5 = (rb : Int) := k4225.trans q4202
                refine wp_of e187 c187_174 (xc_V (pc' := 177) (r := r0) (as := [.ref 87, vI (z4211 + 1), vI 24]) (st := []) (lm_9_216) rfl rfl (Nat.le_of_ble_eq_true rfl) w4209 g0 sh_42 (by decide) rfl (by decide) (u_182_k (B := B) (n := n) (q := ((xN B n ((xN B n ((xN B n ((xN B n ((xN B n (xN B n (xN B n (xN B n (xN B n (xN B n (xN B n (xN B n (xN B n (xN B n q)))))))))))))))))))) (kk := 655) (lo := (xV B n (xN B n ((xN B n ((xN B n ((xN B n (xN B n (xN B n (xN B n (xN B n (xN B n (xN B n (xN B n (xN B n (xN B n q)))))))))))))))) + 1)) (hi := (min (xV B n (xN B n ((xN B n ((xN B n ((xN B n (xN B n (xN B n (xN B n (xN B n (xN B n (xN B n (xN B n (xN B n (xN B n q)))))))))))))))) + 24) 24)) w4209 g0 rfl ⟨by omega, by omega⟩ ⟨by omega, by omega⟩ q4226 grb (by decide +kernel) (by omega) (by omega) a4217) (fun R4227 T4228 H4229 p4230 => ?_))
                obtain ⟨e4231, w4233, f4234, z4235, e4232, b4236, p4237⟩ := p4230
                subst e4231
                subst e4232
                rcases p4237 with ⟨a4238, a4239, a4240, a4241, a4242, a4243⟩ | ⟨a4244, a4245, a4246⟩ | ⟨a4247, a4248, a4249, a4250⟩
                · have f4251 := f4221.tr f4234 rfl
                  have f4252 := f4222.tr f4234 rfl
                  show wp _ _ 187 177 [(9, vI z4211), (8, vI z4188), (7, vI z4165), (0, .ref r0), (1, vL v4103), (3, vI v4104), (4, vI v4105), (5, vI v4106), (6, vI v4107)] [vI z4235] _ H4229 _
                  have u4253 := RC_k a4243
                  refine wp_of e187 c187_177 (rw_goto (p1 := 181) (by decide) ?_)
                  refine wp_of e187 c187_181 (rw_istore (pc' := 183) (z := z4235) (L' := [(10, vI z4235), (9, vI z4211), (8, vI z4188), (7, vI z4165), (0, .ref r0), (1, vL v4103), (3, vI v4104), (4, vI v4105), (5, vI v4106), (6, vI v4107)]) rfl rfl rfl ?_)
                  have _eb : xqb B n ((xN B n ((xN B n ((xN B n (xN B n (xN B n (xN B n (xN B n (xN B n (xN B n (xN B n (xN B n (xN B n q))))))))))))))) = ((xN B n (xN B n ((xN B n ((xN B n ((xN B n ((xN B n ((xN B n (xN B n (xN B n (xN B n (xN B n (xN B n (xN B n (xN B n (xN B n (xN B n q)))))))))))))))))))))) := by
                    unfold xqb
                    first | rw [if_pos (by omega)] | rw [if_neg (by omega)]
                  have _enf : xnf B n ((xN B n ((xN B n ((xN B n (xN B n (xN B n (xN B n (xN B n (xN B n (xN B n (xN B n (xN B n (xN B n q))))))))))))))) = z4211 := by
                    unfold xnf
                    first | (rw [if_pos (by omega)] <;> omega) | (rw [if_neg (by omega)] <;> omega)
                  have _ent : xnt B n ((xN B n ((xN B n ((xN B n (xN B n (xN B n (xN B n (xN B n (xN B n (xN B n (xN B n (xN B n (xN B n q))))))))))))))) = z4235 := by
                    unfold xnt
                    first | (rw [if_pos (by omega)] <;> omega) | (rw [if_neg (by omega)] <;> omega)
                  refine wp_of e187 c187_183 (rw_aload_n (pc' := 184) (v := .ref r0) rfl rfl rfl ?_)
                  refine wp_of e187 c187_184 (rw_ldcS (pc' := 186) (k := 85) rfl rfl rfl rfl ?_)
                  have k4254 : H4229 r0 5 = H4205 r0 5 := (f4234 r0 5 _ g0 rfl)
                  have q4255 : H4229 r0 5 = (rb : Int) := k4254.trans q4226
                  refine wp_of e187 c187_186 (xc_V (pc' := 189) (r := r0) (as := [.ref 85]) (st := []) (lm_9_240) rfl rfl (Nat.le_of_ble_eq_true rfl) w4233 g0 sh_42 (by decide) rfl (by decide) (u_192_k (B := B) (n := n) (q := ((xN B n (xN B n ((xN B n ((xN B n ((xN B n ((xN B n ((xN B n (xN B n (xN B n (xN B n (xN B n (xN B n (xN B n (xN B n (xN B n (xN B n q))))))))))))))))))))))) (kk := 56377) w4233 g0 rfl q4255 grb (by decide +kernel) a4243) (fun R4256 T4257 H4258 p4259 => ?_))
                  obtain ⟨e4260, w4262, f4263, z4264, e4261, b4265, p4266⟩ := p4259
                  subst e4260
                  subst e4261
                  rcases p4266 with ⟨a4267, a4268, a4269⟩ | ⟨a4270, a4271, a4272⟩
                  · have f4273 := f4251.tr f4263 rfl
                    have f4274 := f4252.tr f4263 rfl
                    show wp _ _ 187 189 [(10, vI z4235), (9, vI z4211), (8, vI z4188), (7, vI z4165), (0, .ref r0), (1, vL v4103), (3, vI v4104), (4, vI v4105), (5, vI v4106), (6, vI v4107)] [vI z4264] _ H4258 _
                    have u4275 := RC_k a4269
                    refine wp_of e187 c187_189 (rw_istore (pc' := 191) (z := z4264) (L' := [(11, vI z4264), (10, vI z4235), (9, vI z4211), (8, vI z4188), (7, vI z4165), (0, .ref r0), (1, vL v4103), (3, vI v4104), (4, vI v4105), (5, vI v4106), (6, vI v4107)]) rfl rfl rfl ?_)
                    have _ec : xqc B n ((xN B n (xN B n ((xN B n ((xN B n ((xN B n ((xN B n ((xN B n (xN B n (xN B n (xN B n (xN B n (xN B n (xN B n (xN B n (xN B n (xN B n q)))))))))))))))))))))) = ((xN B n ((xN B n (xN B n ((xN B n ((xN B n ((xN B n ((xN B n ((xN B n (xN B n (xN B n (xN B n (xN B n (xN B n (xN B n (xN B n (xN B n (xN B n q)))))))))))))))))))))))) := by
                      unfold xqc
                      first | rw [if_pos (by omega)] | rw [if_neg (by omega)]
                    have _ew : xaw B n ((xN B n (xN B n ((xN B n ((xN B n ((xN B n ((xN B n ((xN B n (xN B n (xN B n (xN B n (xN B n (xN B n (xN B n (xN B n (xN B n (xN B n q)))))))))))))))))))))) = z4264 := by
                      unfold xaw
                      first | (rw [if_pos (by omega)] <;> omega) | (rw [if_neg (by omega)] <;> omega)
                    refine wp_of e187 c187_191 (rw_aload_n (pc' := 192) (v := .ref r0) rfl rfl rfl ?_)
                    refine wp_of e187 c187_192 (xg_I (pc' := 195) lf_9_75 w4262 g0 sh_42 (by decide) (by decide) ty_42_9 rfl rfl (fun b4276 b4277 => ?_))
                    refine wp_of e187 c187_195 (rw_iconst (pc' := 196) rfl ?_)
                    refine wp_of e187 c187_196 (rw_icmp_ne (p1 := 200) (p2 := 199) (by decide) rfl ⟨by omega, by omega⟩ ⟨by omega, by omega⟩ (fun c4278 => ?_) (fun c4278 => ?_))
                    · have o4279 : (xl1 B n q d) = (0, (xN B n (xN B n (xN B n (xN B n (xN B n (xN B n (xN B n (xN B n (xN B n (xN B n q)))))))))), (xN B n ((xN B n (xN B n ((xN B n ((xN B n ((xN B n ((xN B n ((xN B n (xN B n (xN B n (xN B n (xN B n (xN B n (xN B n (xN B n (xN B n (xN B n q)))))))))))))))))))))))) := by
                        rw [x4119]
                        unfold xcs xca xcb xrg
                        try simp only [xs_xs, xs_z]
                        try rw [_ea]
                        try rw [_eb]
                        try rw [_ec]
                        repeat first | rw [xs_0 (by omega)] | rw [xs_1 (by omega)] | rw [if_pos (by omega)] | rw [if_neg (by omega)]
                        first | done | rfl | assumption | (exfalso; omega) | (refine Prod.ext ?_ (Prod.ext ?_ ?_) <;> (try dsimp only) <;> omega)
                      have o4279a : ((xl1 B n q d)).1 = 0 := by rw [o4279]
                      have o4279b : ((xl1 B n q d)).2.1 = (xN B n (xN B n (xN B n (xN B n (xN B n (xN B n (xN B n (xN B n (xN B n (xN B n q)))))))))) := by rw [o4279]
                      have o4279c : ((xl1 B n q d)).2.2 = (xN B n ((xN B n (xN B n ((xN B n ((xN B n ((xN B n ((xN B n ((xN B n (xN B n (xN B n (xN B n (xN B n (xN B n (xN B n (xN B n (xN B n (xN B n q))))))))))))))))))))))) := by rw [o4279]
                      have h4280 : DM T H4258 rp r0 d := (DM_fr w4233 grp f4263 rfl (DM_fr w4209 grp f4234 rfl (DM_fr w4186 grp f4210 rfl (DM_fr w4163 grp f4187 rfl (DM_fr w4140 grp f4164 rfl (DM_fr w4109 grp f4141 rfl h4118))))))
                      exact wp_lc (ks := [11, 10, 9, 8, 7, 0, 1, 3, 4, 5, 6]) (wl_c rfl (wl_c rfl (wl_c rfl (wl_c rfl (wl_c rfl (wl_c rfl (wl_c rfl (wl_c rfl (wl_c rfl (wl_c rfl wl_n)))))))))) rfl (by decide) (u_187_k_t200k hW g0 qrp grp qrb grb p0 hRC_r0 hDM_rp v4103 v4104 v4105 v4106 v4107 z4165 z4211 z4235 z4264 H4258 w4262 f4274 ⟨by omega, by omega⟩ ⟨by omega, by omega⟩ ⟨by omega, by omega⟩ ⟨by omega, by omega⟩ ⟨by omega, by omega⟩ ⟨by omega, by omega⟩ ⟨by omega, by omega⟩ ⟨by omega, by omega⟩ ⟨by omega, by omega⟩ (by rw [show (xl1 B n q d).2.2 = ((xN B n ((xN B n (xN B n ((xN B n ((xN B n ((xN B n ((xN B n ((xN B n (xN B n (xN B n (xN B n (xN B n (xN B n (xN B n (xN B n (xN B n (xN B n q)))))))))))))))))))))))) by omega]; exact a4269) h4280 (by omega) (by omega) (by omega) (by omega) (by omega) (by omega) (by omega) (by omega) (by omega) (by omega) (by omega) (by rw [_ea]; exact _enf) (by rw [_ea]; exact _ent) (by rw [_ea, _eb]; exact _ew) (by omega))
                    · exfalso
                      omega
                  · have f4281 := f4251.tr f4263 rfl
                    have f4282 := f4252.tr f4263 rfl
                    show wp _ _ 187 189 [(10, vI z4235), (9, vI z4211), (8, vI z4188), (7, vI z4165), (0, .ref r0), (1, vL v4103), (3, vI v4104), (4, vI v4105), (5, vI v4106), (6, vI v4107)] [vI z4264] _ H4258 _
                    have u4283 := RC_k a4272
                    refine wp_of e187 c187_189 (rw_istore (pc' := 191) (z := z4264) (L' := [(11, vI z4264), (10, vI z4235), (9, vI z4211), (8, vI z4188), (7, vI z4165), (0, .ref r0), (1, vL v4103), (3, vI v4104), (4, vI v4105), (5, vI v4106), (6, vI v4107)]) rfl rfl rfl ?_)
                    have _ec : xqc B n ((xN B n (xN B n ((xN B n ((xN B n ((xN B n ((xN B n ((xN B n (xN B n (xN B n (xN B n (xN B n (xN B n (xN B n (xN B n (xN B n (xN B n q)))))))))))))))))))))) = ((xN B n (xN B n ((xN B n ((xN B n ((xN B n ((xN B n ((xN B n (xN B n (xN B n (xN B n (xN B n (xN B n (xN B n (xN B n (xN B n (xN B n q)))))))))))))))))))))) := by
                      unfold xqc
                      first | rw [if_pos (by omega)] | rw [if_neg (by omega)]
                    have _ew : xaw B n ((xN B n (xN B n ((xN B n ((xN B n ((xN B n ((xN B n ((xN B n (xN B n (xN B n (xN B n (xN B n (xN B n (xN B n (xN B n (xN B n (xN B n q)))))))))))))))))))))) = z4264 := by
                      unfold xaw
                      first | (rw [if_pos (by omega)] <;> omega) | (rw [if_neg (by omega)] <;> omega)
                    refine wp_of e187 c187_191 (rw_aload_n (pc' := 192) (v := .ref r0) rfl rfl rfl ?_)
                    refine wp_of e187 c187_192 (xg_I (pc' := 195) lf_9_75 w4262 g0 sh_42 (by decide) (by decide) ty_42_9 rfl rfl (fun b4284 b4285 => ?_))
                    refine wp_of e187 c187_195 (rw_iconst (pc' := 196) rfl ?_)
                    refine wp_of e187 c187_196 (rw_icmp_ne (p1 := 200) (p2 := 199) (by decide) rfl ⟨by omega, by omega⟩ ⟨by omega, by omega⟩ (fun c4286 => ?_) (fun c4286 => ?_))
                    · have o4287 : (xl1 B n q d) = (0, (xN B n (xN B n (xN B n (xN B n (xN B n (xN B n (xN B n (xN B n (xN B n (xN B n q)))))))))), (xN B n (xN B n ((xN B n ((xN B n ((xN B n ((xN B n ((xN B n (xN B n (xN B n (xN B n (xN B n (xN B n (xN B n (xN B n (xN B n (xN B n q)))))))))))))))))))))) := by
                        rw [x4119]
                        unfold xcs xca xcb xrg
                        try simp only [xs_xs, xs_z]
                        try rw [_ea]
                        try rw [_eb]
                        try rw [_ec]
                        repeat first | rw [xs_0 (by omega)] | rw [xs_1 (by omega)] | rw [if_pos (by omega)] | rw [if_neg (by omega)]
                        first | done | rfl | assumption | (exfalso; omega) | (refine Prod.ext ?_ (Prod.ext ?_ ?_) <;> (try dsimp only) <;> omega)
                      have o4287a : ((xl1 B n q d)).1 = 0 := by rw [o4287]
                      have o4287b : ((xl1 B n q d)).2.1 = (xN B n (xN B n (xN B n (xN B n (xN B n (xN B n (xN B n (xN B n (xN B n (xN B n q)))))))))) := by rw [o4287]
                      have o4287c : ((xl1 B n q d)).2.2 = (xN B n (xN B n ((xN B n ((xN B n ((xN B n ((xN B n ((xN B n (xN B n (xN B n (xN B n (xN B n (xN B n (xN B n (xN B n (xN B n (xN B n q))))))))))))))))))))) := by rw [o4287]
                      have h4288 : DM T H4258 rp r0 d := (DM_fr w4233 grp f4263 rfl (DM_fr w4209 grp f4234 rfl (DM_fr w4186 grp f4210 rfl (DM_fr w4163 grp f4187 rfl (DM_fr w4140 grp f4164 rfl (DM_fr w4109 grp f4141 rfl h4118))))))
                      exact wp_lc (ks := [11, 10, 9, 8, 7, 0, 1, 3, 4, 5, 6]) (wl_c rfl (wl_c rfl (wl_c rfl (wl_c rfl (wl_c rfl (wl_c rfl (wl_c rfl (wl_c rfl (wl_c rfl (wl_c rfl wl_n)))))))))) rfl (by decide) (u_187_k_t200k hW g0 qrp grp qrb grb p0 hRC_r0 hDM_rp v4103 v4104 v4105 v4106 v4107 z4165 z4211 z4235 z4264 H4258 w4262 f4282 ⟨by omega, by omega⟩ ⟨by omega, by omega⟩ ⟨by omega, by omega⟩ ⟨by omega, by omega⟩ ⟨by omega, by omega⟩ ⟨by omega, by omega⟩ ⟨by omega, by omega⟩ ⟨by omega, by omega⟩ ⟨by omega, by omega⟩ (by rw [show (xl1 B n q d).2.2 = ((xN B n (xN B n ((xN B n ((xN B n ((xN B n ((xN B n ((xN B n (xN B n (xN B n (xN B n (xN B n (xN B n (xN B n (xN B n (xN B n (xN B n q)))))))))))))))))))))) by omega]; exact a4272) h4288 (by omega) (by omega) (by omega) (by omega) (by omega) (by omega) (by omega) (by omega) (by omega) (by omega) (by omega) (by rw [_ea]; exact _enf) (by rw [_ea]; exact _ent) (by rw [_ea, _eb]; exact _ew) (by omega))
                    · exfalso
                      omega
                · have f4289 := f4221.tr f4234 rfl
                  have f4290 := f4222.tr f4234 rfl
                  show wp _ _ 187 177 [(9, vI z4211), (8, vI z4188), (7, vI z4165), (0, .ref r0), (1, vL v4103), (3, vI v4104), (4, vI v4105), (5, vI v4106), (6, vI v4107)] [vI z4235] _ H4229 _
                  have u4291 := RO_k a4246
                  refine wp_of e187 c187_177 (rw_goto (p1 := 181) (by decide) ?_)
                  refine wp_of e187 c187_181 (rw_istore (pc' := 183) (z := z4235) (L' := [(10, vI z4235), (9, vI z4211), (8, vI z4188), (7, vI z4165), (0, .ref r0), (1, vL v4103), (3, vI v4104), (4, vI v4105), (5, vI v4106), (6, vI v4107)]) rfl rfl rfl ?_)
                  have o4292 : (xl1 B n q d) = (xw B n ((xN B n ((xN B n ((xN B n ((xN B n ((xN B n (xN B n (xN B n (xN B n (xN B n (xN B n (xN B n (xN B n (xN B n (xN B n q))))))))))))))))))) 655, ((xN B n ((xN B n ((xN B n ((xN B n ((xN B n (xN B n (xN B n (xN B n (xN B n (xN B n (xN B n (xN B n (xN B n (xN B n q))))))))))))))))))), ((xN B n ((xN B n ((xN B n ((xN B n ((xN B n (xN B n (xN B n (xN B n (xN B n (xN B n (xN B n (xN B n (xN B n (xN B n q)))))))))))))))))))) := by
                    rw [x4119]
                    unfold xcs xca xcb xrg
                    try simp only [xs_xs, xs_z]
                    try rw [_ea]
                    try rw [_eb]
                    try rw [_ec]
                    repeat first | rw [xs_0 (by omega)] | rw [xs_1 (by omega)] | rw [if_pos (by omega)] | rw [if_neg (by omega)]
                    first | done | rfl | assumption | (exfalso; omega) | (refine Prod.ext ?_ (Prod.ext ?_ ?_) <;> (try dsimp only) <;> omega)
                  have o4292a : ((xl1 B n q d)).1 = xw B n ((xN B n ((xN B n ((xN B n ((xN B n ((xN B n (xN B n (xN B n (xN B n (xN B n (xN B n (xN B n (xN B n (xN B n (xN B n q))))))))))))))))))) 655 := by rw [o4292]
                  have o4292b : ((xl1 B n q d)).2.1 = ((xN B n ((xN B n ((xN B n ((xN B n ((xN B n (xN B n (xN B n (xN B n (xN B n (xN B n (xN B n (xN B n (xN B n (xN B n q))))))))))))))))))) := by rw [o4292]
                  have o4292c : ((xl1 B n q d)).2.2 = ((xN B n ((xN B n ((xN B n ((xN B n ((xN B n (xN B n (xN B n (xN B n (xN B n (xN B n (xN B n (xN B n (xN B n (xN B n q))))))))))))))))))) := by rw [o4292]
                  exact wp_lc (ks := [10, 9, 8, 7, 0, 1, 3, 4, 5, 6]) (wl_c rfl (wl_c rfl (wl_c rfl (wl_c rfl (wl_c rfl (wl_c rfl (wl_c rfl (wl_c rfl (wl_c rfl wl_n))))))))) rfl (by decide) (u_187_k_t183o hW g0 qrp grp qrb grb p0 hRC_r0 hDM_rp v4103 v4104 v4105 v4106 v4107 z4165 z4211 z4235 H4229 (xw B n ((xN B n ((xN B n ((xN B n ((xN B n ((xN B n (xN B n (xN B n (xN B n (xN B n (xN B n (xN B n (xN B n (xN B n (xN B n q))))))))))))))))))) 655) (((xN B n ((xN B n ((xN B n ((xN B n ((xN B n (xN B n (xN B n (xN B n (xN B n (xN B n (xN B n (xN B n (xN B n (xN B n q)))))))))))))))))))) w4233 f4290 ⟨by omega, by omega⟩ ⟨by omega, by omega⟩ ⟨by omega, by omega⟩ ⟨by omega, by omega⟩ ⟨by omega, by omega⟩ ⟨by omega, by omega⟩ ⟨by omega, by omega⟩ ⟨by omega, by omega⟩ a4246 (by omega) (by omega))
                · have f4293 := f4221.tr f4234 rfl
                  have f4294 := f4222.tr f4234 rfl
                  show wp _ _ 187 177 [(9, vI z4211), (8, vI z4188), (7, vI z4165), (0, .ref r0), (1, vL v4103), (3, vI v4104), (4, vI v4105), (5, vI v4106), (6, vI v4107)] [vI z4235] _ H4229 _
                  have u4295 := RO_k a4250
                  refine wp_of e187 c187_177 (rw_goto (p1 := 181) (by decide) ?_)
                  refine wp_of e187 c187_181 (rw_istore (pc' := 183) (z := z4235) (L' := [(10, vI z4235), (9, vI z4211), (8, vI z4188), (7, vI z4165), (0, .ref r0), (1, vL v4103), (3, vI v4104), (4, vI v4105), (5, vI v4106), (6, vI v4107)]) rfl rfl rfl ?_)
                  have o4296 : (xl1 B n q d) = (xh B n (xN B n ((xN B n ((xN B n ((xN B n ((xN B n ((xN B n (xN B n (xN B n (xN B n (xN B n (xN B n (xN B n (xN B n (xN B n (xN B n q)))))))))))))))))))) (xV B n (xN B n ((xN B n ((xN B n ((xN B n (xN B n (xN B n (xN B n (xN B n (xN B n (xN B n (xN B n (xN B n (xN B n q)))))))))))))))) + 1) (min (xV B n (xN B n ((xN B n ((xN B n ((xN B n (xN B n (xN B n (xN B n (xN B n (xN B n (xN B n (xN B n (xN B n (xN B n q)))))))))))))))) + 24) 24), (xN B n ((xN B n ((xN B n ((xN B n ((xN B n ((xN B n (xN B n (xN B n (xN B n (xN B n (xN B n (xN B n (xN B n (xN B n (xN B n q)))))))))))))))))))), (xN B n ((xN B n ((xN B n ((xN B n ((xN B n ((xN B n (xN B n (xN B n (xN B n (xN B n (xN B n (xN B n (xN B n (xN B n (xN B n q))))))))))))))))))))) := by
                    rw [x4119]
                    unfold xcs xca xcb xrg
                    try simp only [xs_xs, xs_z]
                    try rw [_ea]
                    try rw [_eb]
                    try rw [_ec]
                    repeat first | rw [xs_0 (by omega)] | rw [xs_1 (by omega)] | rw [if_pos (by omega)] | rw [if_neg (by omega)]
                    first | done | rfl | assumption | (exfalso; omega) | (refine Prod.ext ?_ (Prod.ext ?_ ?_) <;> (try dsimp only) <;> omega)
                  have o4296a : ((xl1 B n q d)).1 = xh B n (xN B n ((xN B n ((xN B n ((xN B n ((xN B n ((xN B n (xN B n (xN B n (xN B n (xN B n (xN B n (xN B n (xN B n (xN B n (xN B n q)))))))))))))))))))) (xV B n (xN B n ((xN B n ((xN B n ((xN B n (xN B n (xN B n (xN B n (xN B n (xN B n (xN B n (xN B n (xN B n (xN B n q)))))))))))))))) + 1) (min (xV B n (xN B n ((xN B n ((xN B n ((xN B n (xN B n (xN B n (xN B n (xN B n (xN B n (xN B n (xN B n (xN B n (xN B n q)))))))))))))))) + 24) 24) := by rw [o4296]
                  have o4296b : ((xl1 B n q d)).2.1 = (xN B n ((xN B n ((xN B n ((xN B n ((xN B n ((xN B n (xN B n (xN B n (xN B n (xN B n (xN B n (xN B n (xN B n (xN B n (xN B n q)))))))))))))))))))) := by rw [o4296]
                  have o4296c : ((xl1 B n q d)).2.2 = (xN B n ((xN B n ((xN B n ((xN B n ((xN B n ((xN B n (xN B n (xN B n (xN B n (xN B n (xN B n (xN B n (xN B n (xN B n (xN B n q)))))))))))))))))))) := by rw [o4296]
                  exact wp_lc (ks := [10, 9, 8, 7, 0, 1, 3, 4, 5, 6]) (wl_c rfl (wl_c rfl (wl_c rfl (wl_c rfl (wl_c rfl (wl_c rfl (wl_c rfl (wl_c rfl (wl_c rfl wl_n))))))))) rfl (by decide) (u_187_k_t183o hW g0 qrp grp qrb grb p0 hRC_r0 hDM_rp v4103 v4104 v4105 v4106 v4107 z4165 z4211 z4235 H4229 (xh B n (xN B n ((xN B n ((xN B n ((xN B n ((xN B n ((xN B n (xN B n (xN B n (xN B n (xN B n (xN B n (xN B n (xN B n (xN B n (xN B n q)))))))))))))))))))) (xV B n (xN B n ((xN B n ((xN B n ((xN B n (xN B n (xN B n (xN B n (xN B n (xN B n (xN B n (xN B n (xN B n (xN B n q)))))))))))))))) + 1) (min (xV B n (xN B n ((xN B n ((xN B n ((xN B n (xN B n (xN B n (xN B n (xN B n (xN B n (xN B n (xN B n (xN B n (xN B n q)))))))))))))))) + 24) 24)) ((xN B n ((xN B n ((xN B n ((xN B n ((xN B n ((xN B n (xN B n (xN B n (xN B n (xN B n (xN B n (xN B n (xN B n (xN B n (xN B n q))))))))))))))))))))) w4233 f4294 ⟨by omega, by omega⟩ ⟨by omega, by omega⟩ ⟨by omega, by omega⟩ ⟨by omega, by omega⟩ ⟨by omega, by omega⟩ ⟨by omega, by omega⟩ ⟨by omega, by omega⟩ ⟨by omega, by omega⟩ a4250 (by omega) (by omega))
            · have f4297 := f4197.tr f4210 rfl
              have f4298 := f4198.tr f4210 rfl
              show wp _ _ 187 154 [(8, vI z4188), (7, vI z4165), (0, .ref r0), (1, vL v4103), (3, vI v4104), (4, vI v4105), (5, vI v4106), (6, vI v4107)] [vI z4211] _ H4205 _
              have u4299 := RO_k a4220
              refine wp_of e187 c187_154 (rw_goto (p1 := 158) (by decide) ?_)
              refine wp_of e187 c187_158 (rw_istore (pc' := 160) (z := z4211) (L' := [(9, vI z4211), (8, vI z4188), (7, vI z4165), (0, .ref r0), (1, vL v4103), (3, vI v4104), (4, vI v4105), (5, vI v4106), (6, vI v4107)]) rfl rfl rfl ?_)
              refine wp_of e187 c187_160 (rw_iload (pc' := 162) (z := z4188) rfl rfl ?_)
              refine wp_of e187 c187_162 (rw_if_eq (p1 := 180) (p2 := 165) (by decide) rfl ⟨by omega, by omega⟩ (fun c4300 => ?_) (fun c4300 => ?_))
              · exfalso
                omega
              · refine wp_of e187 c187_165 (rw_aload_n (pc' := 166) (v := .ref r0) rfl rfl rfl ?_)
                refine wp_of e187 c187_166 (rw_ldcS (pc' := 168) (k := 87) rfl rfl rfl rfl ?_)
                refine wp_of e187 c187_168 (rw_iload (pc' := 170) (z := z4211) rfl rfl ?_)
                refine wp_of e187 c187_170 (rw_iconst (pc' := 171) rfl ?_)
                refine wp_of e187 c187_171 (rw_iadd (pc' := 172) rfl ?_)
                refine wp_of e187 c187_172 (rw_bipush (pc' := 174) (z := 24) rfl (by decide) ?_)
                have k4301 : H4205 r0 5 = H4182 r0 5 := (f4210 r0 5 _ g0 rfl)
                have q4302 : H4205 r0 5 = (rb : Int) := k4301.trans q4202
                refine wp_of e187 c187_174 (xc_V (pc' := 177) (r := r0) (as := [.ref 87, vI (z4211 + 1), vI 24]) (st := []) (lm_9_216) rfl rfl (Nat.le_of_ble_eq_true rfl) w4209 g0 sh_42 (by decide) rfl (by decide) (u_182_o (fo := (xh B n ((xN B n ((xN B n ((xN B n ((xN B n (xN B n (xN B n (xN B n (xN B n (xN B n (xN B n (xN B n (xN B n (xN B n q))))))))))))))))) 0 23)) (po := (((xN B n ((xN B n ((xN B n ((xN B n (xN B n (xN B n (xN B n (xN B n (xN B n (xN B n (xN B n (xN B n (xN B n q))))))))))))))))))) (kk := 655) w4209 g0 rfl ⟨by omega, by omega⟩ ⟨by omega, by omega⟩ q4302 grb (by decide +kernel) a4220) (fun R4303 T4304 H4305 p4306 => ?_))
                obtain ⟨e4307, e4309, z4310, e4308, b4311, p4312⟩ := p4306
                subst e4307
                subst e4308
                subst e4309
                obtain ⟨a4313, a4314⟩ := p4312
                show wp _ _ 187 177 [(9, vI z4211), (8, vI z4188), (7, vI z4165), (0, .ref r0), (1, vL v4103), (3, vI v4104), (4, vI v4105), (5, vI v4106), (6, vI v4107)] [vI z4310] _ H4205 _
                have u4315 := RO_k a4314
                refine wp_of e187 c187_177 (rw_goto (p1 := 181) (by decide) ?_)
                refine wp_of e187 c187_181 (rw_istore (pc' := 183) (z := z4310) (L' := [(10, vI z4310), (9, vI z4211), (8, vI z4188), (7, vI z4165), (0, .ref r0), (1, vL v4103), (3, vI v4104), (4, vI v4105), (5, vI v4106), (6, vI v4107)]) rfl rfl rfl ?_)
                have o4316 : (xl1 B n q d) = (xh B n ((xN B n ((xN B n ((xN B n ((xN B n (xN B n (xN B n (xN B n (xN B n (xN B n (xN B n (xN B n (xN B n (xN B n q))))))))))))))))) 0 23, ((xN B n ((xN B n ((xN B n ((xN B n (xN B n (xN B n (xN B n (xN B n (xN B n (xN B n (xN B n (xN B n (xN B n q))))))))))))))))), ((xN B n ((xN B n ((xN B n ((xN B n (xN B n (xN B n (xN B n (xN B n (xN B n (xN B n (xN B n (xN B n (xN B n q)))))))))))))))))) := by
                  rw [x4119]
                  unfold xcs xca xcb xrg
                  try simp only [xs_xs, xs_z]
                  try rw [_ea]
                  try rw [_eb]
                  try rw [_ec]
                  repeat first | rw [xs_0 (by omega)] | rw [xs_1 (by omega)] | rw [if_pos (by omega)] | rw [if_neg (by omega)]
                  first | done | rfl | assumption | (exfalso; omega) | (refine Prod.ext ?_ (Prod.ext ?_ ?_) <;> (try dsimp only) <;> omega)
                have o4316a : ((xl1 B n q d)).1 = xh B n ((xN B n ((xN B n ((xN B n ((xN B n (xN B n (xN B n (xN B n (xN B n (xN B n (xN B n (xN B n (xN B n (xN B n q))))))))))))))))) 0 23 := by rw [o4316]
                have o4316b : ((xl1 B n q d)).2.1 = ((xN B n ((xN B n ((xN B n ((xN B n (xN B n (xN B n (xN B n (xN B n (xN B n (xN B n (xN B n (xN B n (xN B n q))))))))))))))))) := by rw [o4316]
                have o4316c : ((xl1 B n q d)).2.2 = ((xN B n ((xN B n ((xN B n ((xN B n (xN B n (xN B n (xN B n (xN B n (xN B n (xN B n (xN B n (xN B n (xN B n q))))))))))))))))) := by rw [o4316]
                exact wp_lc (ks := [10, 9, 8, 7, 0, 1, 3, 4, 5, 6]) (wl_c rfl (wl_c rfl (wl_c rfl (wl_c rfl (wl_c rfl (wl_c rfl (wl_c rfl (wl_c rfl (wl_c rfl wl_n))))))))) rfl (by decide) (u_187_k_t183o hW g0 qrp grp qrb grb p0 hRC_r0 hDM_rp v4103 v4104 v4105 v4106 v4107 z4165 z4211 z4310 H4205 (xh B n ((xN B n ((xN B n ((xN B n ((xN B n (xN B n (xN B n (xN B n (xN B n (xN B n (xN B n (xN B n (xN B n (xN B n q))))))))))))))))) 0 23) (((xN B n ((xN B n ((xN B n ((xN B n (xN B n (xN B n (xN B n (xN B n (xN B n (xN B n (xN B n (xN B n (xN B n q)))))))))))))))))) w4209 f4298 ⟨by omega, by omega⟩ ⟨by omega, by omega⟩ ⟨by omega, by omega⟩ ⟨by omega, by omega⟩ ⟨by omega, by omega⟩ ⟨by omega, by omega⟩ ⟨by omega, by omega⟩ ⟨by omega, by omega⟩ a4314 (by omega) (by omega))
        · have f4317 := f4175.tr f4187 rfl
          have f4318 := f4176.tr f4187 rfl
          show wp _ _ 187 140 [(7, vI z4165), (0, .ref r0), (1, vL v4103), (3, vI v4104), (4, vI v4105), (5, vI v4106), (6, vI v4107)] [vI z4188] _ H4182 _
          have u4319 := RC_k a4196
          refine wp_of e187 c187_140 (rw_istore (pc' := 142) (z := z4188) (L' := [(8, vI z4188), (7, vI z4165), (0, .ref r0), (1, vL v4103), (3, vI v4104), (4, vI v4105), (5, vI v4106), (6, vI v4107)]) rfl rfl rfl ?_)
          refine wp_of e187 c187_142 (rw_iload (pc' := 144) (z := z4188) rfl rfl ?_)
          refine wp_of e187 c187_144 (rw_if_eq (p1 := 157) (p2 := 147) (by decide) rfl ⟨by omega, by omega⟩ (fun c4320 => ?_) (fun c4320 => ?_))
          · refine wp_of e187 c187_157 (rw_iconst (pc' := 158) rfl ?_)
            refine wp_of e187 c187_158 (rw_istore (pc' := 160) (z := 0) (L' := [(9, vI 0), (8, vI z4188), (7, vI z4165), (0, .ref r0), (1, vL v4103), (3, vI v4104), (4, vI v4105), (5, vI v4106), (6, vI v4107)]) rfl rfl rfl ?_)
            refine wp_of e187 c187_160 (rw_iload (pc' := 162) (z := z4188) rfl rfl ?_)
            refine wp_of e187 c187_162 (rw_if_eq (p1 := 180) (p2 := 165) (by decide) rfl ⟨by omega, by omega⟩ (fun c4321 => ?_) (fun c4321 => ?_))
            · refine wp_of e187 c187_180 (rw_iconst (pc' := 181) rfl ?_)
              refine wp_of e187 c187_181 (rw_istore (pc' := 183) (z := 0) (L' := [(10, vI 0), (9, vI 0), (8, vI z4188), (7, vI z4165), (0, .ref r0), (1, vL v4103), (3, vI v4104), (4, vI v4105), (5, vI v4106), (6, vI v4107)]) rfl rfl rfl ?_)
              have _eb : xqb B n ((xN B n ((xN B n ((xN B n (xN B n (xN B n (xN B n (xN B n (xN B n (xN B n (xN B n (xN B n (xN B n q))))))))))))))) = ((xN B n ((xN B n ((xN B n (xN B n (xN B n (xN B n (xN B n (xN B n (xN B n (xN B n (xN B n (xN B n q))))))))))))))) := by
                unfold xqb
                first | rw [if_pos (by omega)] | rw [if_neg (by omega)]
              have _enf : xnf B n ((xN B n ((xN B n ((xN B n (xN B n (xN B n (xN B n (xN B n (xN B n (xN B n (xN B n (xN B n (xN B n q))))))))))))))) = 0 := by
                unfold xnf
                first | (rw [if_pos (by omega)] <;> omega) | (rw [if_neg (by omega)] <;> omega)
              have _ent : xnt B n ((xN B n ((xN B n ((xN B n (xN B n (xN B n (xN B n (xN B n (xN B n (xN B n (xN B n (xN B n (xN B n q))))))))))))))) = 0 := by
                unfold xnt
                first | (rw [if_pos (by omega)] <;> omega) | (rw [if_neg (by omega)] <;> omega)
              refine wp_of e187 c187_183 (rw_aload_n (pc' := 184) (v := .ref r0) rfl rfl rfl ?_)
              refine wp_of e187 c187_184 (rw_ldcS (pc' := 186) (k := 85) rfl rfl rfl rfl ?_)
              have k4322 : H4182 r0 5 = H4159 r0 5 := (f4187 r0 5 _ g0 rfl)
              have q4323 : H4182 r0 5 = (rb : Int) := k4322.trans q4179
              refine wp_of e187 c187_186 (xc_V (pc' := 189) (r := r0) (as := [.ref 85]) (st := []) (lm_9_240) rfl rfl (Nat.le_of_ble_eq_true rfl) w4186 g0 sh_42 (by decide) rfl (by decide) (u_192_k (B := B) (n := n) (q := ((xN B n ((xN B n ((xN B n (xN B n (xN B n (xN B n (xN B n (xN B n (xN B n (xN B n (xN B n (xN B n q)))))))))))))))) (kk := 56377) w4186 g0 rfl q4323 grb (by decide +kernel) a4196) (fun R4324 T4325 H4326 p4327 => ?_))
              obtain ⟨e4328, w4330, f4331, z4332, e4329, b4333, p4334⟩ := p4327
              subst e4328
              subst e4329
              rcases p4334 with ⟨a4335, a4336, a4337⟩ | ⟨a4338, a4339, a4340⟩
              · have f4341 := f4317.tr f4331 rfl
                have f4342 := f4318.tr f4331 rfl
                show wp _ _ 187 189 [(10, vI 0), (9, vI 0), (8, vI z4188), (7, vI z4165), (0, .ref r0), (1, vL v4103), (3, vI v4104), (4, vI v4105), (5, vI v4106), (6, vI v4107)] [vI z4332] _ H4326 _
                have u4343 := RC_k a4337
                refine wp_of e187 c187_189 (rw_istore (pc' := 191) (z := z4332) (L' := [(11, vI z4332), (10, vI 0), (9, vI 0), (8, vI z4188), (7, vI z4165), (0, .ref r0), (1, vL v4103), (3, vI v4104), (4, vI v4105), (5, vI v4106), (6, vI v4107)]) rfl rfl rfl ?_)
                have _ec : xqc B n ((xN B n ((xN B n ((xN B n (xN B n (xN B n (xN B n (xN B n (xN B n (xN B n (xN B n (xN B n (xN B n q))))))))))))))) = ((xN B n ((xN B n ((xN B n ((xN B n (xN B n (xN B n (xN B n (xN B n (xN B n (xN B n (xN B n (xN B n (xN B n q))))))))))))))))) := by
                  unfold xqc
                  first | rw [if_pos (by omega)] | rw [if_neg (by omega)]
                have _ew : xaw B n ((xN B n ((xN B n ((xN B n (xN B n (xN B n (xN B n (xN B n (xN B n (xN B n (xN B n (xN B n (xN B n q))))))))))))))) = z4332 := by
                  unfold xaw
                  first | (rw [if_pos (by omega)] <;> omega) | (rw [if_neg (by omega)] <;> omega)
                refine wp_of e187 c187_191 (rw_aload_n (pc' := 192) (v := .ref r0) rfl rfl rfl ?_)
                refine wp_of e187 c187_192 (xg_I (pc' := 195) lf_9_75 w4330 g0 sh_42 (by decide) (by decide) ty_42_9 rfl rfl (fun b4344 b4345 => ?_))
                refine wp_of e187 c187_195 (rw_iconst (pc' := 196) rfl ?_)
                refine wp_of e187 c187_196 (rw_icmp_ne (p1 := 200) (p2 := 199) (by decide) rfl ⟨by omega, by omega⟩ ⟨by omega, by omega⟩ (fun c4346 => ?_) (fun c4346 => ?_))
                · have o4347 : (xl1 B n q d) = (0, (xN B n (xN B n (xN B n (xN B n (xN B n (xN B n (xN B n (xN B n (xN B n (xN B n q)))))))))), (xN B n ((xN B n ((xN B n ((xN B n (xN B n (xN B n (xN B n (xN B n (xN B n (xN B n (xN B n (xN B n (xN B n q))))))))))))))))) := by
                    rw [x4119]
                    unfold xcs xca xcb xrg
                    try simp only [xs_xs, xs_z]
                    try rw [_ea]
                    try rw [_eb]
                    try rw [_ec]
                    repeat first | rw [xs_0 (by omega)] | rw [xs_1 (by omega)] | rw [if_pos (by omega)] | rw [if_neg (by omega)]
                    first | done | rfl | assumption | (exfalso; omega) | (refine Prod.ext ?_ (Prod.ext ?_ ?_) <;> (try dsimp only) <;> omega)
                  have o4347a : ((xl1 B n q d)).1 = 0 := by rw [o4347]
                  have o4347b : ((xl1 B n q d)).2.1 = (xN B n (xN B n (xN B n (xN B n (xN B n (xN B n (xN B n (xN B n (xN B n (xN B n q)))))))))) := by rw [o4347]
                  have o4347c : ((xl1 B n q d)).2.2 = (xN B n ((xN B n ((xN B n ((xN B n (xN B n (xN B n (xN B n (xN B n (xN B n (xN B n (xN B n (xN B n (xN B n q)))))))))))))))) := by rw [o4347]
                  have h4348 : DM T H4326 rp r0 d := (DM_fr w4186 grp f4331 rfl (DM_fr w4163 grp f4187 rfl (DM_fr w4140 grp f4164 rfl (DM_fr w4109 grp f4141 rfl h4118))))
                  exact wp_lc (ks := [11, 10, 9, 8, 7, 0, 1, 3, 4, 5, 6]) (wl_c rfl (wl_c rfl (wl_c rfl (wl_c rfl (wl_c rfl (wl_c rfl (wl_c rfl (wl_c rfl (wl_c rfl (wl_c rfl wl_n)))))))))) rfl (by decide) (u_187_k_t200k hW g0 qrp grp qrb grb p0 hRC_r0 hDM_rp v4103 v4104 v4105 v4106 v4107 z4165 0 0 z4332 H4326 w4330 f4342 ⟨by omega, by omega⟩ ⟨by omega, by omega⟩ ⟨by omega, by omega⟩ ⟨by omega, by omega⟩ ⟨by omega, by omega⟩ ⟨by omega, by omega⟩ ⟨by omega, by omega⟩ ⟨by omega, by omega⟩ ⟨by omega, by omega⟩ (by rw [show (xl1 B n q d).2.2 = ((xN B n ((xN B n ((xN B n ((xN B n (xN B n (xN B n (xN B n (xN B n (xN B n (xN B n (xN B n (xN B n (xN B n q))))))))))))))))) by omega]; exact a4337) h4348 (by omega) (by omega) (by omega) (by omega) (by omega) (by omega) (by omega) (by omega) (by omega) (by omega) (by omega) (by rw [_ea]; exact _enf) (by rw [_ea]; exact _ent) (by rw [_ea, _eb]; exact _ew) (by omega))
                · exfalso
                  omega
              · have f4349 := f4317.tr f4331 rfl
                have f4350 := f4318.tr f4331 rfl
                show wp _ _ 187 189 [(10, vI 0), (9, vI 0), (8, vI z4188), (7, vI z4165), (0, .ref r0), (1, vL v4103), (3, vI v4104), (4, vI v4105), (5, vI v4106), (6, vI v4107)] [vI z4332] _ H4326 _
                have u4351 := RC_k a4340
                refine wp_of e187 c187_189 (rw_istore (pc' := 191) (z := z4332) (L' := [(11, vI z4332), (10, vI 0), (9, vI 0), (8, vI z4188), (7, vI z4165), (0, .ref r0), (1, vL v4103), (3, vI v4104), (4, vI v4105), (5, vI v4106), (6, vI v4107)]) rfl rfl rfl ?_)
                have _ec : xqc B n ((xN B n ((xN B n ((xN B n (xN B n (xN B n (xN B n (xN B n (xN B n (xN B n (xN B n (xN B n (xN B n q))))))))))))))) = ((xN B n ((xN B n ((xN B n (xN B n (xN B n (xN B n (xN B n (xN B n (xN B n (xN B n (xN B n (xN B n q))))))))))))))) := by
                  unfold xqc
                  first | rw [if_pos (by omega)] | rw [if_neg (by omega)]
                have _ew : xaw B n ((xN B n ((xN B n ((xN B n (xN B n (xN B n (xN B n (xN B n (xN B n (xN B n (xN B n (xN B n (xN B n q))))))))))))))) = z4332 := by
                  unfold xaw
                  first | (rw [if_pos (by omega)] <;> omega) | (rw [if_neg (by omega)] <;> omega)
                refine wp_of e187 c187_191 (rw_aload_n (pc' := 192) (v := .ref r0) rfl rfl rfl ?_)
                refine wp_of e187 c187_192 (xg_I (pc' := 195) lf_9_75 w4330 g0 sh_42 (by decide) (by decide) ty_42_9 rfl rfl (fun b4352 b4353 => ?_))
                refine wp_of e187 c187_195 (rw_iconst (pc' := 196) rfl ?_)
                refine wp_of e187 c187_196 (rw_icmp_ne (p1 := 200) (p2 := 199) (by decide) rfl ⟨by omega, by omega⟩ ⟨by omega, by omega⟩ (fun c4354 => ?_) (fun c4354 => ?_))
                · have o4355 : (xl1 B n q d) = (0, (xN B n (xN B n (xN B n (xN B n (xN B n (xN B n (xN B n (xN B n (xN B n (xN B n q)))))))))), (xN B n ((xN B n ((xN B n (xN B n (xN B n (xN B n (xN B n (xN B n (xN B n (xN B n (xN B n (xN B n q))))))))))))))) := by
                    rw [x4119]
                    unfold xcs xca xcb xrg
                    try simp only [xs_xs, xs_z]
                    try rw [_ea]
                    try rw [_eb]
                    try rw [_ec]
                    repeat first | rw [xs_0 (by omega)] | rw [xs_1 (by omega)] | rw [if_pos (by omega)] | rw [if_neg (by omega)]
                    first | done | rfl | assumption | (exfalso; omega) | (refine Prod.ext ?_ (Prod.ext ?_ ?_) <;> (try dsimp only) <;> omega)
                  have o4355a : ((xl1 B n q d)).1 = 0 := by rw [o4355]
                  have o4355b : ((xl1 B n q d)).2.1 = (xN B n (xN B n (xN B n (xN B n (xN B n (xN B n (xN B n (xN B n (xN B n (xN B n q)))))))))) := by rw [o4355]
                  have o4355c : ((xl1 B n q d)).2.2 = (xN B n ((xN B n ((xN B n (xN B n (xN B n (xN B n (xN B n (xN B n (xN B n (xN B n (xN B n (xN B n q)))))))))))))) := by rw [o4355]
                  have h4356 : DM T H4326 rp r0 d := (DM_fr w4186 grp f4331 rfl (DM_fr w4163 grp f4187 rfl (DM_fr w4140 grp f4164 rfl (DM_fr w4109 grp f4141 rfl h4118))))
                  exact wp_lc (ks := [11, 10, 9, 8, 7, 0, 1, 3, 4, 5, 6]) (wl_c rfl (wl_c rfl (wl_c rfl (wl_c rfl (wl_c rfl (wl_c rfl (wl_c rfl (wl_c rfl (wl_c rfl (wl_c rfl wl_n)))))))))) rfl (by decide) (u_187_k_t200k hW g0 qrp grp qrb grb p0 hRC_r0 hDM_rp v4103 v4104 v4105 v4106 v4107 z4165 0 0 z4332 H4326 w4330 f4350 ⟨by omega, by omega⟩ ⟨by omega, by omega⟩ ⟨by omega, by omega⟩ ⟨by omega, by omega⟩ ⟨by omega, by omega⟩ ⟨by omega, by omega⟩ ⟨by omega, by omega⟩ ⟨by omega, by omega⟩ ⟨by omega, by omega⟩ (by rw [show (xl1 B n q d).2.2 = ((xN B n ((xN B n ((xN B n (xN B n (xN B n (xN B n (xN B n (xN B n (xN B n (xN B n (xN B n (xN B n q))))))))))))))) by omega]; exact a4340) h4356 (by omega) (by omega) (by omega) (by omega) (by omega) (by omega) (by omega) (by omega) (by omega) (by omega) (by omega) (by rw [_ea]; exact _enf) (by rw [_ea]; exact _ent) (by rw [_ea, _eb]; exact _ew) (by omega))
                · exfalso
                  omega
            · exfalso
              omega
          · exfalso
            omega
      · have f4357 := f4151.tr f4164 rfl
        have f4358 := f4152.tr f4164 rfl
        show wp _ _ 187 128 [(0, .ref r0), (1, vL v4103), (3, vI v4104), (4, vI v4105), (5, vI v4106), (6, vI v4107)] [vI z4165] _ H4159 _
        have u4359 := RO_k a4174
        refine wp_of e187 c187_128 (rw_goto (p1 := 132) (by decide) ?_)
        refine wp_of e187 c187_132 (rw_istore (pc' := 134) (z := z4165) (L' := [(7, vI z4165), (0, .ref r0), (1, vL v4103), (3, vI v4104), (4, vI v4105), (5, vI v4106), (6, vI v4107)]) rfl rfl rfl ?_)
        have o4360 : (xl1 B n q d) = (xh B n ((xN B n ((xN B n (xN B n (xN B n (xN B n (xN B n (xN B n (xN B n (xN B n (xN B n (xN B n q))))))))))))) 0 23, ((xN B n ((xN B n (xN B n (xN B n (xN B n (xN B n (xN B n (xN B n (xN B n (xN B n (xN B n q))))))))))))), ((xN B n ((xN B n (xN B n (xN B n (xN B n (xN B n (xN B n (xN B n (xN B n (xN B n (xN B n q)))))))))))))) := by
          rw [x4119]
          unfold xcs xca xcb xrg
          try simp only [xs_xs, xs_z]
          try rw [_ea]
          try rw [_eb]
          try rw [_ec]
          repeat first | rw [xs_0 (by omega)] | rw [xs_1 (by omega)] | rw [if_pos (by omega)] | rw [if_neg (by omega)]
          first | done | rfl | assumption | (exfalso; omega) | (refine Prod.ext ?_ (Prod.ext ?_ ?_) <;> (try dsimp only) <;> omega)
        have o4360a : ((xl1 B n q d)).1 = xh B n ((xN B n ((xN B n (xN B n (xN B n (xN B n (xN B n (xN B n (xN B n (xN B n (xN B n (xN B n q))))))))))))) 0 23 := by rw [o4360]
        have o4360b : ((xl1 B n q d)).2.1 = ((xN B n ((xN B n (xN B n (xN B n (xN B n (xN B n (xN B n (xN B n (xN B n (xN B n (xN B n q))))))))))))) := by rw [o4360]
        have o4360c : ((xl1 B n q d)).2.2 = ((xN B n ((xN B n (xN B n (xN B n (xN B n (xN B n (xN B n (xN B n (xN B n (xN B n (xN B n q))))))))))))) := by rw [o4360]
        exact wp_lc (ks := [7, 0, 1, 3, 4, 5, 6]) (wl_c rfl (wl_c rfl (wl_c rfl (wl_c rfl (wl_c rfl (wl_c rfl (wl_c rfl wl_n))))))) rfl (by decide) (u_187_k_t134o hW g0 qrp grp qrb grb p0 hRC_r0 hDM_rp v4103 v4104 v4105 v4106 v4107 z4165 H4159 (xh B n ((xN B n ((xN B n (xN B n (xN B n (xN B n (xN B n (xN B n (xN B n (xN B n (xN B n (xN B n q))))))))))))) 0 23) (((xN B n ((xN B n (xN B n (xN B n (xN B n (xN B n (xN B n (xN B n (xN B n (xN B n (xN B n q)))))))))))))) w4163 f4358 ⟨by omega, by omega⟩ ⟨by omega, by omega⟩ ⟨by omega, by omega⟩ ⟨by omega, by omega⟩ ⟨by omega, by omega⟩ ⟨by omega, by omega⟩ a4174 (by omega) (by omega))
  · have f4361 := f4129.tr f4141 rfl
    have f4362 := f4110.tr f4141 rfl
    show wp _ _ 187 118 [(0, .ref r0), (1, vL v4103), (3, vI v4104), (4, vI v4105), (5, vI v4106), (6, vI v4107)] [vI z4142] _ H4136 _
    have u4363 := RC_k a4150
    refine wp_of e187 c187_118 (rw_if_eq (p1 := 131) (p2 := 121) (by decide) rfl ⟨by omega, by omega⟩ (fun c4364 => ?_) (fun c4364 => ?_))
    · refine wp_of e187 c187_131 (rw_iconst (pc' := 132) rfl ?_)
      refine wp_of e187 c187_132 (rw_istore (pc' := 134) (z := -1) (L' := [(7, vI (-1)), (0, .ref r0), (1, vL v4103), (3, vI v4104), (4, vI v4105), (5, vI v4106), (6, vI v4107)]) rfl rfl rfl ?_)
      have _ea : xqa B n ((xN B n (xN B n (xN B n (xN B n (xN B n (xN B n (xN B n (xN B n (xN B n (xN B n q))))))))))) = ((xN B n (xN B n (xN B n (xN B n (xN B n (xN B n (xN B n (xN B n (xN B n (xN B n q))))))))))) := by
        unfold xqa
        first | rw [if_pos (by omega)] | rw [if_neg (by omega)]
      have _eh : xhb B n ((xN B n (xN B n (xN B n (xN B n (xN B n (xN B n (xN B n (xN B n (xN B n (xN B n q))))))))))) = (-1) := by
        unfold xhb
        first | (rw [if_pos (by omega)] <;> omega) | (rw [if_neg (by omega)] <;> omega)
      refine wp_of e187 c187_134 (rw_aload_n (pc' := 135) (v := .ref r0) rfl rfl rfl ?_)
      refine wp_of e187 c187_135 (rw_ldcS (pc' := 137) (k := 84) rfl rfl rfl rfl ?_)
      have k4365 : H4136 r0 5 = H4108 r0 5 := (f4141 r0 5 _ g0 rfl)
      have q4366 : H4136 r0 5 = (rb : Int) := k4365.trans q4133
      refine wp_of e187 c187_137 (xc_V (pc' := 140) (r := r0) (as := [.ref 84]) (st := []) (lm_9_240) rfl rfl (Nat.le_of_ble_eq_true rfl) w4140 g0 sh_42 (by decide) rfl (by decide) (u_192_k (B := B) (n := n) (q := ((xN B n (xN B n (xN B n (xN B n (xN B n (xN B n (xN B n (xN B n (xN B n (xN B n q)))))))))))) (kk := 14384) w4140 g0 rfl q4366 grb (by decide +kernel) a4150) (fun R4367 T4368 H4369 p4370 => ?_))
      obtain ⟨e4371, w4373, f4374, z4375, e4372, b4376, p4377⟩ := p4370
      subst e4371
      subst e4372
      rcases p4377 with ⟨a4378, a4379, a4380⟩ | ⟨a4381, a4382, a4383⟩
      · have f4384 := f4361.tr f4374 rfl
        have f4385 := f4362.tr f4374 rfl
        show wp _ _ 187 140 [(7, vI (-1)), (0, .ref r0), (1, vL v4103), (3, vI v4104), (4, vI v4105), (5, vI v4106), (6, vI v4107)] [vI z4375] _ H4369 _
        have u4386 := RC_k a4380
        refine wp_of e187 c187_140 (rw_istore (pc' := 142) (z := z4375) (L' := [(8, vI z4375), (7, vI (-1)), (0, .ref r0), (1, vL v4103), (3, vI v4104), (4, vI v4105), (5, vI v4106), (6, vI v4107)]) rfl rfl rfl ?_)
        refine wp_of e187 c187_142 (rw_iload (pc' := 144) (z := z4375) rfl rfl ?_)
        refine wp_of e187 c187_144 (rw_if_eq (p1 := 157) (p2 := 147) (by decide) rfl ⟨by omega, by omega⟩ (fun c4387 => ?_) (fun c4387 => ?_))
        · exfalso
          omega
        · refine wp_of e187 c187_147 (rw_aload_n (pc' := 148) (v := .ref r0) rfl rfl rfl ?_)
          refine wp_of e187 c187_148 (rw_iconst (pc' := 149) rfl ?_)
          refine wp_of e187 c187_149 (rw_bipush (pc' := 151) (z := 23) rfl (by decide) ?_)
          have k4388 : H4369 r0 5 = H4136 r0 5 := (f4374 r0 5 _ g0 rfl)
          have q4389 : H4369 r0 5 = (rb : Int) := k4388.trans q4366
          refine wp_of e187 c187_151 (xc_V (pc' := 154) (r := r0) (as := [vI 0, vI 23]) (st := []) (lm_9_137) rfl rfl (Nat.le_of_ble_eq_true rfl) w4373 g0 sh_42 (by decide) rfl (by decide) (u_184_k (B := B) (n := n) (q := ((xN B n ((xN B n (xN B n (xN B n (xN B n (xN B n (xN B n (xN B n (xN B n (xN B n (xN B n q)))))))))))))) (lo := 0) (hi := 23) w4373 g0 ⟨by omega, by omega⟩ ⟨by omega, by omega⟩ q4389 grb (by omega) (by omega) a4380) (fun R4390 T4391 H4392 p4393 => ?_))
          obtain ⟨e4394, w4396, f4397, z4398, e4395, b4399, p4400⟩ := p4393
          subst e4394
          subst e4395
          rcases p4400 with ⟨a4401, a4402, a4403, a4404⟩ | ⟨a4405, a4406, a4407⟩
          · have f4408 := f4384.tr f4397 rfl
            have f4409 := f4385.tr f4397 rfl
            show wp _ _ 187 154 [(8, vI z4375), (7, vI (-1)), (0, .ref r0), (1, vL v4103), (3, vI v4104), (4, vI v4105), (5, vI v4106), (6, vI v4107)] [vI z4398] _ H4392 _
            have u4410 := RC_k a4404
            refine wp_of e187 c187_154 (rw_goto (p1 := 158) (by decide) ?_)
            refine wp_of e187 c187_158 (rw_istore (pc' := 160) (z := z4398) (L' := [(9, vI z4398), (8, vI z4375), (7, vI (-1)), (0, .ref r0), (1, vL v4103), (3, vI v4104), (4, vI v4105), (5, vI v4106), (6, vI v4107)]) rfl rfl rfl ?_)
            refine wp_of e187 c187_160 (rw_iload (pc' := 162) (z := z4375) rfl rfl ?_)
            refine wp_of e187 c187_162 (rw_if_eq (p1 := 180) (p2 := 165) (by decide) rfl ⟨by omega, by omega⟩ (fun c4411 => ?_) (fun c4411 => ?_))
            · exfalso
              omega
            · refine wp_of e187 c187_165 (rw_aload_n (pc' := 166) (v := .ref r0) rfl rfl rfl ?_)
              refine wp_of e187 c187_166 (rw_ldcS (pc' := 168) (k := 87) rfl rfl rfl rfl ?_)
              refine wp_of e187 c187_168 (rw_iload (pc' := 170) (z := z4398) rfl rfl ?_)
              refine wp_of e187 c187_170 (rw_iconst (pc' := 171) rfl ?_)
              refine wp_of e187 c187_171 (rw_iadd (pc' := 172) rfl ?_)
              refine wp_of e187 c187_172 (rw_bipush (pc' := 174) (z := 24) rfl (by decide) ?_)
              have k4412 : H4392 r0 5 = H4369 r0 5 := (f4397 r0 5 _ g0 rfl)
              have q4413 : H4392 r0 5 = (rb : Int) := k4412.trans q4389
              refine wp_of e187 c187_174 (xc_V (pc' := 177) (r := r0) (as := [.ref 87, vI (z4398 + 1), vI 24]) (st := []) (lm_9_216) rfl rfl (Nat.le_of_ble_eq_true rfl) w4396 g0 sh_42 (by decide) rfl (by decide) (u_182_k (B := B) (n := n) (q := ((xN B n ((xN B n ((xN B n (xN B n (xN B n (xN B n (xN B n (xN B n (xN B n (xN B n (xN B n (xN B n q)))))))))))))))) (kk := 655) (lo := (xV B n (xN B n ((xN B n (xN B n (xN B n (xN B n (xN B n (xN B n (xN B n (xN B n (xN B n (xN B n q)))))))))))) + 1)) (hi := (min (xV B n (xN B n ((xN B n (xN B n (xN B n (xN B n (xN B n (xN B n (xN B n (xN B n (xN B n (xN B n q)))))))))))) + 24) 24)) w4396 g0 rfl ⟨by omega, by omega⟩ ⟨by omega, by omega⟩ q4413 grb (by decide +kernel) (by omega) (by omega) a4404) (fun R4414 T4415 H4416 p4417 => ?_))
              obtain ⟨e4418, w4420, f4421, z4422, e4419, b4423, p4424⟩ := p4417
              subst e4418
              subst e4419
              rcases p4424 with ⟨a4425, a4426, a4427, a4428, a4429, a4430⟩ | ⟨a4431, a4432, a4433⟩ | ⟨a4434, a4435, a4436, a4437⟩
              · have f4438 := f4408.tr f4421 rfl
                have f4439 := f4409.tr f4421 rfl
                show wp _ _ 187 177 [(9, vI z4398), (8, vI z4375), (7, vI (-1)), (0, .ref r0), (1, vL v4103), (3, vI v4104), (4, vI v4105), (5, vI v4106), (6, vI v4107)] [vI z4422] _ H4416 _
                have u4440 := RC_k a4430
                refine wp_of e187 c187_177 (rw_goto (p1 := 181) (by decide) ?_)
                refine wp_of e187 c187_181 (rw_istore (pc' := 183) (z := z4422) (L' := [(10, vI z4422), (9, vI z4398), (8, vI z4375), (7, vI (-1)), (0, .ref r0), (1, vL v4103), (3, vI v4104), (4, vI v4105), (5, vI v4106), (6, vI v4107)]) rfl rfl rfl ?_)
                have _eb : xqb B n ((xN B n (xN B n (xN B n (xN B n (xN B n (xN B n (xN B n (xN B n (xN B n (xN B n q))))))))))) = ((xN B n (xN B n ((xN B n ((xN B n ((xN B n (xN B n (xN B n (xN B n (xN B n (xN B n (xN B n (xN B n (xN B n (xN B n q)))))))))))))))))) := by
                  unfold xqb
                  first | rw [if_pos (by omega)] | rw [if_neg (by omega)]
                have _enf : xnf B n ((xN B n (xN B n (xN B n (xN B n (xN B n (xN B n (xN B n (xN B n (xN B n (xN B n q))))))))))) = z4398 := by
                  unfold xnf
                  first | (rw [if_pos (by omega)] <;> omega) | (rw [if_neg (by omega)] <;> omega)
                have _ent : xnt B n ((xN B n (xN B n (xN B n (xN B n (xN B n (xN B n (xN B n (xN B n (xN B n (xN B n q))))))))))) = z4422 := by
                  unfold xnt
                  first | (rw [if_pos (by omega)] <;> omega) | (rw [if_neg (by omega)] <;> omega)
                refine wp_of e187 c187_183 (rw_aload_n (pc' := 184) (v := .ref r0) rfl rfl rfl ?_)
                refine wp_of e187 c187_184 (rw_ldcS (pc' := 186) (k := 85) rfl rfl rfl rfl ?_)
                have k4441 : H4416 r0 5 = H4392 r0 5 := (f4421 r0 5 _ g0 rfl)
                have q4442 : H4416 r0 5 = (rb : Int) := k4441.trans q4413
                refine wp_of e187 c187_186 (xc_V (pc' := 189) (r := r0) (as := [.ref 85]) (st := []) (lm_9_240) rfl rfl (Nat.le_of_ble_eq_true rfl) w4420 g0 sh_42 (by decide) rfl (by decide) (u_192_k (B := B) (n := n) (q := ((xN B n (xN B n ((xN B n ((xN B n ((xN B n (xN B n (xN B n (xN B n (xN B n (xN B n (xN B n (xN B n (xN B n (xN B n q))))))))))))))))))) (kk := 56377) w4420 g0 rfl q4442 grb (by decide +kernel) a4430) (fun R4443 T4444 H4445 p4446 => ?_))
                obtain ⟨e4447, w4449, f4450, z4451, e4448, b4452, p4453⟩ := p4446
                subst e4447
                subst e4448
                rcases p4453 with ⟨a4454, a4455, a4456⟩ | ⟨a4457, a4458, a4459⟩
                · have f4460 := f4438.tr f4450 rfl
                  have f4461 := f4439.tr f4450 rfl
                  show wp _ _ 187 189 [(10, vI z4422), (9, vI z4398), (8, vI z4375), (7, vI (-1)), (0, .ref r0), (1, vL v4103), (3, vI v4104), (4, vI v4105), (5, vI v4106), (6, vI v4107)] [vI z4451] _ H4445 _
                  have u4462 := RC_k a4456
                  refine wp_of e187 c187_189 (rw_istore (pc' := 191) (z := z4451) (L' := [(11, vI z4451), (10, vI z4422), (9, vI z4398), (8, vI z4375), (7, vI (-1)), (0, .ref r0), (1, vL v4103), (3, vI v4104), (4, vI v4105), (5, vI v4106), (6, vI v4107)]) rfl rfl rfl ?_)
                  have _ec : xqc B n ((xN B n (xN B n ((xN B n ((xN B n ((xN B n (xN B n (xN B n (xN B n (xN B n (xN B n (xN B n (xN B n (xN B n (xN B n q)))))))))))))))))) = ((xN B n ((xN B n (xN B n ((xN B n ((xN B n ((xN B n (xN B n (xN B n (xN B n (xN B n (xN B n (xN B n (xN B n (xN B n (xN B n q)))))))))))))))))))) := by
                    unfold xqc
                    first | rw [if_pos (by omega)] | rw [if_neg (by omega)]
                  have _ew : xaw B n ((xN B n (xN B n ((xN B n ((xN B n ((xN B n (xN B n (xN B n (xN B n (xN B n (xN B n (xN B n (xN B n (xN B n (xN B n q)))))))))))))))))) = z4451 := by
                    unfold xaw
                    first | (rw [if_pos (by omega)] <;> omega) | (rw [if_neg (by omega)] <;> omega)
                  refine wp_of e187 c187_191 (rw_aload_n (pc' := 192) (v := .ref r0) rfl rfl rfl ?_)
                  refine wp_of e187 c187_192 (xg_I (pc' := 195) lf_9_75 w4449 g0 sh_42 (by decide) (by decide) ty_42_9 rfl rfl (fun b4463 b4464 => ?_))
                  refine wp_of e187 c187_195 (rw_iconst (pc' := 196) rfl ?_)
                  refine wp_of e187 c187_196 (rw_icmp_ne (p1 := 200) (p2 := 199) (by decide) rfl ⟨by omega, by omega⟩ ⟨by omega, by omega⟩ (fun c4465 => ?_) (fun c4465 => ?_))
                  · have o4466 : (xl1 B n q d) = (0, (xN B n (xN B n (xN B n (xN B n (xN B n (xN B n (xN B n (xN B n (xN B n (xN B n q)))))))))), (xN B n ((xN B n (xN B n ((xN B n ((xN B n ((xN B n (xN B n (xN B n (xN B n (xN B n (xN B n (xN B n (xN B n (xN B n (xN B n q)))))))))))))))))))) := by
                      rw [x4119]
                      unfold xcs xca xcb xrg
                      try simp only [xs_xs, xs_z]
                      try rw [_ea]
                      try rw [_eb]
                      try rw [_ec]
                      repeat first | rw [xs_0 (by omega)] | rw [xs_1 (by omega)] | rw [if_pos (by omega)] | rw [if_neg (by omega)]
                      first | done | rfl | assumption | (exfalso; omega) | (refine Prod.ext ?_ (Prod.ext ?_ ?_) <;> (try dsimp only) <;> omega)
                    have o4466a : ((xl1 B n q d)).1 = 0 := by rw [o4466]
                    have o4466b : ((xl1 B n q d)).2.1 = (xN B n (xN B n (xN B n (xN B n (xN B n (xN B n (xN B n (xN B n (xN B n (xN B n q)))))))))) := by rw [o4466]
                    have o4466c : ((xl1 B n q d)).2.2 = (xN B n ((xN B n (xN B n ((xN B n ((xN B n ((xN B n (xN B n (xN B n (xN B n (xN B n (xN B n (xN B n (xN B n (xN B n (xN B n q))))))))))))))))))) := by rw [o4466]
                    have h4467 : DM T H4445 rp r0 d := (DM_fr w4420 grp f4450 rfl (DM_fr w4396 grp f4421 rfl (DM_fr w4373 grp f4397 rfl (DM_fr w4140 grp f4374 rfl (DM_fr w4109 grp f4141 rfl h4118)))))
                    exact wp_lc (ks := [11, 10, 9, 8, 7, 0, 1, 3, 4, 5, 6]) (wl_c rfl (wl_c rfl (wl_c rfl (wl_c rfl (wl_c rfl (wl_c rfl (wl_c rfl (wl_c rfl (wl_c rfl (wl_c rfl wl_n)))))))))) rfl (by decide) (u_187_k_t200k hW g0 qrp grp qrb grb p0 hRC_r0 hDM_rp v4103 v4104 v4105 v4106 v4107 (-1) z4398 z4422 z4451 H4445 w4449 f4461 ⟨by omega, by omega⟩ ⟨by omega, by omega⟩ ⟨by omega, by omega⟩ ⟨by omega, by omega⟩ ⟨by omega, by omega⟩ ⟨by omega, by omega⟩ ⟨by omega, by omega⟩ ⟨by omega, by omega⟩ ⟨by omega, by omega⟩ (by rw [show (xl1 B n q d).2.2 = ((xN B n ((xN B n (xN B n ((xN B n ((xN B n ((xN B n (xN B n (xN B n (xN B n (xN B n (xN B n (xN B n (xN B n (xN B n (xN B n q)))))))))))))))))))) by omega]; exact a4456) h4467 (by omega) (by omega) (by omega) (by omega) (by omega) (by omega) (by omega) (by omega) (by omega) (by omega) (by omega) (by rw [_ea]; exact _enf) (by rw [_ea]; exact _ent) (by rw [_ea, _eb]; exact _ew) (by omega))
                  · exfalso
                    omega
                · have f4468 := f4438.tr f4450 rfl
                  have f4469 := f4439.tr f4450 rfl
                  show wp _ _ 187 189 [(10, vI z4422), (9, vI z4398), (8, vI z4375), (7, vI (-1)), (0, .ref r0), (1, vL v4103), (3, vI v4104), (4, vI v4105), (5, vI v4106), (6, vI v4107)] [vI z4451] _ H4445 _
                  have u4470 := RC_k a4459
                  refine wp_of e187 c187_189 (rw_istore (pc' := 191) (z := z4451) (L' := [(11, vI z4451), (10, vI z4422), (9, vI z4398), (8, vI z4375), (7, vI (-1)), (0, .ref r0), (1, vL v4103), (3, vI v4104), (4, vI v4105), (5, vI v4106), (6, vI v4107)]) rfl rfl rfl ?_)
                  have _ec : xqc B n ((xN B n (xN B n ((xN B n ((xN B n ((xN B n (xN B n (xN B n (xN B n (xN B n (xN B n (xN B n (xN B n (xN B n (xN B n q)))))))))))))))))) = ((xN B n (xN B n ((xN B n ((xN B n ((xN B n (xN B n (xN B n (xN B n (xN B n (xN B n (xN B n (xN B n (xN B n (xN B n q)))))))))))))))))) := by
                    unfold xqc
                    first | rw [if_pos (by omega)] | rw [if_neg (by omega)]
                  have _ew : xaw B n ((xN B n (xN B n ((xN B n ((xN B n ((xN B n (xN B n (xN B n (xN B n (xN B n (xN B n (xN B n (xN B n (xN B n (xN B n q)))))))))))))))))) = z4451 := by
                    unfold xaw
                    first | (rw [if_pos (by omega)] <;> omega) | (rw [if_neg (by omega)] <;> omega)
                  refine wp_of e187 c187_191 (rw_aload_n (pc' := 192) (v := .ref r0) rfl rfl rfl ?_)
                  refine wp_of e187 c187_192 (xg_I (pc' := 195) lf_9_75 w4449 g0 sh_42 (by decide) (by decide) ty_42_9 rfl rfl (fun b4471 b4472 => ?_))
                  refine wp_of e187 c187_195 (rw_iconst (pc' := 196) rfl ?_)
                  refine wp_of e187 c187_196 (rw_icmp_ne (p1 := 200) (p2 := 199) (by decide) rfl ⟨by omega, by omega⟩ ⟨by omega, by omega⟩ (fun c4473 => ?_) (fun c4473 => ?_))
                  · have o4474 : (xl1 B n q d) = (0, (xN B n (xN B n (xN B n (xN B n (xN B n (xN B n (xN B n (xN B n (xN B n (xN B n q)))))))))), (xN B n (xN B n ((xN B n ((xN B n ((xN B n (xN B n (xN B n (xN B n (xN B n (xN B n (xN B n (xN B n (xN B n (xN B n q)))))))))))))))))) := by
                      rw [x4119]
                      unfold xcs xca xcb xrg
                      try simp only [xs_xs, xs_z]
                      try rw [_ea]
                      try rw [_eb]
                      try rw [_ec]
                      repeat first | rw [xs_0 (by omega)] | rw [xs_1 (by omega)] | rw [if_pos (by omega)] | rw [if_neg (by omega)]
                      first | done | rfl | assumption | (exfalso; omega) | (refine Prod.ext ?_ (Prod.ext ?_ ?_) <;> (try dsimp only) <;> omega)
                    have o4474a : ((xl1 B n q d)).1 = 0 := by rw [o4474]
                    have o4474b : ((xl1 B n q d)).2.1 = (xN B n (xN B n (xN B n (xN B n (xN B n (xN B n (xN B n (xN B n (xN B n (xN B n q)))))))))) := by rw [o4474]
                    have o4474c : ((xl1 B n q d)).2.2 = (xN B n (xN B n ((xN B n ((xN B n ((xN B n (xN B n (xN B n (xN B n (xN B n (xN B n (xN B n (xN B n (xN B n (xN B n q))))))))))))))))) := by rw [o4474]
                    have h4475 : DM T H4445 rp r0 d := (DM_fr w4420 grp f4450 rfl (DM_fr w4396 grp f4421 rfl (DM_fr w4373 grp f4397 rfl (DM_fr w4140 grp f4374 rfl (DM_fr w4109 grp f4141 rfl h4118)))))
                    exact wp_lc (ks := [11, 10, 9, 8, 7, 0, 1, 3, 4, 5, 6]) (wl_c rfl (wl_c rfl (wl_c rfl (wl_c rfl (wl_c rfl (wl_c rfl (wl_c rfl (wl_c rfl (wl_c rfl (wl_c rfl wl_n)))))))))) rfl (by decide) (u_187_k_t200k hW g0 qrp grp qrb grb p0 hRC_r0 hDM_rp v4103 v4104 v4105 v4106 v4107 (-1) z4398 z4422 z4451 H4445 w4449 f4469 ⟨by omega, by omega⟩ ⟨by omega, by omega⟩ ⟨by omega, by omega⟩ ⟨by omega, by omega⟩ ⟨by omega, by omega⟩ ⟨by omega, by omega⟩ ⟨by omega, by omega⟩ ⟨by omega, by omega⟩ ⟨by omega, by omega⟩ (by rw [show (xl1 B n q d).2.2 = ((xN B n (xN B n ((xN B n ((xN B n ((xN B n (xN B n (xN B n (xN B n (xN B n (xN B n (xN B n (xN B n (xN B n (xN B n q)))))))))))))))))) by omega]; exact a4459) h4475 (by omega) (by omega) (by omega) (by omega) (by omega) (by omega) (by omega) (by omega) (by omega) (by omega) (by omega) (by rw [_ea]; exact _enf) (by rw [_ea]; exact _ent) (by rw [_ea, _eb]; exact _ew) (by omega))
                  · exfalso
                    omega
              · have f4476 := f4408.tr f4421 rfl
                have f4477 := f4409.tr f4421 rfl
                show wp _ _ 187 177 [(9, vI z4398), (8, vI z4375), (7, vI (-1)), (0, .ref r0), (1, vL v4103), (3, vI v4104), (4, vI v4105), (5, vI v4106), (6, vI v4107)] [vI z4422] _ H4416 _
                have u4478 := RO_k a4433
                refine wp_of e187 c187_177 (rw_goto (p1 := 181) (by decide) ?_)
                refine wp_of e187 c187_181 (rw_istore (pc' := 183) (z := z4422) (L' := [(10, vI z4422), (9, vI z4398), (8, vI z4375), (7, vI (-1)), (0, .ref r0), (1, vL v4103), (3, vI v4104), (4, vI v4105), (5, vI v4106), (6, vI v4107)]) rfl rfl rfl ?_)
                have o4479 : (xl1 B n q d) = (xw B n ((xN B n ((xN B n ((xN B n (xN B n (xN B n (xN B n (xN B n (xN B n (xN B n (xN B n (xN B n (xN B n q))))))))))))))) 655, ((xN B n ((xN B n ((xN B n (xN B n (xN B n (xN B n (xN B n (xN B n (xN B n (xN B n (xN B n (xN B n q))))))))))))))), ((xN B n ((xN B n ((xN B n (xN B n (xN B n (xN B n (xN B n (xN B n (xN B n (xN B n (xN B n (xN B n q)))))))))))))))) := by
                  rw [x4119]
                  unfold xcs xca xcb xrg
                  try simp only [xs_xs, xs_z]
                  try rw [_ea]
                  try rw [_eb]
                  try rw [_ec]
                  repeat first | rw [xs_0 (by omega)] | rw [xs_1 (by omega)] | rw [if_pos (by omega)] | rw [if_neg (by omega)]
                  first | done | rfl | assumption | (exfalso; omega) | (refine Prod.ext ?_ (Prod.ext ?_ ?_) <;> (try dsimp only) <;> omega)
                have o4479a : ((xl1 B n q d)).1 = xw B n ((xN B n ((xN B n ((xN B n (xN B n (xN B n (xN B n (xN B n (xN B n (xN B n (xN B n (xN B n (xN B n q))))))))))))))) 655 := by rw [o4479]
                have o4479b : ((xl1 B n q d)).2.1 = ((xN B n ((xN B n ((xN B n (xN B n (xN B n (xN B n (xN B n (xN B n (xN B n (xN B n (xN B n (xN B n q))))))))))))))) := by rw [o4479]
                have o4479c : ((xl1 B n q d)).2.2 = ((xN B n ((xN B n ((xN B n (xN B n (xN B n (xN B n (xN B n (xN B n (xN B n (xN B n (xN B n (xN B n q))))))))))))))) := by rw [o4479]
                exact wp_lc (ks := [10, 9, 8, 7, 0, 1, 3, 4, 5, 6]) (wl_c rfl (wl_c rfl (wl_c rfl (wl_c rfl (wl_c rfl (wl_c rfl (wl_c rfl (wl_c rfl (wl_c rfl wl_n))))))))) rfl (by decide) (u_187_k_t183o hW g0 qrp grp qrb grb p0 hRC_r0 hDM_rp v4103 v4104 v4105 v4106 v4107 (-1) z4398 z4422 H4416 (xw B n ((xN B n ((xN B n ((xN B n (xN B n (xN B n (xN B n (xN B n (xN B n (xN B n (xN B n (xN B n (xN B n q))))))))))))))) 655) (((xN B n ((xN B n ((xN B n (xN B n (xN B n (xN B n (xN B n (xN B n (xN B n (xN B n (xN B n (xN B n q)))))))))))))))) w4420 f4477 ⟨by omega, by omega⟩ ⟨by omega, by omega⟩ ⟨by omega, by omega⟩ ⟨by omega, by omega⟩ ⟨by omega, by omega⟩ ⟨by omega, by omega⟩ ⟨by omega, by omega⟩ ⟨by omega, by omega⟩ a4433 (by omega) (by omega))
              · have f4480 := f4408.tr f4421 rfl
                have f4481 := f4409.tr f4421 rfl
                show wp _ _ 187 177 [(9, vI z4398), (8, vI z4375), (7, vI (-1)), (0, .ref r0), (1, vL v4103), (3, vI v4104), (4, vI v4105), (5, vI v4106), (6, vI v4107)] [vI z4422] _ H4416 _
                have u4482 := RO_k a4437
                refine wp_of e187 c187_177 (rw_goto (p1 := 181) (by decide) ?_)
                refine wp_of e187 c187_181 (rw_istore (pc' := 183) (z := z4422) (L' := [(10, vI z4422), (9, vI z4398), (8, vI z4375), (7, vI (-1)), (0, .ref r0), (1, vL v4103), (3, vI v4104), (4, vI v4105), (5, vI v4106), (6, vI v4107)]) rfl rfl rfl ?_)
                have o4483 : (xl1 B n q d) = (xh B n (xN B n ((xN B n ((xN B n ((xN B n (xN B n (xN B n (xN B n (xN B n (xN B n (xN B n (xN B n (xN B n (xN B n q)))))))))))))))) (xV B n (xN B n ((xN B n (xN B n (xN B n (xN B n (xN B n (xN B n (xN B n (xN B n (xN B n (xN B n q)))))))))))) + 1) (min (xV B n (xN B n ((xN B n (xN B n (xN B n (xN B n (xN B n (xN B n (xN B n (xN B n (xN B n (xN B n q)))))))))))) + 24) 24), (xN B n ((xN B n ((xN B n ((xN B n (xN B n (xN B n (xN B n (xN B n (xN B n (xN B n (xN B n (xN B n (xN B n q)))))))))))))))), (xN B n ((xN B n ((xN B n ((xN B n (xN B n (xN B n (xN B n (xN B n (xN B n (xN B n (xN B n (xN B n (xN B n q))))))))))))))))) := by
                  rw [x4119]
                  unfold xcs xca xcb xrg
                  try simp only [xs_xs, xs_z]
                  try rw [_ea]
                  try rw [_eb]
                  try rw [_ec]
                  repeat first | rw [xs_0 (by omega)] | rw [xs_1 (by omega)] | rw [if_pos (by omega)] | rw [if_neg (by omega)]
                  first | done | rfl | assumption | (exfalso; omega) | (refine Prod.ext ?_ (Prod.ext ?_ ?_) <;> (try dsimp only) <;> omega)
                have o4483a : ((xl1 B n q d)).1 = xh B n (xN B n ((xN B n ((xN B n ((xN B n (xN B n (xN B n (xN B n (xN B n (xN B n (xN B n (xN B n (xN B n (xN B n q)))))))))))))))) (xV B n (xN B n ((xN B n (xN B n (xN B n (xN B n (xN B n (xN B n (xN B n (xN B n (xN B n (xN B n q)))))))))))) + 1) (min (xV B n (xN B n ((xN B n (xN B n (xN B n (xN B n (xN B n (xN B n (xN B n (xN B n (xN B n (xN B n q)))))))))))) + 24) 24) := by rw [o4483]
                have o4483b : ((xl1 B n q d)).2.1 = (xN B n ((xN B n ((xN B n ((xN B n (xN B n (xN B n (xN B n (xN B n (xN B n (xN B n (xN B n (xN B n (xN B n q)))))))))))))))) := by rw [o4483]
                have o4483c : ((xl1 B n q d)).2.2 = (xN B n ((xN B n ((xN B n ((xN B n (xN B n (xN B n (xN B n (xN B n (xN B n (xN B n (xN B n (xN B n (xN B n q)))))))))))))))) := by rw [o4483]
                exact wp_lc (ks := [10, 9, 8, 7, 0, 1, 3, 4, 5, 6]) (wl_c rfl (wl_c rfl (wl_c rfl (wl_c rfl (wl_c rfl (wl_c rfl (wl_c rfl (wl_c rfl (wl_c rfl wl_n))))))))) rfl (by decide) (u_187_k_t183o hW g0 qrp grp qrb grb p0 hRC_r0 hDM_rp v4103 v4104 v4105 v4106 v4107 (-1) z4398 z4422 H4416 (xh B n (xN B n ((xN B n ((xN B n ((xN B n (xN B n (xN B n (xN B n (xN B n (xN B n (xN B n (xN B n (xN B n (xN B n q)))))))))))))))) (xV B n (xN B n ((xN B n (xN B n (xN B n (xN B n (xN B n (xN B n (xN B n (xN B n (xN B n (xN B n q)))))))))))) + 1) (min (xV B n (xN B n ((xN B n (xN B n (xN B n (xN B n (xN B n (xN B n (xN B n (xN B n (xN B n (xN B n q)))))))))))) + 24) 24)) ((xN B n ((xN B n ((xN B n ((xN B n (xN B n (xN B n (xN B n (xN B n (xN B n (xN B n (xN B n (xN B n (xN B n q))))))))))))))))) w4420 f4481 ⟨by omega, by omega⟩ ⟨by omega, by omega⟩ ⟨by omega, by omega⟩ ⟨by omega, by omega⟩ ⟨by omega, by omega⟩ ⟨by omega, by omega⟩ ⟨by omega, by omega⟩ ⟨by omega, by omega⟩ a4437 (by omega) (by omega))
          · have f4484 := f4384.tr f4397 rfl
            have f4485 := f4385.tr f4397 rfl
            show wp _ _ 187 154 [(8, vI z4375), (7, vI (-1)), (0, .ref r0), (1, vL v4103), (3, vI v4104), (4, vI v4105), (5, vI v4106), (6, vI v4107)] [vI z4398] _ H4392 _
            have u4486 := RO_k a4407
            refine wp_of e187 c187_154 (rw_goto (p1 := 158) (by decide) ?_)
            refine wp_of e187 c187_158 (rw_istore (pc' := 160) (z := z4398) (L' := [(9, vI z4398), (8, vI z4375), (7, vI (-1)), (0, .ref r0), (1, vL v4103), (3, vI v4104), (4, vI v4105), (5, vI v4106), (6, vI v4107)]) rfl rfl rfl ?_)
            refine wp_of e187 c187_160 (rw_iload (pc' := 162) (z := z4375) rfl rfl ?_)
            refine wp_of e187 c187_162 (rw_if_eq (p1 := 180) (p2 := 165) (by decide) rfl ⟨by omega, by omega⟩ (fun c4487 => ?_) (fun c4487 => ?_))
            · exfalso
              omega
            · refine wp_of e187 c187_165 (rw_aload_n (pc' := 166) (v := .ref r0) rfl rfl rfl ?_)
              refine wp_of e187 c187_166 (rw_ldcS (pc' := 168) (k := 87) rfl rfl rfl rfl ?_)
              refine wp_of e187 c187_168 (rw_iload (pc' := 170) (z := z4398) rfl rfl ?_)
              refine wp_of e187 c187_170 (rw_iconst (pc' := 171) rfl ?_)
              refine wp_of e187 c187_171 (rw_iadd (pc' := 172) rfl ?_)
              refine wp_of e187 c187_172 (rw_bipush (pc' := 174) (z := 24) rfl (by decide) ?_)
              have k4488 : H4392 r0 5 = H4369 r0 5 := (f4397 r0 5 _ g0 rfl)
              have q4489 : H4392 r0 5 = (rb : Int) := k4488.trans q4389
              refine wp_of e187 c187_174 (xc_V (pc' := 177) (r := r0) (as := [.ref 87, vI (z4398 + 1), vI 24]) (st := []) (lm_9_216) rfl rfl (Nat.le_of_ble_eq_true rfl) w4396 g0 sh_42 (by decide) rfl (by decide) (u_182_o (fo := (xh B n ((xN B n ((xN B n (xN B n (xN B n (xN B n (xN B n (xN B n (xN B n (xN B n (xN B n (xN B n q))))))))))))) 0 23)) (po := (((xN B n ((xN B n (xN B n (xN B n (xN B n (xN B n (xN B n (xN B n (xN B n (xN B n (xN B n q))))))))))))))) (kk := 655) w4396 g0 rfl ⟨by omega, by omega⟩ ⟨by omega, by omega⟩ q4489 grb (by decide +kernel) a4407) (fun R4490 T4491 H4492 p4493 => ?_))
              obtain ⟨e4494, e4496, z4497, e4495, b4498, p4499⟩ := p4493
              subst e4494
              subst e4495
              subst e4496
              obtain ⟨a4500, a4501⟩ := p4499
              show wp _ _ 187 177 [(9, vI z4398), (8, vI z4375), (7, vI (-1)), (0, .ref r0), (1, vL v4103), (3, vI v4104), (4, vI v4105), (5, vI v4106), (6, vI v4107)] [vI z4497] _ H4392 _
              have u4502 := RO_k a4501
              refine wp_of e187 c187_177 (rw_goto (p1 := 181) (by decide) ?_)
              refine wp_of e187 c187_181 (rw_istore (pc' := 183) (z := z4497) (L' := [(10, vI z4497), (9, vI z4398), (8, vI z4375), (7, vI (-1)), (0, .ref r0), (1, vL v4103), (3, vI v4104), (4, vI v4105), (5, vI v4106), (6, vI v4107)]) rfl rfl rfl ?_)
              have o4503 : (xl1 B n q d) = (xh B n ((xN B n ((xN B n (xN B n (xN B n (xN B n (xN B n (xN B n (xN B n (xN B n (xN B n (xN B n q))))))))))))) 0 23, ((xN B n ((xN B n (xN B n (xN B n (xN B n (xN B n (xN B n (xN B n (xN B n (xN B n (xN B n q))))))))))))), ((xN B n ((xN B n (xN B n (xN B n (xN B n (xN B n (xN B n (xN B n (xN B n (xN B n (xN B n q)))))))))))))) := by
                rw [x4119]
                unfold xcs xca xcb xrg
                try simp only [xs_xs, xs_z]
                try rw [_ea]
                try rw [_eb]
                try rw [_ec]
                repeat first | rw [xs_0 (by omega)] | rw [xs_1 (by omega)] | rw [if_pos (by omega)] | rw [if_neg (by omega)]
                first | done | rfl | assumption | (exfalso; omega) | (refine Prod.ext ?_ (Prod.ext ?_ ?_) <;> (try dsimp only) <;> omega)
              have o4503a : ((xl1 B n q d)).1 = xh B n ((xN B n ((xN B n (xN B n (xN B n (xN B n (xN B n (xN B n (xN B n (xN B n (xN B n (xN B n q))))))))))))) 0 23 := by rw [o4503]
              have o4503b : ((xl1 B n q d)).2.1 = ((xN B n ((xN B n (xN B n (xN B n (xN B n (xN B n (xN B n (xN B n (xN B n (xN B n (xN B n q))))))))))))) := by rw [o4503]
              have o4503c : ((xl1 B n q d)).2.2 = ((xN B n ((xN B n (xN B n (xN B n (xN B n (xN B n (xN B n (xN B n (xN B n (xN B n (xN B n q))))))))))))) := by rw [o4503]
              exact wp_lc (ks := [10, 9, 8, 7, 0, 1, 3, 4, 5, 6]) (wl_c rfl (wl_c rfl (wl_c rfl (wl_c rfl (wl_c rfl (wl_c rfl (wl_c rfl (wl_c rfl (wl_c rfl wl_n))))))))) rfl (by decide) (u_187_k_t183o hW g0 qrp grp qrb grb p0 hRC_r0 hDM_rp v4103 v4104 v4105 v4106 v4107 (-1) z4398 z4497 H4392 (xh B n ((xN B n ((xN B n (xN B n (xN B n (xN B n (xN B n (xN B n (xN B n (xN B n (xN B n (xN B n q))))))))))))) 0 23) (((xN B n ((xN B n (xN B n (xN B n (xN B n (xN B n (xN B n (xN B n (xN B n (xN B n (xN B n q)))))))))))))) w4396 f4485 ⟨by omega, by omega⟩ ⟨by omega, by omega⟩ ⟨by omega, by omega⟩ ⟨by omega, by omega⟩ ⟨by omega, by omega⟩ ⟨by omega, by omega⟩ ⟨by omega, by omega⟩ ⟨by omega, by omega⟩ a4501 (by omega) (by omega))
      · have f4504 := f4361.tr f4374 rfl
        have f4505 := f4362.tr f4374 rfl
        show wp _ _ 187 140 [(7, vI (-1)), (0, .ref r0), (1, vL v4103), (3, vI v4104), (4, vI v4105), (5, vI v4106), (6, vI v4107)] [vI z4375] _ H4369 _
        have u4506 := RC_k a4383
        refine wp_of e187 c187_140 (rw_istore (pc' := 142) (z := z4375) (L' := [(8, vI z4375), (7, vI (-1)), (0, .ref r0), (1, vL v4103), (3, vI v4104), (4, vI v4105), (5, vI v4106), (6, vI v4107)]) rfl rfl rfl ?_)
        refine wp_of e187 c187_142 (rw_iload (pc' := 144) (z := z4375) rfl rfl ?_)
        refine wp_of e187 c187_144 (rw_if_eq (p1 := 157) (p2 := 147) (by decide) rfl ⟨by omega, by omega⟩ (fun c4507 => ?_) (fun c4507 => ?_))
        · refine wp_of e187 c187_157 (rw_iconst (pc' := 158) rfl ?_)
          refine wp_of e187 c187_158 (rw_istore (pc' := 160) (z := 0) (L' := [(9, vI 0), (8, vI z4375), (7, vI (-1)), (0, .ref r0), (1, vL v4103), (3, vI v4104), (4, vI v4105), (5, vI v4106), (6, vI v4107)]) rfl rfl rfl ?_)
          refine wp_of e187 c187_160 (rw_iload (pc' := 162) (z := z4375) rfl rfl ?_)
          refine wp_of e187 c187_162 (rw_if_eq (p1 := 180) (p2 := 165) (by decide) rfl ⟨by omega, by omega⟩ (fun c4508 => ?_) (fun c4508 => ?_))
          · refine wp_of e187 c187_180 (rw_iconst (pc' := 181) rfl ?_)
            refine wp_of e187 c187_181 (rw_istore (pc' := 183) (z := 0) (L' := [(10, vI 0), (9, vI 0), (8, vI z4375), (7, vI (-1)), (0, .ref r0), (1, vL v4103), (3, vI v4104), (4, vI v4105), (5, vI v4106), (6, vI v4107)]) rfl rfl rfl ?_)
            have _eb : xqb B n ((xN B n (xN B n (xN B n (xN B n (xN B n (xN B n (xN B n (xN B n (xN B n (xN B n q))))))))))) = ((xN B n (xN B n (xN B n (xN B n (xN B n (xN B n (xN B n (xN B n (xN B n (xN B n q))))))))))) := by
              unfold xqb
              first | rw [if_pos (by omega)] | rw [if_neg (by omega)]
            have _enf : xnf B n ((xN B n (xN B n (xN B n (xN B n (xN B n (xN B n (xN B n (xN B n (xN B n (xN B n q))))))))))) = 0 := by
              unfold xnf
              first | (rw [if_pos (by omega)] <;> omega) | (rw [if_neg (by omega)] <;> omega)
            have _ent : xnt B n ((xN B n (xN B n (xN B n (xN B n (xN B n (xN B n (xN B n (xN B n (xN B n (xN B n q))))))))))) = 0 := by
              unfold xnt
              first | (rw [if_pos (by omega)] <;> omega) | (rw [if_neg (by omega)] <;> omega)
            refine wp_of e187 c187_183 (rw_aload_n (pc' := 184) (v := .ref r0) rfl rfl rfl ?_)
            refine wp_of e187 c187_184 (rw_ldcS (pc' := 186) (k := 85) rfl rfl rfl rfl ?_)
            have k4509 : H4369 r0 5 = H4136 r0 5 := (f4374 r0 5 _ g0 rfl)
            have q4510 : H4369 r0 5 = (rb : Int) := k4509.trans q4366
            refine wp_of e187 c187_186 (xc_V (pc' := 189) (r := r0) (as := [.ref 85]) (st := []) (lm_9_240) rfl rfl (Nat.le_of_ble_eq_true rfl) w4373 g0 sh_42 (by decide) rfl (by decide) (u_192_k (B := B) (n := n) (q := ((xN B n (xN B n (xN B n (xN B n (xN B n (xN B n (xN B n (xN B n (xN B n (xN B n q)))))))))))) (kk := 56377) w4373 g0 rfl q4510 grb (by decide +kernel) a4383) (fun R4511 T4512 H4513 p4514 => ?_))
            obtain ⟨e4515, w4517, f4518, z4519, e4516, b4520, p4521⟩ := p4514
            subst e4515
            subst e4516
            rcases p4521 with ⟨a4522, a4523, a4524⟩ | ⟨a4525, a4526, a4527⟩
            · have f4528 := f4504.tr f4518 rfl
              have f4529 := f4505.tr f4518 rfl
              show wp _ _ 187 189 [(10, vI 0), (9, vI 0), (8, vI z4375), (7, vI (-1)), (0, .ref r0), (1, vL v4103), (3, vI v4104), (4, vI v4105), (5, vI v4106), (6, vI v4107)] [vI z4519] _ H4513 _
              have u4530 := RC_k a4524
              refine wp_of e187 c187_189 (rw_istore (pc' := 191) (z := z4519) (L' := [(11, vI z4519), (10, vI 0), (9, vI 0), (8, vI z4375), (7, vI (-1)), (0, .ref r0), (1, vL v4103), (3, vI v4104), (4, vI v4105), (5, vI v4106), (6, vI v4107)]) rfl rfl rfl ?_)
              have _ec : xqc B n ((xN B n (xN B n (xN B n (xN B n (xN B n (xN B n (xN B n (xN B n (xN B n (xN B n q))))))))))) = ((xN B n ((xN B n (xN B n (xN B n (xN B n (xN B n (xN B n (xN B n (xN B n (xN B n (xN B n q))))))))))))) := by
                unfold xqc
                first | rw [if_pos (by omega)] | rw [if_neg (by omega)]
              have _ew : xaw B n ((xN B n (xN B n (xN B n (xN B n (xN B n (xN B n (xN B n (xN B n (xN B n (xN B n q))))))))))) = z4519 := by
                unfold xaw
                first | (rw [if_pos (by omega)] <;> omega) | (rw [if_neg (by omega)] <;> omega)
              refine wp_of e187 c187_191 (rw_aload_n (pc' := 192) (v := .ref r0) rfl rfl rfl ?_)
              refine wp_of e187 c187_192 (xg_I (pc' := 195) lf_9_75 w4517 g0 sh_42 (by decide) (by decide) ty_42_9 rfl rfl (fun b4531 b4532 => ?_))
              refine wp_of e187 c187_195 (rw_iconst (pc' := 196) rfl ?_)
              refine wp_of e187 c187_196 (rw_icmp_ne (p1 := 200) (p2 := 199) (by decide) rfl ⟨by omega, by omega⟩ ⟨by omega, by omega⟩ (fun c4533 => ?_) (fun c4533 => ?_))
              · have o4534 : (xl1 B n q d) = (0, (xN B n (xN B n (xN B n (xN B n (xN B n (xN B n (xN B n (xN B n (xN B n (xN B n q)))))))))), (xN B n ((xN B n (xN B n (xN B n (xN B n (xN B n (xN B n (xN B n (xN B n (xN B n (xN B n q))))))))))))) := by
                  rw [x4119]
                  unfold xcs xca xcb xrg
                  try simp only [xs_xs, xs_z]
                  try rw [_ea]
                  try rw [_eb]
                  try rw [_ec]
                  repeat first | rw [xs_0 (by omega)] | rw [xs_1 (by omega)] | rw [if_pos (by omega)] | rw [if_neg (by omega)]
                  first | done | rfl | assumption | (exfalso; omega) | (refine Prod.ext ?_ (Prod.ext ?_ ?_) <;> (try dsimp only) <;> omega)
                have o4534a : ((xl1 B n q d)).1 = 0 := by rw [o4534]
                have o4534b : ((xl1 B n q d)).2.1 = (xN B n (xN B n (xN B n (xN B n (xN B n (xN B n (xN B n (xN B n (xN B n (xN B n q)))))))))) := by rw [o4534]
                have o4534c : ((xl1 B n q d)).2.2 = (xN B n ((xN B n (xN B n (xN B n (xN B n (xN B n (xN B n (xN B n (xN B n (xN B n (xN B n q)))))))))))) := by rw [o4534]
                have h4535 : DM T H4513 rp r0 d := (DM_fr w4373 grp f4518 rfl (DM_fr w4140 grp f4374 rfl (DM_fr w4109 grp f4141 rfl h4118)))
                exact wp_lc (ks := [11, 10, 9, 8, 7, 0, 1, 3, 4, 5, 6]) (wl_c rfl (wl_c rfl (wl_c rfl (wl_c rfl (wl_c rfl (wl_c rfl (wl_c rfl (wl_c rfl (wl_c rfl (wl_c rfl wl_n)))))))))) rfl (by decide) (u_187_k_t200k hW g0 qrp grp qrb grb p0 hRC_r0 hDM_rp v4103 v4104 v4105 v4106 v4107 (-1) 0 0 z4519 H4513 w4517 f4529 ⟨by omega, by omega⟩ ⟨by omega, by omega⟩ ⟨by omega, by omega⟩ ⟨by omega, by omega⟩ ⟨by omega, by omega⟩ ⟨by omega, by omega⟩ ⟨by omega, by omega⟩ ⟨by omega, by omega⟩ ⟨by omega, by omega⟩ (by rw [show (xl1 B n q d).2.2 = ((xN B n ((xN B n (xN B n (xN B n (xN B n (xN B n (xN B n (xN B n (xN B n (xN B n (xN B n q))))))))))))) by omega]; exact a4524) h4535 (by omega) (by omega) (by omega) (by omega) (by omega) (by omega) (by omega) (by omega) (by omega) (by omega) (by omega) (by rw [_ea]; exact _enf) (by rw [_ea]; exact _ent) (by rw [_ea, _eb]; exact _ew) (by omega))
              · exfalso
                omega
            · have f4536 := f4504.tr f4518 rfl
              have f4537 := f4505.tr f4518 rfl
              show wp _ _ 187 189 [(10, vI 0), (9, vI 0), (8, vI z4375), (7, vI (-1)), (0, .ref r0), (1, vL v4103), (3, vI v4104), (4, vI v4105), (5, vI v4106), (6, vI v4107)] [vI z4519] _ H4513 _
              have u4538 := RC_k a4527
              refine wp_of e187 c187_189 (rw_istore (pc' := 191) (z := z4519) (L' := [(11, vI z4519), (10, vI 0), (9, vI 0), (8, vI z4375), (7, vI (-1)), (0, .ref r0), (1, vL v4103), (3, vI v4104), (4, vI v4105), (5, vI v4106), (6, vI v4107)]) rfl rfl rfl ?_)
              have _ec : xqc B n ((xN B n (xN B n (xN B n (xN B n (xN B n (xN B n (xN B n (xN B n (xN B n (xN B n q))))))))))) = ((xN B n (xN B n (xN B n (xN B n (xN B n (xN B n (xN B n (xN B n (xN B n (xN B n q))))))))))) := by
                unfold xqc
                first | rw [if_pos (by omega)] | rw [if_neg (by omega)]
              have _ew : xaw B n ((xN B n (xN B n (xN B n (xN B n (xN B n (xN B n (xN B n (xN B n (xN B n (xN B n q))))))))))) = z4519 := by
                unfold xaw
                first | (rw [if_pos (by omega)] <;> omega) | (rw [if_neg (by omega)] <;> omega)
              refine wp_of e187 c187_191 (rw_aload_n (pc' := 192) (v := .ref r0) rfl rfl rfl ?_)
              refine wp_of e187 c187_192 (xg_I (pc' := 195) lf_9_75 w4517 g0 sh_42 (by decide) (by decide) ty_42_9 rfl rfl (fun b4539 b4540 => ?_))
              refine wp_of e187 c187_195 (rw_iconst (pc' := 196) rfl ?_)
              refine wp_of e187 c187_196 (rw_icmp_ne (p1 := 200) (p2 := 199) (by decide) rfl ⟨by omega, by omega⟩ ⟨by omega, by omega⟩ (fun c4541 => ?_) (fun c4541 => ?_))
              · have o4542 : (xl1 B n q d) = (0, (xN B n (xN B n (xN B n (xN B n (xN B n (xN B n (xN B n (xN B n (xN B n (xN B n q)))))))))), (xN B n (xN B n (xN B n (xN B n (xN B n (xN B n (xN B n (xN B n (xN B n (xN B n q))))))))))) := by
                  rw [x4119]
                  unfold xcs xca xcb xrg
                  try simp only [xs_xs, xs_z]
                  try rw [_ea]
                  try rw [_eb]
                  try rw [_ec]
                  repeat first | rw [xs_0 (by omega)] | rw [xs_1 (by omega)] | rw [if_pos (by omega)] | rw [if_neg (by omega)]
                  first | done | rfl | assumption | (exfalso; omega) | (refine Prod.ext ?_ (Prod.ext ?_ ?_) <;> (try dsimp only) <;> omega)
                have o4542a : ((xl1 B n q d)).1 = 0 := by rw [o4542]
                have o4542b : ((xl1 B n q d)).2.1 = (xN B n (xN B n (xN B n (xN B n (xN B n (xN B n (xN B n (xN B n (xN B n (xN B n q)))))))))) := by rw [o4542]
                have o4542c : ((xl1 B n q d)).2.2 = (xN B n (xN B n (xN B n (xN B n (xN B n (xN B n (xN B n (xN B n (xN B n (xN B n q)))))))))) := by rw [o4542]
                have h4543 : DM T H4513 rp r0 d := (DM_fr w4373 grp f4518 rfl (DM_fr w4140 grp f4374 rfl (DM_fr w4109 grp f4141 rfl h4118)))
                exact wp_lc (ks := [11, 10, 9, 8, 7, 0, 1, 3, 4, 5, 6]) (wl_c rfl (wl_c rfl (wl_c rfl (wl_c rfl (wl_c rfl (wl_c rfl (wl_c rfl (wl_c rfl (wl_c rfl (wl_c rfl wl_n)))))))))) rfl (by decide) (u_187_k_t200k hW g0 qrp grp qrb grb p0 hRC_r0 hDM_rp v4103 v4104 v4105 v4106 v4107 (-1) 0 0 z4519 H4513 w4517 f4537 ⟨by omega, by omega⟩ ⟨by omega, by omega⟩ ⟨by omega, by omega⟩ ⟨by omega, by omega⟩ ⟨by omega, by omega⟩ ⟨by omega, by omega⟩ ⟨by omega, by omega⟩ ⟨by omega, by omega⟩ ⟨by omega, by omega⟩ (by rw [show (xl1 B n q d).2.2 = ((xN B n (xN B n (xN B n (xN B n (xN B n (xN B n (xN B n (xN B n (xN B n (xN B n q))))))))))) by omega]; exact a4527) h4543 (by omega) (by omega) (by omega) (by omega) (by omega) (by omega) (by omega) (by omega) (by omega) (by omega) (by omega) (by rw [_ea]; exact _enf) (by rw [_ea]; exact _ent) (by rw [_ea, _eb]; exact _ew) (by omega))
              · exfalso
                omega
          · exfalso
            omega
        · exfalso
          omega
    · exfalso
      omega
set_option maxHeartbeats 60000000 in
theorem u_187_k_t112o {kt : Nat → Option mc_E} {T : wq_T} {H : wq_H} {r0 : Nat} {rp : Nat} {rb : Nat} {B : Nat → Int} {n : Int} {q : Int} {d : xD} (hW : WT T H) (g0 : T.2.2.2 r0 = some 42) (qrp : H r0 4 = (rp : Int)) (grp : T.2.2.2 rp = some 54) (qrb : H r0 5 = (rb : Int)) (grb : T.2.2.2 rb = some 43) (p0 : xK B n q = 1) (hRC_r0 : RC T H r0 B n q) (hDM_rp : DM T H rp r0 d) : ∀ (v4563 : Int) (v4564 : Int) (v4565 : Int) (v4566 : Int) (v4567 : Int) (H4568 : wq_H) (fo4572 : Int) (po4573 : Int), WT T H4568 → wfr [(42, 8), (42, 9), (42, 10), (42, 11), (42, 12), (42, 13), (42, 14), (42, 15)] T H H4568 → ((-9223372036854775808) ≤ v4563 ∧ v4563 ≤ 9223372036854775807) → (0 ≤ v4564 ∧ v4564 ≤ 23) → (0 ≤ v4565 ∧ v4565 ≤ 30) → (0 ≤ v4566 ∧ v4566 ≤ 12) → (0 ≤ v4567 ∧ v4567 ≤ 16) → RO T H4568 r0 fo4572 po4573 → ((xl1 B n q d).1 = fo4572) → ((xl1 B n q d).2.1 = po4573) → wp kt 4 187 112 [(0, .ref r0), (1, vL v4563), (3, vI v4564), (4, vI v4565), (5, vI v4566), (6, vI v4567)] [] T H4568 (uq_187_k r0 rp rb B n q d T H) := by
  have f0 : wfr [(54, 3), (42, 8), (42, 9), (42, 10), (42, 11), (42, 12), (42, 13), (42, 14), (42, 15), (56, 999), (57, 999), (60, 999), (63, 999), (58, 999), (59, 999), (55, 999), (61, 999), (62, 999)] T H H := wfr.rf
  have u4544 := RC_k hRC_r0
  have u4545 := DM_k hDM_rp
  have h4546 : MA9 T H rp (d 1) := hDM_rp.2.2.2.1
  have h4547 : MA10 T H rp (d 2) := hDM_rp.2.2.2.2.1
  have h4548 : MA11 T H rp (d 3) := hDM_rp.2.2.2.2.2.1
  have h4549 : MA12 T H rp (d 4) := hDM_rp.2.2.2.2.2.2.1
  have h4550 : MA13 T H rp (d 5) := hDM_rp.2.2.2.2.2.2.2.1
  have h4551 : MA14 T H rp (d 6) := hDM_rp.2.2.2.2.2.2.2.2.1
  have h4552 : MA15 T H rp (d 7) := hDM_rp.2.2.2.2.2.2.2.2.2.1
  have h4553 : MA16 T H rp (d 8) := hDM_rp.2.2.2.2.2.2.2.2.2.2.1
  have h4554 : MA17 T H rp (d 9) := hDM_rp.2.2.2.2.2.2.2.2.2.2.2.1
  have h4555 : MA18 T H rp (d 10) := hDM_rp.2.2.2.2.2.2.2.2.2.2.2.2.1
  have h4556 : MA19 T H rp (d 11) := hDM_rp.2.2.2.2.2.2.2.2.2.2.2.2.2.1
  have h4557 : MA20 T H rp (d 12) := hDM_rp.2.2.2.2.2.2.2.2.2.2.2.2.2.2.1
  have h4558 : MA21 T H rp (d 13) := hDM_rp.2.2.2.2.2.2.2.2.2.2.2.2.2.2.2.1
  have h4559 : MA22 T H rp (d 14) := hDM_rp.2.2.2.2.2.2.2.2.2.2.2.2.2.2.2.2.1
  have h4560 : MA23 T H rp (d 15) := hDM_rp.2.2.2.2.2.2.2.2.2.2.2.2.2.2.2.2.2.1
  have h4561 : MA25 T H rp (d 17) := hDM_rp.2.2.2.2.2.2.2.2.2.2.2.2.2.2.2.2.2.2.1
  have h4562 : MA26 T H rp (d 16) := hDM_rp.2.2.2.2.2.2.2.2.2.2.2.2.2.2.2.2.2.2.2
  intro v4563 v4564 v4565 v4566 v4567 H4568 fo4572 po4573 w4569 f4570 b4574 b4575 b4576 b4577 b4578 h4579 x4580 x4581
  have f4582 : wfr [(54, 3), (42, 8), (42, 9), (42, 10), (42, 11), (42, 12), (42, 13), (42, 14), (42, 15), (56, 999), (57, 999), (60, 999), (63, 999), (58, 999), (59, 999), (55, 999), (61, 999), (62, 999)] T H H4568 := wfr.rf.tr f4570 rfl
  have u4583 := RO_k h4579
  refine wp_of e187 c187_112 (rw_aload_n (pc' := 113) (v := .ref r0) rfl rfl rfl ?_)
  refine wp_of e187 c187_113 (rw_ldcS (pc' := 115) (k := 83) rfl rfl rfl rfl ?_)
  have k4584 : H4568 r0 5 = H r0 5 := (f4570 r0 5 _ g0 rfl)
  have q4585 : H4568 r0 5 = (rb : Int) := k4584.trans qrb
  refine wp_of e187 c187_115 (xc_V (pc' := 118) (r := r0) (as := [.ref 83]) (st := []) (lm_9_240) rfl rfl (Nat.le_of_ble_eq_true rfl) w4569 g0 sh_42 (by decide) rfl (by decide) (u_192_o (fo := fo4572) (po := po4573) (kk := 8423732) w4569 g0 rfl q4585 grb (by decide +kernel) h4579) (fun R4586 T4587 H4588 p4589 => ?_))
  obtain ⟨e4590, e4592, z4593, e4591, b4594, p4595⟩ := p4589
  subst e4590
  subst e4591
  subst e4592
  obtain ⟨a4596, a4597⟩ := p4595
  show wp _ _ 187 118 [(0, .ref r0), (1, vL v4563), (3, vI v4564), (4, vI v4565), (5, vI v4566), (6, vI v4567)] [vI z4593] _ H4568 _
  have u4598 := RO_k a4597
  refine wp_of e187 c187_118 (rw_if_eq (p1 := 131) (p2 := 121) (by decide) rfl ⟨by omega, by omega⟩ (fun c4599 => ?_) (fun c4599 => ?_))
  · refine wp_of e187 c187_131 (rw_iconst (pc' := 132) rfl ?_)
    refine wp_of e187 c187_132 (rw_istore (pc' := 134) (z := -1) (L' := [(7, vI (-1)), (0, .ref r0), (1, vL v4563), (3, vI v4564), (4, vI v4565), (5, vI v4566), (6, vI v4567)]) rfl rfl rfl ?_)
    exact wp_lc (ks := [7, 0, 1, 3, 4, 5, 6]) (wl_c rfl (wl_c rfl (wl_c rfl (wl_c rfl (wl_c rfl (wl_c rfl (wl_c rfl wl_n))))))) rfl (by decide) (u_187_k_t134o hW g0 qrp grp qrb grb p0 hRC_r0 hDM_rp v4563 v4564 v4565 v4566 v4567 (-1) H4568 fo4572 po4573 w4569 f4570 ⟨by omega, by omega⟩ ⟨by omega, by omega⟩ ⟨by omega, by omega⟩ ⟨by omega, by omega⟩ ⟨by omega, by omega⟩ ⟨by omega, by omega⟩ a4597 (by omega) (by omega))
  · exfalso
    omega
set_option maxHeartbeats 60000000 in
theorem u_187_k_t93o {kt : Nat → Option mc_E} {T : wq_T} {H : wq_H} {r0 : Nat} {rp : Nat} {rb : Nat} {B : Nat → Int} {n : Int} {q : Int} {d : xD} (hW : WT T H) (g0 : T.2.2.2 r0 = some 42) (qrp : H r0 4 = (rp : Int)) (grp : T.2.2.2 rp = some 54) (qrb : H r0 5 = (rb : Int)) (grb : T.2.2.2 rb = some 43) (p0 : xK B n q = 1) (hRC_r0 : RC T H r0 B n q) (hDM_rp : DM T H rp r0 d) : ∀ (v4619 : Int) (v4620 : Int) (v4621 : Int) (v4622 : Int) (H4623 : wq_H) (fo4627 : Int) (po4628 : Int), WT T H4623 → wfr [(42, 8), (42, 9), (42, 10), (42, 11), (42, 12), (42, 13), (42, 14), (42, 15)] T H H4623 → ((-9223372036854775808) ≤ v4619 ∧ v4619 ≤ 9223372036854775807) → (0 ≤ v4620 ∧ v4620 ≤ 23) → (0 ≤ v4621 ∧ v4621 ≤ 30) → (0 ≤ v4622 ∧ v4622 ≤ 12) → RO T H4623 r0 fo4627 po4628 → ((xl1 B n q d).1 = fo4627) → ((xl1 B n q d).2.1 = po4628) → wp kt 4 187 93 [(0, .ref r0), (1, vL v4619), (3, vI v4620), (4, vI v4621), (5, vI v4622)] [] T H4623 (uq_187_k r0 rp rb B n q d T H) := by
  have f0 : wfr [(54, 3), (42, 8), (42, 9), (42, 10), (42, 11), (42, 12), (42, 13), (42, 14), (42, 15), (56, 999), (57, 999), (60, 999), (63, 999), (58, 999), (59, 999), (55, 999), (61, 999), (62, 999)] T H H := wfr.rf
  have u4600 := RC_k hRC_r0
  have u4601 := DM_k hDM_rp
  have h4602 : MA9 T H rp (d 1) := hDM_rp.2.2.2.1
  have h4603 : MA10 T H rp (d 2) := hDM_rp.2.2.2.2.1
  have h4604 : MA11 T H rp (d 3) := hDM_rp.2.2.2.2.2.1
  have h4605 : MA12 T H rp (d 4) := hDM_rp.2.2.2.2.2.2.1
  have h4606 : MA13 T H rp (d 5) := hDM_rp.2.2.2.2.2.2.2.1
  have h4607 : MA14 T H rp (d 6) := hDM_rp.2.2.2.2.2.2.2.2.1
  have h4608 : MA15 T H rp (d 7) := hDM_rp.2.2.2.2.2.2.2.2.2.1
  have h4609 : MA16 T H rp (d 8) := hDM_rp.2.2.2.2.2.2.2.2.2.2.1
  have h4610 : MA17 T H rp (d 9) := hDM_rp.2.2.2.2.2.2.2.2.2.2.2.1
  have h4611 : MA18 T H rp (d 10) := hDM_rp.2.2.2.2.2.2.2.2.2.2.2.2.1
  have h4612 : MA19 T H rp (d 11) := hDM_rp.2.2.2.2.2.2.2.2.2.2.2.2.2.1
  have h4613 : MA20 T H rp (d 12) := hDM_rp.2.2.2.2.2.2.2.2.2.2.2.2.2.2.1
  have h4614 : MA21 T H rp (d 13) := hDM_rp.2.2.2.2.2.2.2.2.2.2.2.2.2.2.2.1
  have h4615 : MA22 T H rp (d 14) := hDM_rp.2.2.2.2.2.2.2.2.2.2.2.2.2.2.2.2.1
  have h4616 : MA23 T H rp (d 15) := hDM_rp.2.2.2.2.2.2.2.2.2.2.2.2.2.2.2.2.2.1
  have h4617 : MA25 T H rp (d 17) := hDM_rp.2.2.2.2.2.2.2.2.2.2.2.2.2.2.2.2.2.2.1
  have h4618 : MA26 T H rp (d 16) := hDM_rp.2.2.2.2.2.2.2.2.2.2.2.2.2.2.2.2.2.2.2
  intro v4619 v4620 v4621 v4622 H4623 fo4627 po4628 w4624 f4625 b4629 b4630 b4631 b4632 h4633 x4634 x4635
  have f4636 : wfr [(54, 3), (42, 8), (42, 9), (42, 10), (42, 11), (42, 12), (42, 13), (42, 14), (42, 15), (56, 999), (57, 999), (60, 999), (63, 999), (58, 999), (59, 999), (55, 999), (61, 999), (62, 999)] T H H4623 := wfr.rf.tr f4625 rfl
  have u4637 := RO_k h4633
  refine wp_of e187 c187_93 (rw_aload_n (pc' := 94) (v := .ref r0) rfl rfl rfl ?_)
  refine wp_of e187 c187_94 (rw_ldcS (pc' := 96) (k := 87) rfl rfl rfl rfl ?_)
  refine wp_of e187 c187_96 (rw_iload (pc' := 98) (z := v4622) rfl rfl ?_)
  refine wp_of e187 c187_98 (rw_bipush (pc' := 100) (z := 12) rfl (by decide) ?_)
  refine wp_of e187 c187_100 (rw_iload (pc' := 102) (z := v4622) rfl rfl ?_)
  refine wp_of e187 c187_102 (rw_iconst (pc' := 103) rfl ?_)
  refine wp_of e187 c187_103 (rw_iadd (pc' := 104) rfl ?_)
  refine wp_of e187 c187_104 (xc_S (pc' := 107) (as := [vI 12, vI (v4622 + 4)]) (st := [vI v4622, .ref 87, .ref r0]) (lm_9_235) rfl rfl (Nat.le_of_ble_eq_true rfl) rfl (by decide) (u_191  w4624 ⟨by omega, by omega⟩ ⟨by omega, by omega⟩) (fun R4638 T4639 H4640 p4641 => ?_))
  obtain ⟨e4642, e4644, z4645, e4643, b4646, p4647⟩ := p4641
  subst e4642
  subst e4643
  subst e4644
  show wp _ _ 187 107 [(0, .ref r0), (1, vL v4619), (3, vI v4620), (4, vI v4621), (5, vI v4622)] [vI z4645, vI v4622, .ref 87, .ref r0] _ H4623 _
  have k4649 : H4623 r0 5 = H r0 5 := (f4625 r0 5 _ g0 rfl)
  have q4650 : H4623 r0 5 = (rb : Int) := k4649.trans qrb
  refine wp_of e187 c187_107 (xc_V (pc' := 110) (r := r0) (as := [.ref 87, vI v4622, vI z4645]) (st := []) (lm_9_216) rfl rfl (Nat.le_of_ble_eq_true rfl) w4624 g0 sh_42 (by decide) rfl (by decide) (u_182_o (fo := fo4627) (po := po4628) (kk := 655) w4624 g0 rfl ⟨by omega, by omega⟩ ⟨by omega, by omega⟩ q4650 grb (by decide +kernel) h4633) (fun R4651 T4652 H4653 p4654 => ?_))
  obtain ⟨e4655, e4657, z4658, e4656, b4659, p4660⟩ := p4654
  subst e4655
  subst e4656
  subst e4657
  obtain ⟨a4661, a4662⟩ := p4660
  show wp _ _ 187 110 [(0, .ref r0), (1, vL v4619), (3, vI v4620), (4, vI v4621), (5, vI v4622)] [vI z4658] _ H4623 _
  have u4663 := RO_k a4662
  refine wp_of e187 c187_110 (rw_istore (pc' := 112) (z := z4658) (L' := [(6, vI z4658), (0, .ref r0), (1, vL v4619), (3, vI v4620), (4, vI v4621), (5, vI v4622)]) rfl rfl rfl ?_)
  exact wp_lc (ks := [6, 0, 1, 3, 4, 5]) (wl_c rfl (wl_c rfl (wl_c rfl (wl_c rfl (wl_c rfl (wl_c rfl wl_n)))))) rfl (by decide) (u_187_k_t112o hW g0 qrp grp qrb grb p0 hRC_r0 hDM_rp v4619 v4620 v4621 v4622 z4658 H4623 fo4627 po4628 w4624 f4625 ⟨by omega, by omega⟩ ⟨by omega, by omega⟩ ⟨by omega, by omega⟩ ⟨by omega, by omega⟩ ⟨by omega, by omega⟩ a4662 (by omega) (by omega))
set_option maxHeartbeats 60000000 in
theorem u_187_k_t82o {kt : Nat → Option mc_E} {T : wq_T} {H : wq_H} {r0 : Nat} {rp : Nat} {rb : Nat} {B : Nat → Int} {n : Int} {q : Int} {d : xD} (hW : WT T H) (g0 : T.2.2.2 r0 = some 42) (qrp : H r0 4 = (rp : Int)) (grp : T.2.2.2 rp = some 54) (qrb : H r0 5 = (rb : Int)) (grb : T.2.2.2 rb = some 43) (p0 : xK B n q = 1) (hRC_r0 : RC T H r0 B n q) (hDM_rp : DM T H rp r0 d) : ∀ (v4683 : Int) (v4684 : Int) (v4685 : Int) (H4686 : wq_H) (fo4690 : Int) (po4691 : Int), WT T H4686 → wfr [(42, 8), (42, 9), (42, 10), (42, 11), (42, 12), (42, 13), (42, 14), (42, 15)] T H H4686 → ((-9223372036854775808) ≤ v4683 ∧ v4683 ≤ 9223372036854775807) → (0 ≤ v4684 ∧ v4684 ≤ 23) → (0 ≤ v4685 ∧ v4685 ≤ 30) → RO T H4686 r0 fo4690 po4691 → ((xl1 B n q d).1 = fo4690) → ((xl1 B n q d).2.1 = po4691) → wp kt 4 187 82 [(0, .ref r0), (1, vL v4683), (3, vI v4684), (4, vI v4685)] [] T H4686 (uq_187_k r0 rp rb B n q d T H) := by
  have f0 : wfr [(54, 3), (42, 8), (42, 9), (42, 10), (42, 11), (42, 12), (42, 13), (42, 14), (42, 15), (56, 999), (57, 999), (60, 999), (63, 999), (58, 999), (59, 999), (55, 999), (61, 999), (62, 999)] T H H := wfr.rf
  have u4664 := RC_k hRC_r0
  have u4665 := DM_k hDM_rp
  have h4666 : MA9 T H rp (d 1) := hDM_rp.2.2.2.1
  have h4667 : MA10 T H rp (d 2) := hDM_rp.2.2.2.2.1
  have h4668 : MA11 T H rp (d 3) := hDM_rp.2.2.2.2.2.1
  have h4669 : MA12 T H rp (d 4) := hDM_rp.2.2.2.2.2.2.1
  have h4670 : MA13 T H rp (d 5) := hDM_rp.2.2.2.2.2.2.2.1
  have h4671 : MA14 T H rp (d 6) := hDM_rp.2.2.2.2.2.2.2.2.1
  have h4672 : MA15 T H rp (d 7) := hDM_rp.2.2.2.2.2.2.2.2.2.1
  have h4673 : MA16 T H rp (d 8) := hDM_rp.2.2.2.2.2.2.2.2.2.2.1
  have h4674 : MA17 T H rp (d 9) := hDM_rp.2.2.2.2.2.2.2.2.2.2.2.1
  have h4675 : MA18 T H rp (d 10) := hDM_rp.2.2.2.2.2.2.2.2.2.2.2.2.1
  have h4676 : MA19 T H rp (d 11) := hDM_rp.2.2.2.2.2.2.2.2.2.2.2.2.2.1
  have h4677 : MA20 T H rp (d 12) := hDM_rp.2.2.2.2.2.2.2.2.2.2.2.2.2.2.1
  have h4678 : MA21 T H rp (d 13) := hDM_rp.2.2.2.2.2.2.2.2.2.2.2.2.2.2.2.1
  have h4679 : MA22 T H rp (d 14) := hDM_rp.2.2.2.2.2.2.2.2.2.2.2.2.2.2.2.2.1
  have h4680 : MA23 T H rp (d 15) := hDM_rp.2.2.2.2.2.2.2.2.2.2.2.2.2.2.2.2.2.1
  have h4681 : MA25 T H rp (d 17) := hDM_rp.2.2.2.2.2.2.2.2.2.2.2.2.2.2.2.2.2.2.1
  have h4682 : MA26 T H rp (d 16) := hDM_rp.2.2.2.2.2.2.2.2.2.2.2.2.2.2.2.2.2.2.2
  intro v4683 v4684 v4685 H4686 fo4690 po4691 w4687 f4688 b4692 b4693 b4694 h4695 x4696 x4697
  have f4698 : wfr [(54, 3), (42, 8), (42, 9), (42, 10), (42, 11), (42, 12), (42, 13), (42, 14), (42, 15), (56, 999), (57, 999), (60, 999), (63, 999), (58, 999), (59, 999), (55, 999), (61, 999), (62, 999)] T H H4686 := wfr.rf.tr f4688 rfl
  have u4699 := RO_k h4695
  refine wp_of e187 c187_82 (rw_aload_n (pc' := 83) (v := .ref r0) rfl rfl rfl ?_)
  refine wp_of e187 c187_83 (rw_ldcS (pc' := 85) (k := 88) rfl rfl rfl rfl ?_)
  refine wp_of e187 c187_85 (rw_iconst (pc' := 86) rfl ?_)
  refine wp_of e187 c187_86 (rw_bipush (pc' := 88) (z := 12) rfl (by decide) ?_)
  have k4700 : H4686 r0 5 = H r0 5 := (f4688 r0 5 _ g0 rfl)
  have q4701 : H4686 r0 5 = (rb : Int) := k4700.trans qrb
  refine wp_of e187 c187_88 (xc_V (pc' := 91) (r := r0) (as := [.ref 88, vI 0, vI 12]) (st := []) (lm_9_216) rfl rfl (Nat.le_of_ble_eq_true rfl) w4687 g0 sh_42 (by decide) rfl (by decide) (u_182_o (fo := fo4690) (po := po4691) (kk := 409031) w4687 g0 rfl ⟨by omega, by omega⟩ ⟨by omega, by omega⟩ q4701 grb (by decide +kernel) h4695) (fun R4702 T4703 H4704 p4705 => ?_))
  obtain ⟨e4706, e4708, z4709, e4707, b4710, p4711⟩ := p4705
  subst e4706
  subst e4707
  subst e4708
  obtain ⟨a4712, a4713⟩ := p4711
  show wp _ _ 187 91 [(0, .ref r0), (1, vL v4683), (3, vI v4684), (4, vI v4685)] [vI z4709] _ H4686 _
  have u4714 := RO_k a4713
  refine wp_of e187 c187_91 (rw_istore (pc' := 93) (z := z4709) (L' := [(5, vI z4709), (0, .ref r0), (1, vL v4683), (3, vI v4684), (4, vI v4685)]) rfl rfl rfl ?_)
  exact wp_lc (ks := [5, 0, 1, 3, 4]) (wl_c rfl (wl_c rfl (wl_c rfl (wl_c rfl (wl_c rfl wl_n))))) rfl (by decide) (u_187_k_t93o hW g0 qrp grp qrb grb p0 hRC_r0 hDM_rp v4683 v4684 v4685 z4709 H4686 fo4690 po4691 w4687 f4688 ⟨by omega, by omega⟩ ⟨by omega, by omega⟩ ⟨by omega, by omega⟩ ⟨by omega, by omega⟩ a4713 (by omega) (by omega))
set_option maxHeartbeats 60000000 in
theorem u_187_k_t64o {kt : Nat → Option mc_E} {T : wq_T} {H : wq_H} {r0 : Nat} {rp : Nat} {rb : Nat} {B : Nat → Int} {n : Int} {q : Int} {d : xD} (hW : WT T H) (g0 : T.2.2.2 r0 = some 42) (qrp : H r0 4 = (rp : Int)) (grp : T.2.2.2 rp = some 54) (qrb : H r0 5 = (rb : Int)) (grb : T.2.2.2 rb = some 43) (p0 : xK B n q = 1) (hRC_r0 : RC T H r0 B n q) (hDM_rp : DM T H rp r0 d) : ∀ (v4734 : Int) (v4735 : Int) (H4736 : wq_H) (fo4740 : Int) (po4741 : Int), WT T H4736 → wfr [(42, 8), (42, 9), (42, 10), (42, 11), (42, 12), (42, 13), (42, 14), (42, 15)] T H H4736 → ((-9223372036854775808) ≤ v4734 ∧ v4734 ≤ 9223372036854775807) → (0 ≤ v4735 ∧ v4735 ≤ 23) → RO T H4736 r0 fo4740 po4741 → ((xl1 B n q d).1 = fo4740) → ((xl1 B n q d).2.1 = po4741) → wp kt 4 187 64 [(0, .ref r0), (1, vL v4734), (3, vI v4735)] [] T H4736 (uq_187_k r0 rp rb B n q d T H) := by
  have f0 : wfr [(54, 3), (42, 8), (42, 9), (42, 10), (42, 11), (42, 12), (42, 13), (42, 14), (42, 15), (56, 999), (57, 999), (60, 999), (63, 999), (58, 999), (59, 999), (55, 999), (61, 999), (62, 999)] T H H := wfr.rf
  have u4715 := RC_k hRC_r0
  have u4716 := DM_k hDM_rp
  have h4717 : MA9 T H rp (d 1) := hDM_rp.2.2.2.1
  have h4718 : MA10 T H rp (d 2) := hDM_rp.2.2.2.2.1
  have h4719 : MA11 T H rp (d 3) := hDM_rp.2.2.2.2.2.1
  have h4720 : MA12 T H rp (d 4) := hDM_rp.2.2.2.2.2.2.1
  have h4721 : MA13 T H rp (d 5) := hDM_rp.2.2.2.2.2.2.2.1
  have h4722 : MA14 T H rp (d 6) := hDM_rp.2.2.2.2.2.2.2.2.1
  have h4723 : MA15 T H rp (d 7) := hDM_rp.2.2.2.2.2.2.2.2.2.1
  have h4724 : MA16 T H rp (d 8) := hDM_rp.2.2.2.2.2.2.2.2.2.2.1
  have h4725 : MA17 T H rp (d 9) := hDM_rp.2.2.2.2.2.2.2.2.2.2.2.1
  have h4726 : MA18 T H rp (d 10) := hDM_rp.2.2.2.2.2.2.2.2.2.2.2.2.1
  have h4727 : MA19 T H rp (d 11) := hDM_rp.2.2.2.2.2.2.2.2.2.2.2.2.2.1
  have h4728 : MA20 T H rp (d 12) := hDM_rp.2.2.2.2.2.2.2.2.2.2.2.2.2.2.1
  have h4729 : MA21 T H rp (d 13) := hDM_rp.2.2.2.2.2.2.2.2.2.2.2.2.2.2.2.1
  have h4730 : MA22 T H rp (d 14) := hDM_rp.2.2.2.2.2.2.2.2.2.2.2.2.2.2.2.2.1
  have h4731 : MA23 T H rp (d 15) := hDM_rp.2.2.2.2.2.2.2.2.2.2.2.2.2.2.2.2.2.1
  have h4732 : MA25 T H rp (d 17) := hDM_rp.2.2.2.2.2.2.2.2.2.2.2.2.2.2.2.2.2.2.1
  have h4733 : MA26 T H rp (d 16) := hDM_rp.2.2.2.2.2.2.2.2.2.2.2.2.2.2.2.2.2.2.2
  intro v4734 v4735 H4736 fo4740 po4741 w4737 f4738 b4742 b4743 h4744 x4745 x4746
  have f4747 : wfr [(54, 3), (42, 8), (42, 9), (42, 10), (42, 11), (42, 12), (42, 13), (42, 14), (42, 15), (56, 999), (57, 999), (60, 999), (63, 999), (58, 999), (59, 999), (55, 999), (61, 999), (62, 999)] T H H4736 := wfr.rf.tr f4738 rfl
  have u4748 := RO_k h4744
  refine wp_of e187 c187_64 (rw_aload_n (pc' := 65) (v := .ref r0) rfl rfl rfl ?_)
  refine wp_of e187 c187_65 (rw_ldcS (pc' := 67) (k := 87) rfl rfl rfl rfl ?_)
  refine wp_of e187 c187_67 (rw_iload_n (pc' := 68) (z := v4735) rfl rfl ?_)
  refine wp_of e187 c187_68 (rw_bipush (pc' := 70) (z := 23) rfl (by decide) ?_)
  refine wp_of e187 c187_70 (rw_iload_n (pc' := 71) (z := v4735) rfl rfl ?_)
  refine wp_of e187 c187_71 (rw_bipush (pc' := 73) (z := 7) rfl (by decide) ?_)
  refine wp_of e187 c187_73 (rw_iadd (pc' := 74) rfl ?_)
  refine wp_of e187 c187_74 (xc_S (pc' := 77) (as := [vI 23, vI (v4735 + 7)]) (st := [vI v4735, .ref 87, .ref r0]) (lm_9_235) rfl rfl (Nat.le_of_ble_eq_true rfl) rfl (by decide) (u_191  w4737 ⟨by omega, by omega⟩ ⟨by omega, by omega⟩) (fun R4749 T4750 H4751 p4752 => ?_))
  obtain ⟨e4753, e4755, z4756, e4754, b4757, p4758⟩ := p4752
  subst e4753
  subst e4754
  subst e4755
  show wp _ _ 187 77 [(0, .ref r0), (1, vL v4734), (3, vI v4735)] [vI z4756, vI v4735, .ref 87, .ref r0] _ H4736 _
  have k4760 : H4736 r0 5 = H r0 5 := (f4738 r0 5 _ g0 rfl)
  have q4761 : H4736 r0 5 = (rb : Int) := k4760.trans qrb
  refine wp_of e187 c187_77 (xc_V (pc' := 80) (r := r0) (as := [.ref 87, vI v4735, vI z4756]) (st := []) (lm_9_216) rfl rfl (Nat.le_of_ble_eq_true rfl) w4737 g0 sh_42 (by decide) rfl (by decide) (u_182_o (fo := fo4740) (po := po4741) (kk := 655) w4737 g0 rfl ⟨by omega, by omega⟩ ⟨by omega, by omega⟩ q4761 grb (by decide +kernel) h4744) (fun R4762 T4763 H4764 p4765 => ?_))
  obtain ⟨e4766, e4768, z4769, e4767, b4770, p4771⟩ := p4765
  subst e4766
  subst e4767
  subst e4768
  obtain ⟨a4772, a4773⟩ := p4771
  show wp _ _ 187 80 [(0, .ref r0), (1, vL v4734), (3, vI v4735)] [vI z4769] _ H4736 _
  have u4774 := RO_k a4773
  refine wp_of e187 c187_80 (rw_istore (pc' := 82) (z := z4769) (L' := [(4, vI z4769), (0, .ref r0), (1, vL v4734), (3, vI v4735)]) rfl rfl rfl ?_)
  exact wp_lc (ks := [4, 0, 1, 3]) (wl_c rfl (wl_c rfl (wl_c rfl (wl_c rfl wl_n)))) rfl (by decide) (u_187_k_t82o hW g0 qrp grp qrb grb p0 hRC_r0 hDM_rp v4734 v4735 z4769 H4736 fo4740 po4741 w4737 f4738 ⟨by omega, by omega⟩ ⟨by omega, by omega⟩ ⟨by omega, by omega⟩ a4773 (by omega) (by omega))
set_option maxHeartbeats 60000000 in
theorem u_187_k_t54o {kt : Nat → Option mc_E} {T : wq_T} {H : wq_H} {r0 : Nat} {rp : Nat} {rb : Nat} {B : Nat → Int} {n : Int} {q : Int} {d : xD} (hW : WT T H) (g0 : T.2.2.2 r0 = some 42) (qrp : H r0 4 = (rp : Int)) (grp : T.2.2.2 rp = some 54) (qrb : H r0 5 = (rb : Int)) (grb : T.2.2.2 rb = some 43) (p0 : xK B n q = 1) (hRC_r0 : RC T H r0 B n q) (hDM_rp : DM T H rp r0 d) : ∀ (v4794 : Int) (H4795 : wq_H) (fo4799 : Int) (po4800 : Int), WT T H4795 → wfr [(42, 8), (42, 9), (42, 10), (42, 11), (42, 12), (42, 13), (42, 14), (42, 15)] T H H4795 → ((-9223372036854775808) ≤ v4794 ∧ v4794 ≤ 9223372036854775807) → RO T H4795 r0 fo4799 po4800 → ((xl1 B n q d).1 = fo4799) → ((xl1 B n q d).2.1 = po4800) → wp kt 4 187 54 [(0, .ref r0), (1, vL v4794)] [] T H4795 (uq_187_k r0 rp rb B n q d T H) := by
  have f0 : wfr [(54, 3), (42, 8), (42, 9), (42, 10), (42, 11), (42, 12), (42, 13), (42, 14), (42, 15), (56, 999), (57, 999), (60, 999), (63, 999), (58, 999), (59, 999), (55, 999), (61, 999), (62, 999)] T H H := wfr.rf
  have u4775 := RC_k hRC_r0
  have u4776 := DM_k hDM_rp
  have h4777 : MA9 T H rp (d 1) := hDM_rp.2.2.2.1
  have h4778 : MA10 T H rp (d 2) := hDM_rp.2.2.2.2.1
  have h4779 : MA11 T H rp (d 3) := hDM_rp.2.2.2.2.2.1
  have h4780 : MA12 T H rp (d 4) := hDM_rp.2.2.2.2.2.2.1
  have h4781 : MA13 T H rp (d 5) := hDM_rp.2.2.2.2.2.2.2.1
  have h4782 : MA14 T H rp (d 6) := hDM_rp.2.2.2.2.2.2.2.2.1
  have h4783 : MA15 T H rp (d 7) := hDM_rp.2.2.2.2.2.2.2.2.2.1
  have h4784 : MA16 T H rp (d 8) := hDM_rp.2.2.2.2.2.2.2.2.2.2.1
  have h4785 : MA17 T H rp (d 9) := hDM_rp.2.2.2.2.2.2.2.2.2.2.2.1
  have h4786 : MA18 T H rp (d 10) := hDM_rp.2.2.2.2.2.2.2.2.2.2.2.2.1
  have h4787 : MA19 T H rp (d 11) := hDM_rp.2.2.2.2.2.2.2.2.2.2.2.2.2.1
  have h4788 : MA20 T H rp (d 12) := hDM_rp.2.2.2.2.2.2.2.2.2.2.2.2.2.2.1
  have h4789 : MA21 T H rp (d 13) := hDM_rp.2.2.2.2.2.2.2.2.2.2.2.2.2.2.2.1
  have h4790 : MA22 T H rp (d 14) := hDM_rp.2.2.2.2.2.2.2.2.2.2.2.2.2.2.2.2.1
  have h4791 : MA23 T H rp (d 15) := hDM_rp.2.2.2.2.2.2.2.2.2.2.2.2.2.2.2.2.2.1
  have h4792 : MA25 T H rp (d 17) := hDM_rp.2.2.2.2.2.2.2.2.2.2.2.2.2.2.2.2.2.2.1
  have h4793 : MA26 T H rp (d 16) := hDM_rp.2.2.2.2.2.2.2.2.2.2.2.2.2.2.2.2.2.2.2
  intro v4794 H4795 fo4799 po4800 w4796 f4797 b4801 h4802 x4803 x4804
  have f4805 : wfr [(54, 3), (42, 8), (42, 9), (42, 10), (42, 11), (42, 12), (42, 13), (42, 14), (42, 15), (56, 999), (57, 999), (60, 999), (63, 999), (58, 999), (59, 999), (55, 999), (61, 999), (62, 999)] T H H4795 := wfr.rf.tr f4797 rfl
  have u4806 := RO_k h4802
  refine wp_of e187 c187_54 (rw_aload_n (pc' := 55) (v := .ref r0) rfl rfl rfl ?_)
  refine wp_of e187 c187_55 (rw_ldcS (pc' := 57) (k := 86) rfl rfl rfl rfl ?_)
  refine wp_of e187 c187_57 (rw_iconst (pc' := 58) rfl ?_)
  refine wp_of e187 c187_58 (rw_bipush (pc' := 60) (z := 23) rfl (by decide) ?_)
  have k4807 : H4795 r0 5 = H r0 5 := (f4797 r0 5 _ g0 rfl)
  have q4808 : H4795 r0 5 = (rb : Int) := k4807.trans qrb
  refine wp_of e187 c187_60 (xc_V (pc' := 63) (r := r0) (as := [.ref 86, vI 0, vI 23]) (st := []) (lm_9_216) rfl rfl (Nat.le_of_ble_eq_true rfl) w4796 g0 sh_42 (by decide) rfl (by decide) (u_182_o (fo := fo4799) (po := po4800) (kk := 2212) w4796 g0 rfl ⟨by omega, by omega⟩ ⟨by omega, by omega⟩ q4808 grb (by decide +kernel) h4802) (fun R4809 T4810 H4811 p4812 => ?_))
  obtain ⟨e4813, e4815, z4816, e4814, b4817, p4818⟩ := p4812
  subst e4813
  subst e4814
  subst e4815
  obtain ⟨a4819, a4820⟩ := p4818
  show wp _ _ 187 63 [(0, .ref r0), (1, vL v4794)] [vI z4816] _ H4795 _
  have u4821 := RO_k a4820
  refine wp_of e187 c187_63 (rw_istore_n (pc' := 64) (z := z4816) (L' := [(3, vI z4816), (0, .ref r0), (1, vL v4794)]) rfl rfl rfl ?_)
  exact wp_lc (ks := [3, 0, 1]) (wl_c rfl (wl_c rfl (wl_c rfl wl_n))) rfl (by decide) (u_187_k_t64o hW g0 qrp grp qrb grb p0 hRC_r0 hDM_rp v4794 z4816 H4795 fo4799 po4800 w4796 f4797 ⟨by omega, by omega⟩ ⟨by omega, by omega⟩ a4820 (by omega) (by omega))
set_option maxHeartbeats 60000000 in
theorem u_187_k_t45o {kt : Nat → Option mc_E} {T : wq_T} {H : wq_H} {r0 : Nat} {rp : Nat} {rb : Nat} {B : Nat → Int} {n : Int} {q : Int} {d : xD} (hW : WT T H) (g0 : T.2.2.2 r0 = some 42) (qrp : H r0 4 = (rp : Int)) (grp : T.2.2.2 rp = some 54) (qrb : H r0 5 = (rb : Int)) (grb : T.2.2.2 rb = some 43) (p0 : xK B n q = 1) (hRC_r0 : RC T H r0 B n q) (hDM_rp : DM T H rp r0 d) : ∀  (H4841 : wq_H) (fo4845 : Int) (po4846 : Int), WT T H4841 → wfr [(42, 8), (42, 9), (42, 10), (42, 11), (42, 12), (42, 13), (42, 14), (42, 15)] T H H4841 → RO T H4841 r0 fo4845 po4846 → ((xl1 B n q d).1 = fo4845) → ((xl1 B n q d).2.1 = po4846) → wp kt 4 187 45 [(0, .ref r0)] [] T H4841 (uq_187_k r0 rp rb B n q d T H) := by
  have f0 : wfr [(54, 3), (42, 8), (42, 9), (42, 10), (42, 11), (42, 12), (42, 13), (42, 14), (42, 15), (56, 999), (57, 999), (60, 999), (63, 999), (58, 999), (59, 999), (55, 999), (61, 999), (62, 999)] T H H := wfr.rf
  have u4822 := RC_k hRC_r0
  have u4823 := DM_k hDM_rp
  have h4824 : MA9 T H rp (d 1) := hDM_rp.2.2.2.1
  have h4825 : MA10 T H rp (d 2) := hDM_rp.2.2.2.2.1
  have h4826 : MA11 T H rp (d 3) := hDM_rp.2.2.2.2.2.1
  have h4827 : MA12 T H rp (d 4) := hDM_rp.2.2.2.2.2.2.1
  have h4828 : MA13 T H rp (d 5) := hDM_rp.2.2.2.2.2.2.2.1
  have h4829 : MA14 T H rp (d 6) := hDM_rp.2.2.2.2.2.2.2.2.1
  have h4830 : MA15 T H rp (d 7) := hDM_rp.2.2.2.2.2.2.2.2.2.1
  have h4831 : MA16 T H rp (d 8) := hDM_rp.2.2.2.2.2.2.2.2.2.2.1
  have h4832 : MA17 T H rp (d 9) := hDM_rp.2.2.2.2.2.2.2.2.2.2.2.1
  have h4833 : MA18 T H rp (d 10) := hDM_rp.2.2.2.2.2.2.2.2.2.2.2.2.1
  have h4834 : MA19 T H rp (d 11) := hDM_rp.2.2.2.2.2.2.2.2.2.2.2.2.2.1
  have h4835 : MA20 T H rp (d 12) := hDM_rp.2.2.2.2.2.2.2.2.2.2.2.2.2.2.1
  have h4836 : MA21 T H rp (d 13) := hDM_rp.2.2.2.2.2.2.2.2.2.2.2.2.2.2.2.1
  have h4837 : MA22 T H rp (d 14) := hDM_rp.2.2.2.2.2.2.2.2.2.2.2.2.2.2.2.2.1
  have h4838 : MA23 T H rp (d 15) := hDM_rp.2.2.2.2.2.2.2.2.2.2.2.2.2.2.2.2.2.1
  have h4839 : MA25 T H rp (d 17) := hDM_rp.2.2.2.2.2.2.2.2.2.2.2.2.2.2.2.2.2.2.1
  have h4840 : MA26 T H rp (d 16) := hDM_rp.2.2.2.2.2.2.2.2.2.2.2.2.2.2.2.2.2.2.2
  intro H4841 fo4845 po4846 w4842 f4843 h4847 x4848 x4849
  have f4850 : wfr [(54, 3), (42, 8), (42, 9), (42, 10), (42, 11), (42, 12), (42, 13), (42, 14), (42, 15), (56, 999), (57, 999), (60, 999), (63, 999), (58, 999), (59, 999), (55, 999), (61, 999), (62, 999)] T H H4841 := wfr.rf.tr f4843 rfl
  have u4851 := RO_k h4847
  refine wp_of e187 c187_45 (rw_aload_n (pc' := 46) (v := .ref r0) rfl rfl rfl ?_)
  refine wp_of e187 c187_46 (xg_L (pc' := 49) lf_9_94 w4842 g0 sh_42 (by decide) (by decide) ty_42_15 rfl rfl (fun b4852 b4853 => ?_))
  refine wp_of e187 c187_49 (rw_lstore_n (pc' := 50) (z := H4841 r0 15) (L' := [(1, vL (H4841 r0 15)), (0, .ref r0)]) rfl rfl rfl ?_)
  refine wp_of e187 c187_50 (rw_aload_n (pc' := 51) (v := .ref r0) rfl rfl rfl ?_)
  refine wp_of e187 c187_51 (xc_V (pc' := 54) (r := r0) (as := []) (st := []) (lm_9_118) rfl rfl (Nat.le_of_ble_eq_true rfl) w4842 g0 sh_42 (by decide) rfl (by decide) (u_172_o (fo := fo4845) (po := po4846) w4842 g0 h4847) (fun R4854 T4855 H4856 p4857 => ?_))
  obtain ⟨e4858, e4860, e4859, p4861⟩ := p4857
  subst e4858
  subst e4859
  subst e4860
  show wp _ _ 187 54 [(1, vL (H4841 r0 15)), (0, .ref r0)] [] _ H4841 _
  have u4863 := RO_k p4861
  exact wp_lc (ks := [1, 0]) (wl_c rfl (wl_c rfl wl_n)) rfl (by decide) (u_187_k_t54o hW g0 qrp grp qrb grb p0 hRC_r0 hDM_rp (H4841 r0 15) H4841 fo4845 po4846 w4842 f4843 ⟨by omega, by omega⟩ p4861 (by omega) (by omega))
set_option maxHeartbeats 60000000 in
theorem u_187_k_t25o {kt : Nat → Option mc_E} {T : wq_T} {H : wq_H} {r0 : Nat} {rp : Nat} {rb : Nat} {B : Nat → Int} {n : Int} {q : Int} {d : xD} (hW : WT T H) (g0 : T.2.2.2 r0 = some 42) (qrp : H r0 4 = (rp : Int)) (grp : T.2.2.2 rp = some 54) (qrb : H r0 5 = (rb : Int)) (grb : T.2.2.2 rb = some 43) (p0 : xK B n q = 1) (hRC_r0 : RC T H r0 B n q) (hDM_rp : DM T H rp r0 d) : ∀  (H4883 : wq_H) (fo4887 : Int) (po4888 : Int), WT T H4883 → wfr [(42, 8), (42, 9), (42, 10), (42, 11), (42, 12), (42, 13), (42, 14), (42, 15)] T H H4883 → RO T H4883 r0 fo4887 po4888 → ((xl1 B n q d).1 = fo4887) → ((xl1 B n q d).2.1 = po4888) → wp kt 4 187 25 [(0, .ref r0)] [] T H4883 (uq_187_k r0 rp rb B n q d T H) := by
  have f0 : wfr [(54, 3), (42, 8), (42, 9), (42, 10), (42, 11), (42, 12), (42, 13), (42, 14), (42, 15), (56, 999), (57, 999), (60, 999), (63, 999), (58, 999), (59, 999), (55, 999), (61, 999), (62, 999)] T H H := wfr.rf
  have u4864 := RC_k hRC_r0
  have u4865 := DM_k hDM_rp
  have h4866 : MA9 T H rp (d 1) := hDM_rp.2.2.2.1
  have h4867 : MA10 T H rp (d 2) := hDM_rp.2.2.2.2.1
  have h4868 : MA11 T H rp (d 3) := hDM_rp.2.2.2.2.2.1
  have h4869 : MA12 T H rp (d 4) := hDM_rp.2.2.2.2.2.2.1
  have h4870 : MA13 T H rp (d 5) := hDM_rp.2.2.2.2.2.2.2.1
  have h4871 : MA14 T H rp (d 6) := hDM_rp.2.2.2.2.2.2.2.2.1
  have h4872 : MA15 T H rp (d 7) := hDM_rp.2.2.2.2.2.2.2.2.2.1
  have h4873 : MA16 T H rp (d 8) := hDM_rp.2.2.2.2.2.2.2.2.2.2.1
  have h4874 : MA17 T H rp (d 9) := hDM_rp.2.2.2.2.2.2.2.2.2.2.2.1
  have h4875 : MA18 T H rp (d 10) := hDM_rp.2.2.2.2.2.2.2.2.2.2.2.2.1
  have h4876 : MA19 T H rp (d 11) := hDM_rp.2.2.2.2.2.2.2.2.2.2.2.2.2.1
  have h4877 : MA20 T H rp (d 12) := hDM_rp.2.2.2.2.2.2.2.2.2.2.2.2.2.2.1
  have h4878 : MA21 T H rp (d 13) := hDM_rp.2.2.2.2.2.2.2.2.2.2.2.2.2.2.2.1
  have h4879 : MA22 T H rp (d 14) := hDM_rp.2.2.2.2.2.2.2.2.2.2.2.2.2.2.2.2.1
  have h4880 : MA23 T H rp (d 15) := hDM_rp.2.2.2.2.2.2.2.2.2.2.2.2.2.2.2.2.2.1
  have h4881 : MA25 T H rp (d 17) := hDM_rp.2.2.2.2.2.2.2.2.2.2.2.2.2.2.2.2.2.2.1
  have h4882 : MA26 T H rp (d 16) := hDM_rp.2.2.2.2.2.2.2.2.2.2.2.2.2.2.2.2.2.2.2
  intro H4883 fo4887 po4888 w4884 f4885 h4889 x4890 x4891
  have f4892 : wfr [(54, 3), (42, 8), (42, 9), (42, 10), (42, 11), (42, 12), (42, 13), (42, 14), (42, 15), (56, 999), (57, 999), (60, 999), (63, 999), (58, 999), (59, 999), (55, 999), (61, 999), (62, 999)] T H H4883 := wfr.rf.tr f4885 rfl
  have u4893 := RO_k h4889
  refine wp_of e187 c187_25 (rw_aload_n (pc' := 26) (v := .ref r0) rfl rfl rfl ?_)
  have k4894 : H4883 r0 4 = H r0 4 := (f4885 r0 4 _ g0 rfl)
  have q4895 : H4883 r0 4 = (rp : Int) := k4894.trans qrp
  refine wp_of e187 c187_26 (xg_K (pc' := 29) lf_9_166 w4884 g0 sh_42 (by decide) (by decide) rfl q4895 rfl ?_)
  refine wp_of e187 c187_29 (rw_aload_n (pc' := 30) (v := .ref r0) rfl rfl rfl ?_)
  refine wp_of e187 c187_30 (xg_L (pc' := 33) lf_9_94 w4884 g0 sh_42 (by decide) (by decide) ty_42_15 rfl rfl (fun b4896 b4897 => ?_))
  refine wp_of e187 c187_33 (xc_V (pc' := 36) (r := rp) (as := [vL (H4883 r0 15)]) (st := []) (lm_9_170) rfl rfl (Nat.le_of_ble_eq_true rfl) w4884 grp sh_54 (by decide) rfl (by decide) (u_190_o  w4884 grp ⟨by omega, by omega⟩) (fun R4898 T4899 H4900 p4901 => ?_))
  obtain ⟨e4902, e4904, z4905, e4903, b4906, p4907⟩ := p4901
  subst e4902
  subst e4903
  subst e4904
  show wp _ _ 187 36 [(0, .ref r0)] [vI z4905] _ H4883 _
  refine wp_of e187 c187_36 (rw_iconst (pc' := 37) rfl ?_)
  refine wp_of e187 c187_37 (rw_icmp_eq (p1 := 45) (p2 := 40) (by decide) rfl ⟨by omega, by omega⟩ ⟨by omega, by omega⟩ (fun c4909 => ?_) (fun c4909 => ?_))
  · exact wp_lc (ks := [0]) (wl_c rfl wl_n) rfl (by decide) (u_187_k_t45o hW g0 qrp grp qrb grb p0 hRC_r0 hDM_rp H4883 fo4887 po4888 w4884 f4885 h4889 (by omega) (by omega))
  · refine wp_of e187 c187_40 (rw_aload_n (pc' := 41) (v := .ref r0) rfl rfl rfl ?_)
    refine wp_of e187 c187_41 (rw_iconst (pc' := 42) rfl ?_)
    refine wp_of e187 c187_42 (xc_V (pc' := 45) (r := r0) (as := [vI 3]) (st := []) (lm_9_121) rfl rfl (Nat.le_of_ble_eq_true rfl) w4884 g0 sh_42 (by decide) rfl (by decide) (u_181_o (fo := fo4887) (po := po4888) w4884 g0 ⟨by omega, by omega⟩ h4889) (fun R4910 T4911 H4912 p4913 => ?_))
    obtain ⟨e4914, e4916, e4915, p4917⟩ := p4913
    subst e4914
    subst e4915
    subst e4916
    show wp _ _ 187 45 [(0, .ref r0)] [] _ H4883 _
    have u4919 := RO_k p4917
    exact wp_lc (ks := [0]) (wl_c rfl wl_n) rfl (by decide) (u_187_k_t45o hW g0 qrp grp qrb grb p0 hRC_r0 hDM_rp H4883 fo4887 po4888 w4884 f4885 p4917 (by omega) (by omega))

set_option maxHeartbeats 60000000 in
theorem u_187_k {kt : Nat → Option mc_E} {T : wq_T} {H : wq_H} {r0 : Nat} {rp : Nat} {rb : Nat} {B : Nat → Int} {n : Int} {q : Int} {d : xD} (hW : WT T H) (g0 : T.2.2.2 r0 = some 42) (qrp : H r0 4 = (rp : Int)) (grp : T.2.2.2 rp = some 54) (qrb : H r0 5 = (rb : Int)) (grb : T.2.2.2 rb = some 43) (p0 : xK B n q = 1) (hRC_r0 : RC T H r0 B n q) (hDM_rp : DM T H rp r0 d) : wpc kt 5 187 [.ref r0] T H (uq_187_k r0 rp rb B n q d T H) := by
  refine wp_enter e187 (Nat.le_of_ble_eq_true rfl) rfl ?_
  have f0 : wfr [(54, 3), (42, 8), (42, 9), (42, 10), (42, 11), (42, 12), (42, 13), (42, 14), (42, 15), (56, 999), (57, 999), (60, 999), (63, 999), (58, 999), (59, 999), (55, 999), (61, 999), (62, 999)] T H H := wfr.rf
  show wp _ _ 187 0 [(0, .ref r0)] [] _ H _
  have u3743 := RC_k hRC_r0
  have u3744 := DM_k hDM_rp
  have h3745 : MA9 T H rp (d 1) := hDM_rp.2.2.2.1
  have h3746 : MA10 T H rp (d 2) := hDM_rp.2.2.2.2.1
  have h3747 : MA11 T H rp (d 3) := hDM_rp.2.2.2.2.2.1
  have h3748 : MA12 T H rp (d 4) := hDM_rp.2.2.2.2.2.2.1
  have h3749 : MA13 T H rp (d 5) := hDM_rp.2.2.2.2.2.2.2.1
  have h3750 : MA14 T H rp (d 6) := hDM_rp.2.2.2.2.2.2.2.2.1
  have h3751 : MA15 T H rp (d 7) := hDM_rp.2.2.2.2.2.2.2.2.2.1
  have h3752 : MA16 T H rp (d 8) := hDM_rp.2.2.2.2.2.2.2.2.2.2.1
  have h3753 : MA17 T H rp (d 9) := hDM_rp.2.2.2.2.2.2.2.2.2.2.2.1
  have h3754 : MA18 T H rp (d 10) := hDM_rp.2.2.2.2.2.2.2.2.2.2.2.2.1
  have h3755 : MA19 T H rp (d 11) := hDM_rp.2.2.2.2.2.2.2.2.2.2.2.2.2.1
  have h3756 : MA20 T H rp (d 12) := hDM_rp.2.2.2.2.2.2.2.2.2.2.2.2.2.2.1
  have h3757 : MA21 T H rp (d 13) := hDM_rp.2.2.2.2.2.2.2.2.2.2.2.2.2.2.2.1
  have h3758 : MA22 T H rp (d 14) := hDM_rp.2.2.2.2.2.2.2.2.2.2.2.2.2.2.2.2.1
  have h3759 : MA23 T H rp (d 15) := hDM_rp.2.2.2.2.2.2.2.2.2.2.2.2.2.2.2.2.2.1
  have h3760 : MA25 T H rp (d 17) := hDM_rp.2.2.2.2.2.2.2.2.2.2.2.2.2.2.2.2.2.2.1
  have h3761 : MA26 T H rp (d 16) := hDM_rp.2.2.2.2.2.2.2.2.2.2.2.2.2.2.2.2.2.2.2
  have f0s : wfr [(42, 8), (42, 9), (42, 10), (42, 11), (42, 12), (42, 13), (42, 14), (42, 15)] T H H := wfr.rf
  refine wp_of e187 c187_0 (rw_aload_n (pc' := 1) (v := .ref r0) rfl rfl rfl ?_)
  refine wp_of e187 c187_1 (rw_aload_n (pc' := 2) (v := .ref r0) rfl rfl rfl ?_)
  refine wp_of e187 c187_2 (xg_K (pc' := 5) lf_9_166 hW g0 sh_42 (by decide) (by decide) rfl qrp rfl ?_)
  refine wp_of e187 c187_5 (xg_I (pc' := 8) lf_9_188 hW grp sh_54 (by decide) (by decide) ty_54_3 rfl rfl (fun b4920 b4921 => ?_))
  refine wp_of e187 c187_8 (rw_bipush (pc' := 10) (z := 6) rfl (by decide) ?_)
  refine wp_of e187 c187_10 (xc_V (pc' := 13) (r := r0) (as := [vI (H rp 3), vI 6]) (st := []) (lm_9_228) rfl rfl (Nat.le_of_ble_eq_true rfl) hW g0 sh_42 (by decide) rfl (by decide) (u_188_k (B := B) (n := n) (q := q) hW g0 ⟨by omega, by omega⟩ ⟨by omega, by omega⟩ qrb grb (by omega) hRC_r0) (fun R4922 T4923 H4924 p4925 => ?_))
  obtain ⟨e4926, w4928, f4929, e4927, p4930⟩ := p4925
  subst e4926
  subst e4927
  rcases p4930 with ⟨a4931, a4932⟩ | ⟨a4933, a4934⟩
  · have f4935 := f0.tr f4929 rfl
    have f4936 := f0s.tr f4929 rfl
    show wp _ _ 187 13 [(0, .ref r0)] [] _ H4924 _
    have u4937 := RC_k a4932
    have _m := @xnm_b B n (xN B n q) d
    refine wp_of e187 c187_13 (rw_aload_n (pc' := 14) (v := .ref r0) rfl rfl rfl ?_)
    refine wp_of e187 c187_14 (xc_V (pc' := 17) (r := r0) (as := []) (st := []) (lm_9_162) rfl rfl (Nat.le_of_ble_eq_true rfl) w4928 g0 sh_42 (by decide) rfl (by decide) (u_189_k (B := B) (n := n) (q := ((xN B n q))) w4928 g0 a4932) (fun R4938 T4939 H4940 p4941 => ?_))
    obtain ⟨e4942, e4944, z4945, e4943, b4946, p4947⟩ := p4941
    subst e4942
    subst e4943
    subst e4944
    rcases p4947 with ⟨a4948, a4949, a4950, a4951⟩ | ⟨a4952, a4953⟩
    · show wp _ _ 187 17 [(0, .ref r0)] [vI z4945] _ H4924 _
      refine wp_of e187 c187_17 (rw_if_ne (p1 := 25) (p2 := 20) (by decide) rfl ⟨by omega, by omega⟩ (fun c4954 => ?_) (fun c4954 => ?_))
      · refine wp_of e187 c187_25 (rw_aload_n (pc' := 26) (v := .ref r0) rfl rfl rfl ?_)
        have k4955 : H4924 r0 4 = H r0 4 := (f4929 r0 4 _ g0 rfl)
        have q4956 : H4924 r0 4 = (rp : Int) := k4955.trans qrp
        refine wp_of e187 c187_26 (xg_K (pc' := 29) lf_9_166 w4928 g0 sh_42 (by decide) (by decide) rfl q4956 rfl ?_)
        refine wp_of e187 c187_29 (rw_aload_n (pc' := 30) (v := .ref r0) rfl rfl rfl ?_)
        refine wp_of e187 c187_30 (xg_L (pc' := 33) lf_9_94 w4928 g0 sh_42 (by decide) (by decide) ty_42_15 rfl rfl (fun b4957 b4958 => ?_))
        have h4959 : DM T H4924 rp r0 d := (DM_fr hW grp f4929 rfl hDM_rp)
        refine wp_of e187 c187_33 (xc_V (pc' := 36) (r := rp) (as := [vL (H4924 r0 15)]) (st := []) (lm_9_170) rfl rfl (Nat.le_of_ble_eq_true rfl) w4928 grp sh_54 (by decide) rfl (by decide) (u_190_k (mm := r0) (d := d) (y := (xY B n (xN B n q))) w4928 grp ⟨by omega, by omega⟩ (by omega) h4959) (fun R4960 T4961 H4962 p4963 => ?_))
        obtain ⟨e4964, e4966, z4967, e4965, b4968, p4969⟩ := p4963
        subst e4964
        subst e4965
        subst e4966
        obtain ⟨a4970, a4971⟩ := p4969
        show wp _ _ 187 36 [(0, .ref r0)] [vI z4967] _ H4924 _
        refine wp_of e187 c187_36 (rw_iconst (pc' := 37) rfl ?_)
        refine wp_of e187 c187_37 (rw_icmp_eq (p1 := 45) (p2 := 40) (by decide) rfl ⟨by omega, by omega⟩ ⟨by omega, by omega⟩ (fun c4972 => ?_) (fun c4972 => ?_))
        · refine wp_of e187 c187_45 (rw_aload_n (pc' := 46) (v := .ref r0) rfl rfl rfl ?_)
          refine wp_of e187 c187_46 (xg_L (pc' := 49) lf_9_94 w4928 g0 sh_42 (by decide) (by decide) ty_42_15 rfl rfl (fun b4973 b4974 => ?_))
          refine wp_of e187 c187_49 (rw_lstore_n (pc' := 50) (z := H4924 r0 15) (L' := [(1, vL (H4924 r0 15)), (0, .ref r0)]) rfl rfl rfl ?_)
          refine wp_of e187 c187_50 (rw_aload_n (pc' := 51) (v := .ref r0) rfl rfl rfl ?_)
          have k4975 : H4924 r0 5 = H r0 5 := (f4929 r0 5 _ g0 rfl)
          have q4976 : H4924 r0 5 = (rb : Int) := k4975.trans qrb
          have u4977 := RC_a a4932
          have h4978 : TM T H4924 rb B := RC_tm a4932 q4976
          refine wp_of e187 c187_51 (xc_V (pc' := 54) (r := r0) (as := []) (st := []) (lm_9_118) rfl rfl (Nat.le_of_ble_eq_true rfl) w4928 g0 sh_42 (by decide) rfl (by decide) (u_172_k (B := B) (n := n) (a := (xE B n ((xN B n q)))) (q := (xN B n ((xN B n q)))) w4928 g0 q4976 grb (by omega) (by omega) (by omega) (by omega) (by omega) (rfl) h4978) (fun R4979 T4980 H4981 p4982 => ?_))
          obtain ⟨e4983, w4985, f4986, e4984, p4987⟩ := p4982
          subst e4983
          subst e4984
          have f4989 := f4935.tr f4986 rfl
          have f4990 := f4936.tr f4986 rfl
          show wp _ _ 187 54 [(1, vL (H4924 r0 15)), (0, .ref r0)] [] _ H4981 _
          have u4991 := RC_k p4987
          refine wp_of e187 c187_54 (rw_aload_n (pc' := 55) (v := .ref r0) rfl rfl rfl ?_)
          refine wp_of e187 c187_55 (rw_ldcS (pc' := 57) (k := 86) rfl rfl rfl rfl ?_)
          refine wp_of e187 c187_57 (rw_iconst (pc' := 58) rfl ?_)
          refine wp_of e187 c187_58 (rw_bipush (pc' := 60) (z := 23) rfl (by decide) ?_)
          have k4992 : H4981 r0 5 = H4924 r0 5 := (f4986 r0 5 _ g0 rfl)
          have q4993 : H4981 r0 5 = (rb : Int) := k4992.trans q4976
          refine wp_of e187 c187_60 (xc_V (pc' := 63) (r := r0) (as := [.ref 86, vI 0, vI 23]) (st := []) (lm_9_216) rfl rfl (Nat.le_of_ble_eq_true rfl) w4985 g0 sh_42 (by decide) rfl (by decide) (u_182_k (B := B) (n := n) (q := ((xN B n ((xN B n q))))) (kk := 2212) (lo := 0) (hi := 23) w4985 g0 rfl ⟨by omega, by omega⟩ ⟨by omega, by omega⟩ q4993 grb (by decide +kernel) (by omega) (by omega) p4987) (fun R4994 T4995 H4996 p4997 => ?_))
          obtain ⟨e4998, w5000, f5001, z5002, e4999, b5003, p5004⟩ := p4997
          subst e4998
          subst e4999
          rcases p5004 with ⟨a5005, a5006, a5007, a5008, a5009, a5010⟩ | ⟨a5011, a5012, a5013⟩ | ⟨a5014, a5015, a5016, a5017⟩
          · have f5018 := f4989.tr f5001 rfl
            have f5019 := f4990.tr f5001 rfl
            show wp _ _ 187 63 [(1, vL (H4924 r0 15)), (0, .ref r0)] [vI z5002] _ H4996 _
            have u5020 := RC_k a5010
            refine wp_of e187 c187_63 (rw_istore_n (pc' := 64) (z := z5002) (L' := [(3, vI z5002), (1, vL (H4924 r0 15)), (0, .ref r0)]) rfl rfl rfl ?_)
            refine wp_of e187 c187_64 (rw_aload_n (pc' := 65) (v := .ref r0) rfl rfl rfl ?_)
            refine wp_of e187 c187_65 (rw_ldcS (pc' := 67) (k := 87) rfl rfl rfl rfl ?_)
            refine wp_of e187 c187_67 (rw_iload_n (pc' := 68) (z := z5002) rfl rfl ?_)
            refine wp_of e187 c187_68 (rw_bipush (pc' := 70) (z := 23) rfl (by decide) ?_)
            refine wp_of e187 c187_70 (rw_iload_n (pc' := 71) (z := z5002) rfl rfl ?_)
            refine wp_of e187 c187_71 (rw_bipush (pc' := 73) (z := 7) rfl (by decide) ?_)
            refine wp_of e187 c187_73 (rw_iadd (pc' := 74) rfl ?_)
            refine wp_of e187 c187_74 (xc_S (pc' := 77) (as := [vI 23, vI (z5002 + 7)]) (st := [vI z5002, .ref 87, .ref r0]) (lm_9_235) rfl rfl (Nat.le_of_ble_eq_true rfl) rfl (by decide) (u_191  w5000 ⟨by omega, by omega⟩ ⟨by omega, by omega⟩) (fun R5021 T5022 H5023 p5024 => ?_))
            obtain ⟨e5025, e5027, z5028, e5026, b5029, p5030⟩ := p5024
            subst e5025
            subst e5026
            subst e5027
            show wp _ _ 187 77 [(3, vI z5002), (1, vL (H4924 r0 15)), (0, .ref r0)] [vI z5028, vI z5002, .ref 87, .ref r0] _ H4996 _
            have k5032 : H4996 r0 5 = H4981 r0 5 := (f5001 r0 5 _ g0 rfl)
            have q5033 : H4996 r0 5 = (rb : Int) := k5032.trans q4993
            refine wp_of e187 c187_77 (xc_V (pc' := 80) (r := r0) (as := [.ref 87, vI z5002, vI z5028]) (st := []) (lm_9_216) rfl rfl (Nat.le_of_ble_eq_true rfl) w5000 g0 sh_42 (by decide) rfl (by decide) (u_182_k (B := B) (n := n) (q := ((xN B n (xN B n ((xN B n ((xN B n q)))))))) (kk := 655) (lo := (xV B n (xN B n (xN B n (xN B n q))) + 0)) (hi := (min (xV B n (xN B n (xN B n (xN B n q))) + 7) 23)) w5000 g0 rfl ⟨by omega, by omega⟩ ⟨by omega, by omega⟩ q5033 grb (by decide +kernel) (by omega) (by omega) a5010) (fun R5034 T5035 H5036 p5037 => ?_))
            obtain ⟨e5038, w5040, f5041, z5042, e5039, b5043, p5044⟩ := p5037
            subst e5038
            subst e5039
            rcases p5044 with ⟨a5045, a5046, a5047, a5048, a5049, a5050⟩ | ⟨a5051, a5052, a5053⟩ | ⟨a5054, a5055, a5056, a5057⟩
            · have f5058 := f5018.tr f5041 rfl
              have f5059 := f5019.tr f5041 rfl
              show wp _ _ 187 80 [(3, vI z5002), (1, vL (H4924 r0 15)), (0, .ref r0)] [vI z5042] _ H5036 _
              have u5060 := RC_k a5050
              refine wp_of e187 c187_80 (rw_istore (pc' := 82) (z := z5042) (L' := [(4, vI z5042), (3, vI z5002), (1, vL (H4924 r0 15)), (0, .ref r0)]) rfl rfl rfl ?_)
              refine wp_of e187 c187_82 (rw_aload_n (pc' := 83) (v := .ref r0) rfl rfl rfl ?_)
              refine wp_of e187 c187_83 (rw_ldcS (pc' := 85) (k := 88) rfl rfl rfl rfl ?_)
              refine wp_of e187 c187_85 (rw_iconst (pc' := 86) rfl ?_)
              refine wp_of e187 c187_86 (rw_bipush (pc' := 88) (z := 12) rfl (by decide) ?_)
              have k5061 : H5036 r0 5 = H4996 r0 5 := (f5041 r0 5 _ g0 rfl)
              have q5062 : H5036 r0 5 = (rb : Int) := k5061.trans q5033
              refine wp_of e187 c187_88 (xc_V (pc' := 91) (r := r0) (as := [.ref 88, vI 0, vI 12]) (st := []) (lm_9_216) rfl rfl (Nat.le_of_ble_eq_true rfl) w5040 g0 sh_42 (by decide) rfl (by decide) (u_182_k (B := B) (n := n) (q := ((xN B n (xN B n ((xN B n (xN B n ((xN B n ((xN B n q))))))))))) (kk := 409031) (lo := 0) (hi := 12) w5040 g0 rfl ⟨by omega, by omega⟩ ⟨by omega, by omega⟩ q5062 grb (by decide +kernel) (by omega) (by omega) a5050) (fun R5063 T5064 H5065 p5066 => ?_))
              obtain ⟨e5067, w5069, f5070, z5071, e5068, b5072, p5073⟩ := p5066
              subst e5067
              subst e5068
              rcases p5073 with ⟨a5074, a5075, a5076, a5077, a5078, a5079⟩ | ⟨a5080, a5081, a5082⟩ | ⟨a5083, a5084, a5085, a5086⟩
              · have f5087 := f5058.tr f5070 rfl
                have f5088 := f5059.tr f5070 rfl
                show wp _ _ 187 91 [(4, vI z5042), (3, vI z5002), (1, vL (H4924 r0 15)), (0, .ref r0)] [vI z5071] _ H5065 _
                have u5089 := RC_k a5079
                refine wp_of e187 c187_91 (rw_istore (pc' := 93) (z := z5071) (L' := [(5, vI z5071), (4, vI z5042), (3, vI z5002), (1, vL (H4924 r0 15)), (0, .ref r0)]) rfl rfl rfl ?_)
                refine wp_of e187 c187_93 (rw_aload_n (pc' := 94) (v := .ref r0) rfl rfl rfl ?_)
                refine wp_of e187 c187_94 (rw_ldcS (pc' := 96) (k := 87) rfl rfl rfl rfl ?_)
                refine wp_of e187 c187_96 (rw_iload (pc' := 98) (z := z5071) rfl rfl ?_)
                refine wp_of e187 c187_98 (rw_bipush (pc' := 100) (z := 12) rfl (by decide) ?_)
                refine wp_of e187 c187_100 (rw_iload (pc' := 102) (z := z5071) rfl rfl ?_)
                refine wp_of e187 c187_102 (rw_iconst (pc' := 103) rfl ?_)
                refine wp_of e187 c187_103 (rw_iadd (pc' := 104) rfl ?_)
                refine wp_of e187 c187_104 (xc_S (pc' := 107) (as := [vI 12, vI (z5071 + 4)]) (st := [vI z5071, .ref 87, .ref r0]) (lm_9_235) rfl rfl (Nat.le_of_ble_eq_true rfl) rfl (by decide) (u_191  w5069 ⟨by omega, by omega⟩ ⟨by omega, by omega⟩) (fun R5090 T5091 H5092 p5093 => ?_))
                obtain ⟨e5094, e5096, z5097, e5095, b5098, p5099⟩ := p5093
                subst e5094
                subst e5095
                subst e5096
                show wp _ _ 187 107 [(5, vI z5071), (4, vI z5042), (3, vI z5002), (1, vL (H4924 r0 15)), (0, .ref r0)] [vI z5097, vI z5071, .ref 87, .ref r0] _ H5065 _
                have k5101 : H5065 r0 5 = H5036 r0 5 := (f5070 r0 5 _ g0 rfl)
                have q5102 : H5065 r0 5 = (rb : Int) := k5101.trans q5062
                refine wp_of e187 c187_107 (xc_V (pc' := 110) (r := r0) (as := [.ref 87, vI z5071, vI z5097]) (st := []) (lm_9_216) rfl rfl (Nat.le_of_ble_eq_true rfl) w5069 g0 sh_42 (by decide) rfl (by decide) (u_182_k (B := B) (n := n) (q := ((xN B n (xN B n ((xN B n (xN B n ((xN B n (xN B n ((xN B n ((xN B n q)))))))))))))) (kk := 655) (lo := (xV B n (xN B n (xN B n (xN B n (xN B n (xN B n (xN B n (xN B n q))))))) + 0)) (hi := (min (xV B n (xN B n (xN B n (xN B n (xN B n (xN B n (xN B n (xN B n q))))))) + 4) 12)) w5069 g0 rfl ⟨by omega, by omega⟩ ⟨by omega, by omega⟩ q5102 grb (by decide +kernel) (by omega) (by omega) a5079) (fun R5103 T5104 H5105 p5106 => ?_))
                obtain ⟨e5107, w5109, f5110, z5111, e5108, b5112, p5113⟩ := p5106
                subst e5107
                subst e5108
                rcases p5113 with ⟨a5114, a5115, a5116, a5117, a5118, a5119⟩ | ⟨a5120, a5121, a5122⟩ | ⟨a5123, a5124, a5125, a5126⟩
                · have f5127 := f5087.tr f5110 rfl
                  have f5128 := f5088.tr f5110 rfl
                  show wp _ _ 187 110 [(5, vI z5071), (4, vI z5042), (3, vI z5002), (1, vL (H4924 r0 15)), (0, .ref r0)] [vI z5111] _ H5105 _
                  have u5129 := RC_k a5119
                  refine wp_of e187 c187_110 (rw_istore (pc' := 112) (z := z5111) (L' := [(6, vI z5111), (5, vI z5071), (4, vI z5042), (3, vI z5002), (1, vL (H4924 r0 15)), (0, .ref r0)]) rfl rfl rfl ?_)
                  have hS : xl1 B n q d = xcs B n (xN B n (xN B n (xN B n (xN B n (xN B n (xN B n (xN B n (xN B n (xN B n (xN B n q)))))))))) := by
                    unfold xl1 xper xbd xrg
                    try simp only [xs_xs, xs_z]
                    repeat first | rw [xs_0 (by omega)] | rw [xs_1 (by omega)] | rw [if_pos (by omega)] | rw [if_neg (by omega)]
                    first | done | rfl
                  have h5130 : DM T H5105 rp r0 d := (DM_fr w5069 grp f5110 rfl (DM_fr w5040 grp f5070 rfl (DM_fr w5000 grp f5041 rfl (DM_fr w4985 grp f5001 rfl (DM_fr w4928 grp f4986 rfl h4959)))))
                  exact wp_lc (ks := [6, 5, 4, 3, 1, 0]) (wl_c rfl (wl_c rfl (wl_c rfl (wl_c rfl (wl_c rfl (wl_c rfl wl_n)))))) rfl (by decide) (u_187_k_t112k hW g0 qrp grp qrb grb p0 hRC_r0 hDM_rp (H4924 r0 15) z5002 z5042 z5071 z5111 H5105 w5109 f5128 ⟨by omega, by omega⟩ ⟨by omega, by omega⟩ ⟨by omega, by omega⟩ ⟨by omega, by omega⟩ ⟨by omega, by omega⟩ a5119 h5130 (hS) (by omega) (by omega) (by omega) (by omega) (by omega) (by omega) (by omega) (by omega) (by omega))
                · have f5131 := f5087.tr f5110 rfl
                  have f5132 := f5088.tr f5110 rfl
                  show wp _ _ 187 110 [(5, vI z5071), (4, vI z5042), (3, vI z5002), (1, vL (H4924 r0 15)), (0, .ref r0)] [vI z5111] _ H5105 _
                  have u5133 := RO_k a5122
                  refine wp_of e187 c187_110 (rw_istore (pc' := 112) (z := z5111) (L' := [(6, vI z5111), (5, vI z5071), (4, vI z5042), (3, vI z5002), (1, vL (H4924 r0 15)), (0, .ref r0)]) rfl rfl rfl ?_)
                  have o5134 : (xl1 B n q d) = (xw B n ((xN B n (xN B n ((xN B n (xN B n ((xN B n (xN B n ((xN B n ((xN B n q))))))))))))) 655, ((xN B n (xN B n ((xN B n (xN B n ((xN B n (xN B n ((xN B n ((xN B n q))))))))))))), ((xN B n (xN B n ((xN B n (xN B n ((xN B n (xN B n ((xN B n ((xN B n q)))))))))))))) := by
                    unfold xl1 xper xbd xcs xca xcb xrg
                    try simp only [xs_xs, xs_z]
                    try rw [_ea]
                    try rw [_eb]
                    try rw [_ec]
                    repeat first | rw [xs_0 (by omega)] | rw [xs_1 (by omega)] | rw [if_pos (by omega)] | rw [if_neg (by omega)]
                    first | done | rfl | assumption | (exfalso; omega) | (refine Prod.ext ?_ (Prod.ext ?_ ?_) <;> (try dsimp only) <;> omega)
                  have o5134a : ((xl1 B n q d)).1 = xw B n ((xN B n (xN B n ((xN B n (xN B n ((xN B n (xN B n ((xN B n ((xN B n q))))))))))))) 655 := by rw [o5134]
                  have o5134b : ((xl1 B n q d)).2.1 = ((xN B n (xN B n ((xN B n (xN B n ((xN B n (xN B n ((xN B n ((xN B n q))))))))))))) := by rw [o5134]
                  have o5134c : ((xl1 B n q d)).2.2 = ((xN B n (xN B n ((xN B n (xN B n ((xN B n (xN B n ((xN B n ((xN B n q))))))))))))) := by rw [o5134]
                  exact wp_lc (ks := [6, 5, 4, 3, 1, 0]) (wl_c rfl (wl_c rfl (wl_c rfl (wl_c rfl (wl_c rfl (wl_c rfl wl_n)))))) rfl (by decide) (u_187_k_t112o hW g0 qrp grp qrb grb p0 hRC_r0 hDM_rp (H4924 r0 15) z5002 z5042 z5071 z5111 H5105 (xw B n ((xN B n (xN B n ((xN B n (xN B n ((xN B n (xN B n ((xN B n ((xN B n q))))))))))))) 655) (((xN B n (xN B n ((xN B n (xN B n ((xN B n (xN B n ((xN B n ((xN B n q)))))))))))))) w5109 f5132 ⟨by omega, by omega⟩ ⟨by omega, by omega⟩ ⟨by omega, by omega⟩ ⟨by omega, by omega⟩ ⟨by omega, by omega⟩ a5122 (by omega) (by omega))
                · have f5135 := f5087.tr f5110 rfl
                  have f5136 := f5088.tr f5110 rfl
                  show wp _ _ 187 110 [(5, vI z5071), (4, vI z5042), (3, vI z5002), (1, vL (H4924 r0 15)), (0, .ref r0)] [vI z5111] _ H5105 _
                  have u5137 := RO_k a5126
                  refine wp_of e187 c187_110 (rw_istore (pc' := 112) (z := z5111) (L' := [(6, vI z5111), (5, vI z5071), (4, vI z5042), (3, vI z5002), (1, vL (H4924 r0 15)), (0, .ref r0)]) rfl rfl rfl ?_)
                  have o5138 : (xl1 B n q d) = (xh B n (xN B n ((xN B n (xN B n ((xN B n (xN B n ((xN B n (xN B n ((xN B n ((xN B n q)))))))))))))) (xV B n (xN B n (xN B n (xN B n (xN B n (xN B n (xN B n (xN B n q))))))) + 0) (min (xV B n (xN B n (xN B n (xN B n (xN B n (xN B n (xN B n (xN B n q))))))) + 4) 12), (xN B n ((xN B n (xN B n ((xN B n (xN B n ((xN B n (xN B n ((xN B n ((xN B n q)))))))))))))), (xN B n ((xN B n (xN B n ((xN B n (xN B n ((xN B n (xN B n ((xN B n ((xN B n q))))))))))))))) := by
                    unfold xl1 xper xbd xcs xca xcb xrg
                    try simp only [xs_xs, xs_z]
                    try rw [_ea]
                    try rw [_eb]
                    try rw [_ec]
                    repeat first | rw [xs_0 (by omega)] | rw [xs_1 (by omega)] | rw [if_pos (by omega)] | rw [if_neg (by omega)]
                    first | done | rfl | assumption | (exfalso; omega) | (refine Prod.ext ?_ (Prod.ext ?_ ?_) <;> (try dsimp only) <;> omega)
                  have o5138a : ((xl1 B n q d)).1 = xh B n (xN B n ((xN B n (xN B n ((xN B n (xN B n ((xN B n (xN B n ((xN B n ((xN B n q)))))))))))))) (xV B n (xN B n (xN B n (xN B n (xN B n (xN B n (xN B n (xN B n q))))))) + 0) (min (xV B n (xN B n (xN B n (xN B n (xN B n (xN B n (xN B n (xN B n q))))))) + 4) 12) := by rw [o5138]
                  have o5138b : ((xl1 B n q d)).2.1 = (xN B n ((xN B n (xN B n ((xN B n (xN B n ((xN B n (xN B n ((xN B n ((xN B n q)))))))))))))) := by rw [o5138]
                  have o5138c : ((xl1 B n q d)).2.2 = (xN B n ((xN B n (xN B n ((xN B n (xN B n ((xN B n (xN B n ((xN B n ((xN B n q)))))))))))))) := by rw [o5138]
                  exact wp_lc (ks := [6, 5, 4, 3, 1, 0]) (wl_c rfl (wl_c rfl (wl_c rfl (wl_c rfl (wl_c rfl (wl_c rfl wl_n)))))) rfl (by decide) (u_187_k_t112o hW g0 qrp grp qrb grb p0 hRC_r0 hDM_rp (H4924 r0 15) z5002 z5042 z5071 z5111 H5105 (xh B n (xN B n ((xN B n (xN B n ((xN B n (xN B n ((xN B n (xN B n ((xN B n ((xN B n q)))))))))))))) (xV B n (xN B n (xN B n (xN B n (xN B n (xN B n (xN B n (xN B n q))))))) + 0) (min (xV B n (xN B n (xN B n (xN B n (xN B n (xN B n (xN B n (xN B n q))))))) + 4) 12)) ((xN B n ((xN B n (xN B n ((xN B n (xN B n ((xN B n (xN B n ((xN B n ((xN B n q))))))))))))))) w5109 f5136 ⟨by omega, by omega⟩ ⟨by omega, by omega⟩ ⟨by omega, by omega⟩ ⟨by omega, by omega⟩ ⟨by omega, by omega⟩ a5126 (by omega) (by omega))
              · have f5139 := f5058.tr f5070 rfl
                have f5140 := f5059.tr f5070 rfl
                show wp _ _ 187 91 [(4, vI z5042), (3, vI z5002), (1, vL (H4924 r0 15)), (0, .ref r0)] [vI z5071] _ H5065 _
                have u5141 := RO_k a5082
                refine wp_of e187 c187_91 (rw_istore (pc' := 93) (z := z5071) (L' := [(5, vI z5071), (4, vI z5042), (3, vI z5002), (1, vL (H4924 r0 15)), (0, .ref r0)]) rfl rfl rfl ?_)
                have o5142 : (xl1 B n q d) = (xw B n ((xN B n (xN B n ((xN B n (xN B n ((xN B n ((xN B n q)))))))))) 409031, ((xN B n (xN B n ((xN B n (xN B n ((xN B n ((xN B n q)))))))))), ((xN B n (xN B n ((xN B n (xN B n ((xN B n ((xN B n q))))))))))) := by
                  unfold xl1 xper xbd xcs xca xcb xrg
                  try simp only [xs_xs, xs_z]
                  try rw [_ea]
                  try rw [_eb]
                  try rw [_ec]
                  repeat first | rw [xs_0 (by omega)] | rw [xs_1 (by omega)] | rw [if_pos (by omega)] | rw [if_neg (by omega)]
                  first | done | rfl | assumption | (exfalso; omega) | (refine Prod.ext ?_ (Prod.ext ?_ ?_) <;> (try dsimp only) <;> omega)
                have o5142a : ((xl1 B n q d)).1 = xw B n ((xN B n (xN B n ((xN B n (xN B n ((xN B n ((xN B n q)))))))))) 409031 := by rw [o5142]
                have o5142b : ((xl1 B n q d)).2.1 = ((xN B n (xN B n ((xN B n (xN B n ((xN B n ((xN B n q)))))))))) := by rw [o5142]
                have o5142c : ((xl1 B n q d)).2.2 = ((xN B n (xN B n ((xN B n (xN B n ((xN B n ((xN B n q)))))))))) := by rw [o5142]
                exact wp_lc (ks := [5, 4, 3, 1, 0]) (wl_c rfl (wl_c rfl (wl_c rfl (wl_c rfl (wl_c rfl wl_n))))) rfl (by decide) (u_187_k_t93o hW g0 qrp grp qrb grb p0 hRC_r0 hDM_rp (H4924 r0 15) z5002 z5042 z5071 H5065 (xw B n ((xN B n (xN B n ((xN B n (xN B n ((xN B n ((xN B n q)))))))))) 409031) (((xN B n (xN B n ((xN B n (xN B n ((xN B n ((xN B n q))))))))))) w5069 f5140 ⟨by omega, by omega⟩ ⟨by omega, by omega⟩ ⟨by omega, by omega⟩ ⟨by omega, by omega⟩ a5082 (by omega) (by omega))
              · have f5143 := f5058.tr f5070 rfl
                have f5144 := f5059.tr f5070 rfl
                show wp _ _ 187 91 [(4, vI z5042), (3, vI z5002), (1, vL (H4924 r0 15)), (0, .ref r0)] [vI z5071] _ H5065 _
                have u5145 := RO_k a5086
                refine wp_of e187 c187_91 (rw_istore (pc' := 93) (z := z5071) (L' := [(5, vI z5071), (4, vI z5042), (3, vI z5002), (1, vL (H4924 r0 15)), (0, .ref r0)]) rfl rfl rfl ?_)
                have o5146 : (xl1 B n q d) = (xh B n (xN B n ((xN B n (xN B n ((xN B n (xN B n ((xN B n ((xN B n q))))))))))) 0 12, (xN B n ((xN B n (xN B n ((xN B n (xN B n ((xN B n ((xN B n q))))))))))), (xN B n ((xN B n (xN B n ((xN B n (xN B n ((xN B n ((xN B n q)))))))))))) := by
                  unfold xl1 xper xbd xcs xca xcb xrg
                  try simp only [xs_xs, xs_z]
                  try rw [_ea]
                  try rw [_eb]
                  try rw [_ec]
                  repeat first | rw [xs_0 (by omega)] | rw [xs_1 (by omega)] | rw [if_pos (by omega)] | rw [if_neg (by omega)]
                  first | done | rfl | assumption | (exfalso; omega) | (refine Prod.ext ?_ (Prod.ext ?_ ?_) <;> (try dsimp only) <;> omega)
                have o5146a : ((xl1 B n q d)).1 = xh B n (xN B n ((xN B n (xN B n ((xN B n (xN B n ((xN B n ((xN B n q))))))))))) 0 12 := by rw [o5146]
                have o5146b : ((xl1 B n q d)).2.1 = (xN B n ((xN B n (xN B n ((xN B n (xN B n ((xN B n ((xN B n q))))))))))) := by rw [o5146]
                have o5146c : ((xl1 B n q d)).2.2 = (xN B n ((xN B n (xN B n ((xN B n (xN B n ((xN B n ((xN B n q))))))))))) := by rw [o5146]
                exact wp_lc (ks := [5, 4, 3, 1, 0]) (wl_c rfl (wl_c rfl (wl_c rfl (wl_c rfl (wl_c rfl wl_n))))) rfl (by decide) (u_187_k_t93o hW g0 qrp grp qrb grb p0 hRC_r0 hDM_rp (H4924 r0 15) z5002 z5042 z5071 H5065 (xh B n (xN B n ((xN B n (xN B n ((xN B n (xN B n ((xN B n ((xN B n q))))))))))) 0 12) ((xN B n ((xN B n (xN B n ((xN B n (xN B n ((xN B n ((xN B n q)))))))))))) w5069 f5144 ⟨by omega, by omega⟩ ⟨by omega, by omega⟩ ⟨by omega, by omega⟩ ⟨by omega, by omega⟩ a5086 (by omega) (by omega))
            · have f5147 := f5018.tr f5041 rfl
              have f5148 := f5019.tr f5041 rfl
              show wp _ _ 187 80 [(3, vI z5002), (1, vL (H4924 r0 15)), (0, .ref r0)] [vI z5042] _ H5036 _
              have u5149 := RO_k a5053
              refine wp_of e187 c187_80 (rw_istore (pc' := 82) (z := z5042) (L' := [(4, vI z5042), (3, vI z5002), (1, vL (H4924 r0 15)), (0, .ref r0)]) rfl rfl rfl ?_)
              have o5150 : (xl1 B n q d) = (xw B n ((xN B n (xN B n ((xN B n ((xN B n q))))))) 655, ((xN B n (xN B n ((xN B n ((xN B n q))))))), ((xN B n (xN B n ((xN B n ((xN B n q)))))))) := by
                unfold xl1 xper xbd xcs xca xcb xrg
                try simp only [xs_xs, xs_z]
                try rw [_ea]
                try rw [_eb]
                try rw [_ec]
                repeat first | rw [xs_0 (by omega)] | rw [xs_1 (by omega)] | rw [if_pos (by omega)] | rw [if_neg (by omega)]
                first | done | rfl | assumption | (exfalso; omega) | (refine Prod.ext ?_ (Prod.ext ?_ ?_) <;> (try dsimp only) <;> omega)
              have o5150a : ((xl1 B n q d)).1 = xw B n ((xN B n (xN B n ((xN B n ((xN B n q))))))) 655 := by rw [o5150]
              have o5150b : ((xl1 B n q d)).2.1 = ((xN B n (xN B n ((xN B n ((xN B n q))))))) := by rw [o5150]
              have o5150c : ((xl1 B n q d)).2.2 = ((xN B n (xN B n ((xN B n ((xN B n q))))))) := by rw [o5150]
              exact wp_lc (ks := [4, 3, 1, 0]) (wl_c rfl (wl_c rfl (wl_c rfl (wl_c rfl wl_n)))) rfl (by decide) (u_187_k_t82o hW g0 qrp grp qrb grb p0 hRC_r0 hDM_rp (H4924 r0 15) z5002 z5042 H5036 (xw B n ((xN B n (xN B n ((xN B n ((xN B n q))))))) 655) (((xN B n (xN B n ((xN B n ((xN B n q)))))))) w5040 f5148 ⟨by omega, by omega⟩ ⟨by omega, by omega⟩ ⟨by omega, by omega⟩ a5053 (by omega) (by omega))
            · have f5151 := f5018.tr f5041 rfl
              have f5152 := f5019.tr f5041 rfl
              show wp _ _ 187 80 [(3, vI z5002), (1, vL (H4924 r0 15)), (0, .ref r0)] [vI z5042] _ H5036 _
              have u5153 := RO_k a5057
              refine wp_of e187 c187_80 (rw_istore (pc' := 82) (z := z5042) (L' := [(4, vI z5042), (3, vI z5002), (1, vL (H4924 r0 15)), (0, .ref r0)]) rfl rfl rfl ?_)
              have o5154 : (xl1 B n q d) = (xh B n (xN B n ((xN B n (xN B n ((xN B n ((xN B n q)))))))) (xV B n (xN B n (xN B n (xN B n q))) + 0) (min (xV B n (xN B n (xN B n (xN B n q))) + 7) 23), (xN B n ((xN B n (xN B n ((xN B n ((xN B n q)))))))), (xN B n ((xN B n (xN B n ((xN B n ((xN B n q))))))))) := by
                unfold xl1 xper xbd xcs xca xcb xrg
                try simp only [xs_xs, xs_z]
                try rw [_ea]
                try rw [_eb]
                try rw [_ec]
                repeat first | rw [xs_0 (by omega)] | rw [xs_1 (by omega)] | rw [if_pos (by omega)] | rw [if_neg (by omega)]
                first | done | rfl | assumption | (exfalso; omega) | (refine Prod.ext ?_ (Prod.ext ?_ ?_) <;> (try dsimp only) <;> omega)
              have o5154a : ((xl1 B n q d)).1 = xh B n (xN B n ((xN B n (xN B n ((xN B n ((xN B n q)))))))) (xV B n (xN B n (xN B n (xN B n q))) + 0) (min (xV B n (xN B n (xN B n (xN B n q))) + 7) 23) := by rw [o5154]
              have o5154b : ((xl1 B n q d)).2.1 = (xN B n ((xN B n (xN B n ((xN B n ((xN B n q)))))))) := by rw [o5154]
              have o5154c : ((xl1 B n q d)).2.2 = (xN B n ((xN B n (xN B n ((xN B n ((xN B n q)))))))) := by rw [o5154]
              exact wp_lc (ks := [4, 3, 1, 0]) (wl_c rfl (wl_c rfl (wl_c rfl (wl_c rfl wl_n)))) rfl (by decide) (u_187_k_t82o hW g0 qrp grp qrb grb p0 hRC_r0 hDM_rp (H4924 r0 15) z5002 z5042 H5036 (xh B n (xN B n ((xN B n (xN B n ((xN B n ((xN B n q)))))))) (xV B n (xN B n (xN B n (xN B n q))) + 0) (min (xV B n (xN B n (xN B n (xN B n q))) + 7) 23)) ((xN B n ((xN B n (xN B n ((xN B n ((xN B n q))))))))) w5040 f5152 ⟨by omega, by omega⟩ ⟨by omega, by omega⟩ ⟨by omega, by omega⟩ a5057 (by omega) (by omega))
          · have f5155 := f4989.tr f5001 rfl
            have f5156 := f4990.tr f5001 rfl
            show wp _ _ 187 63 [(1, vL (H4924 r0 15)), (0, .ref r0)] [vI z5002] _ H4996 _
            have u5157 := RO_k a5013
            refine wp_of e187 c187_63 (rw_istore_n (pc' := 64) (z := z5002) (L' := [(3, vI z5002), (1, vL (H4924 r0 15)), (0, .ref r0)]) rfl rfl rfl ?_)
            have o5158 : (xl1 B n q d) = (xw B n ((xN B n ((xN B n q)))) 2212, ((xN B n ((xN B n q)))), ((xN B n ((xN B n q))))) := by
              unfold xl1 xper xbd xcs xca xcb xrg
              try simp only [xs_xs, xs_z]
              try rw [_ea]
              try rw [_eb]
              try rw [_ec]
              repeat first | rw [xs_0 (by omega)] | rw [xs_1 (by omega)] | rw [if_pos (by omega)] | rw [if_neg (by omega)]
              first | done | rfl | assumption | (exfalso; omega) | (refine Prod.ext ?_ (Prod.ext ?_ ?_) <;> (try dsimp only) <;> omega)
            have o5158a : ((xl1 B n q d)).1 = xw B n ((xN B n ((xN B n q)))) 2212 := by rw [o5158]
            have o5158b : ((xl1 B n q d)).2.1 = ((xN B n ((xN B n q)))) := by rw [o5158]
            have o5158c : ((xl1 B n q d)).2.2 = ((xN B n ((xN B n q)))) := by rw [o5158]
            exact wp_lc (ks := [3, 1, 0]) (wl_c rfl (wl_c rfl (wl_c rfl wl_n))) rfl (by decide) (u_187_k_t64o hW g0 qrp grp qrb grb p0 hRC_r0 hDM_rp (H4924 r0 15) z5002 H4996 (xw B n ((xN B n ((xN B n q)))) 2212) (((xN B n ((xN B n q))))) w5000 f5156 ⟨by omega, by omega⟩ ⟨by omega, by omega⟩ a5013 (by omega) (by omega))
          · have f5159 := f4989.tr f5001 rfl
            have f5160 := f4990.tr f5001 rfl
            show wp _ _ 187 63 [(1, vL (H4924 r0 15)), (0, .ref r0)] [vI z5002] _ H4996 _
            have u5161 := RO_k a5017
            refine wp_of e187 c187_63 (rw_istore_n (pc' := 64) (z := z5002) (L' := [(3, vI z5002), (1, vL (H4924 r0 15)), (0, .ref r0)]) rfl rfl rfl ?_)
            have o5162 : (xl1 B n q d) = (xh B n (xN B n ((xN B n ((xN B n q))))) 0 23, (xN B n ((xN B n ((xN B n q))))), (xN B n ((xN B n ((xN B n q)))))) := by
              unfold xl1 xper xbd xcs xca xcb xrg
              try simp only [xs_xs, xs_z]
              try rw [_ea]
              try rw [_eb]
              try rw [_ec]
              repeat first | rw [xs_0 (by omega)] | rw [xs_1 (by omega)] | rw [if_pos (by omega)] | rw [if_neg (by omega)]
              first | done | rfl | assumption | (exfalso; omega) | (refine Prod.ext ?_ (Prod.ext ?_ ?_) <;> (try dsimp only) <;> omega)
            have o5162a : ((xl1 B n q d)).1 = xh B n (xN B n ((xN B n ((xN B n q))))) 0 23 := by rw [o5162]
            have o5162b : ((xl1 B n q d)).2.1 = (xN B n ((xN B n ((xN B n q))))) := by rw [o5162]
            have o5162c : ((xl1 B n q d)).2.2 = (xN B n ((xN B n ((xN B n q))))) := by rw [o5162]
            exact wp_lc (ks := [3, 1, 0]) (wl_c rfl (wl_c rfl (wl_c rfl wl_n))) rfl (by decide) (u_187_k_t64o hW g0 qrp grp qrb grb p0 hRC_r0 hDM_rp (H4924 r0 15) z5002 H4996 (xh B n (xN B n ((xN B n ((xN B n q))))) 0 23) ((xN B n ((xN B n ((xN B n q)))))) w5000 f5160 ⟨by omega, by omega⟩ ⟨by omega, by omega⟩ a5017 (by omega) (by omega))
        · refine wp_of e187 c187_40 (rw_aload_n (pc' := 41) (v := .ref r0) rfl rfl rfl ?_)
          refine wp_of e187 c187_41 (rw_iconst (pc' := 42) rfl ?_)
          refine wp_of e187 c187_42 (xc_V (pc' := 45) (r := r0) (as := [vI 3]) (st := []) (lm_9_121) rfl rfl (Nat.le_of_ble_eq_true rfl) w4928 g0 sh_42 (by decide) rfl (by decide) (u_181_k (B := B) (n := n) (q := ((xN B n q))) w4928 g0 ⟨by omega, by omega⟩ (by omega) a4932) (fun R5163 T5164 H5165 p5166 => ?_))
          obtain ⟨e5167, w5169, f5170, e5168, p5171⟩ := p5166
          subst e5167
          subst e5168
          have f5173 := f4935.tr f5170 rfl
          have f5174 := f4936.tr f5170 rfl
          show wp _ _ 187 45 [(0, .ref r0)] [] _ H5165 _
          have u5175 := RO_k p5171
          have o5176 : (xl1 B n q d) = (xnm B n (xN B n q) d, (xN B n q), (xN B n q)) := by
            unfold xl1 xper xbd xcs xca xcb xrg
            try simp only [xs_xs, xs_z]
            try rw [_ea]
            try rw [_eb]
            try rw [_ec]
            repeat first | rw [xs_0 (by omega)] | rw [xs_1 (by omega)] | rw [if_pos (by omega)] | rw [if_neg (by omega)]
            first | done | rfl | assumption | (exfalso; omega) | (refine Prod.ext ?_ (Prod.ext ?_ ?_) <;> (try dsimp only) <;> omega)
          have o5176a : ((xl1 B n q d)).1 = xnm B n (xN B n q) d := by rw [o5176]
          have o5176b : ((xl1 B n q d)).2.1 = (xN B n q) := by rw [o5176]
          have o5176c : ((xl1 B n q d)).2.2 = (xN B n q) := by rw [o5176]
          exact wp_lc (ks := [0]) (wl_c rfl wl_n) rfl (by decide) (u_187_k_t45o hW g0 qrp grp qrb grb p0 hRC_r0 hDM_rp H5165 3 (((xN B n q))) w5169 f5174 p5171 (by omega) (by omega))
      · exfalso
        omega
    · show wp _ _ 187 17 [(0, .ref r0)] [vI z4945] _ H4924 _
      refine wp_of e187 c187_17 (rw_if_ne (p1 := 25) (p2 := 20) (by decide) rfl ⟨by omega, by omega⟩ (fun c5177 => ?_) (fun c5177 => ?_))
      · exfalso
        omega
      · refine wp_of e187 c187_20 (rw_aload_n (pc' := 21) (v := .ref r0) rfl rfl rfl ?_)
        refine wp_of e187 c187_21 (rw_iconst (pc' := 22) rfl ?_)
        refine wp_of e187 c187_22 (xc_V (pc' := 25) (r := r0) (as := [vI 1]) (st := []) (lm_9_121) rfl rfl (Nat.le_of_ble_eq_true rfl) w4928 g0 sh_42 (by decide) rfl (by decide) (u_181_k (B := B) (n := n) (q := ((xN B n q))) w4928 g0 ⟨by omega, by omega⟩ (by omega) a4932) (fun R5178 T5179 H5180 p5181 => ?_))
        obtain ⟨e5182, w5184, f5185, e5183, p5186⟩ := p5181
        subst e5182
        subst e5183
        have f5188 := f4935.tr f5185 rfl
        have f5189 := f4936.tr f5185 rfl
        show wp _ _ 187 25 [(0, .ref r0)] [] _ H5180 _
        have u5190 := RO_k p5186
        have o5191 : (xl1 B n q d) = (xnm B n (xN B n q) d, (xN B n q), (xN B n q)) := by
          unfold xl1 xper xbd xcs xca xcb xrg
          try simp only [xs_xs, xs_z]
          try rw [_ea]
          try rw [_eb]
          try rw [_ec]
          repeat first | rw [xs_0 (by omega)] | rw [xs_1 (by omega)] | rw [if_pos (by omega)] | rw [if_neg (by omega)]
          first | done | rfl | assumption | (exfalso; omega) | (refine Prod.ext ?_ (Prod.ext ?_ ?_) <;> (try dsimp only) <;> omega)
        have o5191a : ((xl1 B n q d)).1 = xnm B n (xN B n q) d := by rw [o5191]
        have o5191b : ((xl1 B n q d)).2.1 = (xN B n q) := by rw [o5191]
        have o5191c : ((xl1 B n q d)).2.2 = (xN B n q) := by rw [o5191]
        exact wp_lc (ks := [0]) (wl_c rfl wl_n) rfl (by decide) (u_187_k_t25o hW g0 qrp grp qrb grb p0 hRC_r0 hDM_rp H5180 1 (((xN B n q))) w5184 f5189 p5186 (by omega) (by omega))
  · have f5192 := f0.tr f4929 rfl
    have f5193 := f0s.tr f4929 rfl
    show wp _ _ 187 13 [(0, .ref r0)] [] _ H4924 _
    have u5194 := RO_k a4934
    refine wp_of e187 c187_13 (rw_aload_n (pc' := 14) (v := .ref r0) rfl rfl rfl ?_)
    refine wp_of e187 c187_14 (xc_V (pc' := 17) (r := r0) (as := []) (st := []) (lm_9_162) rfl rfl (Nat.le_of_ble_eq_true rfl) w4928 g0 sh_42 (by decide) rfl (by decide) (u_189_o (fo := 5) (po := q) w4928 g0 a4934) (fun R5195 T5196 H5197 p5198 => ?_))
    obtain ⟨e5199, e5201, z5202, e5200, b5203, p5204⟩ := p5198
    subst e5199
    subst e5200
    subst e5201
    show wp _ _ 187 17 [(0, .ref r0)] [vI z5202] _ H4924 _
    refine wp_of e187 c187_17 (rw_if_ne (p1 := 25) (p2 := 20) (by decide) rfl ⟨by omega, by omega⟩ (fun c5206 => ?_) (fun c5206 => ?_))
    · exfalso
      omega
    · refine wp_of e187 c187_20 (rw_aload_n (pc' := 21) (v := .ref r0) rfl rfl rfl ?_)
      refine wp_of e187 c187_21 (rw_iconst (pc' := 22) rfl ?_)
      refine wp_of e187 c187_22 (xc_V (pc' := 25) (r := r0) (as := [vI 1]) (st := []) (lm_9_121) rfl rfl (Nat.le_of_ble_eq_true rfl) w4928 g0 sh_42 (by decide) rfl (by decide) (u_181_o (fo := 5) (po := q) w4928 g0 ⟨by omega, by omega⟩ a4934) (fun R5207 T5208 H5209 p5210 => ?_))
      obtain ⟨e5211, e5213, e5212, p5214⟩ := p5210
      subst e5211
      subst e5212
      subst e5213
      show wp _ _ 187 25 [(0, .ref r0)] [] _ H4924 _
      have u5216 := RO_k p5214
      have o5217 : (xl1 B n q d) = (5, q, q) := by
        unfold xl1 xper xbd xcs xca xcb xrg
        try simp only [xs_xs, xs_z]
        try rw [_ea]
        try rw [_eb]
        try rw [_ec]
        repeat first | rw [xs_0 (by omega)] | rw [xs_1 (by omega)] | rw [if_pos (by omega)] | rw [if_neg (by omega)]
        first | done | rfl | assumption | (exfalso; omega) | (refine Prod.ext ?_ (Prod.ext ?_ ?_) <;> (try dsimp only) <;> omega)
      have o5217a : ((xl1 B n q d)).1 = 5 := by rw [o5217]
      have o5217b : ((xl1 B n q d)).2.1 = q := by rw [o5217]
      have o5217c : ((xl1 B n q d)).2.2 = q := by rw [o5217]
      exact wp_lc (ks := [0]) (wl_c rfl wl_n) rfl (by decide) (u_187_k_t25o hW g0 qrp grp qrb grb p0 hRC_r0 hDM_rp H4924 5 q w4928 f5193 p5214 (by omega) (by omega))
