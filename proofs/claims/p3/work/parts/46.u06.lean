/-! what methods do (own work, written by wip/gen3/sx3.py) -/
/-! StrikeAwakeModel.readPerson()V o -/
abbrev uq_187_o (r0 : Nat) (rp : Nat) (rb : Nat) (fo : Int) (po : Int) (T : wq_T) (H : wq_H) : Option Value → wq_T → wq_H → Prop := fun r T' H' => T = T' ∧ H = H' ∧ none = r ∧ ((RO T H r0 fo po))
set_option maxHeartbeats 4000000 in
theorem u_187_o {kt : Nat → Option mc_E} {T : wq_T} {H : wq_H} {r0 : Nat} {rp : Nat} {rb : Nat} {fo : Int} {po : Int} (hW : WT T H) (g0 : T.2.2.2 r0 = some 42) (qrp : H r0 4 = (rp : Int)) (grp : T.2.2.2 rp = some 54) (qrb : H r0 5 = (rb : Int)) (grb : T.2.2.2 rb = some 43) (hRO_r0 : RO T H r0 fo po) : wpc kt 5 187 [.ref r0] T H (uq_187_o r0 rp rb fo po T H) := by
  refine wp_enter e187 (Nat.le_of_ble_eq_true rfl) rfl ?_
  show wp _ _ 187 0 [(0, .ref r0)] [] _ H _
  have u265819 := RO_k hRO_r0
  refine wp_of e187 c187_0 (rw_aload_n (pc' := 1) (v := .ref r0) rfl rfl rfl ?_)
  refine wp_of e187 c187_1 (rw_aload_n (pc' := 2) (v := .ref r0) rfl rfl rfl ?_)
  refine wp_of e187 c187_2 (xg_K (pc' := 5) lf_9_166 hW g0 sh_42 (by decide) (by decide) rfl qrp rfl ?_)
  refine wp_of e187 c187_5 (xg_I (pc' := 8) lf_9_188 hW grp sh_54 (by decide) (by decide) ty_54_3 rfl rfl (fun b265820 b265821 => ?_))
  refine wp_of e187 c187_8 (rw_bipush (pc' := 10) (z := 6) rfl (by decide) ?_)
  refine wp_of e187 c187_10 (xc_V (pc' := 13) (r := r0) (as := [vI (H rp 3), vI 6]) (st := []) (lm_9_228) rfl rfl (Nat.le_of_ble_eq_true rfl) hW g0 sh_42 (by decide) rfl (by decide) (u_188_o (fo := fo) (po := po) hW g0 ⟨by omega, by omega⟩ ⟨by omega, by omega⟩ qrb grb hRO_r0) (fun R265822 T265823 H265824 p265825 => ?_))
  obtain ⟨e265826, e265828, e265827, p265829⟩ := p265825
  subst e265826
  subst e265827
  subst e265828
  show wp _ _ 187 13 [(0, .ref r0)] [] _ H _
  have u265831 := RO_k p265829
  refine wp_of e187 c187_13 (rw_aload_n (pc' := 14) (v := .ref r0) rfl rfl rfl ?_)
  refine wp_of e187 c187_14 (xc_V (pc' := 17) (r := r0) (as := []) (st := []) (lm_9_162) rfl rfl (Nat.le_of_ble_eq_true rfl) hW g0 sh_42 (by decide) rfl (by decide) (u_189_o (fo := fo) (po := po) hW g0 p265829) (fun R265832 T265833 H265834 p265835 => ?_))
  obtain ⟨e265836, e265838, z265839, e265837, b265840, p265841⟩ := p265835
  subst e265836
  subst e265837
  subst e265838
  show wp _ _ 187 17 [(0, .ref r0)] [vI z265839] _ H _
  refine wp_of e187 c187_17 (rw_if_ne (p1 := 25) (p2 := 20) (by decide) rfl ⟨by omega, by omega⟩ (fun c265843 => ?_) (fun c265843 => ?_))
  · exfalso
    omega
  · refine wp_of e187 c187_20 (rw_aload_n (pc' := 21) (v := .ref r0) rfl rfl rfl ?_)
    refine wp_of e187 c187_21 (rw_iconst (pc' := 22) rfl ?_)
    refine wp_of e187 c187_22 (xc_V (pc' := 25) (r := r0) (as := [vI 1]) (st := []) (lm_9_121) rfl rfl (Nat.le_of_ble_eq_true rfl) hW g0 sh_42 (by decide) rfl (by decide) (u_181_o (fo := fo) (po := po) hW g0 ⟨by omega, by omega⟩ p265829) (fun R265844 T265845 H265846 p265847 => ?_))
    obtain ⟨e265848, e265850, e265849, p265851⟩ := p265847
    subst e265848
    subst e265849
    subst e265850
    show wp _ _ 187 25 [(0, .ref r0)] [] _ H _
    have u265853 := RO_k p265851
    refine wp_of e187 c187_25 (rw_aload_n (pc' := 26) (v := .ref r0) rfl rfl rfl ?_)
    refine wp_of e187 c187_26 (xg_K (pc' := 29) lf_9_166 hW g0 sh_42 (by decide) (by decide) rfl qrp rfl ?_)
    refine wp_of e187 c187_29 (rw_aload_n (pc' := 30) (v := .ref r0) rfl rfl rfl ?_)
    refine wp_of e187 c187_30 (xg_L (pc' := 33) lf_9_94 hW g0 sh_42 (by decide) (by decide) ty_42_15 rfl rfl (fun b265854 b265855 => ?_))
    refine wp_of e187 c187_33 (xc_V (pc' := 36) (r := rp) (as := [vL (H r0 15)]) (st := []) (lm_9_170) rfl rfl (Nat.le_of_ble_eq_true rfl) hW grp sh_54 (by decide) rfl (by decide) (u_190_o  hW grp ⟨by omega, by omega⟩) (fun R265856 T265857 H265858 p265859 => ?_))
    obtain ⟨e265860, e265862, z265863, e265861, b265864, p265865⟩ := p265859
    subst e265860
    subst e265861
    subst e265862
    show wp _ _ 187 36 [(0, .ref r0)] [vI z265863] _ H _
    refine wp_of e187 c187_36 (rw_iconst (pc' := 37) rfl ?_)
    refine wp_of e187 c187_37 (rw_icmp_eq (p1 := 45) (p2 := 40) (by decide) rfl ⟨by omega, by omega⟩ ⟨by omega, by omega⟩ (fun c265867 => ?_) (fun c265867 => ?_))
    · refine wp_of e187 c187_45 (rw_aload_n (pc' := 46) (v := .ref r0) rfl rfl rfl ?_)
      refine wp_of e187 c187_46 (xg_L (pc' := 49) lf_9_94 hW g0 sh_42 (by decide) (by decide) ty_42_15 rfl rfl (fun b265868 b265869 => ?_))
      refine wp_of e187 c187_49 (rw_lstore_n (pc' := 50) (z := H r0 15) (L' := [(1, vL (H r0 15)), (0, .ref r0)]) rfl rfl rfl ?_)
      refine wp_of e187 c187_50 (rw_aload_n (pc' := 51) (v := .ref r0) rfl rfl rfl ?_)
      refine wp_of e187 c187_51 (xc_V (pc' := 54) (r := r0) (as := []) (st := []) (lm_9_118) rfl rfl (Nat.le_of_ble_eq_true rfl) hW g0 sh_42 (by decide) rfl (by decide) (u_172_o (fo := fo) (po := po) hW g0 p265851) (fun R265870 T265871 H265872 p265873 => ?_))
      obtain ⟨e265874, e265876, e265875, p265877⟩ := p265873
      subst e265874
      subst e265875
      subst e265876
      show wp _ _ 187 54 [(1, vL (H r0 15)), (0, .ref r0)] [] _ H _
      have u265879 := RO_k p265877
      refine wp_of e187 c187_54 (rw_aload_n (pc' := 55) (v := .ref r0) rfl rfl rfl ?_)
      refine wp_of e187 c187_55 (rw_ldcS (pc' := 57) (k := 86) rfl rfl rfl rfl ?_)
      refine wp_of e187 c187_57 (rw_iconst (pc' := 58) rfl ?_)
      refine wp_of e187 c187_58 (rw_bipush (pc' := 60) (z := 23) rfl (by decide) ?_)
      refine wp_of e187 c187_60 (xc_V (pc' := 63) (r := r0) (as := [.ref 86, vI 0, vI 23]) (st := []) (lm_9_216) rfl rfl (Nat.le_of_ble_eq_true rfl) hW g0 sh_42 (by decide) rfl (by decide) (u_182_o (fo := fo) (po := po) (kk := 2212) hW g0 rfl ⟨by omega, by omega⟩ ⟨by omega, by omega⟩ qrb grb (by decide +kernel) p265877) (fun R265880 T265881 H265882 p265883 => ?_))
      obtain ⟨e265884, e265886, z265887, e265885, b265888, p265889⟩ := p265883
      subst e265884
      subst e265885
      subst e265886
      obtain ⟨a265890, a265891⟩ := p265889
      show wp _ _ 187 63 [(1, vL (H r0 15)), (0, .ref r0)] [vI z265887] _ H _
      have u265892 := RO_k a265891
      refine wp_of e187 c187_63 (rw_istore_n (pc' := 64) (z := z265887) (L' := [(3, vI z265887), (1, vL (H r0 15)), (0, .ref r0)]) rfl rfl rfl ?_)
      refine wp_of e187 c187_64 (rw_aload_n (pc' := 65) (v := .ref r0) rfl rfl rfl ?_)
      refine wp_of e187 c187_65 (rw_ldcS (pc' := 67) (k := 87) rfl rfl rfl rfl ?_)
      refine wp_of e187 c187_67 (rw_iload_n (pc' := 68) (z := z265887) rfl rfl ?_)
      refine wp_of e187 c187_68 (rw_bipush (pc' := 70) (z := 23) rfl (by decide) ?_)
      refine wp_of e187 c187_70 (rw_iload_n (pc' := 71) (z := z265887) rfl rfl ?_)
      refine wp_of e187 c187_71 (rw_bipush (pc' := 73) (z := 7) rfl (by decide) ?_)
      refine wp_of e187 c187_73 (rw_iadd (pc' := 74) rfl ?_)
      refine wp_of e187 c187_74 (xc_S (pc' := 77) (as := [vI 23, vI (z265887 + 7)]) (st := [vI z265887, .ref 87, .ref r0]) (lm_9_235) rfl rfl (Nat.le_of_ble_eq_true rfl) rfl (by decide) (u_191  hW ⟨by omega, by omega⟩ ⟨by omega, by omega⟩) (fun R265893 T265894 H265895 p265896 => ?_))
      obtain ⟨e265897, e265899, z265900, e265898, b265901, p265902⟩ := p265896
      subst e265897
      subst e265898
      subst e265899
      show wp _ _ 187 77 [(3, vI z265887), (1, vL (H r0 15)), (0, .ref r0)] [vI z265900, vI z265887, .ref 87, .ref r0] _ H _
      refine wp_of e187 c187_77 (xc_V (pc' := 80) (r := r0) (as := [.ref 87, vI z265887, vI z265900]) (st := []) (lm_9_216) rfl rfl (Nat.le_of_ble_eq_true rfl) hW g0 sh_42 (by decide) rfl (by decide) (u_182_o (fo := fo) (po := po) (kk := 655) hW g0 rfl ⟨by omega, by omega⟩ ⟨by omega, by omega⟩ qrb grb (by decide +kernel) a265891) (fun R265904 T265905 H265906 p265907 => ?_))
      obtain ⟨e265908, e265910, z265911, e265909, b265912, p265913⟩ := p265907
      subst e265908
      subst e265909
      subst e265910
      obtain ⟨a265914, a265915⟩ := p265913
      show wp _ _ 187 80 [(3, vI z265887), (1, vL (H r0 15)), (0, .ref r0)] [vI z265911] _ H _
      have u265916 := RO_k a265915
      refine wp_of e187 c187_80 (rw_istore (pc' := 82) (z := z265911) (L' := [(4, vI z265911), (3, vI z265887), (1, vL (H r0 15)), (0, .ref r0)]) rfl rfl rfl ?_)
      refine wp_of e187 c187_82 (rw_aload_n (pc' := 83) (v := .ref r0) rfl rfl rfl ?_)
      refine wp_of e187 c187_83 (rw_ldcS (pc' := 85) (k := 88) rfl rfl rfl rfl ?_)
      refine wp_of e187 c187_85 (rw_iconst (pc' := 86) rfl ?_)
      refine wp_of e187 c187_86 (rw_bipush (pc' := 88) (z := 12) rfl (by decide) ?_)
      refine wp_of e187 c187_88 (xc_V (pc' := 91) (r := r0) (as := [.ref 88, vI 0, vI 12]) (st := []) (lm_9_216) rfl rfl (Nat.le_of_ble_eq_true rfl) hW g0 sh_42 (by decide) rfl (by decide) (u_182_o (fo := fo) (po := po) (kk := 409031) hW g0 rfl ⟨by omega, by omega⟩ ⟨by omega, by omega⟩ qrb grb (by decide +kernel) a265915) (fun R265917 T265918 H265919 p265920 => ?_))
      obtain ⟨e265921, e265923, z265924, e265922, b265925, p265926⟩ := p265920
      subst e265921
      subst e265922
      subst e265923
      obtain ⟨a265927, a265928⟩ := p265926
      show wp _ _ 187 91 [(4, vI z265911), (3, vI z265887), (1, vL (H r0 15)), (0, .ref r0)] [vI z265924] _ H _
      have u265929 := RO_k a265928
      refine wp_of e187 c187_91 (rw_istore (pc' := 93) (z := z265924) (L' := [(5, vI z265924), (4, vI z265911), (3, vI z265887), (1, vL (H r0 15)), (0, .ref r0)]) rfl rfl rfl ?_)
      refine wp_of e187 c187_93 (rw_aload_n (pc' := 94) (v := .ref r0) rfl rfl rfl ?_)
      refine wp_of e187 c187_94 (rw_ldcS (pc' := 96) (k := 87) rfl rfl rfl rfl ?_)
      refine wp_of e187 c187_96 (rw_iload (pc' := 98) (z := z265924) rfl rfl ?_)
      refine wp_of e187 c187_98 (rw_bipush (pc' := 100) (z := 12) rfl (by decide) ?_)
      refine wp_of e187 c187_100 (rw_iload (pc' := 102) (z := z265924) rfl rfl ?_)
      refine wp_of e187 c187_102 (rw_iconst (pc' := 103) rfl ?_)
      refine wp_of e187 c187_103 (rw_iadd (pc' := 104) rfl ?_)
      refine wp_of e187 c187_104 (xc_S (pc' := 107) (as := [vI 12, vI (z265924 + 4)]) (st := [vI z265924, .ref 87, .ref r0]) (lm_9_235) rfl rfl (Nat.le_of_ble_eq_true rfl) rfl (by decide) (u_191  hW ⟨by omega, by omega⟩ ⟨by omega, by omega⟩) (fun R265930 T265931 H265932 p265933 => ?_))
      obtain ⟨e265934, e265936, z265937, e265935, b265938, p265939⟩ := p265933
      subst e265934
      subst e265935
      subst e265936
      show wp _ _ 187 107 [(5, vI z265924), (4, vI z265911), (3, vI z265887), (1, vL (H r0 15)), (0, .ref r0)] [vI z265937, vI z265924, .ref 87, .ref r0] _ H _
      refine wp_of e187 c187_107 (xc_V (pc' := 110) (r := r0) (as := [.ref 87, vI z265924, vI z265937]) (st := []) (lm_9_216) rfl rfl (Nat.le_of_ble_eq_true rfl) hW g0 sh_42 (by decide) rfl (by decide) (u_182_o (fo := fo) (po := po) (kk := 655) hW g0 rfl ⟨by omega, by omega⟩ ⟨by omega, by omega⟩ qrb grb (by decide +kernel) a265928) (fun R265941 T265942 H265943 p265944 => ?_))
      obtain ⟨e265945, e265947, z265948, e265946, b265949, p265950⟩ := p265944
      subst e265945
      subst e265946
      subst e265947
      obtain ⟨a265951, a265952⟩ := p265950
      show wp _ _ 187 110 [(5, vI z265924), (4, vI z265911), (3, vI z265887), (1, vL (H r0 15)), (0, .ref r0)] [vI z265948] _ H _
      have u265953 := RO_k a265952
      refine wp_of e187 c187_110 (rw_istore (pc' := 112) (z := z265948) (L' := [(6, vI z265948), (5, vI z265924), (4, vI z265911), (3, vI z265887), (1, vL (H r0 15)), (0, .ref r0)]) rfl rfl rfl ?_)
      refine wp_of e187 c187_112 (rw_aload_n (pc' := 113) (v := .ref r0) rfl rfl rfl ?_)
      refine wp_of e187 c187_113 (rw_ldcS (pc' := 115) (k := 83) rfl rfl rfl rfl ?_)
      refine wp_of e187 c187_115 (xc_V (pc' := 118) (r := r0) (as := [.ref 83]) (st := []) (lm_9_240) rfl rfl (Nat.le_of_ble_eq_true rfl) hW g0 sh_42 (by decide) rfl (by decide) (u_192_o (fo := fo) (po := po) (kk := 8423732) hW g0 rfl qrb grb (by decide +kernel) a265952) (fun R265954 T265955 H265956 p265957 => ?_))
      obtain ⟨e265958, e265960, z265961, e265959, b265962, p265963⟩ := p265957
      subst e265958
      subst e265959
      subst e265960
      obtain ⟨a265964, a265965⟩ := p265963
      show wp _ _ 187 118 [(6, vI z265948), (5, vI z265924), (4, vI z265911), (3, vI z265887), (1, vL (H r0 15)), (0, .ref r0)] [vI z265961] _ H _
      have u265966 := RO_k a265965
      refine wp_of e187 c187_118 (rw_if_eq (p1 := 131) (p2 := 121) (by decide) rfl ⟨by omega, by omega⟩ (fun c265967 => ?_) (fun c265967 => ?_))
      · refine wp_of e187 c187_131 (rw_iconst (pc' := 132) rfl ?_)
        refine wp_of e187 c187_132 (rw_istore (pc' := 134) (z := -1) (L' := [(7, vI (-1)), (6, vI z265948), (5, vI z265924), (4, vI z265911), (3, vI z265887), (1, vL (H r0 15)), (0, .ref r0)]) rfl rfl rfl ?_)
        refine wp_of e187 c187_134 (rw_aload_n (pc' := 135) (v := .ref r0) rfl rfl rfl ?_)
        refine wp_of e187 c187_135 (rw_ldcS (pc' := 137) (k := 84) rfl rfl rfl rfl ?_)
        refine wp_of e187 c187_137 (xc_V (pc' := 140) (r := r0) (as := [.ref 84]) (st := []) (lm_9_240) rfl rfl (Nat.le_of_ble_eq_true rfl) hW g0 sh_42 (by decide) rfl (by decide) (u_192_o (fo := fo) (po := po) (kk := 14384) hW g0 rfl qrb grb (by decide +kernel) a265965) (fun R265968 T265969 H265970 p265971 => ?_))
        obtain ⟨e265972, e265974, z265975, e265973, b265976, p265977⟩ := p265971
        subst e265972
        subst e265973
        subst e265974
        obtain ⟨a265978, a265979⟩ := p265977
        show wp _ _ 187 140 [(7, vI (-1)), (6, vI z265948), (5, vI z265924), (4, vI z265911), (3, vI z265887), (1, vL (H r0 15)), (0, .ref r0)] [vI z265975] _ H _
        have u265980 := RO_k a265979
        refine wp_of e187 c187_140 (rw_istore (pc' := 142) (z := z265975) (L' := [(8, vI z265975), (7, vI (-1)), (6, vI z265948), (5, vI z265924), (4, vI z265911), (3, vI z265887), (1, vL (H r0 15)), (0, .ref r0)]) rfl rfl rfl ?_)
        refine wp_of e187 c187_142 (rw_iload (pc' := 144) (z := z265975) rfl rfl ?_)
        refine wp_of e187 c187_144 (rw_if_eq (p1 := 157) (p2 := 147) (by decide) rfl ⟨by omega, by omega⟩ (fun c265981 => ?_) (fun c265981 => ?_))
        · refine wp_of e187 c187_157 (rw_iconst (pc' := 158) rfl ?_)
          refine wp_of e187 c187_158 (rw_istore (pc' := 160) (z := 0) (L' := [(9, vI 0), (8, vI z265975), (7, vI (-1)), (6, vI z265948), (5, vI z265924), (4, vI z265911), (3, vI z265887), (1, vL (H r0 15)), (0, .ref r0)]) rfl rfl rfl ?_)
          refine wp_of e187 c187_160 (rw_iload (pc' := 162) (z := z265975) rfl rfl ?_)
          refine wp_of e187 c187_162 (rw_if_eq (p1 := 180) (p2 := 165) (by decide) rfl ⟨by omega, by omega⟩ (fun c265982 => ?_) (fun c265982 => ?_))
          · refine wp_of e187 c187_180 (rw_iconst (pc' := 181) rfl ?_)
            refine wp_of e187 c187_181 (rw_istore (pc' := 183) (z := 0) (L' := [(10, vI 0), (9, vI 0), (8, vI z265975), (7, vI (-1)), (6, vI z265948), (5, vI z265924), (4, vI z265911), (3, vI z265887), (1, vL (H r0 15)), (0, .ref r0)]) rfl rfl rfl ?_)
            refine wp_of e187 c187_183 (rw_aload_n (pc' := 184) (v := .ref r0) rfl rfl rfl ?_)
            refine wp_of e187 c187_184 (rw_ldcS (pc' := 186) (k := 85) rfl rfl rfl rfl ?_)
            refine wp_of e187 c187_186 (xc_V (pc' := 189) (r := r0) (as := [.ref 85]) (st := []) (lm_9_240) rfl rfl (Nat.le_of_ble_eq_true rfl) hW g0 sh_42 (by decide) rfl (by decide) (u_192_o (fo := fo) (po := po) (kk := 56377) hW g0 rfl qrb grb (by decide +kernel) a265979) (fun R265983 T265984 H265985 p265986 => ?_))
            obtain ⟨e265987, e265989, z265990, e265988, b265991, p265992⟩ := p265986
            subst e265987
            subst e265988
            subst e265989
            obtain ⟨a265993, a265994⟩ := p265992
            show wp _ _ 187 189 [(10, vI 0), (9, vI 0), (8, vI z265975), (7, vI (-1)), (6, vI z265948), (5, vI z265924), (4, vI z265911), (3, vI z265887), (1, vL (H r0 15)), (0, .ref r0)] [vI z265990] _ H _
            have u265995 := RO_k a265994
            refine wp_of e187 c187_189 (rw_istore (pc' := 191) (z := z265990) (L' := [(11, vI z265990), (10, vI 0), (9, vI 0), (8, vI z265975), (7, vI (-1)), (6, vI z265948), (5, vI z265924), (4, vI z265911), (3, vI z265887), (1, vL (H r0 15)), (0, .ref r0)]) rfl rfl rfl ?_)
            refine wp_of e187 c187_191 (rw_aload_n (pc' := 192) (v := .ref r0) rfl rfl rfl ?_)
            refine wp_of e187 c187_192 (xg_I (pc' := 195) lf_9_75 hW g0 sh_42 (by decide) (by decide) ty_42_9 rfl rfl (fun b265996 b265997 => ?_))
            refine wp_of e187 c187_195 (rw_iconst (pc' := 196) rfl ?_)
            refine wp_of e187 c187_196 (rw_icmp_ne (p1 := 200) (p2 := 199) (by decide) rfl ⟨by omega, by omega⟩ ⟨by omega, by omega⟩ (fun c265998 => ?_) (fun c265998 => ?_))
            · exfalso
              omega
            · exact wp_return e187 c187_199 rfl ⟨rfl, rfl, rfl, (a265994)⟩
          · exfalso
            omega
        · exfalso
          omega
      · exfalso
        omega
    · refine wp_of e187 c187_40 (rw_aload_n (pc' := 41) (v := .ref r0) rfl rfl rfl ?_)
      refine wp_of e187 c187_41 (rw_iconst (pc' := 42) rfl ?_)
      refine wp_of e187 c187_42 (xc_V (pc' := 45) (r := r0) (as := [vI 3]) (st := []) (lm_9_121) rfl rfl (Nat.le_of_ble_eq_true rfl) hW g0 sh_42 (by decide) rfl (by decide) (u_181_o (fo := fo) (po := po) hW g0 ⟨by omega, by omega⟩ p265851) (fun R265999 T266000 H266001 p266002 => ?_))
      obtain ⟨e266003, e266005, e266004, p266006⟩ := p266002
      subst e266003
      subst e266004
      subst e266005
      show wp _ _ 187 45 [(0, .ref r0)] [] _ H _
      have u266008 := RO_k p266006
      refine wp_of e187 c187_45 (rw_aload_n (pc' := 46) (v := .ref r0) rfl rfl rfl ?_)
      refine wp_of e187 c187_46 (xg_L (pc' := 49) lf_9_94 hW g0 sh_42 (by decide) (by decide) ty_42_15 rfl rfl (fun b266009 b266010 => ?_))
      refine wp_of e187 c187_49 (rw_lstore_n (pc' := 50) (z := H r0 15) (L' := [(1, vL (H r0 15)), (0, .ref r0)]) rfl rfl rfl ?_)
      refine wp_of e187 c187_50 (rw_aload_n (pc' := 51) (v := .ref r0) rfl rfl rfl ?_)
      refine wp_of e187 c187_51 (xc_V (pc' := 54) (r := r0) (as := []) (st := []) (lm_9_118) rfl rfl (Nat.le_of_ble_eq_true rfl) hW g0 sh_42 (by decide) rfl (by decide) (u_172_o (fo := fo) (po := po) hW g0 p266006) (fun R266011 T266012 H266013 p266014 => ?_))
      obtain ⟨e266015, e266017, e266016, p266018⟩ := p266014
      subst e266015
      subst e266016
      subst e266017
      show wp _ _ 187 54 [(1, vL (H r0 15)), (0, .ref r0)] [] _ H _
      have u266020 := RO_k p266018
      refine wp_of e187 c187_54 (rw_aload_n (pc' := 55) (v := .ref r0) rfl rfl rfl ?_)
      refine wp_of e187 c187_55 (rw_ldcS (pc' := 57) (k := 86) rfl rfl rfl rfl ?_)
      refine wp_of e187 c187_57 (rw_iconst (pc' := 58) rfl ?_)
      refine wp_of e187 c187_58 (rw_bipush (pc' := 60) (z := 23) rfl (by decide) ?_)
      refine wp_of e187 c187_60 (xc_V (pc' := 63) (r := r0) (as := [.ref 86, vI 0, vI 23]) (st := []) (lm_9_216) rfl rfl (Nat.le_of_ble_eq_true rfl) hW g0 sh_42 (by decide) rfl (by decide) (u_182_o (fo := fo) (po := po) (kk := 2212) hW g0 rfl ⟨by omega, by omega⟩ ⟨by omega, by omega⟩ qrb grb (by decide +kernel) p266018) (fun R266021 T266022 H266023 p266024 => ?_))
      obtain ⟨e266025, e266027, z266028, e266026, b266029, p266030⟩ := p266024
      subst e266025
      subst e266026
      subst e266027
      obtain ⟨a266031, a266032⟩ := p266030
      show wp _ _ 187 63 [(1, vL (H r0 15)), (0, .ref r0)] [vI z266028] _ H _
      have u266033 := RO_k a266032
      refine wp_of e187 c187_63 (rw_istore_n (pc' := 64) (z := z266028) (L' := [(3, vI z266028), (1, vL (H r0 15)), (0, .ref r0)]) rfl rfl rfl ?_)
      refine wp_of e187 c187_64 (rw_aload_n (pc' := 65) (v := .ref r0) rfl rfl rfl ?_)
      refine wp_of e187 c187_65 (rw_ldcS (pc' := 67) (k := 87) rfl rfl rfl rfl ?_)
      refine wp_of e187 c187_67 (rw_iload_n (pc' := 68) (z := z266028) rfl rfl ?_)
      refine wp_of e187 c187_68 (rw_bipush (pc' := 70) (z := 23) rfl (by decide) ?_)
      refine wp_of e187 c187_70 (rw_iload_n (pc' := 71) (z := z266028) rfl rfl ?_)
      refine wp_of e187 c187_71 (rw_bipush (pc' := 73) (z := 7) rfl (by decide) ?_)
      refine wp_of e187 c187_73 (rw_iadd (pc' := 74) rfl ?_)
      refine wp_of e187 c187_74 (xc_S (pc' := 77) (as := [vI 23, vI (z266028 + 7)]) (st := [vI z266028, .ref 87, .ref r0]) (lm_9_235) rfl rfl (Nat.le_of_ble_eq_true rfl) rfl (by decide) (u_191  hW ⟨by omega, by omega⟩ ⟨by omega, by omega⟩) (fun R266034 T266035 H266036 p266037 => ?_))
      obtain ⟨e266038, e266040, z266041, e266039, b266042, p266043⟩ := p266037
      subst e266038
      subst e266039
      subst e266040
      show wp _ _ 187 77 [(3, vI z266028), (1, vL (H r0 15)), (0, .ref r0)] [vI z266041, vI z266028, .ref 87, .ref r0] _ H _
      refine wp_of e187 c187_77 (xc_V (pc' := 80) (r := r0) (as := [.ref 87, vI z266028, vI z266041]) (st := []) (lm_9_216) rfl rfl (Nat.le_of_ble_eq_true rfl) hW g0 sh_42 (by decide) rfl (by decide) (u_182_o (fo := fo) (po := po) (kk := 655) hW g0 rfl ⟨by omega, by omega⟩ ⟨by omega, by omega⟩ qrb grb (by decide +kernel) a266032) (fun R266045 T266046 H266047 p266048 => ?_))
      obtain ⟨e266049, e266051, z266052, e266050, b266053, p266054⟩ := p266048
      subst e266049
      subst e266050
      subst e266051
      obtain ⟨a266055, a266056⟩ := p266054
      show wp _ _ 187 80 [(3, vI z266028), (1, vL (H r0 15)), (0, .ref r0)] [vI z266052] _ H _
      have u266057 := RO_k a266056
      refine wp_of e187 c187_80 (rw_istore (pc' := 82) (z := z266052) (L' := [(4, vI z266052), (3, vI z266028), (1, vL (H r0 15)), (0, .ref r0)]) rfl rfl rfl ?_)
      refine wp_of e187 c187_82 (rw_aload_n (pc' := 83) (v := .ref r0) rfl rfl rfl ?_)
      refine wp_of e187 c187_83 (rw_ldcS (pc' := 85) (k := 88) rfl rfl rfl rfl ?_)
      refine wp_of e187 c187_85 (rw_iconst (pc' := 86) rfl ?_)
      refine wp_of e187 c187_86 (rw_bipush (pc' := 88) (z := 12) rfl (by decide) ?_)
      refine wp_of e187 c187_88 (xc_V (pc' := 91) (r := r0) (as := [.ref 88, vI 0, vI 12]) (st := []) (lm_9_216) rfl rfl (Nat.le_of_ble_eq_true rfl) hW g0 sh_42 (by decide) rfl (by decide) (u_182_o (fo := fo) (po := po) (kk := 409031) hW g0 rfl ⟨by omega, by omega⟩ ⟨by omega, by omega⟩ qrb grb (by decide +kernel) a266056) (fun R266058 T266059 H266060 p266061 => ?_))
      obtain ⟨e266062, e266064, z266065, e266063, b266066, p266067⟩ := p266061
      subst e266062
      subst e266063
      subst e266064
      obtain ⟨a266068, a266069⟩ := p266067
      show wp _ _ 187 91 [(4, vI z266052), (3, vI z266028), (1, vL (H r0 15)), (0, .ref r0)] [vI z266065] _ H _
      have u266070 := RO_k a266069
      refine wp_of e187 c187_91 (rw_istore (pc' := 93) (z := z266065) (L' := [(5, vI z266065), (4, vI z266052), (3, vI z266028), (1, vL (H r0 15)), (0, .ref r0)]) rfl rfl rfl ?_)
      refine wp_of e187 c187_93 (rw_aload_n (pc' := 94) (v := .ref r0) rfl rfl rfl ?_)
      refine wp_of e187 c187_94 (rw_ldcS (pc' := 96) (k := 87) rfl rfl rfl rfl ?_)
      refine wp_of e187 c187_96 (rw_iload (pc' := 98) (z := z266065) rfl rfl ?_)
      refine wp_of e187 c187_98 (rw_bipush (pc' := 100) (z := 12) rfl (by decide) ?_)
      refine wp_of e187 c187_100 (rw_iload (pc' := 102) (z := z266065) rfl rfl ?_)
      refine wp_of e187 c187_102 (rw_iconst (pc' := 103) rfl ?_)
      refine wp_of e187 c187_103 (rw_iadd (pc' := 104) rfl ?_)
      refine wp_of e187 c187_104 (xc_S (pc' := 107) (as := [vI 12, vI (z266065 + 4)]) (st := [vI z266065, .ref 87, .ref r0]) (lm_9_235) rfl rfl (Nat.le_of_ble_eq_true rfl) rfl (by decide) (u_191  hW ⟨by omega, by omega⟩ ⟨by omega, by omega⟩) (fun R266071 T266072 H266073 p266074 => ?_))
      obtain ⟨e266075, e266077, z266078, e266076, b266079, p266080⟩ := p266074
      subst e266075
      subst e266076
      subst e266077
      show wp _ _ 187 107 [(5, vI z266065), (4, vI z266052), (3, vI z266028), (1, vL (H r0 15)), (0, .ref r0)] [vI z266078, vI z266065, .ref 87, .ref r0] _ H _
      refine wp_of e187 c187_107 (xc_V (pc' := 110) (r := r0) (as := [.ref 87, vI z266065, vI z266078]) (st := []) (lm_9_216) rfl rfl (Nat.le_of_ble_eq_true rfl) hW g0 sh_42 (by decide) rfl (by decide) (u_182_o (fo := fo) (po := po) (kk := 655) hW g0 rfl ⟨by omega, by omega⟩ ⟨by omega, by omega⟩ qrb grb (by decide +kernel) a266069) (fun R266082 T266083 H266084 p266085 => ?_))
      obtain ⟨e266086, e266088, z266089, e266087, b266090, p266091⟩ := p266085
      subst e266086
      subst e266087
      subst e266088
      obtain ⟨a266092, a266093⟩ := p266091
      show wp _ _ 187 110 [(5, vI z266065), (4, vI z266052), (3, vI z266028), (1, vL (H r0 15)), (0, .ref r0)] [vI z266089] _ H _
      have u266094 := RO_k a266093
      refine wp_of e187 c187_110 (rw_istore (pc' := 112) (z := z266089) (L' := [(6, vI z266089), (5, vI z266065), (4, vI z266052), (3, vI z266028), (1, vL (H r0 15)), (0, .ref r0)]) rfl rfl rfl ?_)
      refine wp_of e187 c187_112 (rw_aload_n (pc' := 113) (v := .ref r0) rfl rfl rfl ?_)
      refine wp_of e187 c187_113 (rw_ldcS (pc' := 115) (k := 83) rfl rfl rfl rfl ?_)
      refine wp_of e187 c187_115 (xc_V (pc' := 118) (r := r0) (as := [.ref 83]) (st := []) (lm_9_240) rfl rfl (Nat.le_of_ble_eq_true rfl) hW g0 sh_42 (by decide) rfl (by decide) (u_192_o (fo := fo) (po := po) (kk := 8423732) hW g0 rfl qrb grb (by decide +kernel) a266093) (fun R266095 T266096 H266097 p266098 => ?_))
      obtain ⟨e266099, e266101, z266102, e266100, b266103, p266104⟩ := p266098
      subst e266099
      subst e266100
      subst e266101
      obtain ⟨a266105, a266106⟩ := p266104
      show wp _ _ 187 118 [(6, vI z266089), (5, vI z266065), (4, vI z266052), (3, vI z266028), (1, vL (H r0 15)), (0, .ref r0)] [vI z266102] _ H _
      have u266107 := RO_k a266106
      refine wp_of e187 c187_118 (rw_if_eq (p1 := 131) (p2 := 121) (by decide) rfl ⟨by omega, by omega⟩ (fun c266108 => ?_) (fun c266108 => ?_))
      · refine wp_of e187 c187_131 (rw_iconst (pc' := 132) rfl ?_)
        refine wp_of e187 c187_132 (rw_istore (pc' := 134) (z := -1) (L' := [(7, vI (-1)), (6, vI z266089), (5, vI z266065), (4, vI z266052), (3, vI z266028), (1, vL (H r0 15)), (0, .ref r0)]) rfl rfl rfl ?_)
        refine wp_of e187 c187_134 (rw_aload_n (pc' := 135) (v := .ref r0) rfl rfl rfl ?_)
        refine wp_of e187 c187_135 (rw_ldcS (pc' := 137) (k := 84) rfl rfl rfl rfl ?_)
        refine wp_of e187 c187_137 (xc_V (pc' := 140) (r := r0) (as := [.ref 84]) (st := []) (lm_9_240) rfl rfl (Nat.le_of_ble_eq_true rfl) hW g0 sh_42 (by decide) rfl (by decide) (u_192_o (fo := fo) (po := po) (kk := 14384) hW g0 rfl qrb grb (by decide +kernel) a266106) (fun R266109 T266110 H266111 p266112 => ?_))
        obtain ⟨e266113, e266115, z266116, e266114, b266117, p266118⟩ := p266112
        subst e266113
        subst e266114
        subst e266115
        obtain ⟨a266119, a266120⟩ := p266118
        show wp _ _ 187 140 [(7, vI (-1)), (6, vI z266089), (5, vI z266065), (4, vI z266052), (3, vI z266028), (1, vL (H r0 15)), (0, .ref r0)] [vI z266116] _ H _
        have u266121 := RO_k a266120
        refine wp_of e187 c187_140 (rw_istore (pc' := 142) (z := z266116) (L' := [(8, vI z266116), (7, vI (-1)), (6, vI z266089), (5, vI z266065), (4, vI z266052), (3, vI z266028), (1, vL (H r0 15)), (0, .ref r0)]) rfl rfl rfl ?_)
        refine wp_of e187 c187_142 (rw_iload (pc' := 144) (z := z266116) rfl rfl ?_)
        refine wp_of e187 c187_144 (rw_if_eq (p1 := 157) (p2 := 147) (by decide) rfl ⟨by omega, by omega⟩ (fun c266122 => ?_) (fun c266122 => ?_))
        · refine wp_of e187 c187_157 (rw_iconst (pc' := 158) rfl ?_)
          refine wp_of e187 c187_158 (rw_istore (pc' := 160) (z := 0) (L' := [(9, vI 0), (8, vI z266116), (7, vI (-1)), (6, vI z266089), (5, vI z266065), (4, vI z266052), (3, vI z266028), (1, vL (H r0 15)), (0, .ref r0)]) rfl rfl rfl ?_)
          refine wp_of e187 c187_160 (rw_iload (pc' := 162) (z := z266116) rfl rfl ?_)
          refine wp_of e187 c187_162 (rw_if_eq (p1 := 180) (p2 := 165) (by decide) rfl ⟨by omega, by omega⟩ (fun c266123 => ?_) (fun c266123 => ?_))
          · refine wp_of e187 c187_180 (rw_iconst (pc' := 181) rfl ?_)
            refine wp_of e187 c187_181 (rw_istore (pc' := 183) (z := 0) (L' := [(10, vI 0), (9, vI 0), (8, vI z266116), (7, vI (-1)), (6, vI z266089), (5, vI z266065), (4, vI z266052), (3, vI z266028), (1, vL (H r0 15)), (0, .ref r0)]) rfl rfl rfl ?_)
            refine wp_of e187 c187_183 (rw_aload_n (pc' := 184) (v := .ref r0) rfl rfl rfl ?_)
            refine wp_of e187 c187_184 (rw_ldcS (pc' := 186) (k := 85) rfl rfl rfl rfl ?_)
            refine wp_of e187 c187_186 (xc_V (pc' := 189) (r := r0) (as := [.ref 85]) (st := []) (lm_9_240) rfl rfl (Nat.le_of_ble_eq_true rfl) hW g0 sh_42 (by decide) rfl (by decide) (u_192_o (fo := fo) (po := po) (kk := 56377) hW g0 rfl qrb grb (by decide +kernel) a266120) (fun R266124 T266125 H266126 p266127 => ?_))
            obtain ⟨e266128, e266130, z266131, e266129, b266132, p266133⟩ := p266127
            subst e266128
            subst e266129
            subst e266130
            obtain ⟨a266134, a266135⟩ := p266133
            show wp _ _ 187 189 [(10, vI 0), (9, vI 0), (8, vI z266116), (7, vI (-1)), (6, vI z266089), (5, vI z266065), (4, vI z266052), (3, vI z266028), (1, vL (H r0 15)), (0, .ref r0)] [vI z266131] _ H _
            have u266136 := RO_k a266135
            refine wp_of e187 c187_189 (rw_istore (pc' := 191) (z := z266131) (L' := [(11, vI z266131), (10, vI 0), (9, vI 0), (8, vI z266116), (7, vI (-1)), (6, vI z266089), (5, vI z266065), (4, vI z266052), (3, vI z266028), (1, vL (H r0 15)), (0, .ref r0)]) rfl rfl rfl ?_)
            refine wp_of e187 c187_191 (rw_aload_n (pc' := 192) (v := .ref r0) rfl rfl rfl ?_)
            refine wp_of e187 c187_192 (xg_I (pc' := 195) lf_9_75 hW g0 sh_42 (by decide) (by decide) ty_42_9 rfl rfl (fun b266137 b266138 => ?_))
            refine wp_of e187 c187_195 (rw_iconst (pc' := 196) rfl ?_)
            refine wp_of e187 c187_196 (rw_icmp_ne (p1 := 200) (p2 := 199) (by decide) rfl ⟨by omega, by omega⟩ ⟨by omega, by omega⟩ (fun c266139 => ?_) (fun c266139 => ?_))
            · exfalso
              omega
            · exact wp_return e187 c187_199 rfl ⟨rfl, rfl, rfl, (a266135)⟩
          · exfalso
            omega
        · exfalso
          omega
      · exfalso
        omega
/-! StrikeAwakeModel.readLine()V k -/
abbrev uq_177_k (r0 : Nat) (rp : Nat) (rb : Nat) (B : Nat → Int) (n : Int) (q : Int) (d : xD) (T : wq_T) (H : wq_H) : Option Value → wq_T → wq_H → Prop := fun r T' H' => T = T' ∧ WT T H' ∧ wfr [(54, 0), (54, 1), (54, 2), (54, 3), (54, 4), (54, 5), (54, 6), (54, 7), (54, 8), (42, 8), (42, 9), (42, 10), (42, 11), (42, 12), (42, 13), (42, 14), (42, 15), (42, 16), (42, 17), (42, 18), (64, 999), (65, 999), (56, 999), (57, 999), (66, 999), (60, 999), (63, 999), (58, 999), (59, 999), (55, 999), (61, 999), (62, 999), (72, 999), (71, 999), (67, 999), (68, 999), (69, 999)] T H H' ∧ none = r ∧ ((((xline B n q d).1 = 0) ∧ (q ≤ (xline B n q d).2.2) ∧ (∀ a, a ≠ rp → T.2.2.2 a = some 54 → H' a 3 = H a 3) ∧ RC T H' r0 B n (xline B n q d).2.2 ∧ DM T H' rp r0 (xdline B n q d)) ∨ (((xline B n q d).1 ≠ 0) ∧ (∀ a, a ≠ rp → T.2.2.2 a = some 54 → H' a 3 = H a 3) ∧ RO T H' r0 ((xline B n q d).1) ((xline B n q d).2.1)))
set_option maxHeartbeats 4000000 in
theorem u_177_k {kt : Nat → Option mc_E} {T : wq_T} {H : wq_H} {r0 : Nat} {rp : Nat} {rb : Nat} {B : Nat → Int} {n : Int} {q : Int} {d : xD} (hW : WT T H) (g0 : T.2.2.2 r0 = some 42) (qrp : H r0 4 = (rp : Int)) (grp : T.2.2.2 rp = some 54) (qrb : H r0 5 = (rb : Int)) (grb : T.2.2.2 rb = some 43) (hRC_r0 : RC T H r0 B n q) (hDM_rp : DM T H rp r0 d) : wpc kt 8 177 [.ref r0] T H (uq_177_k r0 rp rb B n q d T H) := by
  refine wp_enter e177 (Nat.le_of_ble_eq_true rfl) rfl ?_
  have f0 : wfr [(54, 0), (54, 1), (54, 2), (54, 3), (54, 4), (54, 5), (54, 6), (54, 7), (54, 8), (42, 8), (42, 9), (42, 10), (42, 11), (42, 12), (42, 13), (42, 14), (42, 15), (42, 16), (42, 17), (42, 18), (64, 999), (65, 999), (56, 999), (57, 999), (66, 999), (60, 999), (63, 999), (58, 999), (59, 999), (55, 999), (61, 999), (62, 999), (72, 999), (71, 999), (67, 999), (68, 999), (69, 999)] T H H := wfr.rf
  show wp _ _ 177 0 [(0, .ref r0)] [] _ H _
  have u266432 := RC_k hRC_r0
  have u266433 := DM_k hDM_rp
  have _r := @xre_r B n q
  refine wp_of e177 c177_0 (rw_aload_n (pc' := 1) (v := .ref r0) rfl rfl rfl ?_)
  refine wp_of e177 c177_1 (rw_ldcS (pc' := 3) (k := 72) rfl rfl rfl rfl ?_)
  refine wp_of e177 c177_3 (xc_V (pc' := 6) (r := r0) (as := [.ref 72]) (st := []) (lm_9_114) rfl rfl (Nat.le_of_ble_eq_true rfl) hW g0 sh_42 (by decide) rfl (by decide) (u_178_k (B := B) (n := n) (q := q) (kk := 12343) hW g0 rfl (by decide +kernel) hRC_r0) (fun R266434 T266435 H266436 p266437 => ?_))
  obtain ⟨e266438, e266440, z266441, e266439, b266442, p266443⟩ := p266437
  subst e266438
  subst e266439
  subst e266440
  rcases p266443 with ⟨a266444, a266445, a266446⟩ | ⟨a266447, a266448⟩
  · show wp _ _ 177 6 [(0, .ref r0)] [vI z266441] _ H _
    have y266449 := xre_y (B := B) (n := n) (q := q) 0 12343 rfl (by decide) (by omega)
    refine wp_of e177 c177_6 (rw_if_eq (p1 := 16) (p2 := 9) (by decide) rfl ⟨by omega, by omega⟩ (fun c266450 => ?_) (fun c266450 => ?_))
    · exfalso
      omega
    · refine wp_of e177 c177_9 (rw_aload_n (pc' := 10) (v := .ref r0) rfl rfl rfl ?_)
      refine wp_of e177 c177_10 (xc_V (pc' := 13) (r := r0) (as := []) (st := []) (lm_9_191) rfl rfl (Nat.le_of_ble_eq_true rfl) hW g0 sh_42 (by decide) rfl (by decide) (u_180_k (B := B) (n := n) (q := q) (d := d) hW g0 qrp grp qrb grb (by omega) hRC_r0 hDM_rp) (fun R266451 T266452 H266453 p266454 => ?_))
      obtain ⟨e266455, w266457, f266458, e266456, p266459⟩ := p266454
      subst e266455
      subst e266456
      rcases p266459 with ⟨a266460, a266461, a266462, a266463, a266464⟩ | ⟨a266465, a266466⟩
      · have f266467 := f0.tr f266458 rfl
        show wp _ _ 177 13 [(0, .ref r0)] [] _ H266453 _
        have u266468 := RC_k a266463
        have u266469 := DM_k a266464
        refine wp_of e177 c177_13 (rw_goto (p1 := 133) (by decide) ?_)
        have o266470 : (xline B n q d) = ((xl0 B n q d).1, (xl0 B n q d).2.1, (xl0 B n q d).2.2) := by
          unfold xline
          repeat first | rw [xs_0 (by omega)] | rw [xs_1 (by omega)] | rw [if_pos (by omega)] | rw [if_neg (by omega)]
          first | done | rfl | assumption | (exfalso; omega) | (refine Prod.ext ?_ (Prod.ext ?_ ?_) <;> (try dsimp only) <;> omega)
        have o266470a : ((xline B n q d)).1 = (xl0 B n q d).1 := by rw [o266470]
        have o266470b : ((xline B n q d)).2.1 = (xl0 B n q d).2.1 := by rw [o266470]
        have o266470c : ((xline B n q d)).2.2 = (xl0 B n q d).2.2 := by rw [o266470]
        have o266471 : xdline B n q d = ((xdlaw B n (xN B n q) d)) := by
          unfold xdline
          repeat first | rw [xs_0 (by omega)] | rw [xs_1 (by omega)] | rw [if_pos (by omega)] | rw [if_neg (by omega)]
          first | done | rfl
        exact wp_return e177 c177_133 rfl ⟨rfl, w266457, f266467, rfl, (Or.inl ⟨by omega, by omega, (fun a ha ga => (f266458 a 3 _ ga rfl)), by rw [show (xline B n q d).2.2 = ((xN B n (xN B n (xN B n (xN B n (xN B n (xN B n (xN B n q)))))))) by omega]; exact a266463, by rw [o266471]; exact a266464⟩)⟩
      · have f266472 := f0.tr f266458 rfl
        show wp _ _ 177 13 [(0, .ref r0)] [] _ H266453 _
        have u266473 := RO_k a266466
        refine wp_of e177 c177_13 (rw_goto (p1 := 133) (by decide) ?_)
        have o266474 : (xline B n q d) = ((xl0 B n q d).1, (xl0 B n q d).2.1, (xl0 B n q d).2.2) := by
          unfold xline
          repeat first | rw [xs_0 (by omega)] | rw [xs_1 (by omega)] | rw [if_pos (by omega)] | rw [if_neg (by omega)]
          first | done | rfl | assumption | (exfalso; omega) | (refine Prod.ext ?_ (Prod.ext ?_ ?_) <;> (try dsimp only) <;> omega)
        have o266474a : ((xline B n q d)).1 = (xl0 B n q d).1 := by rw [o266474]
        have o266474b : ((xline B n q d)).2.1 = (xl0 B n q d).2.1 := by rw [o266474]
        have o266474c : ((xline B n q d)).2.2 = (xl0 B n q d).2.2 := by rw [o266474]
        exact wp_return e177 c177_133 rfl ⟨rfl, w266457, f266472, rfl, (Or.inr ⟨by omega, (fun a ha ga => (f266458 a 3 _ ga rfl)), RO_eq a266466 (by omega) (by omega)⟩)⟩
  · show wp _ _ 177 6 [(0, .ref r0)] [vI z266441] _ H _
    have y266475 := xre_n (B := B) (n := n) (q := q) 0 12343 rfl (by decide) (by omega)
    refine wp_of e177 c177_6 (rw_if_eq (p1 := 16) (p2 := 9) (by decide) rfl ⟨by omega, by omega⟩ (fun c266476 => ?_) (fun c266476 => ?_))
    · refine wp_of e177 c177_16 (rw_aload_n (pc' := 17) (v := .ref r0) rfl rfl rfl ?_)
      refine wp_of e177 c177_17 (rw_ldcS (pc' := 19) (k := 76) rfl rfl rfl rfl ?_)
      refine wp_of e177 c177_19 (xc_V (pc' := 22) (r := r0) (as := [.ref 76]) (st := []) (lm_9_114) rfl rfl (Nat.le_of_ble_eq_true rfl) hW g0 sh_42 (by decide) rfl (by decide) (u_178_k (B := B) (n := n) (q := q) (kk := 542723566) hW g0 rfl (by decide +kernel) hRC_r0) (fun R266477 T266478 H266479 p266480 => ?_))
      obtain ⟨e266481, e266483, z266484, e266482, b266485, p266486⟩ := p266480
      subst e266481
      subst e266482
      subst e266483
      rcases p266486 with ⟨a266487, a266488, a266489⟩ | ⟨a266490, a266491⟩
      · show wp _ _ 177 22 [(0, .ref r0)] [vI z266484] _ H _
        have y266492 := xre_y (B := B) (n := n) (q := q) 1 542723566 rfl (by decide) (by omega)
        refine wp_of e177 c177_22 (rw_if_eq (p1 := 32) (p2 := 25) (by decide) rfl ⟨by omega, by omega⟩ (fun c266493 => ?_) (fun c266493 => ?_))
        · exfalso
          omega
        · refine wp_of e177 c177_25 (rw_aload_n (pc' := 26) (v := .ref r0) rfl rfl rfl ?_)
          refine wp_of e177 c177_26 (xc_V (pc' := 29) (r := r0) (as := []) (st := []) (lm_9_194) rfl rfl (Nat.le_of_ble_eq_true rfl) hW g0 sh_42 (by decide) rfl (by decide) (u_187_k (B := B) (n := n) (q := q) (d := d) hW g0 qrp grp qrb grb (by omega) hRC_r0 hDM_rp) (fun R266494 T266495 H266496 p266497 => ?_))
          obtain ⟨e266498, w266500, f266501, e266499, p266502⟩ := p266497
          subst e266498
          subst e266499
          rcases p266502 with ⟨a266503, a266504, a266505, a266506, a266507⟩ | ⟨a266508, a266509, a266510⟩
          · have f266511 := f0.tr f266501 rfl
            show wp _ _ 177 29 [(0, .ref r0)] [] _ H266496 _
            have u266512 := RC_k a266506
            have u266513 := DM_k a266507
            refine wp_of e177 c177_29 (rw_goto (p1 := 133) (by decide) ?_)
            have o266514 : (xline B n q d) = ((xl1 B n q d).1, (xl1 B n q d).2.1, (xl1 B n q d).2.2) := by
              unfold xline
              repeat first | rw [xs_0 (by omega)] | rw [xs_1 (by omega)] | rw [if_pos (by omega)] | rw [if_neg (by omega)]
              first | done | rfl | assumption | (exfalso; omega) | (refine Prod.ext ?_ (Prod.ext ?_ ?_) <;> (try dsimp only) <;> omega)
            have o266514a : ((xline B n q d)).1 = (xl1 B n q d).1 := by rw [o266514]
            have o266514b : ((xline B n q d)).2.1 = (xl1 B n q d).2.1 := by rw [o266514]
            have o266514c : ((xline B n q d)).2.2 = (xl1 B n q d).2.2 := by rw [o266514]
            have o266515 : xdline B n q d = (xdper B n (xN B n q) d) := by
              unfold xdline
              repeat first | rw [xs_0 (by omega)] | rw [xs_1 (by omega)] | rw [if_pos (by omega)] | rw [if_neg (by omega)]
              first | done | rfl
            exact wp_return e177 c177_133 rfl ⟨rfl, w266500, f266511, rfl, (Or.inl ⟨by omega, by omega, (fun a ha ga => (a266505 a ha ga)), by rw [show (xline B n q d).2.2 = ((xl1 B n q d).2.2) by omega]; exact a266506, by rw [o266515]; exact a266507⟩)⟩
          · have f266516 := f0.tr f266501 rfl
            show wp _ _ 177 29 [(0, .ref r0)] [] _ H266496 _
            have u266517 := RO_k a266510
            refine wp_of e177 c177_29 (rw_goto (p1 := 133) (by decide) ?_)
            have o266518 : (xline B n q d) = ((xl1 B n q d).1, (xl1 B n q d).2.1, (xl1 B n q d).2.2) := by
              unfold xline
              repeat first | rw [xs_0 (by omega)] | rw [xs_1 (by omega)] | rw [if_pos (by omega)] | rw [if_neg (by omega)]
              first | done | rfl | assumption | (exfalso; omega) | (refine Prod.ext ?_ (Prod.ext ?_ ?_) <;> (try dsimp only) <;> omega)
            have o266518a : ((xline B n q d)).1 = (xl1 B n q d).1 := by rw [o266518]
            have o266518b : ((xline B n q d)).2.1 = (xl1 B n q d).2.1 := by rw [o266518]
            have o266518c : ((xline B n q d)).2.2 = (xl1 B n q d).2.2 := by rw [o266518]
            exact wp_return e177 c177_133 rfl ⟨rfl, w266500, f266516, rfl, (Or.inr ⟨by omega, (fun a ha ga => (a266509 a ha ga)), RO_eq a266510 (by omega) (by omega)⟩)⟩
      · show wp _ _ 177 22 [(0, .ref r0)] [vI z266484] _ H _
        have y266519 := xre_n (B := B) (n := n) (q := q) 1 542723566 rfl (by decide) (by omega)
        refine wp_of e177 c177_22 (rw_if_eq (p1 := 32) (p2 := 25) (by decide) rfl ⟨by omega, by omega⟩ (fun c266520 => ?_) (fun c266520 => ?_))
        · refine wp_of e177 c177_32 (rw_aload_n (pc' := 33) (v := .ref r0) rfl rfl rfl ?_)
          refine wp_of e177 c177_33 (rw_ldcS (pc' := 35) (k := 77) rfl rfl rfl rfl ?_)
          refine wp_of e177 c177_35 (xc_V (pc' := 38) (r := r0) (as := [.ref 77]) (st := []) (lm_9_114) rfl rfl (Nat.le_of_ble_eq_true rfl) hW g0 sh_42 (by decide) rfl (by decide) (u_178_k (B := B) (n := n) (q := q) (kk := 643584494) hW g0 rfl (by decide +kernel) hRC_r0) (fun R266521 T266522 H266523 p266524 => ?_))
          obtain ⟨e266525, e266527, z266528, e266526, b266529, p266530⟩ := p266524
          subst e266525
          subst e266526
          subst e266527
          rcases p266530 with ⟨a266531, a266532, a266533⟩ | ⟨a266534, a266535⟩
          · show wp _ _ 177 38 [(0, .ref r0)] [vI z266528] _ H _
            have y266536 := xre_y (B := B) (n := n) (q := q) 2 643584494 rfl (by decide) (by omega)
            refine wp_of e177 c177_38 (rw_if_eq (p1 := 48) (p2 := 41) (by decide) rfl ⟨by omega, by omega⟩ (fun c266537 => ?_) (fun c266537 => ?_))
            · exfalso
              omega
            · refine wp_of e177 c177_41 (rw_aload_n (pc' := 42) (v := .ref r0) rfl rfl rfl ?_)
              refine wp_of e177 c177_42 (xc_V (pc' := 45) (r := r0) (as := []) (st := []) (lm_9_197) rfl rfl (Nat.le_of_ble_eq_true rfl) hW g0 sh_42 (by decide) rfl (by decide) (u_193_k (B := B) (n := n) (q := q) (d := d) hW g0 qrp grp qrb grb (by omega) hRC_r0 hDM_rp) (fun R266538 T266539 H266540 p266541 => ?_))
              obtain ⟨e266542, w266544, f266545, e266543, p266546⟩ := p266541
              subst e266542
              subst e266543
              rcases p266546 with ⟨a266547, a266548, a266549, a266550, a266551⟩ | ⟨a266552, a266553⟩
              · have f266554 := f0.tr f266545 rfl
                show wp _ _ 177 45 [(0, .ref r0)] [] _ H266540 _
                have u266555 := RC_k a266550
                have u266556 := DM_k a266551
                refine wp_of e177 c177_45 (rw_goto (p1 := 133) (by decide) ?_)
                have o266557 : (xline B n q d) = ((xl2 B n q d).1, (xl2 B n q d).2.1, (xl2 B n q d).2.2) := by
                  unfold xline
                  repeat first | rw [xs_0 (by omega)] | rw [xs_1 (by omega)] | rw [if_pos (by omega)] | rw [if_neg (by omega)]
                  first | done | rfl | assumption | (exfalso; omega) | (refine Prod.ext ?_ (Prod.ext ?_ ?_) <;> (try dsimp only) <;> omega)
                have o266557a : ((xline B n q d)).1 = (xl2 B n q d).1 := by rw [o266557]
                have o266557b : ((xline B n q d)).2.1 = (xl2 B n q d).2.1 := by rw [o266557]
                have o266557c : ((xline B n q d)).2.2 = (xl2 B n q d).2.2 := by rw [o266557]
                have o266558 : xdline B n q d = ((xdsex B n (xN B n q) d)) := by
                  unfold xdline
                  repeat first | rw [xs_0 (by omega)] | rw [xs_1 (by omega)] | rw [if_pos (by omega)] | rw [if_neg (by omega)]
                  first | done | rfl
                exact wp_return e177 c177_133 rfl ⟨rfl, w266544, f266554, rfl, (Or.inl ⟨by omega, by omega, (fun a ha ga => (f266545 a 3 _ ga rfl)), by rw [show (xline B n q d).2.2 = ((xN B n (xN B n q))) by omega]; exact a266550, by rw [o266558]; exact a266551⟩)⟩
              · have f266559 := f0.tr f266545 rfl
                show wp _ _ 177 45 [(0, .ref r0)] [] _ H266540 _
                have u266560 := RO_k a266553
                refine wp_of e177 c177_45 (rw_goto (p1 := 133) (by decide) ?_)
                have o266561 : (xline B n q d) = ((xl2 B n q d).1, (xl2 B n q d).2.1, (xl2 B n q d).2.2) := by
                  unfold xline
                  repeat first | rw [xs_0 (by omega)] | rw [xs_1 (by omega)] | rw [if_pos (by omega)] | rw [if_neg (by omega)]
                  first | done | rfl | assumption | (exfalso; omega) | (refine Prod.ext ?_ (Prod.ext ?_ ?_) <;> (try dsimp only) <;> omega)
                have o266561a : ((xline B n q d)).1 = (xl2 B n q d).1 := by rw [o266561]
                have o266561b : ((xline B n q d)).2.1 = (xl2 B n q d).2.1 := by rw [o266561]
                have o266561c : ((xline B n q d)).2.2 = (xl2 B n q d).2.2 := by rw [o266561]
                exact wp_return e177 c177_133 rfl ⟨rfl, w266544, f266559, rfl, (Or.inr ⟨by omega, (fun a ha ga => (f266545 a 3 _ ga rfl)), RO_eq a266553 (by omega) (by omega)⟩)⟩
          · show wp _ _ 177 38 [(0, .ref r0)] [vI z266528] _ H _
            have y266562 := xre_n (B := B) (n := n) (q := q) 2 643584494 rfl (by decide) (by omega)
            refine wp_of e177 c177_38 (rw_if_eq (p1 := 48) (p2 := 41) (by decide) rfl ⟨by omega, by omega⟩ (fun c266563 => ?_) (fun c266563 => ?_))
            · refine wp_of e177 c177_48 (rw_aload_n (pc' := 49) (v := .ref r0) rfl rfl rfl ?_)
              refine wp_of e177 c177_49 (rw_ldcS (pc' := 51) (k := 78) rfl rfl rfl rfl ?_)
              refine wp_of e177 c177_51 (xc_V (pc' := 54) (r := r0) (as := [.ref 78]) (st := []) (lm_9_114) rfl rfl (Nat.le_of_ble_eq_true rfl) hW g0 sh_42 (by decide) rfl (by decide) (u_178_k (B := B) (n := n) (q := q) (kk := 1574484) hW g0 rfl (by decide +kernel) hRC_r0) (fun R266564 T266565 H266566 p266567 => ?_))
              obtain ⟨e266568, e266570, z266571, e266569, b266572, p266573⟩ := p266567
              subst e266568
              subst e266569
              subst e266570
              rcases p266573 with ⟨a266574, a266575, a266576⟩ | ⟨a266577, a266578⟩
              · show wp _ _ 177 54 [(0, .ref r0)] [vI z266571] _ H _
                have y266579 := xre_y (B := B) (n := n) (q := q) 3 1574484 rfl (by decide) (by omega)
                refine wp_of e177 c177_54 (rw_if_eq (p1 := 64) (p2 := 57) (by decide) rfl ⟨by omega, by omega⟩ (fun c266580 => ?_) (fun c266580 => ?_))
                · exfalso
                  omega
                · refine wp_of e177 c177_57 (rw_aload_n (pc' := 58) (v := .ref r0) rfl rfl rfl ?_)
                  refine wp_of e177 c177_58 (xc_V (pc' := 61) (r := r0) (as := []) (st := []) (lm_9_200) rfl rfl (Nat.le_of_ble_eq_true rfl) hW g0 sh_42 (by decide) rfl (by decide) (u_196_k (B := B) (n := n) (q := q) (d := d) hW g0 qrp grp qrb grb (by omega) hRC_r0 hDM_rp) (fun R266581 T266582 H266583 p266584 => ?_))
                  obtain ⟨e266585, w266587, f266588, e266586, p266589⟩ := p266584
                  subst e266585
                  subst e266586
                  rcases p266589 with ⟨a266590, a266591, a266592, a266593, a266594⟩ | ⟨a266595, a266596⟩
                  · have f266597 := f0.tr f266588 rfl
                    show wp _ _ 177 61 [(0, .ref r0)] [] _ H266583 _
                    have u266598 := RC_k a266593
                    have u266599 := DM_k a266594
                    refine wp_of e177 c177_61 (rw_goto (p1 := 133) (by decide) ?_)
                    have o266600 : (xline B n q d) = ((xl3 B n q d).1, (xl3 B n q d).2.1, (xl3 B n q d).2.2) := by
                      unfold xline
                      repeat first | rw [xs_0 (by omega)] | rw [xs_1 (by omega)] | rw [if_pos (by omega)] | rw [if_neg (by omega)]
                      first | done | rfl | assumption | (exfalso; omega) | (refine Prod.ext ?_ (Prod.ext ?_ ?_) <;> (try dsimp only) <;> omega)
                    have o266600a : ((xline B n q d)).1 = (xl3 B n q d).1 := by rw [o266600]
                    have o266600b : ((xline B n q d)).2.1 = (xl3 B n q d).2.1 := by rw [o266600]
                    have o266600c : ((xline B n q d)).2.2 = (xl3 B n q d).2.2 := by rw [o266600]
                    have o266601 : xdline B n q d = ((xdap B n (xN B n q) d)) := by
                      unfold xdline
                      repeat first | rw [xs_0 (by omega)] | rw [xs_1 (by omega)] | rw [if_pos (by omega)] | rw [if_neg (by omega)]
                      first | done | rfl
                    exact wp_return e177 c177_133 rfl ⟨rfl, w266587, f266597, rfl, (Or.inl ⟨by omega, by omega, (fun a ha ga => (f266588 a 3 _ ga rfl)), by rw [show (xline B n q d).2.2 = ((xN B n (xN B n (xN B n (xN B n q))))) by omega]; exact a266593, by rw [o266601]; exact a266594⟩)⟩
                  · have f266602 := f0.tr f266588 rfl
                    show wp _ _ 177 61 [(0, .ref r0)] [] _ H266583 _
                    have u266603 := RO_k a266596
                    refine wp_of e177 c177_61 (rw_goto (p1 := 133) (by decide) ?_)
                    have o266604 : (xline B n q d) = ((xl3 B n q d).1, (xl3 B n q d).2.1, (xl3 B n q d).2.2) := by
                      unfold xline
                      repeat first | rw [xs_0 (by omega)] | rw [xs_1 (by omega)] | rw [if_pos (by omega)] | rw [if_neg (by omega)]
                      first | done | rfl | assumption | (exfalso; omega) | (refine Prod.ext ?_ (Prod.ext ?_ ?_) <;> (try dsimp only) <;> omega)
                    have o266604a : ((xline B n q d)).1 = (xl3 B n q d).1 := by rw [o266604]
                    have o266604b : ((xline B n q d)).2.1 = (xl3 B n q d).2.1 := by rw [o266604]
                    have o266604c : ((xline B n q d)).2.2 = (xl3 B n q d).2.2 := by rw [o266604]
                    exact wp_return e177 c177_133 rfl ⟨rfl, w266587, f266602, rfl, (Or.inr ⟨by omega, (fun a ha ga => (f266588 a 3 _ ga rfl)), RO_eq a266596 (by omega) (by omega)⟩)⟩
              · show wp _ _ 177 54 [(0, .ref r0)] [vI z266571] _ H _
                have y266605 := xre_n (B := B) (n := n) (q := q) 3 1574484 rfl (by decide) (by omega)
                refine wp_of e177 c177_54 (rw_if_eq (p1 := 64) (p2 := 57) (by decide) rfl ⟨by omega, by omega⟩ (fun c266606 => ?_) (fun c266606 => ?_))
                · refine wp_of e177 c177_64 (rw_aload_n (pc' := 65) (v := .ref r0) rfl rfl rfl ?_)
                  refine wp_of e177 c177_65 (rw_ldcS (pc' := 67) (k := 79) rfl rfl rfl rfl ?_)
                  refine wp_of e177 c177_67 (xc_V (pc' := 70) (r := r0) (as := [.ref 79]) (st := []) (lm_9_114) rfl rfl (Nat.le_of_ble_eq_true rfl) hW g0 sh_42 (by decide) rfl (by decide) (u_178_k (B := B) (n := n) (q := q) (kk := 81486) hW g0 rfl (by decide +kernel) hRC_r0) (fun R266607 T266608 H266609 p266610 => ?_))
                  obtain ⟨e266611, e266613, z266614, e266612, b266615, p266616⟩ := p266610
                  subst e266611
                  subst e266612
                  subst e266613
                  rcases p266616 with ⟨a266617, a266618, a266619⟩ | ⟨a266620, a266621⟩
                  · show wp _ _ 177 70 [(0, .ref r0)] [vI z266614] _ H _
                    have y266622 := xre_y (B := B) (n := n) (q := q) 4 81486 rfl (by decide) (by omega)
                    refine wp_of e177 c177_70 (rw_if_eq (p1 := 80) (p2 := 73) (by decide) rfl ⟨by omega, by omega⟩ (fun c266623 => ?_) (fun c266623 => ?_))
                    · exfalso
                      omega
                    · refine wp_of e177 c177_73 (rw_aload_n (pc' := 74) (v := .ref r0) rfl rfl rfl ?_)
                      refine wp_of e177 c177_74 (xc_V (pc' := 77) (r := r0) (as := []) (st := []) (lm_9_203) rfl rfl (Nat.le_of_ble_eq_true rfl) hW g0 sh_42 (by decide) rfl (by decide) (u_198_k (B := B) (n := n) (q := q) (d := d) hW g0 qrp grp qrb grb (by omega) hRC_r0 hDM_rp) (fun R266624 T266625 H266626 p266627 => ?_))
                      obtain ⟨e266628, w266630, f266631, e266629, p266632⟩ := p266627
                      subst e266628
                      subst e266629
                      rcases p266632 with ⟨a266633, a266634, a266635, a266636, a266637⟩ | ⟨a266638, a266639⟩
                      · have f266640 := f0.tr f266631 rfl
                        show wp _ _ 177 77 [(0, .ref r0)] [] _ H266626 _
                        have u266641 := RC_k a266636
                        have u266642 := DM_k a266637
                        refine wp_of e177 c177_77 (rw_goto (p1 := 133) (by decide) ?_)
                        have o266643 : (xline B n q d) = ((xl4 B n q d).1, (xl4 B n q d).2.1, (xl4 B n q d).2.2) := by
                          unfold xline
                          repeat first | rw [xs_0 (by omega)] | rw [xs_1 (by omega)] | rw [if_pos (by omega)] | rw [if_neg (by omega)]
                          first | done | rfl | assumption | (exfalso; omega) | (refine Prod.ext ?_ (Prod.ext ?_ ?_) <;> (try dsimp only) <;> omega)
                        have o266643a : ((xline B n q d)).1 = (xl4 B n q d).1 := by rw [o266643]
                        have o266643b : ((xline B n q d)).2.1 = (xl4 B n q d).2.1 := by rw [o266643]
                        have o266643c : ((xline B n q d)).2.2 = (xl4 B n q d).2.2 := by rw [o266643]
                        have o266644 : xdline B n q d = ((xdbo B n (xN B n q) d)) := by
                          unfold xdline
                          repeat first | rw [xs_0 (by omega)] | rw [xs_1 (by omega)] | rw [if_pos (by omega)] | rw [if_neg (by omega)]
                          first | done | rfl
                        exact wp_return e177 c177_133 rfl ⟨rfl, w266630, f266640, rfl, (Or.inl ⟨by omega, by omega, (fun a ha ga => (f266631 a 3 _ ga rfl)), by rw [show (xline B n q d).2.2 = ((xN B n (xN B n q))) by omega]; exact a266636, by rw [o266644]; exact a266637⟩)⟩
                      · have f266645 := f0.tr f266631 rfl
                        show wp _ _ 177 77 [(0, .ref r0)] [] _ H266626 _
                        have u266646 := RO_k a266639
                        refine wp_of e177 c177_77 (rw_goto (p1 := 133) (by decide) ?_)
                        have o266647 : (xline B n q d) = ((xl4 B n q d).1, (xl4 B n q d).2.1, (xl4 B n q d).2.2) := by
                          unfold xline
                          repeat first | rw [xs_0 (by omega)] | rw [xs_1 (by omega)] | rw [if_pos (by omega)] | rw [if_neg (by omega)]
                          first | done | rfl | assumption | (exfalso; omega) | (refine Prod.ext ?_ (Prod.ext ?_ ?_) <;> (try dsimp only) <;> omega)
                        have o266647a : ((xline B n q d)).1 = (xl4 B n q d).1 := by rw [o266647]
                        have o266647b : ((xline B n q d)).2.1 = (xl4 B n q d).2.1 := by rw [o266647]
                        have o266647c : ((xline B n q d)).2.2 = (xl4 B n q d).2.2 := by rw [o266647]
                        exact wp_return e177 c177_133 rfl ⟨rfl, w266630, f266645, rfl, (Or.inr ⟨by omega, (fun a ha ga => (f266631 a 3 _ ga rfl)), RO_eq a266639 (by omega) (by omega)⟩)⟩
                  · show wp _ _ 177 70 [(0, .ref r0)] [vI z266614] _ H _
                    have y266648 := xre_n (B := B) (n := n) (q := q) 4 81486 rfl (by decide) (by omega)
                    refine wp_of e177 c177_70 (rw_if_eq (p1 := 80) (p2 := 73) (by decide) rfl ⟨by omega, by omega⟩ (fun c266649 => ?_) (fun c266649 => ?_))
                    · refine wp_of e177 c177_80 (rw_aload_n (pc' := 81) (v := .ref r0) rfl rfl rfl ?_)
                      refine wp_of e177 c177_81 (rw_ldcS (pc' := 83) (k := 80) rfl rfl rfl rfl ?_)
                      refine wp_of e177 c177_83 (xc_V (pc' := 86) (r := r0) (as := [.ref 80]) (st := []) (lm_9_114) rfl rfl (Nat.le_of_ble_eq_true rfl) hW g0 sh_42 (by decide) rfl (by decide) (u_178_k (B := B) (n := n) (q := q) (kk := 659117163) hW g0 rfl (by decide +kernel) hRC_r0) (fun R266650 T266651 H266652 p266653 => ?_))
                      obtain ⟨e266654, e266656, z266657, e266655, b266658, p266659⟩ := p266653
                      subst e266654
                      subst e266655
                      subst e266656
                      rcases p266659 with ⟨a266660, a266661, a266662⟩ | ⟨a266663, a266664⟩
                      · show wp _ _ 177 86 [(0, .ref r0)] [vI z266657] _ H _
                        have y266665 := xre_y (B := B) (n := n) (q := q) 5 659117163 rfl (by decide) (by omega)
                        refine wp_of e177 c177_86 (rw_if_eq (p1 := 96) (p2 := 89) (by decide) rfl ⟨by omega, by omega⟩ (fun c266666 => ?_) (fun c266666 => ?_))
                        · exfalso
                          omega
                        · refine wp_of e177 c177_89 (rw_aload_n (pc' := 90) (v := .ref r0) rfl rfl rfl ?_)
                          refine wp_of e177 c177_90 (xc_V (pc' := 93) (r := r0) (as := []) (st := []) (lm_9_206) rfl rfl (Nat.le_of_ble_eq_true rfl) hW g0 sh_42 (by decide) rfl (by decide) (u_199_k (B := B) (n := n) (q := q) (d := d) hW g0 qrp grp qrb grb (by omega) hRC_r0 hDM_rp) (fun R266667 T266668 H266669 p266670 => ?_))
                          obtain ⟨e266671, w266673, f266674, e266672, p266675⟩ := p266670
                          subst e266671
                          subst e266672
                          rcases p266675 with ⟨a266676, a266677, a266678, a266679, a266680⟩ | ⟨a266681, a266682⟩
                          · have f266683 := f0.tr f266674 rfl
                            show wp _ _ 177 93 [(0, .ref r0)] [] _ H266669 _
                            have u266684 := RC_k a266679
                            have u266685 := DM_k a266680
                            refine wp_of e177 c177_93 (rw_goto (p1 := 133) (by decide) ?_)
                            have o266686 : (xline B n q d) = ((xl5 B n q d).1, (xl5 B n q d).2.1, (xl5 B n q d).2.2) := by
                              unfold xline
                              repeat first | rw [xs_0 (by omega)] | rw [xs_1 (by omega)] | rw [if_pos (by omega)] | rw [if_neg (by omega)]
                              first | done | rfl | assumption | (exfalso; omega) | (refine Prod.ext ?_ (Prod.ext ?_ ?_) <;> (try dsimp only) <;> omega)
                            have o266686a : ((xline B n q d)).1 = (xl5 B n q d).1 := by rw [o266686]
                            have o266686b : ((xline B n q d)).2.1 = (xl5 B n q d).2.1 := by rw [o266686]
                            have o266686c : ((xline B n q d)).2.2 = (xl5 B n q d).2.2 := by rw [o266686]
                            have o266687 : xdline B n q d = ((xdst B n (xN B n q) d)) := by
                              unfold xdline
                              repeat first | rw [xs_0 (by omega)] | rw [xs_1 (by omega)] | rw [if_pos (by omega)] | rw [if_neg (by omega)]
                              first | done | rfl
                            exact wp_return e177 c177_133 rfl ⟨rfl, w266673, f266683, rfl, (Or.inl ⟨by omega, by omega, (fun a ha ga => (f266674 a 3 _ ga rfl)), by rw [show (xline B n q d).2.2 = ((xN B n (xN B n (xN B n (xN B n q))))) by omega]; exact a266679, by rw [o266687]; exact a266680⟩)⟩
                          · have f266688 := f0.tr f266674 rfl
                            show wp _ _ 177 93 [(0, .ref r0)] [] _ H266669 _
                            have u266689 := RO_k a266682
                            refine wp_of e177 c177_93 (rw_goto (p1 := 133) (by decide) ?_)
                            have o266690 : (xline B n q d) = ((xl5 B n q d).1, (xl5 B n q d).2.1, (xl5 B n q d).2.2) := by
                              unfold xline
                              repeat first | rw [xs_0 (by omega)] | rw [xs_1 (by omega)] | rw [if_pos (by omega)] | rw [if_neg (by omega)]
                              first | done | rfl | assumption | (exfalso; omega) | (refine Prod.ext ?_ (Prod.ext ?_ ?_) <;> (try dsimp only) <;> omega)
                            have o266690a : ((xline B n q d)).1 = (xl5 B n q d).1 := by rw [o266690]
                            have o266690b : ((xline B n q d)).2.1 = (xl5 B n q d).2.1 := by rw [o266690]
                            have o266690c : ((xline B n q d)).2.2 = (xl5 B n q d).2.2 := by rw [o266690]
                            exact wp_return e177 c177_133 rfl ⟨rfl, w266673, f266688, rfl, (Or.inr ⟨by omega, (fun a ha ga => (f266674 a 3 _ ga rfl)), RO_eq a266682 (by omega) (by omega)⟩)⟩
                      · show wp _ _ 177 86 [(0, .ref r0)] [vI z266657] _ H _
                        have y266691 := xre_n (B := B) (n := n) (q := q) 5 659117163 rfl (by decide) (by omega)
                        refine wp_of e177 c177_86 (rw_if_eq (p1 := 96) (p2 := 89) (by decide) rfl ⟨by omega, by omega⟩ (fun c266692 => ?_) (fun c266692 => ?_))
                        · refine wp_of e177 c177_96 (rw_aload_n (pc' := 97) (v := .ref r0) rfl rfl rfl ?_)
                          refine wp_of e177 c177_97 (rw_ldcS (pc' := 99) (k := 81) rfl rfl rfl rfl ?_)
                          refine wp_of e177 c177_99 (xc_V (pc' := 102) (r := r0) (as := [.ref 81]) (st := []) (lm_9_114) rfl rfl (Nat.le_of_ble_eq_true rfl) hW g0 sh_42 (by decide) rfl (by decide) (u_178_k (B := B) (n := n) (q := q) (kk := 671108) hW g0 rfl (by decide +kernel) hRC_r0) (fun R266693 T266694 H266695 p266696 => ?_))
                          obtain ⟨e266697, e266699, z266700, e266698, b266701, p266702⟩ := p266696
                          subst e266697
                          subst e266698
                          subst e266699
                          rcases p266702 with ⟨a266703, a266704, a266705⟩ | ⟨a266706, a266707⟩
                          · show wp _ _ 177 102 [(0, .ref r0)] [vI z266700] _ H _
                            have y266708 := xre_y (B := B) (n := n) (q := q) 6 671108 rfl (by decide) (by omega)
                            refine wp_of e177 c177_102 (rw_if_eq (p1 := 112) (p2 := 105) (by decide) rfl ⟨by omega, by omega⟩ (fun c266709 => ?_) (fun c266709 => ?_))
                            · exfalso
                              omega
                            · refine wp_of e177 c177_105 (rw_aload_n (pc' := 106) (v := .ref r0) rfl rfl rfl ?_)
                              refine wp_of e177 c177_106 (xc_V (pc' := 109) (r := r0) (as := []) (st := []) (lm_9_209) rfl rfl (Nat.le_of_ble_eq_true rfl) hW g0 sh_42 (by decide) rfl (by decide) (u_200_k (B := B) (n := n) (q := q) (d := d) hW g0 qrp grp qrb grb (by omega) hRC_r0 hDM_rp) (fun R266710 T266711 H266712 p266713 => ?_))
                              obtain ⟨e266714, w266716, f266717, e266715, p266718⟩ := p266713
                              subst e266714
                              subst e266715
                              rcases p266718 with ⟨a266719, a266720, a266721, a266722, a266723⟩ | ⟨a266724, a266725⟩
                              · have f266726 := f0.tr f266717 rfl
                                show wp _ _ 177 109 [(0, .ref r0)] [] _ H266712 _
                                have u266727 := RC_k a266722
                                have u266728 := DM_k a266723
                                refine wp_of e177 c177_109 (rw_goto (p1 := 133) (by decide) ?_)
                                have o266729 : (xline B n q d) = ((xl6 B n q d).1, (xl6 B n q d).2.1, (xl6 B n q d).2.2) := by
                                  unfold xline
                                  repeat first | rw [xs_0 (by omega)] | rw [xs_1 (by omega)] | rw [if_pos (by omega)] | rw [if_neg (by omega)]
                                  first | done | rfl | assumption | (exfalso; omega) | (refine Prod.ext ?_ (Prod.ext ?_ ?_) <;> (try dsimp only) <;> omega)
                                have o266729a : ((xline B n q d)).1 = (xl6 B n q d).1 := by rw [o266729]
                                have o266729b : ((xline B n q d)).2.1 = (xl6 B n q d).2.1 := by rw [o266729]
                                have o266729c : ((xline B n q d)).2.2 = (xl6 B n q d).2.2 := by rw [o266729]
                                have o266730 : xdline B n q d = ((xdtl B n (xN B n q) d)) := by
                                  unfold xdline
                                  repeat first | rw [xs_0 (by omega)] | rw [xs_1 (by omega)] | rw [if_pos (by omega)] | rw [if_neg (by omega)]
                                  first | done | rfl
                                exact wp_return e177 c177_133 rfl ⟨rfl, w266716, f266726, rfl, (Or.inl ⟨by omega, by omega, (fun a ha ga => (f266717 a 3 _ ga rfl)), by rw [show (xline B n q d).2.2 = ((xN B n (xN B n (xN B n (xN B n (xN B n q)))))) by omega]; exact a266722, by rw [o266730]; exact a266723⟩)⟩
                              · have f266731 := f0.tr f266717 rfl
                                show wp _ _ 177 109 [(0, .ref r0)] [] _ H266712 _
                                have u266732 := RO_k a266725
                                refine wp_of e177 c177_109 (rw_goto (p1 := 133) (by decide) ?_)
                                have o266733 : (xline B n q d) = ((xl6 B n q d).1, (xl6 B n q d).2.1, (xl6 B n q d).2.2) := by
                                  unfold xline
                                  repeat first | rw [xs_0 (by omega)] | rw [xs_1 (by omega)] | rw [if_pos (by omega)] | rw [if_neg (by omega)]
                                  first | done | rfl | assumption | (exfalso; omega) | (refine Prod.ext ?_ (Prod.ext ?_ ?_) <;> (try dsimp only) <;> omega)
                                have o266733a : ((xline B n q d)).1 = (xl6 B n q d).1 := by rw [o266733]
                                have o266733b : ((xline B n q d)).2.1 = (xl6 B n q d).2.1 := by rw [o266733]
                                have o266733c : ((xline B n q d)).2.2 = (xl6 B n q d).2.2 := by rw [o266733]
                                exact wp_return e177 c177_133 rfl ⟨rfl, w266716, f266731, rfl, (Or.inr ⟨by omega, (fun a ha ga => (f266717 a 3 _ ga rfl)), RO_eq a266725 (by omega) (by omega)⟩)⟩
                          · show wp _ _ 177 102 [(0, .ref r0)] [vI z266700] _ H _
                            have y266734 := xre_n (B := B) (n := n) (q := q) 6 671108 rfl (by decide) (by omega)
                            refine wp_of e177 c177_102 (rw_if_eq (p1 := 112) (p2 := 105) (by decide) rfl ⟨by omega, by omega⟩ (fun c266735 => ?_) (fun c266735 => ?_))
                            · refine wp_of e177 c177_112 (rw_aload_n (pc' := 113) (v := .ref r0) rfl rfl rfl ?_)
                              refine wp_of e177 c177_113 (rw_ldcS (pc' := 115) (k := 82) rfl rfl rfl rfl ?_)
                              refine wp_of e177 c177_115 (xc_V (pc' := 118) (r := r0) (as := [.ref 82]) (st := []) (lm_9_114) rfl rfl (Nat.le_of_ble_eq_true rfl) hW g0 sh_42 (by decide) rfl (by decide) (u_178_k (B := B) (n := n) (q := q) (kk := 15931570) hW g0 rfl (by decide +kernel) hRC_r0) (fun R266736 T266737 H266738 p266739 => ?_))
                              obtain ⟨e266740, e266742, z266743, e266741, b266744, p266745⟩ := p266739
                              subst e266740
                              subst e266741
                              subst e266742
                              rcases p266745 with ⟨a266746, a266747, a266748⟩ | ⟨a266749, a266750⟩
                              · show wp _ _ 177 118 [(0, .ref r0)] [vI z266743] _ H _
                                have y266751 := xre_y (B := B) (n := n) (q := q) 7 15931570 rfl (by decide) (by omega)
                                refine wp_of e177 c177_118 (rw_if_eq (p1 := 128) (p2 := 121) (by decide) rfl ⟨by omega, by omega⟩ (fun c266752 => ?_) (fun c266752 => ?_))
                                · exfalso
                                  omega
                                · refine wp_of e177 c177_121 (rw_aload_n (pc' := 122) (v := .ref r0) rfl rfl rfl ?_)
                                  refine wp_of e177 c177_122 (xc_V (pc' := 125) (r := r0) (as := []) (st := []) (lm_9_212) rfl rfl (Nat.le_of_ble_eq_true rfl) hW g0 sh_42 (by decide) rfl (by decide) (u_203_k (B := B) (n := n) (q := q) (d := d) hW g0 qrp grp qrb grb (by omega) hRC_r0 hDM_rp) (fun R266753 T266754 H266755 p266756 => ?_))
                                  obtain ⟨e266757, w266759, f266760, e266758, p266761⟩ := p266756
                                  subst e266757
                                  subst e266758
                                  rcases p266761 with ⟨a266762, a266763, a266764, a266765, a266766⟩ | ⟨a266767, a266768⟩
                                  · have f266769 := f0.tr f266760 rfl
                                    show wp _ _ 177 125 [(0, .ref r0)] [] _ H266755 _
                                    have u266770 := RC_k a266765
                                    have u266771 := DM_k a266766
                                    refine wp_of e177 c177_125 (rw_goto (p1 := 133) (by decide) ?_)
                                    have o266772 : (xline B n q d) = ((xl7 B n q d).1, (xl7 B n q d).2.1, (xl7 B n q d).2.2) := by
                                      unfold xline
                                      repeat first | rw [xs_0 (by omega)] | rw [xs_1 (by omega)] | rw [if_pos (by omega)] | rw [if_neg (by omega)]
                                      first | done | rfl | assumption | (exfalso; omega) | (refine Prod.ext ?_ (Prod.ext ?_ ?_) <;> (try dsimp only) <;> omega)
                                    have o266772a : ((xline B n q d)).1 = (xl7 B n q d).1 := by rw [o266772]
                                    have o266772b : ((xline B n q d)).2.1 = (xl7 B n q d).2.1 := by rw [o266772]
                                    have o266772c : ((xline B n q d)).2.2 = (xl7 B n q d).2.2 := by rw [o266772]
                                    have o266773 : xdline B n q d = ((xdof B n (xN B n q) d)) := by
                                      unfold xdline
                                      repeat first | rw [xs_0 (by omega)] | rw [xs_1 (by omega)] | rw [if_pos (by omega)] | rw [if_neg (by omega)]
                                      first | done | rfl
                                    exact wp_return e177 c177_133 rfl ⟨rfl, w266759, f266769, rfl, (Or.inl ⟨by omega, by omega, (fun a ha ga => (f266760 a 3 _ ga rfl)), by rw [show (xline B n q d).2.2 = ((xN B n (xN B n (xN B n (xN B n (xN B n q)))))) by omega]; exact a266765, by rw [o266773]; exact a266766⟩)⟩
                                  · have f266774 := f0.tr f266760 rfl
                                    show wp _ _ 177 125 [(0, .ref r0)] [] _ H266755 _
                                    have u266775 := RO_k a266768
                                    refine wp_of e177 c177_125 (rw_goto (p1 := 133) (by decide) ?_)
                                    have o266776 : (xline B n q d) = ((xl7 B n q d).1, (xl7 B n q d).2.1, (xl7 B n q d).2.2) := by
                                      unfold xline
                                      repeat first | rw [xs_0 (by omega)] | rw [xs_1 (by omega)] | rw [if_pos (by omega)] | rw [if_neg (by omega)]
                                      first | done | rfl | assumption | (exfalso; omega) | (refine Prod.ext ?_ (Prod.ext ?_ ?_) <;> (try dsimp only) <;> omega)
                                    have o266776a : ((xline B n q d)).1 = (xl7 B n q d).1 := by rw [o266776]
                                    have o266776b : ((xline B n q d)).2.1 = (xl7 B n q d).2.1 := by rw [o266776]
                                    have o266776c : ((xline B n q d)).2.2 = (xl7 B n q d).2.2 := by rw [o266776]
                                    exact wp_return e177 c177_133 rfl ⟨rfl, w266759, f266774, rfl, (Or.inr ⟨by omega, (fun a ha ga => (f266760 a 3 _ ga rfl)), RO_eq a266768 (by omega) (by omega)⟩)⟩
                              · show wp _ _ 177 118 [(0, .ref r0)] [vI z266743] _ H _
                                have y266777 := xre_n (B := B) (n := n) (q := q) 7 15931570 rfl (by decide) (by omega)
                                refine wp_of e177 c177_118 (rw_if_eq (p1 := 128) (p2 := 121) (by decide) rfl ⟨by omega, by omega⟩ (fun c266778 => ?_) (fun c266778 => ?_))
                                · refine wp_of e177 c177_128 (rw_aload_n (pc' := 129) (v := .ref r0) rfl rfl rfl ?_)
                                  refine wp_of e177 c177_129 (rw_iconst (pc' := 130) rfl ?_)
                                  refine wp_of e177 c177_130 (xc_V (pc' := 133) (r := r0) (as := [vI 1]) (st := []) (lm_9_121) rfl rfl (Nat.le_of_ble_eq_true rfl) hW g0 sh_42 (by decide) rfl (by decide) (u_181_k (B := B) (n := n) (q := q) hW g0 ⟨by omega, by omega⟩ (by omega) hRC_r0) (fun R266779 T266780 H266781 p266782 => ?_))
                                  obtain ⟨e266783, w266785, f266786, e266784, p266787⟩ := p266782
                                  subst e266783
                                  subst e266784
                                  have f266789 := f0.tr f266786 rfl
                                  show wp _ _ 177 133 [(0, .ref r0)] [] _ H266781 _
                                  have u266790 := RO_k p266787
                                  have o266791 : (xline B n q d) = (1, q, q) := by
                                    unfold xline
                                    repeat first | rw [xs_0 (by omega)] | rw [xs_1 (by omega)] | rw [if_pos (by omega)] | rw [if_neg (by omega)]
                                    first | done | rfl | assumption | (exfalso; omega) | (refine Prod.ext ?_ (Prod.ext ?_ ?_) <;> (try dsimp only) <;> omega)
                                  have o266791a : ((xline B n q d)).1 = 1 := by rw [o266791]
                                  have o266791b : ((xline B n q d)).2.1 = q := by rw [o266791]
                                  have o266791c : ((xline B n q d)).2.2 = q := by rw [o266791]
                                  exact wp_return e177 c177_133 rfl ⟨rfl, w266785, f266789, rfl, (Or.inr ⟨by omega, (fun a ha ga => (f266786 a 3 _ ga rfl)), RO_eq p266787 (by omega) (by omega)⟩)⟩
                                · exfalso
                                  omega
                            · exfalso
                              omega
                        · exfalso
                          omega
                    · exfalso
                      omega
                · exfalso
                  omega
            · exfalso
              omega
        · exfalso
          omega
    · exfalso
      omega
/-! StrikeAwakeModel.readLine()V o -/
abbrev uq_177_o (r0 : Nat) (rp : Nat) (rb : Nat) (fo : Int) (po : Int) (T : wq_T) (H : wq_H) : Option Value → wq_T → wq_H → Prop := fun r T' H' => T = T' ∧ H = H' ∧ none = r ∧ ((RO T H r0 fo po))
set_option maxHeartbeats 4000000 in
theorem u_177_o {kt : Nat → Option mc_E} {T : wq_T} {H : wq_H} {r0 : Nat} {rp : Nat} {rb : Nat} {fo : Int} {po : Int} (hW : WT T H) (g0 : T.2.2.2 r0 = some 42) (qrp : H r0 4 = (rp : Int)) (grp : T.2.2.2 rp = some 54) (qrb : H r0 5 = (rb : Int)) (grb : T.2.2.2 rb = some 43) (hRO_r0 : RO T H r0 fo po) : wpc kt 8 177 [.ref r0] T H (uq_177_o r0 rp rb fo po T H) := by
  refine wp_enter e177 (Nat.le_of_ble_eq_true rfl) rfl ?_
  show wp _ _ 177 0 [(0, .ref r0)] [] _ H _
  have u266897 := RO_k hRO_r0
  refine wp_of e177 c177_0 (rw_aload_n (pc' := 1) (v := .ref r0) rfl rfl rfl ?_)
  refine wp_of e177 c177_1 (rw_ldcS (pc' := 3) (k := 72) rfl rfl rfl rfl ?_)
  refine wp_of e177 c177_3 (xc_V (pc' := 6) (r := r0) (as := [.ref 72]) (st := []) (lm_9_114) rfl rfl (Nat.le_of_ble_eq_true rfl) hW g0 sh_42 (by decide) rfl (by decide) (u_178_o (fo := fo) (po := po) (kk := 12343) hW g0 rfl (by decide +kernel) hRO_r0) (fun R266898 T266899 H266900 p266901 => ?_))
  obtain ⟨e266902, e266904, z266905, e266903, b266906, p266907⟩ := p266901
  subst e266902
  subst e266903
  subst e266904
  show wp _ _ 177 6 [(0, .ref r0)] [vI z266905] _ H _
  refine wp_of e177 c177_6 (rw_if_eq (p1 := 16) (p2 := 9) (by decide) rfl ⟨by omega, by omega⟩ (fun c266909 => ?_) (fun c266909 => ?_))
  · refine wp_of e177 c177_16 (rw_aload_n (pc' := 17) (v := .ref r0) rfl rfl rfl ?_)
    refine wp_of e177 c177_17 (rw_ldcS (pc' := 19) (k := 76) rfl rfl rfl rfl ?_)
    refine wp_of e177 c177_19 (xc_V (pc' := 22) (r := r0) (as := [.ref 76]) (st := []) (lm_9_114) rfl rfl (Nat.le_of_ble_eq_true rfl) hW g0 sh_42 (by decide) rfl (by decide) (u_178_o (fo := fo) (po := po) (kk := 542723566) hW g0 rfl (by decide +kernel) hRO_r0) (fun R266910 T266911 H266912 p266913 => ?_))
    obtain ⟨e266914, e266916, z266917, e266915, b266918, p266919⟩ := p266913
    subst e266914
    subst e266915
    subst e266916
    show wp _ _ 177 22 [(0, .ref r0)] [vI z266917] _ H _
    refine wp_of e177 c177_22 (rw_if_eq (p1 := 32) (p2 := 25) (by decide) rfl ⟨by omega, by omega⟩ (fun c266921 => ?_) (fun c266921 => ?_))
    · refine wp_of e177 c177_32 (rw_aload_n (pc' := 33) (v := .ref r0) rfl rfl rfl ?_)
      refine wp_of e177 c177_33 (rw_ldcS (pc' := 35) (k := 77) rfl rfl rfl rfl ?_)
      refine wp_of e177 c177_35 (xc_V (pc' := 38) (r := r0) (as := [.ref 77]) (st := []) (lm_9_114) rfl rfl (Nat.le_of_ble_eq_true rfl) hW g0 sh_42 (by decide) rfl (by decide) (u_178_o (fo := fo) (po := po) (kk := 643584494) hW g0 rfl (by decide +kernel) hRO_r0) (fun R266922 T266923 H266924 p266925 => ?_))
      obtain ⟨e266926, e266928, z266929, e266927, b266930, p266931⟩ := p266925
      subst e266926
      subst e266927
      subst e266928
      show wp _ _ 177 38 [(0, .ref r0)] [vI z266929] _ H _
      refine wp_of e177 c177_38 (rw_if_eq (p1 := 48) (p2 := 41) (by decide) rfl ⟨by omega, by omega⟩ (fun c266933 => ?_) (fun c266933 => ?_))
      · refine wp_of e177 c177_48 (rw_aload_n (pc' := 49) (v := .ref r0) rfl rfl rfl ?_)
        refine wp_of e177 c177_49 (rw_ldcS (pc' := 51) (k := 78) rfl rfl rfl rfl ?_)
        refine wp_of e177 c177_51 (xc_V (pc' := 54) (r := r0) (as := [.ref 78]) (st := []) (lm_9_114) rfl rfl (Nat.le_of_ble_eq_true rfl) hW g0 sh_42 (by decide) rfl (by decide) (u_178_o (fo := fo) (po := po) (kk := 1574484) hW g0 rfl (by decide +kernel) hRO_r0) (fun R266934 T266935 H266936 p266937 => ?_))
        obtain ⟨e266938, e266940, z266941, e266939, b266942, p266943⟩ := p266937
        subst e266938
        subst e266939
        subst e266940
        show wp _ _ 177 54 [(0, .ref r0)] [vI z266941] _ H _
        refine wp_of e177 c177_54 (rw_if_eq (p1 := 64) (p2 := 57) (by decide) rfl ⟨by omega, by omega⟩ (fun c266945 => ?_) (fun c266945 => ?_))
        · refine wp_of e177 c177_64 (rw_aload_n (pc' := 65) (v := .ref r0) rfl rfl rfl ?_)
          refine wp_of e177 c177_65 (rw_ldcS (pc' := 67) (k := 79) rfl rfl rfl rfl ?_)
          refine wp_of e177 c177_67 (xc_V (pc' := 70) (r := r0) (as := [.ref 79]) (st := []) (lm_9_114) rfl rfl (Nat.le_of_ble_eq_true rfl) hW g0 sh_42 (by decide) rfl (by decide) (u_178_o (fo := fo) (po := po) (kk := 81486) hW g0 rfl (by decide +kernel) hRO_r0) (fun R266946 T266947 H266948 p266949 => ?_))
          obtain ⟨e266950, e266952, z266953, e266951, b266954, p266955⟩ := p266949
          subst e266950
          subst e266951
          subst e266952
          show wp _ _ 177 70 [(0, .ref r0)] [vI z266953] _ H _
          refine wp_of e177 c177_70 (rw_if_eq (p1 := 80) (p2 := 73) (by decide) rfl ⟨by omega, by omega⟩ (fun c266957 => ?_) (fun c266957 => ?_))
          · refine wp_of e177 c177_80 (rw_aload_n (pc' := 81) (v := .ref r0) rfl rfl rfl ?_)
            refine wp_of e177 c177_81 (rw_ldcS (pc' := 83) (k := 80) rfl rfl rfl rfl ?_)
            refine wp_of e177 c177_83 (xc_V (pc' := 86) (r := r0) (as := [.ref 80]) (st := []) (lm_9_114) rfl rfl (Nat.le_of_ble_eq_true rfl) hW g0 sh_42 (by decide) rfl (by decide) (u_178_o (fo := fo) (po := po) (kk := 659117163) hW g0 rfl (by decide +kernel) hRO_r0) (fun R266958 T266959 H266960 p266961 => ?_))
            obtain ⟨e266962, e266964, z266965, e266963, b266966, p266967⟩ := p266961
            subst e266962
            subst e266963
            subst e266964
            show wp _ _ 177 86 [(0, .ref r0)] [vI z266965] _ H _
            refine wp_of e177 c177_86 (rw_if_eq (p1 := 96) (p2 := 89) (by decide) rfl ⟨by omega, by omega⟩ (fun c266969 => ?_) (fun c266969 => ?_))
            · refine wp_of e177 c177_96 (rw_aload_n (pc' := 97) (v := .ref r0) rfl rfl rfl ?_)
              refine wp_of e177 c177_97 (rw_ldcS (pc' := 99) (k := 81) rfl rfl rfl rfl ?_)
              refine wp_of e177 c177_99 (xc_V (pc' := 102) (r := r0) (as := [.ref 81]) (st := []) (lm_9_114) rfl rfl (Nat.le_of_ble_eq_true rfl) hW g0 sh_42 (by decide) rfl (by decide) (u_178_o (fo := fo) (po := po) (kk := 671108) hW g0 rfl (by decide +kernel) hRO_r0) (fun R266970 T266971 H266972 p266973 => ?_))
              obtain ⟨e266974, e266976, z266977, e266975, b266978, p266979⟩ := p266973
              subst e266974
              subst e266975
              subst e266976
              show wp _ _ 177 102 [(0, .ref r0)] [vI z266977] _ H _
              refine wp_of e177 c177_102 (rw_if_eq (p1 := 112) (p2 := 105) (by decide) rfl ⟨by omega, by omega⟩ (fun c266981 => ?_) (fun c266981 => ?_))
              · refine wp_of e177 c177_112 (rw_aload_n (pc' := 113) (v := .ref r0) rfl rfl rfl ?_)
                refine wp_of e177 c177_113 (rw_ldcS (pc' := 115) (k := 82) rfl rfl rfl rfl ?_)
                refine wp_of e177 c177_115 (xc_V (pc' := 118) (r := r0) (as := [.ref 82]) (st := []) (lm_9_114) rfl rfl (Nat.le_of_ble_eq_true rfl) hW g0 sh_42 (by decide) rfl (by decide) (u_178_o (fo := fo) (po := po) (kk := 15931570) hW g0 rfl (by decide +kernel) hRO_r0) (fun R266982 T266983 H266984 p266985 => ?_))
                obtain ⟨e266986, e266988, z266989, e266987, b266990, p266991⟩ := p266985
                subst e266986
                subst e266987
                subst e266988
                show wp _ _ 177 118 [(0, .ref r0)] [vI z266989] _ H _
                refine wp_of e177 c177_118 (rw_if_eq (p1 := 128) (p2 := 121) (by decide) rfl ⟨by omega, by omega⟩ (fun c266993 => ?_) (fun c266993 => ?_))
                · refine wp_of e177 c177_128 (rw_aload_n (pc' := 129) (v := .ref r0) rfl rfl rfl ?_)
                  refine wp_of e177 c177_129 (rw_iconst (pc' := 130) rfl ?_)
                  refine wp_of e177 c177_130 (xc_V (pc' := 133) (r := r0) (as := [vI 1]) (st := []) (lm_9_121) rfl rfl (Nat.le_of_ble_eq_true rfl) hW g0 sh_42 (by decide) rfl (by decide) (u_181_o (fo := fo) (po := po) hW g0 ⟨by omega, by omega⟩ hRO_r0) (fun R266994 T266995 H266996 p266997 => ?_))
                  obtain ⟨e266998, e267000, e266999, p267001⟩ := p266997
                  subst e266998
                  subst e266999
                  subst e267000
                  show wp _ _ 177 133 [(0, .ref r0)] [] _ H _
                  have u267003 := RO_k p267001
                  exact wp_return e177 c177_133 rfl ⟨rfl, rfl, rfl, (p267001)⟩
                · exfalso
                  omega
              · exfalso
                omega
            · exfalso
              omega
          · exfalso
            omega
        · exfalso
          omega
      · exfalso
        omega
    · exfalso
      omega
  · exfalso
    omega
/-! StrikeAwakeModel.readParish()V k -/
abbrev uq_176_k (r0 : Nat) (rp : Nat) (rb : Nat) (B : Nat → Int) (n : Int) (q : Int) (d : xD) (f : Nat) (T : wq_T) (H : wq_H) : Option Value → wq_T → wq_H → Prop := fun r T' H' => T = T' ∧ WT T H' ∧ wfr [(54, 0), (54, 1), (54, 2), (54, 3), (54, 4), (54, 5), (54, 6), (54, 7), (54, 8), (42, 8), (42, 9), (42, 10), (42, 11), (42, 12), (42, 13), (42, 14), (42, 15), (42, 16), (42, 17), (42, 18), (64, 999), (65, 999), (56, 999), (57, 999), (66, 999), (60, 999), (63, 999), (58, 999), (59, 999), (55, 999), (61, 999), (62, 999), (72, 999), (71, 999), (67, 999), (68, 999), (69, 999)] T H H' ∧ none = r ∧ (((((xpf B n f q d).1).1 = 0) ∧ (H' r0 13 = 0) ∧ (∀ a, a ≠ rp → T.2.2.2 a = some 54 → H' a 3 = H a 3) ∧ DM T H' rp r0 ((xpf B n f q d).2)) ∨ ((((xpf B n f q d).1).1 ≠ 0) ∧ (∀ a, a ≠ rp → T.2.2.2 a = some 54 → H' a 3 = H a 3) ∧ RO T H' r0 (((xpf B n f q d).1).1) (((xpf B n f q d).1).2.1)))
set_option maxHeartbeats 4000000 in
theorem u_176_k {kt : Nat → Option mc_E} {T : wq_T} {H : wq_H} {r0 : Nat} {rp : Nat} {rb : Nat} {B : Nat → Int} {n : Int} {q : Int} {d : xD} {f : Nat} (hW : WT T H) (g0 : T.2.2.2 r0 = some 42) (qrp : H r0 4 = (rp : Int)) (grp : T.2.2.2 rp = some 54) (qrb : H r0 5 = (rb : Int)) (grb : T.2.2.2 rb = some 43) (p0 : n - q < f) (hRC_r0 : RC T H r0 B n q) (hDM_rp : DM T H rp r0 d) : wpc kt 9 176 [.ref r0] T H (uq_176_k r0 rp rb B n q d f T H) := by
  refine wp_enter e176 (Nat.le_of_ble_eq_true rfl) rfl ?_
  have f0 : wfr [(54, 0), (54, 1), (54, 2), (54, 3), (54, 4), (54, 5), (54, 6), (54, 7), (54, 8), (42, 8), (42, 9), (42, 10), (42, 11), (42, 12), (42, 13), (42, 14), (42, 15), (42, 16), (42, 17), (42, 18), (64, 999), (65, 999), (56, 999), (57, 999), (66, 999), (60, 999), (63, 999), (58, 999), (59, 999), (55, 999), (61, 999), (62, 999), (72, 999), (71, 999), (67, 999), (68, 999), (69, 999)] T H H := wfr.rf
  show wp _ _ 176 0 [(0, .ref r0)] [] _ H _
  have u267530 := RC_k hRC_r0
  have u267531 := DM_k hDM_rp
  refine wp_of e176 c176_0 (rw_iconst (pc' := 1) rfl ?_)
  refine wp_of e176 c176_1 (rw_istore_n (pc' := 2) (z := 1) (L' := [(1, vI 1), (0, .ref r0)]) rfl rfl rfl ?_)
  have lp267882 : ∀ (n267883 : Nat) (v267885 : Int) (H267886 : wq_H) (q267887 : Int) (d267888 : xD) (f267889 : Nat), WT T H267886 → wfr [(54, 0), (54, 1), (54, 2), (54, 3), (54, 4), (54, 5), (54, 6), (54, 7), (54, 8), (42, 8), (42, 9), (42, 10), (42, 11), (42, 12), (42, 13), (42, 14), (42, 15), (42, 16), (42, 17), (42, 18), (64, 999), (65, 999), (56, 999), (57, 999), (66, 999), (60, 999), (63, 999), (58, 999), (59, 999), (55, 999), (61, 999), (62, 999), (72, 999), (71, 999), (67, 999), (68, 999), (69, 999)] T H H267886 → (1 ≤ v267885 ∧ v267885 ≤ 1) → (∀ a, a ≠ rp → T.2.2.2 a = some 54 → H267886 a 3 = H a 3) → RC T H267886 r0 B n q267887 → DM T H267886 rp r0 d267888 → (n - q267887 < f267889) → (xpf B n f267889 q267887 d267888 = xpf B n f q d) → (901 - q267887).toNat = n267883 → wp kt 8 176 2 [(1, vI v267885), (0, .ref r0)] [] T H267886 (uq_176_k r0 rp rb B n q d f T H) := by
    intro n267883
    induction n267883 using Nat.strongRecOn with
    | _ n267883 ih267884 =>
      intro v267885 H267886 q267887 d267888 f267889 w267890 f267891 b267892 x267893 h267895 h267896 x267897 x267898 m267894
      have f267899 := f0.tr f267891 rfl
      have u267900 := RC_k h267895
      have u267901 := DM_k h267896
      obtain ⟨gf, hg⟩ : ∃ g : Nat, f267889 = g + 1 := ⟨f267889 - 1, by omega⟩
      have hx : xpf B n (gf + 1) q267887 d267888 = xpf B n f q d := by
        rw [← hg]
        exact ‹xpf B n f267889 q267887 d267888 = xpf B n f q d›
      refine wp_of e176 c176_2 (rw_iload_n (pc' := 3) (z := v267885) rfl rfl ?_)
      refine wp_of e176 c176_3 (rw_if_eq (p1 := 20) (p2 := 6) (by decide) rfl ⟨by omega, by omega⟩ (fun c267902 => ?_) (fun c267902 => ?_))
      · exfalso
        omega
      · refine wp_of e176 c176_6 (rw_aload_n (pc' := 7) (v := .ref r0) rfl rfl rfl ?_)
        have k267903 : H267886 r0 4 = H r0 4 := (f267891 r0 4 _ g0 rfl)
        have q267904 : H267886 r0 4 = (rp : Int) := k267903.trans qrp
        have k267905 : H267886 r0 5 = H r0 5 := (f267891 r0 5 _ g0 rfl)
        have q267906 : H267886 r0 5 = (rb : Int) := k267905.trans qrb
        refine wp_of e176 c176_7 (xc_V (pc' := 10) (r := r0) (as := []) (st := []) (lm_9_179) rfl rfl (Nat.le_of_ble_eq_true rfl) w267890 g0 sh_42 (by decide) rfl (by decide) (u_177_k (B := B) (n := n) (q := q267887) (d := d267888) w267890 g0 q267904 grp q267906 grb h267895 h267896) (fun R267907 T267908 H267909 p267910 => ?_))
        obtain ⟨e267911, w267913, f267914, e267912, p267915⟩ := p267910
        subst e267911
        subst e267912
        rcases p267915 with ⟨a267916, a267917, a267918, a267919, a267920⟩ | ⟨a267921, a267922, a267923⟩
        · have f267924 := f267899.tr f267914 rfl
          have f267925 := f267891.tr f267914 rfl
          show wp _ _ 176 10 [(1, vI v267885), (0, .ref r0)] [] _ H267909 _
          have u267926 := RC_k a267919
          have u267927 := DM_k a267920
          have _e := RC_e a267919
          refine wp_of e176 c176_10 (rw_aload_n (pc' := 11) (v := .ref r0) rfl rfl rfl ?_)
          refine wp_of e176 c176_11 (rw_bipush (pc' := 13) (z := 59) rfl (by decide) ?_)
          have k267928 : H267909 r0 5 = H267886 r0 5 := (f267914 r0 5 _ g0 rfl)
          have q267929 : H267909 r0 5 = (rb : Int) := k267928.trans q267906
          refine wp_of e176 c176_13 (xc_V (pc' := 16) (r := r0) (as := [vI 59]) (st := []) (lm_9_182) rfl rfl (Nat.le_of_ble_eq_true rfl) w267913 g0 sh_42 (by decide) rfl (by decide) (u_204_k (B := B) (n := n) (q := ((xline B n q267887 d267888).2.2)) (kd := 3) w267913 g0 ⟨by omega, by omega⟩ q267929 grb (by omega) a267919) (fun R267930 T267931 H267932 p267933 => ?_))
          obtain ⟨e267934, w267936, f267937, z267938, e267935, b267939, p267940⟩ := p267933
          subst e267934
          subst e267935
          rcases p267940 with ⟨a267941, a267942, a267943, a267944⟩ | ⟨a267945, a267946, a267947, a267948⟩
          · have f267949 := f267924.tr f267937 rfl
            have f267950 := f267925.tr f267937 rfl
            show wp _ _ 176 16 [(1, vI v267885), (0, .ref r0)] [vI z267938] _ H267932 _
            have u267951 := RC_k a267944
            refine wp_of e176 c176_16 (rw_istore_n (pc' := 17) (z := z267938) (L' := [(1, vI z267938), (0, .ref r0)]) rfl rfl rfl ?_)
            refine wp_of e176 c176_17 (rw_goto (p1 := 2) (by decide) ?_)
            have h267952 : DM T H267932 rp r0 (xdline B n q267887 d267888) := (DM_fr w267913 grp f267937 rfl a267920)
            exact wp_lc (ks := [1, 0]) (wl_c rfl (wl_c rfl wl_n)) rfl (by decide) (ih267884 _ (by omega) z267938 H267932 ((xN B n ((xline B n q267887 d267888).2.2))) (xdline B n q267887 d267888) gf w267936 f267950 ⟨by omega, by omega⟩ (fun a ha ga => ((f267937 a 3 _ ga rfl).trans ((a267918 a ha ga).trans (x267893 a ha ga)))) a267944 h267952 (by omega) (by rw [← hx, xpf_u, if_pos (by omega), if_neg (by omega), if_pos (by omega)]) rfl)
          · have f267953 := f267924.tr f267937 rfl
            have f267954 := f267925.tr f267937 rfl
            show wp _ _ 176 16 [(1, vI v267885), (0, .ref r0)] [vI z267938] _ H267932 _
            have u267955 := RC_k a267948
            refine wp_of e176 c176_16 (rw_istore_n (pc' := 17) (z := z267938) (L' := [(1, vI z267938), (0, .ref r0)]) rfl rfl rfl ?_)
            refine wp_of e176 c176_17 (rw_goto (p1 := 2) (by decide) ?_)
            refine wp_of e176 c176_2 (rw_iload_n (pc' := 3) (z := z267938) rfl rfl ?_)
            refine wp_of e176 c176_3 (rw_if_eq (p1 := 20) (p2 := 6) (by decide) rfl ⟨by omega, by omega⟩ (fun c267956 => ?_) (fun c267956 => ?_))
            · have _s := RC_s a267948
              refine wp_of e176 c176_20 (rw_aload_n (pc' := 21) (v := .ref r0) rfl rfl rfl ?_)
              refine wp_of e176 c176_21 (xg_I (pc' := 24) lf_9_75 w267936 g0 sh_42 (by decide) (by decide) ty_42_9 rfl rfl (fun b267957 b267958 => ?_))
              refine wp_of e176 c176_24 (rw_iconst (pc' := 25) rfl ?_)
              refine wp_of e176 c176_25 (rw_icmp_eq (p1 := 33) (p2 := 28) (by decide) rfl ⟨by omega, by omega⟩ ⟨by omega, by omega⟩ (fun c267959 => ?_) (fun c267959 => ?_))
              · refine wp_of e176 c176_33 (rw_aload_n (pc' := 34) (v := .ref r0) rfl rfl rfl ?_)
                have k267960 : H267932 r0 4 = H267886 r0 4 := ((f267937 r0 4 _ g0 rfl).trans (f267914 r0 4 _ g0 rfl))
                have q267961 : H267932 r0 4 = (rp : Int) := k267960.trans q267904
                refine wp_of e176 c176_34 (xg_K (pc' := 37) lf_9_166 w267936 g0 sh_42 (by decide) (by decide) rfl q267961 rfl ?_)
                have k267962 : H267932 rp 0 = H267909 rp 0 := (f267937 rp 0 _ grp rfl)
                refine wp_of e176 c176_37 (xg_I (pc' := 40) lf_9_185 w267936 grp sh_54 (by decide) (by decide) ty_54_0 rfl rfl (fun b267963 b267964 => ?_))
                refine wp_of e176 c176_40 (rw_if_eq (p1 := 53) (p2 := 43) (by decide) rfl ⟨by omega, by omega⟩ (fun c267965 => ?_) (fun c267965 => ?_))
                · refine wp_of e176 c176_53 (rw_aload_n (pc' := 54) (v := .ref r0) rfl rfl rfl ?_)
                  refine wp_of e176 c176_54 (rw_bipush (pc' := 56) (z := 6) rfl (by decide) ?_)
                  refine wp_of e176 c176_56 (xc_V (pc' := 59) (r := r0) (as := [vI 6]) (st := []) (lm_9_121) rfl rfl (Nat.le_of_ble_eq_true rfl) w267936 g0 sh_42 (by decide) rfl (by decide) (u_181_k (B := B) (n := n) (q := ((xline B n q267887 d267888).2.2)) w267936 g0 ⟨by omega, by omega⟩ (by omega) a267948) (fun R267966 T267967 H267968 p267969 => ?_))
                  obtain ⟨e267970, w267972, f267973, e267971, p267974⟩ := p267969
                  subst e267970
                  subst e267971
                  have f267976 := f267953.tr f267973 rfl
                  show wp _ _ 176 59 [(1, vI z267938), (0, .ref r0)] [] _ H267968 _
                  have u267977 := RO_k p267974
                  have o267978 : ((xpf B n f q d).1) = (6, ((xline B n q267887 d267888).2.2), q267887) := by
                    rw [← hx, xpf_u]
                    repeat first | rw [xs_0 (by omega)] | rw [xs_1 (by omega)] | rw [if_pos (by omega)] | rw [if_neg (by omega)]
                    first | done | rfl | assumption | (exfalso; omega) | (refine Prod.ext ?_ (Prod.ext ?_ ?_) <;> (try dsimp only) <;> omega)
                  have o267978a : (((xpf B n f q d).1)).1 = 6 := by rw [o267978]
                  have o267978b : (((xpf B n f q d).1)).2.1 = ((xline B n q267887 d267888).2.2) := by rw [o267978]
                  have o267978c : (((xpf B n f q d).1)).2.2 = q267887 := by rw [o267978]
                  exact wp_return e176 c176_59 rfl ⟨rfl, w267972, f267976, rfl, (Or.inr ⟨by omega, (fun a ha ga => ((f267973 a 3 _ ga rfl).trans ((f267937 a 3 _ ga rfl).trans ((a267918 a ha ga).trans (x267893 a ha ga))))), RO_eq p267974 (by omega) (by omega)⟩)⟩
                · refine wp_of e176 c176_43 (rw_aload_n (pc' := 44) (v := .ref r0) rfl rfl rfl ?_)
                  refine wp_of e176 c176_44 (xg_K (pc' := 47) lf_9_166 w267936 g0 sh_42 (by decide) (by decide) rfl q267961 rfl ?_)
                  have k267979 : H267932 rp 3 = H267909 rp 3 := (f267937 rp 3 _ grp rfl)
                  refine wp_of e176 c176_47 (xg_I (pc' := 50) lf_9_188 w267936 grp sh_54 (by decide) (by decide) ty_54_3 rfl rfl (fun b267980 b267981 => ?_))
                  refine wp_of e176 c176_50 (rw_if_ne (p1 := 59) (p2 := 53) (by decide) rfl ⟨by omega, by omega⟩ (fun c267982 => ?_) (fun c267982 => ?_))
                  · have o267983 : ((xpf B n f q d).1) = (0, q267887, q267887) := by
                      rw [← hx, xpf_u]
                      repeat first | rw [xs_0 (by omega)] | rw [xs_1 (by omega)] | rw [if_pos (by omega)] | rw [if_neg (by omega)]
                      first | done | rfl | assumption | (exfalso; omega) | (refine Prod.ext ?_ (Prod.ext ?_ ?_) <;> (try dsimp only) <;> omega)
                    have o267983a : (((xpf B n f q d).1)).1 = 0 := by rw [o267983]
                    have o267983b : (((xpf B n f q d).1)).2.1 = q267887 := by rw [o267983]
                    have o267983c : (((xpf B n f q d).1)).2.2 = q267887 := by rw [o267983]
                    have h267984 : DM T H267932 rp r0 (xdline B n q267887 d267888) := (DM_fr w267913 grp f267937 rfl a267920)
                    exact wp_return e176 c176_59 rfl ⟨rfl, w267936, f267953, rfl, (Or.inl ⟨by omega, by omega, (fun a ha ga => ((f267937 a 3 _ ga rfl).trans ((a267918 a ha ga).trans (x267893 a ha ga)))), by rw [← hx, xpf_u, if_pos (by omega), if_pos (by omega), if_pos (by omega)]; exact h267984⟩)⟩
                  · refine wp_of e176 c176_53 (rw_aload_n (pc' := 54) (v := .ref r0) rfl rfl rfl ?_)
                    refine wp_of e176 c176_54 (rw_bipush (pc' := 56) (z := 6) rfl (by decide) ?_)
                    refine wp_of e176 c176_56 (xc_V (pc' := 59) (r := r0) (as := [vI 6]) (st := []) (lm_9_121) rfl rfl (Nat.le_of_ble_eq_true rfl) w267936 g0 sh_42 (by decide) rfl (by decide) (u_181_k (B := B) (n := n) (q := ((xline B n q267887 d267888).2.2)) w267936 g0 ⟨by omega, by omega⟩ (by omega) a267948) (fun R267985 T267986 H267987 p267988 => ?_))
                    obtain ⟨e267989, w267991, f267992, e267990, p267993⟩ := p267988
                    subst e267989
                    subst e267990
                    have f267995 := f267953.tr f267992 rfl
                    show wp _ _ 176 59 [(1, vI z267938), (0, .ref r0)] [] _ H267987 _
                    have u267996 := RO_k p267993
                    have o267997 : ((xpf B n f q d).1) = (6, ((xline B n q267887 d267888).2.2), q267887) := by
                      rw [← hx, xpf_u]
                      repeat first | rw [xs_0 (by omega)] | rw [xs_1 (by omega)] | rw [if_pos (by omega)] | rw [if_neg (by omega)]
                      first | done | rfl | assumption | (exfalso; omega) | (refine Prod.ext ?_ (Prod.ext ?_ ?_) <;> (try dsimp only) <;> omega)
                    have o267997a : (((xpf B n f q d).1)).1 = 6 := by rw [o267997]
                    have o267997b : (((xpf B n f q d).1)).2.1 = ((xline B n q267887 d267888).2.2) := by rw [o267997]
                    have o267997c : (((xpf B n f q d).1)).2.2 = q267887 := by rw [o267997]
                    exact wp_return e176 c176_59 rfl ⟨rfl, w267991, f267995, rfl, (Or.inr ⟨by omega, (fun a ha ga => ((f267992 a 3 _ ga rfl).trans ((f267937 a 3 _ ga rfl).trans ((a267918 a ha ga).trans (x267893 a ha ga))))), RO_eq p267993 (by omega) (by omega)⟩)⟩
              · refine wp_of e176 c176_28 (rw_aload_n (pc' := 29) (v := .ref r0) rfl rfl rfl ?_)
                refine wp_of e176 c176_29 (rw_iconst (pc' := 30) rfl ?_)
                refine wp_of e176 c176_30 (xc_V (pc' := 33) (r := r0) (as := [vI 1]) (st := []) (lm_9_121) rfl rfl (Nat.le_of_ble_eq_true rfl) w267936 g0 sh_42 (by decide) rfl (by decide) (u_181_k (B := B) (n := n) (q := ((xline B n q267887 d267888).2.2)) w267936 g0 ⟨by omega, by omega⟩ (by omega) a267948) (fun R267998 T267999 H268000 p268001 => ?_))
                obtain ⟨e268002, w268004, f268005, e268003, p268006⟩ := p268001
                subst e268002
                subst e268003
                have f268008 := f267953.tr f268005 rfl
                show wp _ _ 176 33 [(1, vI z267938), (0, .ref r0)] [] _ H268000 _
                have u268009 := RO_k p268006
                refine wp_of e176 c176_33 (rw_aload_n (pc' := 34) (v := .ref r0) rfl rfl rfl ?_)
                have k268010 : H268000 r0 4 = H267886 r0 4 := ((f268005 r0 4 _ g0 rfl).trans ((f267937 r0 4 _ g0 rfl).trans (f267914 r0 4 _ g0 rfl)))
                have q268011 : H268000 r0 4 = (rp : Int) := k268010.trans q267904
                refine wp_of e176 c176_34 (xg_K (pc' := 37) lf_9_166 w268004 g0 sh_42 (by decide) (by decide) rfl q268011 rfl ?_)
                have k268012 : H268000 rp 0 = H267909 rp 0 := ((f268005 rp 0 _ grp rfl).trans (f267937 rp 0 _ grp rfl))
                refine wp_of e176 c176_37 (xg_I (pc' := 40) lf_9_185 w268004 grp sh_54 (by decide) (by decide) ty_54_0 rfl rfl (fun b268013 b268014 => ?_))
                refine wp_of e176 c176_40 (rw_if_eq (p1 := 53) (p2 := 43) (by decide) rfl ⟨by omega, by omega⟩ (fun c268015 => ?_) (fun c268015 => ?_))
                · refine wp_of e176 c176_53 (rw_aload_n (pc' := 54) (v := .ref r0) rfl rfl rfl ?_)
                  refine wp_of e176 c176_54 (rw_bipush (pc' := 56) (z := 6) rfl (by decide) ?_)
                  refine wp_of e176 c176_56 (xc_V (pc' := 59) (r := r0) (as := [vI 6]) (st := []) (lm_9_121) rfl rfl (Nat.le_of_ble_eq_true rfl) w268004 g0 sh_42 (by decide) rfl (by decide) (u_181_o (fo := 1) (po := (((xline B n q267887 d267888).2.2))) w268004 g0 ⟨by omega, by omega⟩ p268006) (fun R268016 T268017 H268018 p268019 => ?_))
                  obtain ⟨e268020, e268022, e268021, p268023⟩ := p268019
                  subst e268020
                  subst e268021
                  subst e268022
                  show wp _ _ 176 59 [(1, vI z267938), (0, .ref r0)] [] _ H268000 _
                  have u268025 := RO_k p268023
                  have o268026 : ((xpf B n f q d).1) = (1, ((xline B n q267887 d267888).2.2), q267887) := by
                    rw [← hx, xpf_u]
                    repeat first | rw [xs_0 (by omega)] | rw [xs_1 (by omega)] | rw [if_pos (by omega)] | rw [if_neg (by omega)]
                    first | done | rfl | assumption | (exfalso; omega) | (refine Prod.ext ?_ (Prod.ext ?_ ?_) <;> (try dsimp only) <;> omega)
                  have o268026a : (((xpf B n f q d).1)).1 = 1 := by rw [o268026]
                  have o268026b : (((xpf B n f q d).1)).2.1 = ((xline B n q267887 d267888).2.2) := by rw [o268026]
                  have o268026c : (((xpf B n f q d).1)).2.2 = q267887 := by rw [o268026]
                  exact wp_return e176 c176_59 rfl ⟨rfl, w268004, f268008, rfl, (Or.inr ⟨by omega, (fun a ha ga => ((f268005 a 3 _ ga rfl).trans ((f267937 a 3 _ ga rfl).trans ((a267918 a ha ga).trans (x267893 a ha ga))))), RO_eq p268023 (by omega) (by omega)⟩)⟩
                · refine wp_of e176 c176_43 (rw_aload_n (pc' := 44) (v := .ref r0) rfl rfl rfl ?_)
                  refine wp_of e176 c176_44 (xg_K (pc' := 47) lf_9_166 w268004 g0 sh_42 (by decide) (by decide) rfl q268011 rfl ?_)
                  have k268027 : H268000 rp 3 = H267909 rp 3 := ((f268005 rp 3 _ grp rfl).trans (f267937 rp 3 _ grp rfl))
                  refine wp_of e176 c176_47 (xg_I (pc' := 50) lf_9_188 w268004 grp sh_54 (by decide) (by decide) ty_54_3 rfl rfl (fun b268028 b268029 => ?_))
                  refine wp_of e176 c176_50 (rw_if_ne (p1 := 59) (p2 := 53) (by decide) rfl ⟨by omega, by omega⟩ (fun c268030 => ?_) (fun c268030 => ?_))
                  · have o268031 : ((xpf B n f q d).1) = (1, ((xline B n q267887 d267888).2.2), q267887) := by
                      rw [← hx, xpf_u]
                      repeat first | rw [xs_0 (by omega)] | rw [xs_1 (by omega)] | rw [if_pos (by omega)] | rw [if_neg (by omega)]
                      first | done | rfl | assumption | (exfalso; omega) | (refine Prod.ext ?_ (Prod.ext ?_ ?_) <;> (try dsimp only) <;> omega)
                    have o268031a : (((xpf B n f q d).1)).1 = 1 := by rw [o268031]
                    have o268031b : (((xpf B n f q d).1)).2.1 = ((xline B n q267887 d267888).2.2) := by rw [o268031]
                    have o268031c : (((xpf B n f q d).1)).2.2 = q267887 := by rw [o268031]
                    exact wp_return e176 c176_59 rfl ⟨rfl, w268004, f268008, rfl, (Or.inr ⟨by omega, (fun a ha ga => ((f268005 a 3 _ ga rfl).trans ((f267937 a 3 _ ga rfl).trans ((a267918 a ha ga).trans (x267893 a ha ga))))), RO_eq p268006 (by omega) (by omega)⟩)⟩
                  · refine wp_of e176 c176_53 (rw_aload_n (pc' := 54) (v := .ref r0) rfl rfl rfl ?_)
                    refine wp_of e176 c176_54 (rw_bipush (pc' := 56) (z := 6) rfl (by decide) ?_)
                    refine wp_of e176 c176_56 (xc_V (pc' := 59) (r := r0) (as := [vI 6]) (st := []) (lm_9_121) rfl rfl (Nat.le_of_ble_eq_true rfl) w268004 g0 sh_42 (by decide) rfl (by decide) (u_181_o (fo := 1) (po := (((xline B n q267887 d267888).2.2))) w268004 g0 ⟨by omega, by omega⟩ p268006) (fun R268032 T268033 H268034 p268035 => ?_))
                    obtain ⟨e268036, e268038, e268037, p268039⟩ := p268035
                    subst e268036
                    subst e268037
                    subst e268038
                    show wp _ _ 176 59 [(1, vI z267938), (0, .ref r0)] [] _ H268000 _
                    have u268041 := RO_k p268039
                    have o268042 : ((xpf B n f q d).1) = (1, ((xline B n q267887 d267888).2.2), q267887) := by
                      rw [← hx, xpf_u]
                      repeat first | rw [xs_0 (by omega)] | rw [xs_1 (by omega)] | rw [if_pos (by omega)] | rw [if_neg (by omega)]
                      first | done | rfl | assumption | (exfalso; omega) | (refine Prod.ext ?_ (Prod.ext ?_ ?_) <;> (try dsimp only) <;> omega)
                    have o268042a : (((xpf B n f q d).1)).1 = 1 := by rw [o268042]
                    have o268042b : (((xpf B n f q d).1)).2.1 = ((xline B n q267887 d267888).2.2) := by rw [o268042]
                    have o268042c : (((xpf B n f q d).1)).2.2 = q267887 := by rw [o268042]
                    exact wp_return e176 c176_59 rfl ⟨rfl, w268004, f268008, rfl, (Or.inr ⟨by omega, (fun a ha ga => ((f268005 a 3 _ ga rfl).trans ((f267937 a 3 _ ga rfl).trans ((a267918 a ha ga).trans (x267893 a ha ga))))), RO_eq p268039 (by omega) (by omega)⟩)⟩
            · exfalso
              omega
        · have f268043 := f267899.tr f267914 rfl
          have f268044 := f267891.tr f267914 rfl
          show wp _ _ 176 10 [(1, vI v267885), (0, .ref r0)] [] _ H267909 _
          have u268045 := RO_k a267923
          refine wp_of e176 c176_10 (rw_aload_n (pc' := 11) (v := .ref r0) rfl rfl rfl ?_)
          refine wp_of e176 c176_11 (rw_bipush (pc' := 13) (z := 59) rfl (by decide) ?_)
          have k268046 : H267909 r0 5 = H267886 r0 5 := (f267914 r0 5 _ g0 rfl)
          have q268047 : H267909 r0 5 = (rb : Int) := k268046.trans q267906
          refine wp_of e176 c176_13 (xc_V (pc' := 16) (r := r0) (as := [vI 59]) (st := []) (lm_9_182) rfl rfl (Nat.le_of_ble_eq_true rfl) w267913 g0 sh_42 (by decide) rfl (by decide) (u_204_o (fo := ((xline B n q267887 d267888).1)) (po := ((xline B n q267887 d267888).2.1)) w267913 g0 ⟨by omega, by omega⟩ q268047 grb a267923) (fun R268048 T268049 H268050 p268051 => ?_))
          obtain ⟨e268052, e268054, z268055, e268053, b268056, p268057⟩ := p268051
          subst e268052
          subst e268053
          subst e268054
          obtain ⟨a268058, a268059⟩ := p268057
          show wp _ _ 176 16 [(1, vI v267885), (0, .ref r0)] [vI z268055] _ H267909 _
          have u268060 := RO_k a268059
          refine wp_of e176 c176_16 (rw_istore_n (pc' := 17) (z := z268055) (L' := [(1, vI z268055), (0, .ref r0)]) rfl rfl rfl ?_)
          refine wp_of e176 c176_17 (rw_goto (p1 := 2) (by decide) ?_)
          refine wp_of e176 c176_2 (rw_iload_n (pc' := 3) (z := z268055) rfl rfl ?_)
          refine wp_of e176 c176_3 (rw_if_eq (p1 := 20) (p2 := 6) (by decide) rfl ⟨by omega, by omega⟩ (fun c268061 => ?_) (fun c268061 => ?_))
          · refine wp_of e176 c176_20 (rw_aload_n (pc' := 21) (v := .ref r0) rfl rfl rfl ?_)
            refine wp_of e176 c176_21 (xg_I (pc' := 24) lf_9_75 w267913 g0 sh_42 (by decide) (by decide) ty_42_9 rfl rfl (fun b268062 b268063 => ?_))
            refine wp_of e176 c176_24 (rw_iconst (pc' := 25) rfl ?_)
            refine wp_of e176 c176_25 (rw_icmp_eq (p1 := 33) (p2 := 28) (by decide) rfl ⟨by omega, by omega⟩ ⟨by omega, by omega⟩ (fun c268064 => ?_) (fun c268064 => ?_))
            · exfalso
              omega
            · refine wp_of e176 c176_28 (rw_aload_n (pc' := 29) (v := .ref r0) rfl rfl rfl ?_)
              refine wp_of e176 c176_29 (rw_iconst (pc' := 30) rfl ?_)
              refine wp_of e176 c176_30 (xc_V (pc' := 33) (r := r0) (as := [vI 1]) (st := []) (lm_9_121) rfl rfl (Nat.le_of_ble_eq_true rfl) w267913 g0 sh_42 (by decide) rfl (by decide) (u_181_o (fo := ((xline B n q267887 d267888).1)) (po := ((xline B n q267887 d267888).2.1)) w267913 g0 ⟨by omega, by omega⟩ a268059) (fun R268065 T268066 H268067 p268068 => ?_))
              obtain ⟨e268069, e268071, e268070, p268072⟩ := p268068
              subst e268069
              subst e268070
              subst e268071
              show wp _ _ 176 33 [(1, vI z268055), (0, .ref r0)] [] _ H267909 _
              have u268074 := RO_k p268072
              refine wp_of e176 c176_33 (rw_aload_n (pc' := 34) (v := .ref r0) rfl rfl rfl ?_)
              have k268075 : H267909 r0 4 = H267886 r0 4 := (f267914 r0 4 _ g0 rfl)
              have q268076 : H267909 r0 4 = (rp : Int) := k268075.trans q267904
              refine wp_of e176 c176_34 (xg_K (pc' := 37) lf_9_166 w267913 g0 sh_42 (by decide) (by decide) rfl q268076 rfl ?_)
              refine wp_of e176 c176_37 (xg_I (pc' := 40) lf_9_185 w267913 grp sh_54 (by decide) (by decide) ty_54_0 rfl rfl (fun b268077 b268078 => ?_))
              refine wp_of e176 c176_40 (rw_if_eq (p1 := 53) (p2 := 43) (by decide) rfl ⟨by omega, by omega⟩ (fun c268079 => ?_) (fun c268079 => ?_))
              · refine wp_of e176 c176_53 (rw_aload_n (pc' := 54) (v := .ref r0) rfl rfl rfl ?_)
                refine wp_of e176 c176_54 (rw_bipush (pc' := 56) (z := 6) rfl (by decide) ?_)
                refine wp_of e176 c176_56 (xc_V (pc' := 59) (r := r0) (as := [vI 6]) (st := []) (lm_9_121) rfl rfl (Nat.le_of_ble_eq_true rfl) w267913 g0 sh_42 (by decide) rfl (by decide) (u_181_o (fo := ((xline B n q267887 d267888).1)) (po := ((xline B n q267887 d267888).2.1)) w267913 g0 ⟨by omega, by omega⟩ p268072) (fun R268080 T268081 H268082 p268083 => ?_))
                obtain ⟨e268084, e268086, e268085, p268087⟩ := p268083
                subst e268084
                subst e268085
                subst e268086
                show wp _ _ 176 59 [(1, vI z268055), (0, .ref r0)] [] _ H267909 _
                have u268089 := RO_k p268087
                have o268090 : ((xpf B n f q d).1) = ((xline B n q267887 d267888).1, (xline B n q267887 d267888).2.1, (xline B n q267887 d267888).2.2) := by
                  rw [← hx, xpf_u]
                  repeat first | rw [xs_0 (by omega)] | rw [xs_1 (by omega)] | rw [if_pos (by omega)] | rw [if_neg (by omega)]
                  first | done | rfl | assumption | (exfalso; omega) | (refine Prod.ext ?_ (Prod.ext ?_ ?_) <;> (try dsimp only) <;> omega)
                have o268090a : (((xpf B n f q d).1)).1 = (xline B n q267887 d267888).1 := by rw [o268090]
                have o268090b : (((xpf B n f q d).1)).2.1 = (xline B n q267887 d267888).2.1 := by rw [o268090]
                have o268090c : (((xpf B n f q d).1)).2.2 = (xline B n q267887 d267888).2.2 := by rw [o268090]
                exact wp_return e176 c176_59 rfl ⟨rfl, w267913, f268043, rfl, (Or.inr ⟨by omega, (fun a ha ga => ((a267922 a ha ga).trans (x267893 a ha ga))), RO_eq p268087 (by omega) (by omega)⟩)⟩
              · refine wp_of e176 c176_43 (rw_aload_n (pc' := 44) (v := .ref r0) rfl rfl rfl ?_)
                refine wp_of e176 c176_44 (xg_K (pc' := 47) lf_9_166 w267913 g0 sh_42 (by decide) (by decide) rfl q268076 rfl ?_)
                refine wp_of e176 c176_47 (xg_I (pc' := 50) lf_9_188 w267913 grp sh_54 (by decide) (by decide) ty_54_3 rfl rfl (fun b268091 b268092 => ?_))
                refine wp_of e176 c176_50 (rw_if_ne (p1 := 59) (p2 := 53) (by decide) rfl ⟨by omega, by omega⟩ (fun c268093 => ?_) (fun c268093 => ?_))
                · have o268094 : ((xpf B n f q d).1) = ((xline B n q267887 d267888).1, (xline B n q267887 d267888).2.1, (xline B n q267887 d267888).2.2) := by
                    rw [← hx, xpf_u]
                    repeat first | rw [xs_0 (by omega)] | rw [xs_1 (by omega)] | rw [if_pos (by omega)] | rw [if_neg (by omega)]
                    first | done | rfl | assumption | (exfalso; omega) | (refine Prod.ext ?_ (Prod.ext ?_ ?_) <;> (try dsimp only) <;> omega)
                  have o268094a : (((xpf B n f q d).1)).1 = (xline B n q267887 d267888).1 := by rw [o268094]
                  have o268094b : (((xpf B n f q d).1)).2.1 = (xline B n q267887 d267888).2.1 := by rw [o268094]
                  have o268094c : (((xpf B n f q d).1)).2.2 = (xline B n q267887 d267888).2.2 := by rw [o268094]
                  exact wp_return e176 c176_59 rfl ⟨rfl, w267913, f268043, rfl, (Or.inr ⟨by omega, (fun a ha ga => ((a267922 a ha ga).trans (x267893 a ha ga))), RO_eq p268072 (by omega) (by omega)⟩)⟩
                · refine wp_of e176 c176_53 (rw_aload_n (pc' := 54) (v := .ref r0) rfl rfl rfl ?_)
                  refine wp_of e176 c176_54 (rw_bipush (pc' := 56) (z := 6) rfl (by decide) ?_)
                  refine wp_of e176 c176_56 (xc_V (pc' := 59) (r := r0) (as := [vI 6]) (st := []) (lm_9_121) rfl rfl (Nat.le_of_ble_eq_true rfl) w267913 g0 sh_42 (by decide) rfl (by decide) (u_181_o (fo := ((xline B n q267887 d267888).1)) (po := ((xline B n q267887 d267888).2.1)) w267913 g0 ⟨by omega, by omega⟩ p268072) (fun R268095 T268096 H268097 p268098 => ?_))
                  obtain ⟨e268099, e268101, e268100, p268102⟩ := p268098
                  subst e268099
                  subst e268100
                  subst e268101
                  show wp _ _ 176 59 [(1, vI z268055), (0, .ref r0)] [] _ H267909 _
                  have u268104 := RO_k p268102
                  have o268105 : ((xpf B n f q d).1) = ((xline B n q267887 d267888).1, (xline B n q267887 d267888).2.1, (xline B n q267887 d267888).2.2) := by
                    rw [← hx, xpf_u]
                    repeat first | rw [xs_0 (by omega)] | rw [xs_1 (by omega)] | rw [if_pos (by omega)] | rw [if_neg (by omega)]
                    first | done | rfl | assumption | (exfalso; omega) | (refine Prod.ext ?_ (Prod.ext ?_ ?_) <;> (try dsimp only) <;> omega)
                  have o268105a : (((xpf B n f q d).1)).1 = (xline B n q267887 d267888).1 := by rw [o268105]
                  have o268105b : (((xpf B n f q d).1)).2.1 = (xline B n q267887 d267888).2.1 := by rw [o268105]
                  have o268105c : (((xpf B n f q d).1)).2.2 = (xline B n q267887 d267888).2.2 := by rw [o268105]
                  exact wp_return e176 c176_59 rfl ⟨rfl, w267913, f268043, rfl, (Or.inr ⟨by omega, (fun a ha ga => ((a267922 a ha ga).trans (x267893 a ha ga))), RO_eq p268102 (by omega) (by omega)⟩)⟩
          · exfalso
            omega
  exact wp_lc (ks := [1, 0]) (wl_c rfl (wl_c rfl wl_n)) rfl (by decide) (lp267882 _ 1 H q d f hW wfr.rf ⟨by omega, by omega⟩ (fun _ _ _ => rfl) hRC_r0 hDM_rp (by omega) (rfl) rfl)
/-! StrikeAwakeModel.readParish()V o -/
abbrev uq_176_o (r0 : Nat) (rp : Nat) (rb : Nat) (fo : Int) (po : Int) (T : wq_T) (H : wq_H) : Option Value → wq_T → wq_H → Prop := fun r T' H' => T = T' ∧ H = H' ∧ none = r ∧ ((RO T H r0 fo po))
set_option maxHeartbeats 4000000 in
theorem u_176_o {kt : Nat → Option mc_E} {T : wq_T} {H : wq_H} {r0 : Nat} {rp : Nat} {rb : Nat} {fo : Int} {po : Int} (hW : WT T H) (g0 : T.2.2.2 r0 = some 42) (qrp : H r0 4 = (rp : Int)) (grp : T.2.2.2 rp = some 54) (qrb : H r0 5 = (rb : Int)) (grb : T.2.2.2 rb = some 43) (hRO_r0 : RO T H r0 fo po) : wpc kt 9 176 [.ref r0] T H (uq_176_o r0 rp rb fo po T H) := by
  refine wp_enter e176 (Nat.le_of_ble_eq_true rfl) rfl ?_
  show wp _ _ 176 0 [(0, .ref r0)] [] _ H _
  have u268229 := RO_k hRO_r0
  refine wp_of e176 c176_0 (rw_iconst (pc' := 1) rfl ?_)
  refine wp_of e176 c176_1 (rw_istore_n (pc' := 2) (z := 1) (L' := [(1, vI 1), (0, .ref r0)]) rfl rfl rfl ?_)
  have lp268293 : ∀ (n268294 : Nat) (v268296 : Int), (1 ≤ v268296 ∧ v268296 ≤ 1) → 0 = n268294 → wp kt 8 176 2 [(1, vI v268296), (0, .ref r0)] [] T H (uq_176_o r0 rp rb fo po T H) := by
    intro n268294
    induction n268294 using Nat.strongRecOn with
    | _ n268294 ih268295 =>
      intro v268296 b268299 m268300
      refine wp_of e176 c176_2 (rw_iload_n (pc' := 3) (z := v268296) rfl rfl ?_)
      refine wp_of e176 c176_3 (rw_if_eq (p1 := 20) (p2 := 6) (by decide) rfl ⟨by omega, by omega⟩ (fun c268301 => ?_) (fun c268301 => ?_))
      · exfalso
        omega
      · refine wp_of e176 c176_6 (rw_aload_n (pc' := 7) (v := .ref r0) rfl rfl rfl ?_)
        refine wp_of e176 c176_7 (xc_V (pc' := 10) (r := r0) (as := []) (st := []) (lm_9_179) rfl rfl (Nat.le_of_ble_eq_true rfl) hW g0 sh_42 (by decide) rfl (by decide) (u_177_o (fo := fo) (po := po) hW g0 qrp grp qrb grb hRO_r0) (fun R268302 T268303 H268304 p268305 => ?_))
        obtain ⟨e268306, e268308, e268307, p268309⟩ := p268305
        subst e268306
        subst e268307
        subst e268308
        show wp _ _ 176 10 [(1, vI v268296), (0, .ref r0)] [] _ H _
        have u268311 := RO_k p268309
        refine wp_of e176 c176_10 (rw_aload_n (pc' := 11) (v := .ref r0) rfl rfl rfl ?_)
        refine wp_of e176 c176_11 (rw_bipush (pc' := 13) (z := 59) rfl (by decide) ?_)
        refine wp_of e176 c176_13 (xc_V (pc' := 16) (r := r0) (as := [vI 59]) (st := []) (lm_9_182) rfl rfl (Nat.le_of_ble_eq_true rfl) hW g0 sh_42 (by decide) rfl (by decide) (u_204_o (fo := fo) (po := po) hW g0 ⟨by omega, by omega⟩ qrb grb p268309) (fun R268312 T268313 H268314 p268315 => ?_))
        obtain ⟨e268316, e268318, z268319, e268317, b268320, p268321⟩ := p268315
        subst e268316
        subst e268317
        subst e268318
        obtain ⟨a268322, a268323⟩ := p268321
        show wp _ _ 176 16 [(1, vI v268296), (0, .ref r0)] [vI z268319] _ H _
        have u268324 := RO_k a268323
        refine wp_of e176 c176_16 (rw_istore_n (pc' := 17) (z := z268319) (L' := [(1, vI z268319), (0, .ref r0)]) rfl rfl rfl ?_)
        refine wp_of e176 c176_17 (rw_goto (p1 := 2) (by decide) ?_)
        refine wp_of e176 c176_2 (rw_iload_n (pc' := 3) (z := z268319) rfl rfl ?_)
        refine wp_of e176 c176_3 (rw_if_eq (p1 := 20) (p2 := 6) (by decide) rfl ⟨by omega, by omega⟩ (fun c268325 => ?_) (fun c268325 => ?_))
        · refine wp_of e176 c176_20 (rw_aload_n (pc' := 21) (v := .ref r0) rfl rfl rfl ?_)
          refine wp_of e176 c176_21 (xg_I (pc' := 24) lf_9_75 hW g0 sh_42 (by decide) (by decide) ty_42_9 rfl rfl (fun b268326 b268327 => ?_))
          refine wp_of e176 c176_24 (rw_iconst (pc' := 25) rfl ?_)
          refine wp_of e176 c176_25 (rw_icmp_eq (p1 := 33) (p2 := 28) (by decide) rfl ⟨by omega, by omega⟩ ⟨by omega, by omega⟩ (fun c268328 => ?_) (fun c268328 => ?_))
          · exfalso
            omega
          · refine wp_of e176 c176_28 (rw_aload_n (pc' := 29) (v := .ref r0) rfl rfl rfl ?_)
            refine wp_of e176 c176_29 (rw_iconst (pc' := 30) rfl ?_)
            refine wp_of e176 c176_30 (xc_V (pc' := 33) (r := r0) (as := [vI 1]) (st := []) (lm_9_121) rfl rfl (Nat.le_of_ble_eq_true rfl) hW g0 sh_42 (by decide) rfl (by decide) (u_181_o (fo := fo) (po := po) hW g0 ⟨by omega, by omega⟩ a268323) (fun R268329 T268330 H268331 p268332 => ?_))
            obtain ⟨e268333, e268335, e268334, p268336⟩ := p268332
            subst e268333
            subst e268334
            subst e268335
            show wp _ _ 176 33 [(1, vI z268319), (0, .ref r0)] [] _ H _
            have u268338 := RO_k p268336
            refine wp_of e176 c176_33 (rw_aload_n (pc' := 34) (v := .ref r0) rfl rfl rfl ?_)
            refine wp_of e176 c176_34 (xg_K (pc' := 37) lf_9_166 hW g0 sh_42 (by decide) (by decide) rfl qrp rfl ?_)
            refine wp_of e176 c176_37 (xg_I (pc' := 40) lf_9_185 hW grp sh_54 (by decide) (by decide) ty_54_0 rfl rfl (fun b268339 b268340 => ?_))
            refine wp_of e176 c176_40 (rw_if_eq (p1 := 53) (p2 := 43) (by decide) rfl ⟨by omega, by omega⟩ (fun c268341 => ?_) (fun c268341 => ?_))
            · refine wp_of e176 c176_53 (rw_aload_n (pc' := 54) (v := .ref r0) rfl rfl rfl ?_)
              refine wp_of e176 c176_54 (rw_bipush (pc' := 56) (z := 6) rfl (by decide) ?_)
              refine wp_of e176 c176_56 (xc_V (pc' := 59) (r := r0) (as := [vI 6]) (st := []) (lm_9_121) rfl rfl (Nat.le_of_ble_eq_true rfl) hW g0 sh_42 (by decide) rfl (by decide) (u_181_o (fo := fo) (po := po) hW g0 ⟨by omega, by omega⟩ p268336) (fun R268342 T268343 H268344 p268345 => ?_))
              obtain ⟨e268346, e268348, e268347, p268349⟩ := p268345
              subst e268346
              subst e268347
              subst e268348
              show wp _ _ 176 59 [(1, vI z268319), (0, .ref r0)] [] _ H _
              have u268351 := RO_k p268349
              exact wp_return e176 c176_59 rfl ⟨rfl, rfl, rfl, (p268349)⟩
            · refine wp_of e176 c176_43 (rw_aload_n (pc' := 44) (v := .ref r0) rfl rfl rfl ?_)
              refine wp_of e176 c176_44 (xg_K (pc' := 47) lf_9_166 hW g0 sh_42 (by decide) (by decide) rfl qrp rfl ?_)
              refine wp_of e176 c176_47 (xg_I (pc' := 50) lf_9_188 hW grp sh_54 (by decide) (by decide) ty_54_3 rfl rfl (fun b268352 b268353 => ?_))
              refine wp_of e176 c176_50 (rw_if_ne (p1 := 59) (p2 := 53) (by decide) rfl ⟨by omega, by omega⟩ (fun c268354 => ?_) (fun c268354 => ?_))
              · exact wp_return e176 c176_59 rfl ⟨rfl, rfl, rfl, (p268336)⟩
              · refine wp_of e176 c176_53 (rw_aload_n (pc' := 54) (v := .ref r0) rfl rfl rfl ?_)
                refine wp_of e176 c176_54 (rw_bipush (pc' := 56) (z := 6) rfl (by decide) ?_)
                refine wp_of e176 c176_56 (xc_V (pc' := 59) (r := r0) (as := [vI 6]) (st := []) (lm_9_121) rfl rfl (Nat.le_of_ble_eq_true rfl) hW g0 sh_42 (by decide) rfl (by decide) (u_181_o (fo := fo) (po := po) hW g0 ⟨by omega, by omega⟩ p268336) (fun R268355 T268356 H268357 p268358 => ?_))
                obtain ⟨e268359, e268361, e268360, p268362⟩ := p268358
                subst e268359
                subst e268360
                subst e268361
                show wp _ _ 176 59 [(1, vI z268319), (0, .ref r0)] [] _ H _
                have u268364 := RO_k p268362
                exact wp_return e176 c176_59 rfl ⟨rfl, rfl, rfl, (p268362)⟩
        · exfalso
          omega
  exact wp_lc (ks := [1, 0]) (wl_c rfl (wl_c rfl wl_n)) rfl (by decide) (lp268293 _ 1 ⟨by omega, by omega⟩ rfl)
