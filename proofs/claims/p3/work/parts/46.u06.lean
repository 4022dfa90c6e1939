/-! what methods do (own work, written by wip/gen3/sx3.py) -/
/-! StrikeAwakeModel.readPerson()V o -/
abbrev uq_187_o (r0 : Nat) (rp : Nat) (rb : Nat) (fo : Int) (po : Int) (T : wq_T) (H : wq_H) : Option Value → wq_T → wq_H → Prop := fun r T' H' => T = T' ∧ H = H' ∧ none = r ∧ ((RO T H r0 fo po))
set_option maxHeartbeats 4000000 in
theorem u_187_o {kt : Nat → Option mc_E} {T : wq_T} {H : wq_H} {r0 : Nat} {rp : Nat} {rb : Nat} {fo : Int} {po : Int} (hW : WT T H) (g0 : T.2.2.2 r0 = some 42) (qrp : H r0 4 = (rp : Int)) (grp : T.2.2.2 rp = some 54) (qrb : H r0 5 = (rb : Int)) (grb : T.2.2.2 rb = some 43) (hRO_r0 : RO T H r0 fo po) : wpc kt 5 187 [.ref r0] T H (uq_187_o r0 rp rb fo po T H) := by
  refine wp_enter e187 (Nat.le_of_ble_eq_true rfl) rfl ?_
  show wp _ _ 187 0 [(0, .ref r0)] [] _ H _
  have u266058 := RO_k hRO_r0
  refine wp_of e187 c187_0 (rw_aload_n (pc' := 1) (v := .ref r0) rfl rfl rfl ?_)
  refine wp_of e187 c187_1 (rw_aload_n (pc' := 2) (v := .ref r0) rfl rfl rfl ?_)
  refine wp_of e187 c187_2 (xg_K (pc' := 5) lf_9_166 hW g0 sh_42 (by decide) (by decide) rfl qrp rfl ?_)
  refine wp_of e187 c187_5 (xg_I (pc' := 8) lf_9_188 hW grp sh_54 (by decide) (by decide) ty_54_3 rfl rfl (fun b266059 b266060 => ?_))
  refine wp_of e187 c187_8 (rw_bipush (pc' := 10) (z := 6) rfl (by decide) ?_)
  refine wp_of e187 c187_10 (xc_V (pc' := 13) (r := r0) (as := [vI (H rp 3), vI 6]) (st := []) (lm_9_228) rfl rfl (Nat.le_of_ble_eq_true rfl) hW g0 sh_42 (by decide) rfl (by decide) (u_188_o (fo := fo) (po := po) hW g0 ⟨by omega, by omega⟩ ⟨by omega, by omega⟩ qrb grb hRO_r0) (fun R266061 T266062 H266063 p266064 => ?_))
  obtain ⟨e266065, e266067, e266066, p266068⟩ := p266064
  subst e266065
  subst e266066
  subst e266067
  show wp _ _ 187 13 [(0, .ref r0)] [] _ H _
  have u266070 := RO_k p266068
  refine wp_of e187 c187_13 (rw_aload_n (pc' := 14) (v := .ref r0) rfl rfl rfl ?_)
  refine wp_of e187 c187_14 (xc_V (pc' := 17) (r := r0) (as := []) (st := []) (lm_9_162) rfl rfl (Nat.le_of_ble_eq_true rfl) hW g0 sh_42 (by decide) rfl (by decide) (u_189_o (fo := fo) (po := po) hW g0 p266068) (fun R266071 T266072 H266073 p266074 => ?_))
  obtain ⟨e266075, e266077, z266078, e266076, b266079, p266080⟩ := p266074
  subst e266075
  subst e266076
  subst e266077
  show wp _ _ 187 17 [(0, .ref r0)] [vI z266078] _ H _
  refine wp_of e187 c187_17 (rw_if_ne (p1 := 25) (p2 := 20) (by decide) rfl ⟨by omega, by omega⟩ (fun c266082 => ?_) (fun c266082 => ?_))
  · exfalso
    omega
  · refine wp_of e187 c187_20 (rw_aload_n (pc' := 21) (v := .ref r0) rfl rfl rfl ?_)
    refine wp_of e187 c187_21 (rw_iconst (pc' := 22) rfl ?_)
    refine wp_of e187 c187_22 (xc_V (pc' := 25) (r := r0) (as := [vI 1]) (st := []) (lm_9_121) rfl rfl (Nat.le_of_ble_eq_true rfl) hW g0 sh_42 (by decide) rfl (by decide) (u_181_o (fo := fo) (po := po) hW g0 ⟨by omega, by omega⟩ p266068) (fun R266083 T266084 H266085 p266086 => ?_))
    obtain ⟨e266087, e266089, e266088, p266090⟩ := p266086
    subst e266087
    subst e266088
    subst e266089
    show wp _ _ 187 25 [(0, .ref r0)] [] _ H _
    have u266092 := RO_k p266090
    refine wp_of e187 c187_25 (rw_aload_n (pc' := 26) (v := .ref r0) rfl rfl rfl ?_)
    refine wp_of e187 c187_26 (xg_K (pc' := 29) lf_9_166 hW g0 sh_42 (by decide) (by decide) rfl qrp rfl ?_)
    refine wp_of e187 c187_29 (rw_aload_n (pc' := 30) (v := .ref r0) rfl rfl rfl ?_)
    refine wp_of e187 c187_30 (xg_L (pc' := 33) lf_9_94 hW g0 sh_42 (by decide) (by decide) ty_42_15 rfl rfl (fun b266093 b266094 => ?_))
    refine wp_of e187 c187_33 (xc_V (pc' := 36) (r := rp) (as := [vL (H r0 15)]) (st := []) (lm_9_170) rfl rfl (Nat.le_of_ble_eq_true rfl) hW grp sh_54 (by decide) rfl (by decide) (u_190_o  hW grp ⟨by omega, by omega⟩) (fun R266095 T266096 H266097 p266098 => ?_))
    obtain ⟨e266099, e266101, z266102, e266100, b266103, p266104⟩ := p266098
    subst e266099
    subst e266100
    subst e266101
    show wp _ _ 187 36 [(0, .ref r0)] [vI z266102] _ H _
    refine wp_of e187 c187_36 (rw_iconst (pc' := 37) rfl ?_)
    refine wp_of e187 c187_37 (rw_icmp_eq (p1 := 45) (p2 := 40) (by decide) rfl ⟨by omega, by omega⟩ ⟨by omega, by omega⟩ (fun c266106 => ?_) (fun c266106 => ?_))
    · refine wp_of e187 c187_45 (rw_aload_n (pc' := 46) (v := .ref r0) rfl rfl rfl ?_)
      refine wp_of e187 c187_46 (xg_L (pc' := 49) lf_9_94 hW g0 sh_42 (by decide) (by decide) ty_42_15 rfl rfl (fun b266107 b266108 => ?_))
      refine wp_of e187 c187_49 (rw_lstore_n (pc' := 50) (z := H r0 15) (L' := [(1, vL (H r0 15)), (0, .ref r0)]) rfl rfl rfl ?_)
      refine wp_of e187 c187_50 (rw_aload_n (pc' := 51) (v := .ref r0) rfl rfl rfl ?_)
      refine wp_of e187 c187_51 (xc_V (pc' := 54) (r := r0) (as := []) (st := []) (lm_9_118) rfl rfl (Nat.le_of_ble_eq_true rfl) hW g0 sh_42 (by decide) rfl (by decide) (u_172_o (fo := fo) (po := po) hW g0 p266090) (fun R266109 T266110 H266111 p266112 => ?_))
      obtain ⟨e266113, e266115, e266114, p266116⟩ := p266112
      subst e266113
      subst e266114
      subst e266115
      show wp _ _ 187 54 [(1, vL (H r0 15)), (0, .ref r0)] [] _ H _
      have u266118 := RO_k p266116
      refine wp_of e187 c187_54 (rw_aload_n (pc' := 55) (v := .ref r0) rfl rfl rfl ?_)
      refine wp_of e187 c187_55 (rw_ldcS (pc' := 57) (k := 86) rfl rfl rfl rfl ?_)
      refine wp_of e187 c187_57 (rw_iconst (pc' := 58) rfl ?_)
      refine wp_of e187 c187_58 (rw_bipush (pc' := 60) (z := 23) rfl (by decide) ?_)
      refine wp_of e187 c187_60 (xc_V (pc' := 63) (r := r0) (as := [.ref 86, vI 0, vI 23]) (st := []) (lm_9_216) rfl rfl (Nat.le_of_ble_eq_true rfl) hW g0 sh_42 (by decide) rfl (by decide) (u_182_o (fo := fo) (po := po) (kk := 2212) hW g0 rfl ⟨by omega, by omega⟩ ⟨by omega, by omega⟩ qrb grb (by decide +kernel) p266116) (fun R266119 T266120 H266121 p266122 => ?_))
      obtain ⟨e266123, e266125, z266126, e266124, b266127, p266128⟩ := p266122
      subst e266123
      subst e266124
      subst e266125
      obtain ⟨a266129, a266130⟩ := p266128
      show wp _ _ 187 63 [(1, vL (H r0 15)), (0, .ref r0)] [vI z266126] _ H _
      have u266131 := RO_k a266130
      refine wp_of e187 c187_63 (rw_istore_n (pc' := 64) (z := z266126) (L' := [(3, vI z266126), (1, vL (H r0 15)), (0, .ref r0)]) rfl rfl rfl ?_)
      refine wp_of e187 c187_64 (rw_aload_n (pc' := 65) (v := .ref r0) rfl rfl rfl ?_)
      refine wp_of e187 c187_65 (rw_ldcS (pc' := 67) (k := 87) rfl rfl rfl rfl ?_)
      refine wp_of e187 c187_67 (rw_iload_n (pc' := 68) (z := z266126) rfl rfl ?_)
      refine wp_of e187 c187_68 (rw_bipush (pc' := 70) (z := 23) rfl (by decide) ?_)
      refine wp_of e187 c187_70 (rw_iload_n (pc' := 71) (z := z266126) rfl rfl ?_)
      refine wp_of e187 c187_71 (rw_bipush (pc' := 73) (z := 7) rfl (by decide) ?_)
      refine wp_of e187 c187_73 (rw_iadd (pc' := 74) rfl ?_)
      refine wp_of e187 c187_74 (xc_S (pc' := 77) (as := [vI 23, vI (z266126 + 7)]) (st := [vI z266126, .ref 87, .ref r0]) (lm_9_235) rfl rfl (Nat.le_of_ble_eq_true rfl) rfl (by decide) (u_191  hW ⟨by omega, by omega⟩ ⟨by omega, by omega⟩) (fun R266132 T266133 H266134 p266135 => ?_))
      obtain ⟨e266136, e266138, z266139, e266137, b266140, p266141⟩ := p266135
      subst e266136
      subst e266137
      subst e266138
      show wp _ _ 187 77 [(3, vI z266126), (1, vL (H r0 15)), (0, .ref r0)] [vI z266139, vI z266126, .ref 87, .ref r0] _ H _
      refine wp_of e187 c187_77 (xc_V (pc' := 80) (r := r0) (as := [.ref 87, vI z266126, vI z266139]) (st := []) (lm_9_216) rfl rfl (Nat.le_of_ble_eq_true rfl) hW g0 sh_42 (by decide) rfl (by decide) (u_182_o (fo := fo) (po := po) (kk := 655) hW g0 rfl ⟨by omega, by omega⟩ ⟨by omega, by omega⟩ qrb grb (by decide +kernel) a266130) (fun R266143 T266144 H266145 p266146 => ?_))
      obtain ⟨e266147, e266149, z266150, e266148, b266151, p266152⟩ := p266146
      subst e266147
      subst e266148
      subst e266149
      obtain ⟨a266153, a266154⟩ := p266152
      show wp _ _ 187 80 [(3, vI z266126), (1, vL (H r0 15)), (0, .ref r0)] [vI z266150] _ H _
      have u266155 := RO_k a266154
      refine wp_of e187 c187_80 (rw_istore (pc' := 82) (z := z266150) (L' := [(4, vI z266150), (3, vI z266126), (1, vL (H r0 15)), (0, .ref r0)]) rfl rfl rfl ?_)
      refine wp_of e187 c187_82 (rw_aload_n (pc' := 83) (v := .ref r0) rfl rfl rfl ?_)
      refine wp_of e187 c187_83 (rw_ldcS (pc' := 85) (k := 88) rfl rfl rfl rfl ?_)
      refine wp_of e187 c187_85 (rw_iconst (pc' := 86) rfl ?_)
      refine wp_of e187 c187_86 (rw_bipush (pc' := 88) (z := 12) rfl (by decide) ?_)
      refine wp_of e187 c187_88 (xc_V (pc' := 91) (r := r0) (as := [.ref 88, vI 0, vI 12]) (st := []) (lm_9_216) rfl rfl (Nat.le_of_ble_eq_true rfl) hW g0 sh_42 (by decide) rfl (by decide) (u_182_o (fo := fo) (po := po) (kk := 409031) hW g0 rfl ⟨by omega, by omega⟩ ⟨by omega, by omega⟩ qrb grb (by decide +kernel) a266154) (fun R266156 T266157 H266158 p266159 => ?_))
      obtain ⟨e266160, e266162, z266163, e266161, b266164, p266165⟩ := p266159
      subst e266160
      subst e266161
      subst e266162
      obtain ⟨a266166, a266167⟩ := p266165
      show wp _ _ 187 91 [(4, vI z266150), (3, vI z266126), (1, vL (H r0 15)), (0, .ref r0)] [vI z266163] _ H _
      have u266168 := RO_k a266167
      refine wp_of e187 c187_91 (rw_istore (pc' := 93) (z := z266163) (L' := [(5, vI z266163), (4, vI z266150), (3, vI z266126), (1, vL (H r0 15)), (0, .ref r0)]) rfl rfl rfl ?_)
      refine wp_of e187 c187_93 (rw_aload_n (pc' := 94) (v := .ref r0) rfl rfl rfl ?_)
      refine wp_of e187 c187_94 (rw_ldcS (pc' := 96) (k := 87) rfl rfl rfl rfl ?_)
      refine wp_of e187 c187_96 (rw_iload (pc' := 98) (z := z266163) rfl rfl ?_)
      refine wp_of e187 c187_98 (rw_bipush (pc' := 100) (z := 12) rfl (by decide) ?_)
      refine wp_of e187 c187_100 (rw_iload (pc' := 102) (z := z266163) rfl rfl ?_)
      refine wp_of e187 c187_102 (rw_iconst (pc' := 103) rfl ?_)
      refine wp_of e187 c187_103 (rw_iadd (pc' := 104) rfl ?_)
      refine wp_of e187 c187_104 (xc_S (pc' := 107) (as := [vI 12, vI (z266163 + 4)]) (st := [vI z266163, .ref 87, .ref r0]) (lm_9_235) rfl rfl (Nat.le_of_ble_eq_true rfl) rfl (by decide) (u_191  hW ⟨by omega, by omega⟩ ⟨by omega, by omega⟩) (fun R266169 T266170 H266171 p266172 => ?_))
      obtain ⟨e266173, e266175, z266176, e266174, b266177, p266178⟩ := p266172
      subst e266173
      subst e266174
      subst e266175
      show wp _ _ 187 107 [(5, vI z266163), (4, vI z266150), (3, vI z266126), (1, vL (H r0 15)), (0, .ref r0)] [vI z266176, vI z266163, .ref 87, .ref r0] _ H _
      refine wp_of e187 c187_107 (xc_V (pc' := 110) (r := r0) (as := [.ref 87, vI z266163, vI z266176]) (st := []) (lm_9_216) rfl rfl (Nat.le_of_ble_eq_true rfl) hW g0 sh_42 (by decide) rfl (by decide) (u_182_o (fo := fo) (po := po) (kk := 655) hW g0 rfl ⟨by omega, by omega⟩ ⟨by omega, by omega⟩ qrb grb (by decide +kernel) a266167) (fun R266180 T266181 H266182 p266183 => ?_))
      obtain ⟨e266184, e266186, z266187, e266185, b266188, p266189⟩ := p266183
      subst e266184
      subst e266185
      subst e266186
      obtain ⟨a266190, a266191⟩ := p266189
      show wp _ _ 187 110 [(5, vI z266163), (4, vI z266150), (3, vI z266126), (1, vL (H r0 15)), (0, .ref r0)] [vI z266187] _ H _
      have u266192 := RO_k a266191
      refine wp_of e187 c187_110 (rw_istore (pc' := 112) (z := z266187) (L' := [(6, vI z266187), (5, vI z266163), (4, vI z266150), (3, vI z266126), (1, vL (H r0 15)), (0, .ref r0)]) rfl rfl rfl ?_)
      refine wp_of e187 c187_112 (rw_aload_n (pc' := 113) (v := .ref r0) rfl rfl rfl ?_)
      refine wp_of e187 c187_113 (rw_ldcS (pc' := 115) (k := 83) rfl rfl rfl rfl ?_)
      refine wp_of e187 c187_115 (xc_V (pc' := 118) (r := r0) (as := [.ref 83]) (st := []) (lm_9_240) rfl rfl (Nat.le_of_ble_eq_true rfl) hW g0 sh_42 (by decide) rfl (by decide) (u_192_o (fo := fo) (po := po) (kk := 8423732) hW g0 rfl qrb grb (by decide +kernel) a266191) (fun R266193 T266194 H266195 p266196 => ?_))
      obtain ⟨e266197, e266199, z266200, e266198, b266201, p266202⟩ := p266196
      subst e266197
      subst e266198
      subst e266199
      obtain ⟨a266203, a266204⟩ := p266202
      show wp _ _ 187 118 [(6, vI z266187), (5, vI z266163), (4, vI z266150), (3, vI z266126), (1, vL (H r0 15)), (0, .ref r0)] [vI z266200] _ H _
      have u266205 := RO_k a266204
      refine wp_of e187 c187_118 (rw_if_eq (p1 := 131) (p2 := 121) (by decide) rfl ⟨by omega, by omega⟩ (fun c266206 => ?_) (fun c266206 => ?_))
      · refine wp_of e187 c187_131 (rw_iconst (pc' := 132) rfl ?_)
        refine wp_of e187 c187_132 (rw_istore (pc' := 134) (z := -1) (L' := [(7, vI (-1)), (6, vI z266187), (5, vI z266163), (4, vI z266150), (3, vI z266126), (1, vL (H r0 15)), (0, .ref r0)]) rfl rfl rfl ?_)
        refine wp_of e187 c187_134 (rw_aload_n (pc' := 135) (v := .ref r0) rfl rfl rfl ?_)
        refine wp_of e187 c187_135 (rw_ldcS (pc' := 137) (k := 84) rfl rfl rfl rfl ?_)
        refine wp_of e187 c187_137 (xc_V (pc' := 140) (r := r0) (as := [.ref 84]) (st := []) (lm_9_240) rfl rfl (Nat.le_of_ble_eq_true rfl) hW g0 sh_42 (by decide) rfl (by decide) (u_192_o (fo := fo) (po := po) (kk := 14384) hW g0 rfl qrb grb (by decide +kernel) a266204) (fun R266207 T266208 H266209 p266210 => ?_))
        obtain ⟨e266211, e266213, z266214, e266212, b266215, p266216⟩ := p266210
        subst e266211
        subst e266212
        subst e266213
        obtain ⟨a266217, a266218⟩ := p266216
        show wp _ _ 187 140 [(7, vI (-1)), (6, vI z266187), (5, vI z266163), (4, vI z266150), (3, vI z266126), (1, vL (H r0 15)), (0, .ref r0)] [vI z266214] _ H _
        have u266219 := RO_k a266218
        refine wp_of e187 c187_140 (rw_istore (pc' := 142) (z := z266214) (L' := [(8, vI z266214), (7, vI (-1)), (6, vI z266187), (5, vI z266163), (4, vI z266150), (3, vI z266126), (1, vL (H r0 15)), (0, .ref r0)]) rfl rfl rfl ?_)
        refine wp_of e187 c187_142 (rw_iload (pc' := 144) (z := z266214) rfl rfl ?_)
        refine wp_of e187 c187_144 (rw_if_eq (p1 := 157) (p2 := 147) (by decide) rfl ⟨by omega, by omega⟩ (fun c266220 => ?_) (fun c266220 => ?_))
        · refine wp_of e187 c187_157 (rw_iconst (pc' := 158) rfl ?_)
          refine wp_of e187 c187_158 (rw_istore (pc' := 160) (z := 0) (L' := [(9, vI 0), (8, vI z266214), (7, vI (-1)), (6, vI z266187), (5, vI z266163), (4, vI z266150), (3, vI z266126), (1, vL (H r0 15)), (0, .ref r0)]) rfl rfl rfl ?_)
          refine wp_of e187 c187_160 (rw_iload (pc' := 162) (z := z266214) rfl rfl ?_)
          refine wp_of e187 c187_162 (rw_if_eq (p1 := 180) (p2 := 165) (by decide) rfl ⟨by omega, by omega⟩ (fun c266221 => ?_) (fun c266221 => ?_))
          · refine wp_of e187 c187_180 (rw_iconst (pc' := 181) rfl ?_)
            refine wp_of e187 c187_181 (rw_istore (pc' := 183) (z := 0) (L' := [(10, vI 0), (9, vI 0), (8, vI z266214), (7, vI (-1)), (6, vI z266187), (5, vI z266163), (4, vI z266150), (3, vI z266126), (1, vL (H r0 15)), (0, .ref r0)]) rfl rfl rfl ?_)
            refine wp_of e187 c187_183 (rw_aload_n (pc' := 184) (v := .ref r0) rfl rfl rfl ?_)
            refine wp_of e187 c187_184 (rw_ldcS (pc' := 186) (k := 85) rfl rfl rfl rfl ?_)
            refine wp_of e187 c187_186 (xc_V (pc' := 189) (r := r0) (as := [.ref 85]) (st := []) (lm_9_240) rfl rfl (Nat.le_of_ble_eq_true rfl) hW g0 sh_42 (by decide) rfl (by decide) (u_192_o (fo := fo) (po := po) (kk := 56377) hW g0 rfl qrb grb (by decide +kernel) a266218) (fun R266222 T266223 H266224 p266225 => ?_))
            obtain ⟨e266226, e266228, z266229, e266227, b266230, p266231⟩ := p266225
            subst e266226
            subst e266227
            subst e266228
            obtain ⟨a266232, a266233⟩ := p266231
            show wp _ _ 187 189 [(10, vI 0), (9, vI 0), (8, vI z266214), (7, vI (-1)), (6, vI z266187), (5, vI z266163), (4, vI z266150), (3, vI z266126), (1, vL (H r0 15)), (0, .ref r0)] [vI z266229] _ H _
            have u266234 := RO_k a266233
            refine wp_of e187 c187_189 (rw_istore (pc' := 191) (z := z266229) (L' := [(11, vI z266229), (10, vI 0), (9, vI 0), (8, vI z266214), (7, vI (-1)), (6, vI z266187), (5, vI z266163), (4, vI z266150), (3, vI z266126), (1, vL (H r0 15)), (0, .ref r0)]) rfl rfl rfl ?_)
            refine wp_of e187 c187_191 (rw_aload_n (pc' := 192) (v := .ref r0) rfl rfl rfl ?_)
            refine wp_of e187 c187_192 (xg_I (pc' := 195) lf_9_75 hW g0 sh_42 (by decide) (by decide) ty_42_9 rfl rfl (fun b266235 b266236 => ?_))
            refine wp_of e187 c187_195 (rw_iconst (pc' := 196) rfl ?_)
            refine wp_of e187 c187_196 (rw_icmp_ne (p1 := 200) (p2 := 199) (by decide) rfl ⟨by omega, by omega⟩ ⟨by omega, by omega⟩ (fun c266237 => ?_) (fun c266237 => ?_))
            · exfalso
              omega
            · exact wp_return e187 c187_199 rfl ⟨rfl, rfl, rfl, (a266233)⟩
          · exfalso
            omega
        · exfalso
          omega
      · exfalso
        omega
    · refine wp_of e187 c187_40 (rw_aload_n (pc' := 41) (v := .ref r0) rfl rfl rfl ?_)
      refine wp_of e187 c187_41 (rw_iconst (pc' := 42) rfl ?_)
      refine wp_of e187 c187_42 (xc_V (pc' := 45) (r := r0) (as := [vI 3]) (st := []) (lm_9_121) rfl rfl (Nat.le_of_ble_eq_true rfl) hW g0 sh_42 (by decide) rfl (by decide) (u_181_o (fo := fo) (po := po) hW g0 ⟨by omega, by omega⟩ p266090) (fun R266238 T266239 H266240 p266241 => ?_))
      obtain ⟨e266242, e266244, e266243, p266245⟩ := p266241
      subst e266242
      subst e266243
      subst e266244
      show wp _ _ 187 45 [(0, .ref r0)] [] _ H _
      have u266247 := RO_k p266245
      refine wp_of e187 c187_45 (rw_aload_n (pc' := 46) (v := .ref r0) rfl rfl rfl ?_)
      refine wp_of e187 c187_46 (xg_L (pc' := 49) lf_9_94 hW g0 sh_42 (by decide) (by decide) ty_42_15 rfl rfl (fun b266248 b266249 => ?_))
      refine wp_of e187 c187_49 (rw_lstore_n (pc' := 50) (z := H r0 15) (L' := [(1, vL (H r0 15)), (0, .ref r0)]) rfl rfl rfl ?_)
      refine wp_of e187 c187_50 (rw_aload_n (pc' := 51) (v := .ref r0) rfl rfl rfl ?_)
      refine wp_of e187 c187_51 (xc_V (pc' := 54) (r := r0) (as := []) (st := []) (lm_9_118) rfl rfl (Nat.le_of_ble_eq_true rfl) hW g0 sh_42 (by decide) rfl (by decide) (u_172_o (fo := fo) (po := po) hW g0 p266245) (fun R266250 T266251 H266252 p266253 => ?_))
      obtain ⟨e266254, e266256, e266255, p266257⟩ := p266253
      subst e266254
      subst e266255
      subst e266256
      show wp _ _ 187 54 [(1, vL (H r0 15)), (0, .ref r0)] [] _ H _
      have u266259 := RO_k p266257
      refine wp_of e187 c187_54 (rw_aload_n (pc' := 55) (v := .ref r0) rfl rfl rfl ?_)
      refine wp_of e187 c187_55 (rw_ldcS (pc' := 57) (k := 86) rfl rfl rfl rfl ?_)
      refine wp_of e187 c187_57 (rw_iconst (pc' := 58) rfl ?_)
      refine wp_of e187 c187_58 (rw_bipush (pc' := 60) (z := 23) rfl (by decide) ?_)
      refine wp_of e187 c187_60 (xc_V (pc' := 63) (r := r0) (as := [.ref 86, vI 0, vI 23]) (st := []) (lm_9_216) rfl rfl (Nat.le_of_ble_eq_true rfl) hW g0 sh_42 (by decide) rfl (by decide) (u_182_o (fo := fo) (po := po) (kk := 2212) hW g0 rfl ⟨by omega, by omega⟩ ⟨by omega, by omega⟩ qrb grb (by decide +kernel) p266257) (fun R266260 T266261 H266262 p266263 => ?_))
      obtain ⟨e266264, e266266, z266267, e266265, b266268, p266269⟩ := p266263
      subst e266264
      subst e266265
      subst e266266
      obtain ⟨a266270, a266271⟩ := p266269
      show wp _ _ 187 63 [(1, vL (H r0 15)), (0, .ref r0)] [vI z266267] _ H _
      have u266272 := RO_k a266271
      refine wp_of e187 c187_63 (rw_istore_n (pc' := 64) (z := z266267) (L' := [(3, vI z266267), (1, vL (H r0 15)), (0, .ref r0)]) rfl rfl rfl ?_)
      refine wp_of e187 c187_64 (rw_aload_n (pc' := 65) (v := .ref r0) rfl rfl rfl ?_)
      refine wp_of e187 c187_65 (rw_ldcS (pc' := 67) (k := 87) rfl rfl rfl rfl ?_)
      refine wp_of e187 c187_67 (rw_iload_n (pc' := 68) (z := z266267) rfl rfl ?_)
      refine wp_of e187 c187_68 (rw_bipush (pc' := 70) (z := 23) rfl (by decide) ?_)
      refine wp_of e187 c187_70 (rw_iload_n (pc' := 71) (z := z266267) rfl rfl ?_)
      refine wp_of e187 c187_71 (rw_bipush (pc' := 73) (z := 7) rfl (by decide) ?_)
      refine wp_of e187 c187_73 (rw_iadd (pc' := 74) rfl ?_)
      refine wp_of e187 c187_74 (xc_S (pc' := 77) (as := [vI 23, vI (z266267 + 7)]) (st := [vI z266267, .ref 87, .ref r0]) (lm_9_235) rfl rfl (Nat.le_of_ble_eq_true rfl) rfl (by decide) (u_191  hW ⟨by omega, by omega⟩ ⟨by omega, by omega⟩) (fun R266273 T266274 H266275 p266276 => ?_))
      obtain ⟨e266277, e266279, z266280, e266278, b266281, p266282⟩ := p266276
      subst e266277
      subst e266278
      subst e266279
      show wp _ _ 187 77 [(3, vI z266267), (1, vL (H r0 15)), (0, .ref r0)] [vI z266280, vI z266267, .ref 87, .ref r0] _ H _
      refine wp_of e187 c187_77 (xc_V (pc' := 80) (r := r0) (as := [.ref 87, vI z266267, vI z266280]) (st := []) (lm_9_216) rfl rfl (Nat.le_of_ble_eq_true rfl) hW g0 sh_42 (by decide) rfl (by decide) (u_182_o (fo := fo) (po := po) (kk := 655) hW g0 rfl ⟨by omega, by omega⟩ ⟨by omega, by omega⟩ qrb grb (by decide +kernel) a266271) (fun R266284 T266285 H266286 p266287 => ?_))
      obtain ⟨e266288, e266290, z266291, e266289, b266292, p266293⟩ := p266287
      subst e266288
      subst e266289
      subst e266290
      obtain ⟨a266294, a266295⟩ := p266293
      show wp _ _ 187 80 [(3, vI z266267), (1, vL (H r0 15)), (0, .ref r0)] [vI z266291] _ H _
      have u266296 := RO_k a266295
      refine wp_of e187 c187_80 (rw_istore (pc' := 82) (z := z266291) (L' := [(4, vI z266291), (3, vI z266267), (1, vL (H r0 15)), (0, .ref r0)]) rfl rfl rfl ?_)
      refine wp_of e187 c187_82 (rw_aload_n (pc' := 83) (v := .ref r0) rfl rfl rfl ?_)
      refine wp_of e187 c187_83 (rw_ldcS (pc' := 85) (k := 88) rfl rfl rfl rfl ?_)
      refine wp_of e187 c187_85 (rw_iconst (pc' := 86) rfl ?_)
      refine wp_of e187 c187_86 (rw_bipush (pc' := 88) (z := 12) rfl (by decide) ?_)
      refine wp_of e187 c187_88 (xc_V (pc' := 91) (r := r0) (as := [.ref 88, vI 0, vI 12]) (st := []) (lm_9_216) rfl rfl (Nat.le_of_ble_eq_true rfl) hW g0 sh_42 (by decide) rfl (by decide) (u_182_o (fo := fo) (po := po) (kk := 409031) hW g0 rfl ⟨by omega, by omega⟩ ⟨by omega, by omega⟩ qrb grb (by decide +kernel) a266295) (fun R266297 T266298 H266299 p266300 => ?_))
      obtain ⟨e266301, e266303, z266304, e266302, b266305, p266306⟩ := p266300
      subst e266301
      subst e266302
      subst e266303
      obtain ⟨a266307, a266308⟩ := p266306
      show wp _ _ 187 91 [(4, vI z266291), (3, vI z266267), (1, vL (H r0 15)), (0, .ref r0)] [vI z266304] _ H _
      have u266309 := RO_k a266308
      refine wp_of e187 c187_91 (rw_istore (pc' := 93) (z := z266304) (L' := [(5, vI z266304), (4, vI z266291), (3, vI z266267), (1, vL (H r0 15)), (0, .ref r0)]) rfl rfl rfl ?_)
      refine wp_of e187 c187_93 (rw_aload_n (pc' := 94) (v := .ref r0) rfl rfl rfl ?_)
      refine wp_of e187 c187_94 (rw_ldcS (pc' := 96) (k := 87) rfl rfl rfl rfl ?_)
      refine wp_of e187 c187_96 (rw_iload (pc' := 98) (z := z266304) rfl rfl ?_)
      refine wp_of e187 c187_98 (rw_bipush (pc' := 100) (z := 12) rfl (by decide) ?_)
      refine wp_of e187 c187_100 (rw_iload (pc' := 102) (z := z266304) rfl rfl ?_)
      refine wp_of e187 c187_102 (rw_iconst (pc' := 103) rfl ?_)
      refine wp_of e187 c187_103 (rw_iadd (pc' := 104) rfl ?_)
      refine wp_of e187 c187_104 (xc_S (pc' := 107) (as := [vI 12, vI (z266304 + 4)]) (st := [vI z266304, .ref 87, .ref r0]) (lm_9_235) rfl rfl (Nat.le_of_ble_eq_true rfl) rfl (by decide) (u_191  hW ⟨by omega, by omega⟩ ⟨by omega, by omega⟩) (fun R266310 T266311 H266312 p266313 => ?_))
      obtain ⟨e266314, e266316, z266317, e266315, b266318, p266319⟩ := p266313
      subst e266314
      subst e266315
      subst e266316
      show wp _ _ 187 107 [(5, vI z266304), (4, vI z266291), (3, vI z266267), (1, vL (H r0 15)), (0, .ref r0)] [vI z266317, vI z266304, .ref 87, .ref r0] _ H _
      refine wp_of e187 c187_107 (xc_V (pc' := 110) (r := r0) (as := [.ref 87, vI z266304, vI z266317]) (st := []) (lm_9_216) rfl rfl (Nat.le_of_ble_eq_true rfl) hW g0 sh_42 (by decide) rfl (by decide) (u_182_o (fo := fo) (po := po) (kk := 655) hW g0 rfl ⟨by omega, by omega⟩ ⟨by omega, by omega⟩ qrb grb (by decide +kernel) a266308) (fun R266321 T266322 H266323 p266324 => ?_))
      obtain ⟨e266325, e266327, z266328, e266326, b266329, p266330⟩ := p266324
      subst e266325
      subst e266326
      subst e266327
      obtain ⟨a266331, a266332⟩ := p266330
      show wp _ _ 187 110 [(5, vI z266304), (4, vI z266291), (3, vI z266267), (1, vL (H r0 15)), (0, .ref r0)] [vI z266328] _ H _
      have u266333 := RO_k a266332
      refine wp_of e187 c187_110 (rw_istore (pc' := 112) (z := z266328) (L' := [(6, vI z266328), (5, vI z266304), (4, vI z266291), (3, vI z266267), (1, vL (H r0 15)), (0, .ref r0)]) rfl rfl rfl ?_)
      refine wp_of e187 c187_112 (rw_aload_n (pc' := 113) (v := .ref r0) rfl rfl rfl ?_)
      refine wp_of e187 c187_113 (rw_ldcS (pc' := 115) (k := 83) rfl rfl rfl rfl ?_)
      refine wp_of e187 c187_115 (xc_V (pc' := 118) (r := r0) (as := [.ref 83]) (st := []) (lm_9_240) rfl rfl (Nat.le_of_ble_eq_true rfl) hW g0 sh_42 (by decide) rfl (by decide) (u_192_o (fo := fo) (po := po) (kk := 8423732) hW g0 rfl qrb grb (by decide +kernel) a266332) (fun R266334 T266335 H266336 p266337 => ?_))
      obtain ⟨e266338, e266340, z266341, e266339, b266342, p266343⟩ := p266337
      subst e266338
      subst e266339
      subst e266340
      obtain ⟨a266344, a266345⟩ := p266343
      show wp _ _ 187 118 [(6, vI z266328), (5, vI z266304), (4, vI z266291), (3, vI z266267), (1, vL (H r0 15)), (0, .ref r0)] [vI z266341] _ H _
      have u266346 := RO_k a266345
      refine wp_of e187 c187_118 (rw_if_eq (p1 := 131) (p2 := 121) (by decide) rfl ⟨by omega, by omega⟩ (fun c266347 => ?_) (fun c266347 => ?_))
      · refine wp_of e187 c187_131 (rw_iconst (pc' := 132) rfl ?_)
        refine wp_of e187 c187_132 (rw_istore (pc' := 134) (z := -1) (L' := [(7, vI (-1)), (6, vI z266328), (5, vI z266304), (4, vI z266291), (3, vI z266267), (1, vL (H r0 15)), (0, .ref r0)]) rfl rfl rfl ?_)
        refine wp_of e187 c187_134 (rw_aload_n (pc' := 135) (v := .ref r0) rfl rfl rfl ?_)
        refine wp_of e187 c187_135 (rw_ldcS (pc' := 137) (k := 84) rfl rfl rfl rfl ?_)
        refine wp_of e187 c187_137 (xc_V (pc' := 140) (r := r0) (as := [.ref 84]) (st := []) (lm_9_240) rfl rfl (Nat.le_of_ble_eq_true rfl) hW g0 sh_42 (by decide) rfl (by decide) (u_192_o (fo := fo) (po := po) (kk := 14384) hW g0 rfl qrb grb (by decide +kernel) a266345) (fun R266348 T266349 H266350 p266351 => ?_))
        obtain ⟨e266352, e266354, z266355, e266353, b266356, p266357⟩ := p266351
        subst e266352
        subst e266353
        subst e266354
        obtain ⟨a266358, a266359⟩ := p266357
        show wp _ _ 187 140 [(7, vI (-1)), (6, vI z266328), (5, vI z266304), (4, vI z266291), (3, vI z266267), (1, vL (H r0 15)), (0, .ref r0)] [vI z266355] _ H _
        have u266360 := RO_k a266359
        refine wp_of e187 c187_140 (rw_istore (pc' := 142) (z := z266355) (L' := [(8, vI z266355), (7, vI (-1)), (6, vI z266328), (5, vI z266304), (4, vI z266291), (3, vI z266267), (1, vL (H r0 15)), (0, .ref r0)]) rfl rfl rfl ?_)
        refine wp_of e187 c187_142 (rw_iload (pc' := 144) (z := z266355) rfl rfl ?_)
        refine wp_of e187 c187_144 (rw_if_eq (p1 := 157) (p2 := 147) (by decide) rfl ⟨by omega, by omega⟩ (fun c266361 => ?_) (fun c266361 => ?_))
        · refine wp_of e187 c187_157 (rw_iconst (pc' := 158) rfl ?_)
          refine wp_of e187 c187_158 (rw_istore (pc' := 160) (z := 0) (L' := [(9, vI 0), (8, vI z266355), (7, vI (-1)), (6, vI z266328), (5, vI z266304), (4, vI z266291), (3, vI z266267), (1, vL (H r0 15)), (0, .ref r0)]) rfl rfl rfl ?_)
          refine wp_of e187 c187_160 (rw_iload (pc' := 162) (z := z266355) rfl rfl ?_)
          refine wp_of e187 c187_162 (rw_if_eq (p1 := 180) (p2 := 165) (by decide) rfl ⟨by omega, by omega⟩ (fun c266362 => ?_) (fun c266362 => ?_))
          · refine wp_of e187 c187_180 (rw_iconst (pc' := 181) rfl ?_)
            refine wp_of e187 c187_181 (rw_istore (pc' := 183) (z := 0) (L' := [(10, vI 0), (9, vI 0), (8, vI z266355), (7, vI (-1)), (6, vI z266328), (5, vI z266304), (4, vI z266291), (3, vI z266267), (1, vL (H r0 15)), (0, .ref r0)]) rfl rfl rfl ?_)
            refine wp_of e187 c187_183 (rw_aload_n (pc' := 184) (v := .ref r0) rfl rfl rfl ?_)
            refine wp_of e187 c187_184 (rw_ldcS (pc' := 186) (k := 85) rfl rfl rfl rfl ?_)
            refine wp_of e187 c187_186 (xc_V (pc' := 189) (r := r0) (as := [.ref 85]) (st := []) (lm_9_240) rfl rfl (Nat.le_of_ble_eq_true rfl) hW g0 sh_42 (by decide) rfl (by decide) (u_192_o (fo := fo) (po := po) (kk := 56377) hW g0 rfl qrb grb (by decide +kernel) a266359) (fun R266363 T266364 H266365 p266366 => ?_))
            obtain ⟨e266367, e266369, z266370, e266368, b266371, p266372⟩ := p266366
            subst e266367
            subst e266368
            subst e266369
            obtain ⟨a266373, a266374⟩ := p266372
            show wp _ _ 187 189 [(10, vI 0), (9, vI 0), (8, vI z266355), (7, vI (-1)), (6, vI z266328), (5, vI z266304), (4, vI z266291), (3, vI z266267), (1, vL (H r0 15)), (0, .ref r0)] [vI z266370] _ H _
            have u266375 := RO_k a266374
            refine wp_of e187 c187_189 (rw_istore (pc' := 191) (z := z266370) (L' := [(11, vI z266370), (10, vI 0), (9, vI 0), (8, vI z266355), (7, vI (-1)), (6, vI z266328), (5, vI z266304), (4, vI z266291), (3, vI z266267), (1, vL (H r0 15)), (0, .ref r0)]) rfl rfl rfl ?_)
            refine wp_of e187 c187_191 (rw_aload_n (pc' := 192) (v := .ref r0) rfl rfl rfl ?_)
            refine wp_of e187 c187_192 (xg_I (pc' := 195) lf_9_75 hW g0 sh_42 (by decide) (by decide) ty_42_9 rfl rfl (fun b266376 b266377 => ?_))
            refine wp_of e187 c187_195 (rw_iconst (pc' := 196) rfl ?_)
            refine wp_of e187 c187_196 (rw_icmp_ne (p1 := 200) (p2 := 199) (by decide) rfl ⟨by omega, by omega⟩ ⟨by omega, by omega⟩ (fun c266378 => ?_) (fun c266378 => ?_))
            · exfalso
              omega
            · exact wp_return e187 c187_199 rfl ⟨rfl, rfl, rfl, (a266374)⟩
          · exfalso
            omega
        · exfalso
          omega
      · exfalso
        omega
/-! StrikeAwakeModel.readLine()V k -/
abbrev uq_177_k (r0 : Nat) (rp : Nat) (rb : Nat) (B : Nat → Int) (n : Int) (q : Int) (d : xD) (T : wq_T) (H : wq_H) : Option Value → wq_T → wq_H → Prop := fun r T' H' => T = T' ∧ WT T H' ∧ wfr [(54, 0), (54, 1), (54, 2), (54, 3), (54, 4), (54, 5), (54, 6), (54, 7), (54, 8), (42, 8), (42, 9), (42, 10), (42, 11), (42, 12), (42, 13), (42, 14), (42, 15), (42, 16), (42, 17), (42, 18), (64, 999), (65, 999), (56, 999), (57, 999), (66, 999), (60, 999), (63, 999), (58, 999), (59, 999), (55, 999), (61, 999), (62, 999), (72, 999), (71, 999), (67, 999), (68, 999), (69, 999)] T H H' ∧ none = r ∧ ((((xline B n q d).1 = 0) ∧ (q ≤ (xline B n q d).2.2) ∧ (∀ a, a ≠ rp → T.2.2.2 a = some 54 → H' a 3 = H a 3) ∧ RC T H' r0 B n (xline B n q d).2.2 ∧ DM T H' rp r0 (xdline B n q d)) ∨ (((xline B n q d).1 ≠ 0) ∧ (∀ a, a ≠ rp → T.2.2.2 a = some 54 → H' a 3 = H a 3) ∧ RO T H' r0 ((xline B n q d).1) ((xline B n q d).2.1)))
set_option maxHeartbeats 4000000 in
theorem u_177_k {kt : Nat → Option mc_E} {T : wq_T} {H : wq_H} {r0 : Nat} {rp : Nat} {rb : Nat} {B : Nat → Int} {n : Int} {q : Int} {d : xD} (hW : WT T H) (g0 : T.2.2.2 r0 = some 42) (qrp : H r0 4 = (rp : Int)) (grp : T.2.2.2 rp = some 54) (qrb : H r0 5 = (rb : Int)) (grb : T.2.2.2 rb = some 43) (hRC_r0 : RC T H r0 B n q) (hDM_rp : DM T H rp r0 d) : wpc kt 8 177 [.ref r0] T H (uq_177_k r0 rp rb B n q d T H) := by
  refine wp_enter e177 (Nat.le_of_ble_eq_true rfl) rfl ?_
  have f0 : wfr [(54, 0), (54, 1), (54, 2), (54, 3), (54, 4), (54, 5), (54, 6), (54, 7), (54, 8), (42, 8), (42, 9), (42, 10), (42, 11), (42, 12), (42, 13), (42, 14), (42, 15), (42, 16), (42, 17), (42, 18), (64, 999), (65, 999), (56, 999), (57, 999), (66, 999), (60, 999), (63, 999), (58, 999), (59, 999), (55, 999), (61, 999), (62, 999), (72, 999), (71, 999), (67, 999), (68, 999), (69, 999)] T H H := wfr.rf
  show wp _ _ 177 0 [(0, .ref r0)] [] _ H _
  have u266671 := RC_k hRC_r0
  have u266672 := DM_k hDM_rp
  have _r := @xre_r B n q
  refine wp_of e177 c177_0 (rw_aload_n (pc' := 1) (v := .ref r0) rfl rfl rfl ?_)
  refine wp_of e177 c177_1 (rw_ldcS (pc' := 3) (k := 72) rfl rfl rfl rfl ?_)
  refine wp_of e177 c177_3 (xc_V (pc' := 6) (r := r0) (as := [.ref 72]) (st := []) (lm_9_114) rfl rfl (Nat.le_of_ble_eq_true rfl) hW g0 sh_42 (by decide) rfl (by decide) (u_178_k (B := B) (n := n) (q := q) (kk := 12343) hW g0 rfl (by decide +kernel) hRC_r0) (fun R266673 T266674 H266675 p266676 => ?_))
  obtain ⟨e266677, e266679, z266680, e266678, b266681, p266682⟩ := p266676
  subst e266677
  subst e266678
  subst e266679
  rcases p266682 with ⟨a266683, a266684, a266685⟩ | ⟨a266686, a266687⟩
  · show wp _ _ 177 6 [(0, .ref r0)] [vI z266680] _ H _
    have y266688 := xre_y (B := B) (n := n) (q := q) 0 12343 rfl (by decide) (by omega)
    refine wp_of e177 c177_6 (rw_if_eq (p1 := 16) (p2 := 9) (by decide) rfl ⟨by omega, by omega⟩ (fun c266689 => ?_) (fun c266689 => ?_))
    · exfalso
      omega
    · refine wp_of e177 c177_9 (rw_aload_n (pc' := 10) (v := .ref r0) rfl rfl rfl ?_)
      refine wp_of e177 c177_10 (xc_V (pc' := 13) (r := r0) (as := []) (st := []) (lm_9_191) rfl rfl (Nat.le_of_ble_eq_true rfl) hW g0 sh_42 (by decide) rfl (by decide) (u_180_k (B := B) (n := n) (q := q) (d := d) hW g0 qrp grp qrb grb (by omega) hRC_r0 hDM_rp) (fun R266690 T266691 H266692 p266693 => ?_))
      obtain ⟨e266694, w266696, f266697, e266695, p266698⟩ := p266693
      subst e266694
      subst e266695
      rcases p266698 with ⟨a266699, a266700, a266701, a266702, a266703⟩ | ⟨a266704, a266705⟩
      · have f266706 := f0.tr f266697 rfl
        show wp _ _ 177 13 [(0, .ref r0)] [] _ H266692 _
        have u266707 := RC_k a266702
        have u266708 := DM_k a266703
        refine wp_of e177 c177_13 (rw_goto (p1 := 133) (by decide) ?_)
        have o266709 : (xline B n q d) = ((xl0 B n q d).1, (xl0 B n q d).2.1, (xl0 B n q d).2.2) := by
          unfold xline
          repeat first | rw [xs_0 (by omega)] | rw [xs_1 (by omega)] | rw [if_pos (by omega)] | rw [if_neg (by omega)]
          first | done | rfl | assumption | (exfalso; omega) | (refine Prod.ext ?_ (Prod.ext ?_ ?_) <;> (try dsimp only) <;> omega)
        have o266709a : ((xline B n q d)).1 = (xl0 B n q d).1 := by rw [o266709]
        have o266709b : ((xline B n q d)).2.1 = (xl0 B n q d).2.1 := by rw [o266709]
        have o266709c : ((xline B n q d)).2.2 = (xl0 B n q d).2.2 := by rw [o266709]
        have o266710 : xdline B n q d = ((xdlaw B n (xN B n q) d)) := by
          unfold xdline
          repeat first | rw [xs_0 (by omega)] | rw [xs_1 (by omega)] | rw [if_pos (by omega)] | rw [if_neg (by omega)]
          first | done | rfl
        exact wp_return e177 c177_133 rfl ⟨rfl, w266696, f266706, rfl, (Or.inl ⟨by omega, by omega, (fun a ha ga => (f266697 a 3 _ ga rfl)), by rw [show (xline B n q d).2.2 = ((xN B n (xN B n (xN B n (xN B n (xN B n (xN B n (xN B n q)))))))) by omega]; exact a266702, by rw [o266710]; exact a266703⟩)⟩
      · have f266711 := f0.tr f266697 rfl
        show wp _ _ 177 13 [(0, .ref r0)] [] _ H266692 _
        have u266712 := RO_k a266705
        refine wp_of e177 c177_13 (rw_goto (p1 := 133) (by decide) ?_)
        have o266713 : (xline B n q d) = ((xl0 B n q d).1, (xl0 B n q d).2.1, (xl0 B n q d).2.2) := by
          unfold xline
          repeat first | rw [xs_0 (by omega)] | rw [xs_1 (by omega)] | rw [if_pos (by omega)] | rw [if_neg (by omega)]
          first | done | rfl | assumption | (exfalso; omega) | (refine Prod.ext ?_ (Prod.ext ?_ ?_) <;> (try dsimp only) <;> omega)
        have o266713a : ((xline B n q d)).1 = (xl0 B n q d).1 := by rw [o266713]
        have o266713b : ((xline B n q d)).2.1 = (xl0 B n q d).2.1 := by rw [o266713]
        have o266713c : ((xline B n q d)).2.2 = (xl0 B n q d).2.2 := by rw [o266713]
        exact wp_return e177 c177_133 rfl ⟨rfl, w266696, f266711, rfl, (Or.inr ⟨by omega, (fun a ha ga => (f266697 a 3 _ ga rfl)), RO_eq a266705 (by omega) (by omega)⟩)⟩
  · show wp _ _ 177 6 [(0, .ref r0)] [vI z266680] _ H _
    have y266714 := xre_n (B := B) (n := n) (q := q) 0 12343 rfl (by decide) (by omega)
    refine wp_of e177 c177_6 (rw_if_eq (p1 := 16) (p2 := 9) (by decide) rfl ⟨by omega, by omega⟩ (fun c266715 => ?_) (fun c266715 => ?_))
    · refine wp_of e177 c177_16 (rw_aload_n (pc' := 17) (v := .ref r0) rfl rfl rfl ?_)
      refine wp_of e177 c177_17 (rw_ldcS (pc' := 19) (k := 76) rfl rfl rfl rfl ?_)
      refine wp_of e177 c177_19 (xc_V (pc' := 22) (r := r0) (as := [.ref 76]) (st := []) (lm_9_114) rfl rfl (Nat.le_of_ble_eq_true rfl) hW g0 sh_42 (by decide) rfl (by decide) (u_178_k (B := B) (n := n) (q := q) (kk := 542723566) hW g0 rfl (by decide +kernel) hRC_r0) (fun R266716 T266717 H266718 p266719 => ?_))
      obtain ⟨e266720, e266722, z266723, e266721, b266724, p266725⟩ := p266719
      subst e266720
      subst e266721
      subst e266722
      rcases p266725 with ⟨a266726, a266727, a266728⟩ | ⟨a266729, a266730⟩
      · show wp _ _ 177 22 [(0, .ref r0)] [vI z266723] _ H _
        have y266731 := xre_y (B := B) (n := n) (q := q) 1 542723566 rfl (by decide) (by omega)
        refine wp_of e177 c177_22 (rw_if_eq (p1 := 32) (p2 := 25) (by decide) rfl ⟨by omega, by omega⟩ (fun c266732 => ?_) (fun c266732 => ?_))
        · exfalso
          omega
        · refine wp_of e177 c177_25 (rw_aload_n (pc' := 26) (v := .ref r0) rfl rfl rfl ?_)
          refine wp_of e177 c177_26 (xc_V (pc' := 29) (r := r0) (as := []) (st := []) (lm_9_194) rfl rfl (Nat.le_of_ble_eq_true rfl) hW g0 sh_42 (by decide) rfl (by decide) (u_187_k (B := B) (n := n) (q := q) (d := d) hW g0 qrp grp qrb grb (by omega) hRC_r0 hDM_rp) (fun R266733 T266734 H266735 p266736 => ?_))
          obtain ⟨e266737, w266739, f266740, e266738, p266741⟩ := p266736
          subst e266737
          subst e266738
          rcases p266741 with ⟨a266742, a266743, a266744, a266745, a266746⟩ | ⟨a266747, a266748, a266749⟩
          · have f266750 := f0.tr f266740 rfl
            show wp _ _ 177 29 [(0, .ref r0)] [] _ H266735 _
            have u266751 := RC_k a266745
            have u266752 := DM_k a266746
            refine wp_of e177 c177_29 (rw_goto (p1 := 133) (by decide) ?_)
            have o266753 : (xline B n q d) = ((xl1 B n q d).1, (xl1 B n q d).2.1, (xl1 B n q d).2.2) := by
              unfold xline
              repeat first | rw [xs_0 (by omega)] | rw [xs_1 (by omega)] | rw [if_pos (by omega)] | rw [if_neg (by omega)]
              first | done | rfl | assumption | (exfalso; omega) | (refine Prod.ext ?_ (Prod.ext ?_ ?_) <;> (try dsimp only) <;> omega)
            have o266753a : ((xline B n q d)).1 = (xl1 B n q d).1 := by rw [o266753]
            have o266753b : ((xline B n q d)).2.1 = (xl1 B n q d).2.1 := by rw [o266753]
            have o266753c : ((xline B n q d)).2.2 = (xl1 B n q d).2.2 := by rw [o266753]
            have o266754 : xdline B n q d = (xdper B n (xN B n q) d) := by
              unfold xdline
              repeat first | rw [xs_0 (by omega)] | rw [xs_1 (by omega)] | rw [if_pos (by omega)] | rw [if_neg (by omega)]
              first | done | rfl
            exact wp_return e177 c177_133 rfl ⟨rfl, w266739, f266750, rfl, (Or.inl ⟨by omega, by omega, (fun a ha ga => (a266744 a ha ga)), by rw [show (xline B n q d).2.2 = ((xl1 B n q d).2.2) by omega]; exact a266745, by rw [o266754]; exact a266746⟩)⟩
          · have f266755 := f0.tr f266740 rfl
            show wp _ _ 177 29 [(0, .ref r0)] [] _ H266735 _
            have u266756 := RO_k a266749
            refine wp_of e177 c177_29 (rw_goto (p1 := 133) (by decide) ?_)
            have o266757 : (xline B n q d) = ((xl1 B n q d).1, (xl1 B n q d).2.1, (xl1 B n q d).2.2) := by
              unfold xline
              repeat first | rw [xs_0 (by omega)] | rw [xs_1 (by omega)] | rw [if_pos (by omega)] | rw [if_neg (by omega)]
              first | done | rfl | assumption | (exfalso; omega) | (refine Prod.ext ?_ (Prod.ext ?_ ?_) <;> (try dsimp only) <;> omega)
            have o266757a : ((xline B n q d)).1 = (xl1 B n q d).1 := by rw [o266757]
            have o266757b : ((xline B n q d)).2.1 = (xl1 B n q d).2.1 := by rw [o266757]
            have o266757c : ((xline B n q d)).2.2 = (xl1 B n q d).2.2 := by rw [o266757]
            exact wp_return e177 c177_133 rfl ⟨rfl, w266739, f266755, rfl, (Or.inr ⟨by omega, (fun a ha ga => (a266748 a ha ga)), RO_eq a266749 (by omega) (by omega)⟩)⟩
      · show wp _ _ 177 22 [(0, .ref r0)] [vI z266723] _ H _
        have y266758 := xre_n (B := B) (n := n) (q := q) 1 542723566 rfl (by decide) (by omega)
        refine wp_of e177 c177_22 (rw_if_eq (p1 := 32) (p2 := 25) (by decide) rfl ⟨by omega, by omega⟩ (fun c266759 => ?_) (fun c266759 => ?_))
        · refine wp_of e177 c177_32 (rw_aload_n (pc' := 33) (v := .ref r0) rfl rfl rfl ?_)
          refine wp_of e177 c177_33 (rw_ldcS (pc' := 35) (k := 77) rfl rfl rfl rfl ?_)
          refine wp_of e177 c177_35 (xc_V (pc' := 38) (r := r0) (as := [.ref 77]) (st := []) (lm_9_114) rfl rfl (Nat.le_of_ble_eq_true rfl) hW g0 sh_42 (by decide) rfl (by decide) (u_178_k (B := B) (n := n) (q := q) (kk := 643584494) hW g0 rfl (by decide +kernel) hRC_r0) (fun R266760 T266761 H266762 p266763 => ?_))
          obtain ⟨e266764, e266766, z266767, e266765, b266768, p266769⟩ := p266763
          subst e266764
          subst e266765
          subst e266766
          rcases p266769 with ⟨a266770, a266771, a266772⟩ | ⟨a266773, a266774⟩
          · show wp _ _ 177 38 [(0, .ref r0)] [vI z266767] _ H _
            have y266775 := xre_y (B := B) (n := n) (q := q) 2 643584494 rfl (by decide) (by omega)
            refine wp_of e177 c177_38 (rw_if_eq (p1 := 48) (p2 := 41) (by decide) rfl ⟨by omega, by omega⟩ (fun c266776 => ?_) (fun c266776 => ?_))
            · exfalso
              omega
            · refine wp_of e177 c177_41 (rw_aload_n (pc' := 42) (v := .ref r0) rfl rfl rfl ?_)
              refine wp_of e177 c177_42 (xc_V (pc' := 45) (r := r0) (as := []) (st := []) (lm_9_197) rfl rfl (Nat.le_of_ble_eq_true rfl) hW g0 sh_42 (by decide) rfl (by decide) (u_193_k (B := B) (n := n) (q := q) (d := d) hW g0 qrp grp qrb grb (by omega) hRC_r0 hDM_rp) (fun R266777 T266778 H266779 p266780 => ?_))
              obtain ⟨e266781, w266783, f266784, e266782, p266785⟩ := p266780
              subst e266781
              subst e266782
              rcases p266785 with ⟨a266786, a266787, a266788, a266789, a266790⟩ | ⟨a266791, a266792⟩
              · have f266793 := f0.tr f266784 rfl
                show wp _ _ 177 45 [(0, .ref r0)] [] _ H266779 _
                have u266794 := RC_k a266789
                have u266795 := DM_k a266790
                refine wp_of e177 c177_45 (rw_goto (p1 := 133) (by decide) ?_)
                have o266796 : (xline B n q d) = ((xl2 B n q d).1, (xl2 B n q d).2.1, (xl2 B n q d).2.2) := by
                  unfold xline
                  repeat first | rw [xs_0 (by omega)] | rw [xs_1 (by omega)] | rw [if_pos (by omega)] | rw [if_neg (by omega)]
                  first | done | rfl | assumption | (exfalso; omega) | (refine Prod.ext ?_ (Prod.ext ?_ ?_) <;> (try dsimp only) <;> omega)
                have o266796a : ((xline B n q d)).1 = (xl2 B n q d).1 := by rw [o266796]
                have o266796b : ((xline B n q d)).2.1 = (xl2 B n q d).2.1 := by rw [o266796]
                have o266796c : ((xline B n q d)).2.2 = (xl2 B n q d).2.2 := by rw [o266796]
                have o266797 : xdline B n q d = ((xdsex B n (xN B n q) d)) := by
                  unfold xdline
                  repeat first | rw [xs_0 (by omega)] | rw [xs_1 (by omega)] | rw [if_pos (by omega)] | rw [if_neg (by omega)]
                  first | done | rfl
                exact wp_return e177 c177_133 rfl ⟨rfl, w266783, f266793, rfl, (Or.inl ⟨by omega, by omega, (fun a ha ga => (f266784 a 3 _ ga rfl)), by rw [show (xline B n q d).2.2 = ((xN B n (xN B n q))) by omega]; exact a266789, by rw [o266797]; exact a266790⟩)⟩
              · have f266798 := f0.tr f266784 rfl
                show wp _ _ 177 45 [(0, .ref r0)] [] _ H266779 _
                have u266799 := RO_k a266792
                refine wp_of e177 c177_45 (rw_goto (p1 := 133) (by decide) ?_)
                have o266800 : (xline B n q d) = ((xl2 B n q d).1, (xl2 B n q d).2.1, (xl2 B n q d).2.2) := by
                  unfold xline
                  repeat first | rw [xs_0 (by omega)] | rw [xs_1 (by omega)] | rw [if_pos (by omega)] | rw [if_neg (by omega)]
                  first | done | rfl | assumption | (exfalso; omega) | (refine Prod.ext ?_ (Prod.ext ?_ ?_) <;> (try dsimp only) <;> omega)
                have o266800a : ((xline B n q d)).1 = (xl2 B n q d).1 := by rw [o266800]
                have o266800b : ((xline B n q d)).2.1 = (xl2 B n q d).2.1 := by rw [o266800]
                have o266800c : ((xline B n q d)).2.2 = (xl2 B n q d).2.2 := by rw [o266800]
                exact wp_return e177 c177_133 rfl ⟨rfl, w266783, f266798, rfl, (Or.inr ⟨by omega, (fun a ha ga => (f266784 a 3 _ ga rfl)), RO_eq a266792 (by omega) (by omega)⟩)⟩
          · show wp _ _ 177 38 [(0, .ref r0)] [vI z266767] _ H _
            have y266801 := xre_n (B := B) (n := n) (q := q) 2 643584494 rfl (by decide) (by omega)
            refine wp_of e177 c177_38 (rw_if_eq (p1 := 48) (p2 := 41) (by decide) rfl ⟨by omega, by omega⟩ (fun c266802 => ?_) (fun c266802 => ?_))
            · refine wp_of e177 c177_48 (rw_aload_n (pc' := 49) (v := .ref r0) rfl rfl rfl ?_)
              refine wp_of e177 c177_49 (rw_ldcS (pc' := 51) (k := 78) rfl rfl rfl rfl ?_)
              refine wp_of e177 c177_51 (xc_V (pc' := 54) (r := r0) (as := [.ref 78]) (st := []) (lm_9_114) rfl rfl (Nat.le_of_ble_eq_true rfl) hW g0 sh_42 (by decide) rfl (by decide) (u_178_k (B := B) (n := n) (q := q) (kk := 1574484) hW g0 rfl (by decide +kernel) hRC_r0) (fun R266803 T266804 H266805 p266806 => ?_))
              obtain ⟨e266807, e266809, z266810, e266808, b266811, p266812⟩ := p266806
              subst e266807
              subst e266808
              subst e266809
              rcases p266812 with ⟨a266813, a266814, a266815⟩ | ⟨a266816, a266817⟩
              · show wp _ _ 177 54 [(0, .ref r0)] [vI z266810] _ H _
                have y266818 := xre_y (B := B) (n := n) (q := q) 3 1574484 rfl (by decide) (by omega)
                refine wp_of e177 c177_54 (rw_if_eq (p1 := 64) (p2 := 57) (by decide) rfl ⟨by omega, by omega⟩ (fun c266819 => ?_) (fun c266819 => ?_))
                · exfalso
                  omega
                · refine wp_of e177 c177_57 (rw_aload_n (pc' := 58) (v := .ref r0) rfl rfl rfl ?_)
                  refine wp_of e177 c177_58 (xc_V (pc' := 61) (r := r0) (as := []) (st := []) (lm_9_200) rfl rfl (Nat.le_of_ble_eq_true rfl) hW g0 sh_42 (by decide) rfl (by decide) (u_196_k (B := B) (n := n) (q := q) (d := d) hW g0 qrp grp qrb grb (by omega) hRC_r0 hDM_rp) (fun R266820 T266821 H266822 p266823 => ?_))
                  obtain ⟨e266824, w266826, f266827, e266825, p266828⟩ := p266823
                  subst e266824
                  subst e266825
                  rcases p266828 with ⟨a266829, a266830, a266831, a266832, a266833⟩ | ⟨a266834, a266835⟩
                  · have f266836 := f0.tr f266827 rfl
                    show wp _ _ 177 61 [(0, .ref r0)] [] _ H266822 _
                    have u266837 := RC_k a266832
                    have u266838 := DM_k a266833
                    refine wp_of e177 c177_61 (rw_goto (p1 := 133) (by decide) ?_)
                    have o266839 : (xline B n q d) = ((xl3 B n q d).1, (xl3 B n q d).2.1, (xl3 B n q d).2.2) := by
                      unfold xline
                      repeat first | rw [xs_0 (by omega)] | rw [xs_1 (by omega)] | rw [if_pos (by omega)] | rw [if_neg (by omega)]
                      first | done | rfl | assumption | (exfalso; omega) | (refine Prod.ext ?_ (Prod.ext ?_ ?_) <;> (try dsimp only) <;> omega)
                    have o266839a : ((xline B n q d)).1 = (xl3 B n q d).1 := by rw [o266839]
                    have o266839b : ((xline B n q d)).2.1 = (xl3 B n q d).2.1 := by rw [o266839]
                    have o266839c : ((xline B n q d)).2.2 = (xl3 B n q d).2.2 := by rw [o266839]
                    have o266840 : xdline B n q d = ((xdap B n (xN B n q) d)) := by
                      unfold xdline
                      repeat first | rw [xs_0 (by omega)] | rw [xs_1 (by omega)] | rw [if_pos (by omega)] | rw [if_neg (by omega)]
                      first | done | rfl
                    exact wp_return e177 c177_133 rfl ⟨rfl, w266826, f266836, rfl, (Or.inl ⟨by omega, by omega, (fun a ha ga => (f266827 a 3 _ ga rfl)), by rw [show (xline B n q d).2.2 = ((xN B n (xN B n (xN B n (xN B n q))))) by omega]; exact a266832, by rw [o266840]; exact a266833⟩)⟩
                  · have f266841 := f0.tr f266827 rfl
                    show wp _ _ 177 61 [(0, .ref r0)] [] _ H266822 _
                    have u266842 := RO_k a266835
                    refine wp_of e177 c177_61 (rw_goto (p1 := 133) (by decide) ?_)
                    have o266843 : (xline B n q d) = ((xl3 B n q d).1, (xl3 B n q d).2.1, (xl3 B n q d).2.2) := by
                      unfold xline
                      repeat first | rw [xs_0 (by omega)] | rw [xs_1 (by omega)] | rw [if_pos (by omega)] | rw [if_neg (by omega)]
                      first | done | rfl | assumption | (exfalso; omega) | (refine Prod.ext ?_ (Prod.ext ?_ ?_) <;> (try dsimp only) <;> omega)
                    have o266843a : ((xline B n q d)).1 = (xl3 B n q d).1 := by rw [o266843]
                    have o266843b : ((xline B n q d)).2.1 = (xl3 B n q d).2.1 := by rw [o266843]
                    have o266843c : ((xline B n q d)).2.2 = (xl3 B n q d).2.2 := by rw [o266843]
                    exact wp_return e177 c177_133 rfl ⟨rfl, w266826, f266841, rfl, (Or.inr ⟨by omega, (fun a ha ga => (f266827 a 3 _ ga rfl)), RO_eq a266835 (by omega) (by omega)⟩)⟩
              · show wp _ _ 177 54 [(0, .ref r0)] [vI z266810] _ H _
                have y266844 := xre_n (B := B) (n := n) (q := q) 3 1574484 rfl (by decide) (by omega)
                refine wp_of e177 c177_54 (rw_if_eq (p1 := 64) (p2 := 57) (by decide) rfl ⟨by omega, by omega⟩ (fun c266845 => ?_) (fun c266845 => ?_))
                · refine wp_of e177 c177_64 (rw_aload_n (pc' := 65) (v := .ref r0) rfl rfl rfl ?_)
                  refine wp_of e177 c177_65 (rw_ldcS (pc' := 67) (k := 79) rfl rfl rfl rfl ?_)
                  refine wp_of e177 c177_67 (xc_V (pc' := 70) (r := r0) (as := [.ref 79]) (st := []) (lm_9_114) rfl rfl (Nat.le_of_ble_eq_true rfl) hW g0 sh_42 (by decide) rfl (by decide) (u_178_k (B := B) (n := n) (q := q) (kk := 81486) hW g0 rfl (by decide +kernel) hRC_r0) (fun R266846 T266847 H266848 p266849 => ?_))
                  obtain ⟨e266850, e266852, z266853, e266851, b266854, p266855⟩ := p266849
                  subst e266850
                  subst e266851
                  subst e266852
                  rcases p266855 with ⟨a266856, a266857, a266858⟩ | ⟨a266859, a266860⟩
                  · show wp _ _ 177 70 [(0, .ref r0)] [vI z266853] _ H _
                    have y266861 := xre_y (B := B) (n := n) (q := q) 4 81486 rfl (by decide) (by omega)
                    refine wp_of e177 c177_70 (rw_if_eq (p1 := 80) (p2 := 73) (by decide) rfl ⟨by omega, by omega⟩ (fun c266862 => ?_) (fun c266862 => ?_))
                    · exfalso
                      omega
                    · refine wp_of e177 c177_73 (rw_aload_n (pc' := 74) (v := .ref r0) rfl rfl rfl ?_)
                      refine wp_of e177 c177_74 (xc_V (pc' := 77) (r := r0) (as := []) (st := []) (lm_9_203) rfl rfl (Nat.le_of_ble_eq_true rfl) hW g0 sh_42 (by decide) rfl (by decide) (u_198_k (B := B) (n := n) (q := q) (d := d) hW g0 qrp grp qrb grb (by omega) hRC_r0 hDM_rp) (fun R266863 T266864 H266865 p266866 => ?_))
                      obtain ⟨e266867, w266869, f266870, e266868, p266871⟩ := p266866
                      subst e266867
                      subst e266868
                      rcases p266871 with ⟨a266872, a266873, a266874, a266875, a266876⟩ | ⟨a266877, a266878⟩
                      · have f266879 := f0.tr f266870 rfl
                        show wp _ _ 177 77 [(0, .ref r0)] [] _ H266865 _
                        have u266880 := RC_k a266875
                        have u266881 := DM_k a266876
                        refine wp_of e177 c177_77 (rw_goto (p1 := 133) (by decide) ?_)
                        have o266882 : (xline B n q d) = ((xl4 B n q d).1, (xl4 B n q d).2.1, (xl4 B n q d).2.2) := by
                          unfold xline
                          repeat first | rw [xs_0 (by omega)] | rw [xs_1 (by omega)] | rw [if_pos (by omega)] | rw [if_neg (by omega)]
                          first | done | rfl | assumption | (exfalso; omega) | (refine Prod.ext ?_ (Prod.ext ?_ ?_) <;> (try dsimp only) <;> omega)
                        have o266882a : ((xline B n q d)).1 = (xl4 B n q d).1 := by rw [o266882]
                        have o266882b : ((xline B n q d)).2.1 = (xl4 B n q d).2.1 := by rw [o266882]
                        have o266882c : ((xline B n q d)).2.2 = (xl4 B n q d).2.2 := by rw [o266882]
                        have o266883 : xdline B n q d = ((xdbo B n (xN B n q) d)) := by
                          unfold xdline
                          repeat first | rw [xs_0 (by omega)] | rw [xs_1 (by omega)] | rw [if_pos (by omega)] | rw [if_neg (by omega)]
                          first | done | rfl
                        exact wp_return e177 c177_133 rfl ⟨rfl, w266869, f266879, rfl, (Or.inl ⟨by omega, by omega, (fun a ha ga => (f266870 a 3 _ ga rfl)), by rw [show (xline B n q d).2.2 = ((xN B n (xN B n q))) by omega]; exact a266875, by rw [o266883]; exact a266876⟩)⟩
                      · have f266884 := f0.tr f266870 rfl
                        show wp _ _ 177 77 [(0, .ref r0)] [] _ H266865 _
                        have u266885 := RO_k a266878
                        refine wp_of e177 c177_77 (rw_goto (p1 := 133) (by decide) ?_)
                        have o266886 : (xline B n q d) = ((xl4 B n q d).1, (xl4 B n q d).2.1, (xl4 B n q d).2.2) := by
                          unfold xline
                          repeat first | rw [xs_0 (by omega)] | rw [xs_1 (by omega)] | rw [if_pos (by omega)] | rw [if_neg (by omega)]
                          first | done | rfl | assumption | (exfalso; omega) | (refine Prod.ext ?_ (Prod.ext ?_ ?_) <;> (try dsimp only) <;> omega)
                        have o266886a : ((xline B n q d)).1 = (xl4 B n q d).1 := by rw [o266886]
                        have o266886b : ((xline B n q d)).2.1 = (xl4 B n q d).2.1 := by rw [o266886]
                        have o266886c : ((xline B n q d)).2.2 = (xl4 B n q d).2.2 := by rw [o266886]
                        exact wp_return e177 c177_133 rfl ⟨rfl, w266869, f266884, rfl, (Or.inr ⟨by omega, (fun a ha ga => (f266870 a 3 _ ga rfl)), RO_eq a266878 (by omega) (by omega)⟩)⟩
                  · show wp _ _ 177 70 [(0, .ref r0)] [vI z266853] _ H _
                    have y266887 := xre_n (B := B) (n := n) (q := q) 4 81486 rfl (by decide) (by omega)
                    refine wp_of e177 c177_70 (rw_if_eq (p1 := 80) (p2 := 73) (by decide) rfl ⟨by omega, by omega⟩ (fun c266888 => ?_) (fun c266888 => ?_))
                    · refine wp_of e177 c177_80 (rw_aload_n (pc' := 81) (v := .ref r0) rfl rfl rfl ?_)
                      refine wp_of e177 c177_81 (rw_ldcS (pc' := 83) (k := 80) rfl rfl rfl rfl ?_)
                      refine wp_of e177 c177_83 (xc_V (pc' := 86) (r := r0) (as := [.ref 80]) (st := []) (lm_9_114) rfl rfl (Nat.le_of_ble_eq_true rfl) hW g0 sh_42 (by decide) rfl (by decide) (u_178_k (B := B) (n := n) (q := q) (kk := 659117163) hW g0 rfl (by decide +kernel) hRC_r0) (fun R266889 T266890 H266891 p266892 => ?_))
                      obtain ⟨e266893, e266895, z266896, e266894, b266897, p266898⟩ := p266892
                      subst e266893
                      subst e266894
                      subst e266895
                      rcases p266898 with ⟨a266899, a266900, a266901⟩ | ⟨a266902, a266903⟩
                      · show wp _ _ 177 86 [(0, .ref r0)] [vI z266896] _ H _
                        have y266904 := xre_y (B := B) (n := n) (q := q) 5 659117163 rfl (by decide) (by omega)
                        refine wp_of e177 c177_86 (rw_if_eq (p1 := 96) (p2 := 89) (by decide) rfl ⟨by omega, by omega⟩ (fun c266905 => ?_) (fun c266905 => ?_))
                        · exfalso
                          omega
                        · refine wp_of e177 c177_89 (rw_aload_n (pc' := 90) (v := .ref r0) rfl rfl rfl ?_)
                          refine wp_of e177 c177_90 (xc_V (pc' := 93) (r := r0) (as := []) (st := []) (lm_9_206) rfl rfl (Nat.le_of_ble_eq_true rfl) hW g0 sh_42 (by decide) rfl (by decide) (u_199_k (B := B) (n := n) (q := q) (d := d) hW g0 qrp grp qrb grb (by omega) hRC_r0 hDM_rp) (fun R266906 T266907 H266908 p266909 => ?_))
                          obtain ⟨e266910, w266912, f266913, e266911, p266914⟩ := p266909
                          subst e266910
                          subst e266911
                          rcases p266914 with ⟨a266915, a266916, a266917, a266918, a266919⟩ | ⟨a266920, a266921⟩
                          · have f266922 := f0.tr f266913 rfl
                            show wp _ _ 177 93 [(0, .ref r0)] [] _ H266908 _
                            have u266923 := RC_k a266918
                            have u266924 := DM_k a266919
                            refine wp_of e177 c177_93 (rw_goto (p1 := 133) (by decide) ?_)
                            have o266925 : (xline B n q d) = ((xl5 B n q d).1, (xl5 B n q d).2.1, (xl5 B n q d).2.2) := by
                              unfold xline
                              repeat first | rw [xs_0 (by omega)] | rw [xs_1 (by omega)] | rw [if_pos (by omega)] | rw [if_neg (by omega)]
                              first | done | rfl | assumption | (exfalso; omega) | (refine Prod.ext ?_ (Prod.ext ?_ ?_) <;> (try dsimp only) <;> omega)
                            have o266925a : ((xline B n q d)).1 = (xl5 B n q d).1 := by rw [o266925]
                            have o266925b : ((xline B n q d)).2.1 = (xl5 B n q d).2.1 := by rw [o266925]
                            have o266925c : ((xline B n q d)).2.2 = (xl5 B n q d).2.2 := by rw [o266925]
                            have o266926 : xdline B n q d = ((xdst B n (xN B n q) d)) := by
                              unfold xdline
                              repeat first | rw [xs_0 (by omega)] | rw [xs_1 (by omega)] | rw [if_pos (by omega)] | rw [if_neg (by omega)]
                              first | done | rfl
                            exact wp_return e177 c177_133 rfl ⟨rfl, w266912, f266922, rfl, (Or.inl ⟨by omega, by omega, (fun a ha ga => (f266913 a 3 _ ga rfl)), by rw [show (xline B n q d).2.2 = ((xN B n (xN B n (xN B n (xN B n q))))) by omega]; exact a266918, by rw [o266926]; exact a266919⟩)⟩
                          · have f266927 := f0.tr f266913 rfl
                            show wp _ _ 177 93 [(0, .ref r0)] [] _ H266908 _
                            have u266928 := RO_k a266921
                            refine wp_of e177 c177_93 (rw_goto (p1 := 133) (by decide) ?_)
                            have o266929 : (xline B n q d) = ((xl5 B n q d).1, (xl5 B n q d).2.1, (xl5 B n q d).2.2) := by
                              unfold xline
                              repeat first | rw [xs_0 (by omega)] | rw [xs_1 (by omega)] | rw [if_pos (by omega)] | rw [if_neg (by omega)]
                              first | done | rfl | assumption | (exfalso; omega) | (refine Prod.ext ?_ (Prod.ext ?_ ?_) <;> (try dsimp only) <;> omega)
                            have o266929a : ((xline B n q d)).1 = (xl5 B n q d).1 := by rw [o266929]
                            have o266929b : ((xline B n q d)).2.1 = (xl5 B n q d).2.1 := by rw [o266929]
                            have o266929c : ((xline B n q d)).2.2 = (xl5 B n q d).2.2 := by rw [o266929]
                            exact wp_return e177 c177_133 rfl ⟨rfl, w266912, f266927, rfl, (Or.inr ⟨by omega, (fun a ha ga => (f266913 a 3 _ ga rfl)), RO_eq a266921 (by omega) (by omega)⟩)⟩
                      · show wp _ _ 177 86 [(0, .ref r0)] [vI z266896] _ H _
                        have y266930 := xre_n (B := B) (n := n) (q := q) 5 659117163 rfl (by decide) (by omega)
                        refine wp_of e177 c177_86 (rw_if_eq (p1 := 96) (p2 := 89) (by decide) rfl ⟨by omega, by omega⟩ (fun c266931 => ?_) (fun c266931 => ?_))
                        · refine wp_of e177 c177_96 (rw_aload_n (pc' := 97) (v := .ref r0) rfl rfl rfl ?_)
                          refine wp_of e177 c177_97 (rw_ldcS (pc' := 99) (k := 81) rfl rfl rfl rfl ?_)
                          refine wp_of e177 c177_99 (xc_V (pc' := 102) (r := r0) (as := [.ref 81]) (st := []) (lm_9_114) rfl rfl (Nat.le_of_ble_eq_true rfl) hW g0 sh_42 (by decide) rfl (by decide) (u_178_k (B := B) (n := n) (q := q) (kk := 671108) hW g0 rfl (by decide +kernel) hRC_r0) (fun R266932 T266933 H266934 p266935 => ?_))
                          obtain ⟨e266936, e266938, z266939, e266937, b266940, p266941⟩ := p266935
                          subst e266936
                          subst e266937
                          subst e266938
                          rcases p266941 with ⟨a266942, a266943, a266944⟩ | ⟨a266945, a266946⟩
                          · show wp _ _ 177 102 [(0, .ref r0)] [vI z266939] _ H _
                            have y266947 := xre_y (B := B) (n := n) (q := q) 6 671108 rfl (by decide) (by omega)
                            refine wp_of e177 c177_102 (rw_if_eq (p1 := 112) (p2 := 105) (by decide) rfl ⟨by omega, by omega⟩ (fun c266948 => ?_) (fun c266948 => ?_))
                            · exfalso
                              omega
                            · refine wp_of e177 c177_105 (rw_aload_n (pc' := 106) (v := .ref r0) rfl rfl rfl ?_)
                              refine wp_of e177 c177_106 (xc_V (pc' := 109) (r := r0) (as := []) (st := []) (lm_9_209) rfl rfl (Nat.le_of_ble_eq_true rfl) hW g0 sh_42 (by decide) rfl (by decide) (u_200_k (B := B) (n := n) (q := q) (d := d) hW g0 qrp grp qrb grb (by omega) hRC_r0 hDM_rp) (fun R266949 T266950 H266951 p266952 => ?_))
                              obtain ⟨e266953, w266955, f266956, e266954, p266957⟩ := p266952
                              subst e266953
                              subst e266954
                              rcases p266957 with ⟨a266958, a266959, a266960, a266961, a266962⟩ | ⟨a266963, a266964⟩
                              · have f266965 := f0.tr f266956 rfl
                                show wp _ _ 177 109 [(0, .ref r0)] [] _ H266951 _
                                have u266966 := RC_k a266961
                                have u266967 := DM_k a266962
                                refine wp_of e177 c177_109 (rw_goto (p1 := 133) (by decide) ?_)
                                have o266968 : (xline B n q d) = ((xl6 B n q d).1, (xl6 B n q d).2.1, (xl6 B n q d).2.2) := by
                                  unfold xline
                                  repeat first | rw [xs_0 (by omega)] | rw [xs_1 (by omega)] | rw [if_pos (by omega)] | rw [if_neg (by omega)]
                                  first | done | rfl | assumption | (exfalso; omega) | (refine Prod.ext ?_ (Prod.ext ?_ ?_) <;> (try dsimp only) <;> omega)
                                have o266968a : ((xline B n q d)).1 = (xl6 B n q d).1 := by rw [o266968]
                                have o266968b : ((xline B n q d)).2.1 = (xl6 B n q d).2.1 := by rw [o266968]
                                have o266968c : ((xline B n q d)).2.2 = (xl6 B n q d).2.2 := by rw [o266968]
                                have o266969 : xdline B n q d = ((xdtl B n (xN B n q) d)) := by
                                  unfold xdline
                                  repeat first | rw [xs_0 (by omega)] | rw [xs_1 (by omega)] | rw [if_pos (by omega)] | rw [if_neg (by omega)]
                                  first | done | rfl
                                exact wp_return e177 c177_133 rfl ⟨rfl, w266955, f266965, rfl, (Or.inl ⟨by omega, by omega, (fun a ha ga => (f266956 a 3 _ ga rfl)), by rw [show (xline B n q d).2.2 = ((xN B n (xN B n (xN B n (xN B n (xN B n q)))))) by omega]; exact a266961, by rw [o266969]; exact a266962⟩)⟩
                              · have f266970 := f0.tr f266956 rfl
                                show wp _ _ 177 109 [(0, .ref r0)] [] _ H266951 _
                                have u266971 := RO_k a266964
                                refine wp_of e177 c177_109 (rw_goto (p1 := 133) (by decide) ?_)
                                have o266972 : (xline B n q d) = ((xl6 B n q d).1, (xl6 B n q d).2.1, (xl6 B n q d).2.2) := by
                                  unfold xline
                                  repeat first | rw [xs_0 (by omega)] | rw [xs_1 (by omega)] | rw [if_pos (by omega)] | rw [if_neg (by omega)]
                                  first | done | rfl | assumption | (exfalso; omega) | (refine Prod.ext ?_ (Prod.ext ?_ ?_) <;> (try dsimp only) <;> omega)
                                have o266972a : ((xline B n q d)).1 = (xl6 B n q d).1 := by rw [o266972]
                                have o266972b : ((xline B n q d)).2.1 = (xl6 B n q d).2.1 := by rw [o266972]
                                have o266972c : ((xline B n q d)).2.2 = (xl6 B n q d).2.2 := by rw [o266972]
                                exact wp_return e177 c177_133 rfl ⟨rfl, w266955, f266970, rfl, (Or.inr ⟨by omega, (fun a ha ga => (f266956 a 3 _ ga rfl)), RO_eq a266964 (by omega) (by omega)⟩)⟩
                          · show wp _ _ 177 102 [(0, .ref r0)] [vI z266939] _ H _
                            have y266973 := xre_n (B := B) (n := n) (q := q) 6 671108 rfl (by decide) (by omega)
                            refine wp_of e177 c177_102 (rw_if_eq (p1 := 112) (p2 := 105) (by decide) rfl ⟨by omega, by omega⟩ (fun c266974 => ?_) (fun c266974 => ?_))
                            · refine wp_of e177 c177_112 (rw_aload_n (pc' := 113) (v := .ref r0) rfl rfl rfl ?_)
                              refine wp_of e177 c177_113 (rw_ldcS (pc' := 115) (k := 82) rfl rfl rfl rfl ?_)
                              refine wp_of e177 c177_115 (xc_V (pc' := 118) (r := r0) (as := [.ref 82]) (st := []) (lm_9_114) rfl rfl (Nat.le_of_ble_eq_true rfl) hW g0 sh_42 (by decide) rfl (by decide) (u_178_k (B := B) (n := n) (q := q) (kk := 15931570) hW g0 rfl (by decide +kernel) hRC_r0) (fun R266975 T266976 H266977 p266978 => ?_))
                              obtain ⟨e266979, e266981, z266982, e266980, b266983, p266984⟩ := p266978
                              subst e266979
                              subst e266980
                              subst e266981
                              rcases p266984 with ⟨a266985, a266986, a266987⟩ | ⟨a266988, a266989⟩
                              · show wp _ _ 177 118 [(0, .ref r0)] [vI z266982] _ H _
                                have y266990 := xre_y (B := B) (n := n) (q := q) 7 15931570 rfl (by decide) (by omega)
                                refine wp_of e177 c177_118 (rw_if_eq (p1 := 128) (p2 := 121) (by decide) rfl ⟨by omega, by omega⟩ (fun c266991 => ?_) (fun c266991 => ?_))
                                · exfalso
                                  omega
                                · refine wp_of e177 c177_121 (rw_aload_n (pc' := 122) (v := .ref r0) rfl rfl rfl ?_)
                                  refine wp_of e177 c177_122 (xc_V (pc' := 125) (r := r0) (as := []) (st := []) (lm_9_212) rfl rfl (Nat.le_of_ble_eq_true rfl) hW g0 sh_42 (by decide) rfl (by decide) (u_203_k (B := B) (n := n) (q := q) (d := d) hW g0 qrp grp qrb grb (by omega) hRC_r0 hDM_rp) (fun R266992 T266993 H266994 p266995 => ?_))
                                  obtain ⟨e266996, w266998, f266999, e266997, p267000⟩ := p266995
                                  subst e266996
                                  subst e266997
                                  rcases p267000 with ⟨a267001, a267002, a267003, a267004, a267005⟩ | ⟨a267006, a267007⟩
                                  · have f267008 := f0.tr f266999 rfl
                                    show wp _ _ 177 125 [(0, .ref r0)] [] _ H266994 _
                                    have u267009 := RC_k a267004
                                    have u267010 := DM_k a267005
                                    refine wp_of e177 c177_125 (rw_goto (p1 := 133) (by decide) ?_)
                                    have o267011 : (xline B n q d) = ((xl7 B n q d).1, (xl7 B n q d).2.1, (xl7 B n q d).2.2) := by
                                      unfold xline
                                      repeat first | rw [xs_0 (by omega)] | rw [xs_1 (by omega)] | rw [if_pos (by omega)] | rw [if_neg (by omega)]
                                      first | done | rfl | assumption | (exfalso; omega) | (refine Prod.ext ?_ (Prod.ext ?_ ?_) <;> (try dsimp only) <;> omega)
                                    have o267011a : ((xline B n q d)).1 = (xl7 B n q d).1 := by rw [o267011]
                                    have o267011b : ((xline B n q d)).2.1 = (xl7 B n q d).2.1 := by rw [o267011]
                                    have o267011c : ((xline B n q d)).2.2 = (xl7 B n q d).2.2 := by rw [o267011]
                                    have o267012 : xdline B n q d = ((xdof B n (xN B n q) d)) := by
                                      unfold xdline
                                      repeat first | rw [xs_0 (by omega)] | rw [xs_1 (by omega)] | rw [if_pos (by omega)] | rw [if_neg (by omega)]
                                      first | done | rfl
                                    exact wp_return e177 c177_133 rfl ⟨rfl, w266998, f267008, rfl, (Or.inl ⟨by omega, by omega, (fun a ha ga => (f266999 a 3 _ ga rfl)), by rw [show (xline B n q d).2.2 = ((xN B n (xN B n (xN B n (xN B n (xN B n q)))))) by omega]; exact a267004, by rw [o267012]; exact a267005⟩)⟩
                                  · have f267013 := f0.tr f266999 rfl
                                    show wp _ _ 177 125 [(0, .ref r0)] [] _ H266994 _
                                    have u267014 := RO_k a267007
                                    refine wp_of e177 c177_125 (rw_goto (p1 := 133) (by decide) ?_)
                                    have o267015 : (xline B n q d) = ((xl7 B n q d).1, (xl7 B n q d).2.1, (xl7 B n q d).2.2) := by
                                      unfold xline
                                      repeat first | rw [xs_0 (by omega)] | rw [xs_1 (by omega)] | rw [if_pos (by omega)] | rw [if_neg (by omega)]
                                      first | done | rfl | assumption | (exfalso; omega) | (refine Prod.ext ?_ (Prod.ext ?_ ?_) <;> (try dsimp only) <;> omega)
                                    have o267015a : ((xline B n q d)).1 = (xl7 B n q d).1 := by rw [o267015]
                                    have o267015b : ((xline B n q d)).2.1 = (xl7 B n q d).2.1 := by rw [o267015]
                                    have o267015c : ((xline B n q d)).2.2 = (xl7 B n q d).2.2 := by rw [o267015]
                                    exact wp_return e177 c177_133 rfl ⟨rfl, w266998, f267013, rfl, (Or.inr ⟨by omega, (fun a ha ga => (f266999 a 3 _ ga rfl)), RO_eq a267007 (by omega) (by omega)⟩)⟩
                              · show wp _ _ 177 118 [(0, .ref r0)] [vI z266982] _ H _
                                have y267016 := xre_n (B := B) (n := n) (q := q) 7 15931570 rfl (by decide) (by omega)
                                refine wp_of e177 c177_118 (rw_if_eq (p1 := 128) (p2 := 121) (by decide) rfl ⟨by omega, by omega⟩ (fun c267017 => ?_) (fun c267017 => ?_))
                                · refine wp_of e177 c177_128 (rw_aload_n (pc' := 129) (v := .ref r0) rfl rfl rfl ?_)
                                  refine wp_of e177 c177_129 (rw_iconst (pc' := 130) rfl ?_)
                                  refine wp_of e177 c177_130 (xc_V (pc' := 133) (r := r0) (as := [vI 1]) (st := []) (lm_9_121) rfl rfl (Nat.le_of_ble_eq_true rfl) hW g0 sh_42 (by decide) rfl (by decide) (u_181_k (B := B) (n := n) (q := q) hW g0 ⟨by omega, by omega⟩ (by omega) hRC_r0) (fun R267018 T267019 H267020 p267021 => ?_))
                                  obtain ⟨e267022, w267024, f267025, e267023, p267026⟩ := p267021
                                  subst e267022
                                  subst e267023
                                  have f267028 := f0.tr f267025 rfl
                                  show wp _ _ 177 133 [(0, .ref r0)] [] _ H267020 _
                                  have u267029 := RO_k p267026
                                  have o267030 : (xline B n q d) = (1, q, q) := by
                                    unfold xline
                                    repeat first | rw [xs_0 (by omega)] | rw [xs_1 (by omega)] | rw [if_pos (by omega)] | rw [if_neg (by omega)]
                                    first | done | rfl | assumption | (exfalso; omega) | (refine Prod.ext ?_ (Prod.ext ?_ ?_) <;> (try dsimp only) <;> omega)
                                  have o267030a : ((xline B n q d)).1 = 1 := by rw [o267030]
                                  have o267030b : ((xline B n q d)).2.1 = q := by rw [o267030]
                                  have o267030c : ((xline B n q d)).2.2 = q := by rw [o267030]
                                  exact wp_return e177 c177_133 rfl ⟨rfl, w267024, f267028, rfl, (Or.inr ⟨by omega, (fun a ha ga => (f267025 a 3 _ ga rfl)), RO_eq p267026 (by omega) (by omega)⟩)⟩
                                · exfalso
                                  omega
                            · exfalso
                              omega
                        · exfalso
                          omega
                    · exfalso
                      omega
                · exfalso
                  omega
            · exfalso
              omega
        · exfalso
          omega
    · exfalso
      omega
/-! StrikeAwakeModel.readLine()V o -/
abbrev uq_177_o (r0 : Nat) (rp : Nat) (rb : Nat) (fo : Int) (po : Int) (T : wq_T) (H : wq_H) : Option Value → wq_T → wq_H → Prop := fun r T' H' => T = T' ∧ H = H' ∧ none = r ∧ ((RO T H r0 fo po))
set_option maxHeartbeats 4000000 in
theorem u_177_o {kt : Nat → Option mc_E} {T : wq_T} {H : wq_H} {r0 : Nat} {rp : Nat} {rb : Nat} {fo : Int} {po : Int} (hW : WT T H) (g0 : T.2.2.2 r0 = some 42) (qrp : H r0 4 = (rp : Int)) (grp : T.2.2.2 rp = some 54) (qrb : H r0 5 = (rb : Int)) (grb : T.2.2.2 rb = some 43) (hRO_r0 : RO T H r0 fo po) : wpc kt 8 177 [.ref r0] T H (uq_177_o r0 rp rb fo po T H) := by
  refine wp_enter e177 (Nat.le_of_ble_eq_true rfl) rfl ?_
  show wp _ _ 177 0 [(0, .ref r0)] [] _ H _
  have u267136 := RO_k hRO_r0
  refine wp_of e177 c177_0 (rw_aload_n (pc' := 1) (v := .ref r0) rfl rfl rfl ?_)
  refine wp_of e177 c177_1 (rw_ldcS (pc' := 3) (k := 72) rfl rfl rfl rfl ?_)
  refine wp_of e177 c177_3 (xc_V (pc' := 6) (r := r0) (as := [.ref 72]) (st := []) (lm_9_114) rfl rfl (Nat.le_of_ble_eq_true rfl) hW g0 sh_42 (by decide) rfl (by decide) (u_178_o (fo := fo) (po := po) (kk := 12343) hW g0 rfl (by decide +kernel) hRO_r0) (fun R267137 T267138 H267139 p267140 => ?_))
  obtain ⟨e267141, e267143, z267144, e267142, b267145, p267146⟩ := p267140
  subst e267141
  subst e267142
  subst e267143
  show wp _ _ 177 6 [(0, .ref r0)] [vI z267144] _ H _
  refine wp_of e177 c177_6 (rw_if_eq (p1 := 16) (p2 := 9) (by decide) rfl ⟨by omega, by omega⟩ (fun c267148 => ?_) (fun c267148 => ?_))
  · refine wp_of e177 c177_16 (rw_aload_n (pc' := 17) (v := .ref r0) rfl rfl rfl ?_)
    refine wp_of e177 c177_17 (rw_ldcS (pc' := 19) (k := 76) rfl rfl rfl rfl ?_)
    refine wp_of e177 c177_19 (xc_V (pc' := 22) (r := r0) (as := [.ref 76]) (st := []) (lm_9_114) rfl rfl (Nat.le_of_ble_eq_true rfl) hW g0 sh_42 (by decide) rfl (by decide) (u_178_o (fo := fo) (po := po) (kk := 542723566) hW g0 rfl (by decide +kernel) hRO_r0) (fun R267149 T267150 H267151 p267152 => ?_))
    obtain ⟨e267153, e267155, z267156, e267154, b267157, p267158⟩ := p267152
    subst e267153
    subst e267154
    subst e267155
    show wp _ _ 177 22 [(0, .ref r0)] [vI z267156] _ H _
    refine wp_of e177 c177_22 (rw_if_eq (p1 := 32) (p2 := 25) (by decide) rfl ⟨by omega, by omega⟩ (fun c267160 => ?_) (fun c267160 => ?_))
    · refine wp_of e177 c177_32 (rw_aload_n (pc' := 33) (v := .ref r0) rfl rfl rfl ?_)
      refine wp_of e177 c177_33 (rw_ldcS (pc' := 35) (k := 77) rfl rfl rfl rfl ?_)
      refine wp_of e177 c177_35 (xc_V (pc' := 38) (r := r0) (as := [.ref 77]) (st := []) (lm_9_114) rfl rfl (Nat.le_of_ble_eq_true rfl) hW g0 sh_42 (by decide) rfl (by decide) (u_178_o (fo := fo) (po := po) (kk := 643584494) hW g0 rfl (by decide +kernel) hRO_r0) (fun R267161 T267162 H267163 p267164 => ?_))
      obtain ⟨e267165, e267167, z267168, e267166, b267169, p267170⟩ := p267164
      subst e267165
      subst e267166
      subst e267167
      show wp _ _ 177 38 [(0, .ref r0)] [vI z267168] _ H _
      refine wp_of e177 c177_38 (rw_if_eq (p1 := 48) (p2 := 41) (by decide) rfl ⟨by omega, by omega⟩ (fun c267172 => ?_) (fun c267172 => ?_))
      · refine wp_of e177 c177_48 (rw_aload_n (pc' := 49) (v := .ref r0) rfl rfl rfl ?_)
        refine wp_of e177 c177_49 (rw_ldcS (pc' := 51) (k := 78) rfl rfl rfl rfl ?_)
        refine wp_of e177 c177_51 (xc_V (pc' := 54) (r := r0) (as := [.ref 78]) (st := []) (lm_9_114) rfl rfl (Nat.le_of_ble_eq_true rfl) hW g0 sh_42 (by decide) rfl (by decide) (u_178_o (fo := fo) (po := po) (kk := 1574484) hW g0 rfl (by decide +kernel) hRO_r0) (fun R267173 T267174 H267175 p267176 => ?_))
        obtain ⟨e267177, e267179, z267180, e267178, b267181, p267182⟩ := p267176
        subst e267177
        subst e267178
        subst e267179
        show wp _ _ 177 54 [(0, .ref r0)] [vI z267180] _ H _
        refine wp_of e177 c177_54 (rw_if_eq (p1 := 64) (p2 := 57) (by decide) rfl ⟨by omega, by omega⟩ (fun c267184 => ?_) (fun c267184 => ?_))
        · refine wp_of e177 c177_64 (rw_aload_n (pc' := 65) (v := .ref r0) rfl rfl rfl ?_)
          refine wp_of e177 c177_65 (rw_ldcS (pc' := 67) (k := 79) rfl rfl rfl rfl ?_)
          refine wp_of e177 c177_67 (xc_V (pc' := 70) (r := r0) (as := [.ref 79]) (st := []) (lm_9_114) rfl rfl (Nat.le_of_ble_eq_true rfl) hW g0 sh_42 (by decide) rfl (by decide) (u_178_o (fo := fo) (po := po) (kk := 81486) hW g0 rfl (by decide +kernel) hRO_r0) (fun R267185 T267186 H267187 p267188 => ?_))
          obtain ⟨e267189, e267191, z267192, e267190, b267193, p267194⟩ := p267188
          subst e267189
          subst e267190
          subst e267191
          show wp _ _ 177 70 [(0, .ref r0)] [vI z267192] _ H _
          refine wp_of e177 c177_70 (rw_if_eq (p1 := 80) (p2 := 73) (by decide) rfl ⟨by omega, by omega⟩ (fun c267196 => ?_) (fun c267196 => ?_))
          · refine wp_of e177 c177_80 (rw_aload_n (pc' := 81) (v := .ref r0) rfl rfl rfl ?_)
            refine wp_of e177 c177_81 (rw_ldcS (pc' := 83) (k := 80) rfl rfl rfl rfl ?_)
            refine wp_of e177 c177_83 (xc_V (pc' := 86) (r := r0) (as := [.ref 80]) (st := []) (lm_9_114) rfl rfl (Nat.le_of_ble_eq_true rfl) hW g0 sh_42 (by decide) rfl (by decide) (u_178_o (fo := fo) (po := po) (kk := 659117163) hW g0 rfl (by decide +kernel) hRO_r0) (fun R267197 T267198 H267199 p267200 => ?_))
            obtain ⟨e267201, e267203, z267204, e267202, b267205, p267206⟩ := p267200
            subst e267201
            subst e267202
            subst e267203
            show wp _ _ 177 86 [(0, .ref r0)] [vI z267204] _ H _
            refine wp_of e177 c177_86 (rw_if_eq (p1 := 96) (p2 := 89) (by decide) rfl ⟨by omega, by omega⟩ (fun c267208 => ?_) (fun c267208 => ?_))
            · refine wp_of e177 c177_96 (rw_aload_n (pc' := 97) (v := .ref r0) rfl rfl rfl ?_)
              refine wp_of e177 c177_97 (rw_ldcS (pc' := 99) (k := 81) rfl rfl rfl rfl ?_)
              refine wp_of e177 c177_99 (xc_V (pc' := 102) (r := r0) (as := [.ref 81]) (st := []) (lm_9_114) rfl rfl (Nat.le_of_ble_eq_true rfl) hW g0 sh_42 (by decide) rfl (by decide) (u_178_o (fo := fo) (po := po) (kk := 671108) hW g0 rfl (by decide +kernel) hRO_r0) (fun R267209 T267210 H267211 p267212 => ?_))
              obtain ⟨e267213, e267215, z267216, e267214, b267217, p267218⟩ := p267212
              subst e267213
              subst e267214
              subst e267215
              show wp _ _ 177 102 [(0, .ref r0)] [vI z267216] _ H _
              refine wp_of e177 c177_102 (rw_if_eq (p1 := 112) (p2 := 105) (by decide) rfl ⟨by omega, by omega⟩ (fun c267220 => ?_) (fun c267220 => ?_))
              · refine wp_of e177 c177_112 (rw_aload_n (pc' := 113) (v := .ref r0) rfl rfl rfl ?_)
                refine wp_of e177 c177_113 (rw_ldcS (pc' := 115) (k := 82) rfl rfl rfl rfl ?_)
                refine wp_of e177 c177_115 (xc_V (pc' := 118) (r := r0) (as := [.ref 82]) (st := []) (lm_9_114) rfl rfl (Nat.le_of_ble_eq_true rfl) hW g0 sh_42 (by decide) rfl (by decide) (u_178_o (fo := fo) (po := po) (kk := 15931570) hW g0 rfl (by decide +kernel) hRO_r0) (fun R267221 T267222 H267223 p267224 => ?_))
                obtain ⟨e267225, e267227, z267228, e267226, b267229, p267230⟩ := p267224
                subst e267225
                subst e267226
                subst e267227
                show wp _ _ 177 118 [(0, .ref r0)] [vI z267228] _ H _
                refine wp_of e177 c177_118 (rw_if_eq (p1 := 128) (p2 := 121) (by decide) rfl ⟨by omega, by omega⟩ (fun c267232 => ?_) (fun c267232 => ?_))
                · refine wp_of e177 c177_128 (rw_aload_n (pc' := 129) (v := .ref r0) rfl rfl rfl ?_)
                  refine wp_of e177 c177_129 (rw_iconst (pc' := 130) rfl ?_)
                  refine wp_of e177 c177_130 (xc_V (pc' := 133) (r := r0) (as := [vI 1]) (st := []) (lm_9_121) rfl rfl (Nat.le_of_ble_eq_true rfl) hW g0 sh_42 (by decide) rfl (by decide) (u_181_o (fo := fo) (po := po) hW g0 ⟨by omega, by omega⟩ hRO_r0) (fun R267233 T267234 H267235 p267236 => ?_))
                  obtain ⟨e267237, e267239, e267238, p267240⟩ := p267236
                  subst e267237
                  subst e267238
                  subst e267239
                  show wp _ _ 177 133 [(0, .ref r0)] [] _ H _
                  have u267242 := RO_k p267240
                  exact wp_return e177 c177_133 rfl ⟨rfl, rfl, rfl, (p267240)⟩
                · exfalso
                  omega
              · exfalso
                omega
            · exfalso
              omega
          · exfalso
            omega
        · exfalso
          omega
      · exfalso
        omega
    · exfalso
      omega
  · exfalso
    omega
/-! StrikeAwakeModel.readParish()V k -/
abbrev uq_176_k (r0 : Nat) (rp : Nat) (rb : Nat) (B : Nat → Int) (n : Int) (q : Int) (d : xD) (f : Nat) (T : wq_T) (H : wq_H) : Option Value → wq_T → wq_H → Prop := fun r T' H' => T = T' ∧ WT T H' ∧ wfr [(54, 0), (54, 1), (54, 2), (54, 3), (54, 4), (54, 5), (54, 6), (54, 7), (54, 8), (42, 8), (42, 9), (42, 10), (42, 11), (42, 12), (42, 13), (42, 14), (42, 15), (42, 16), (42, 17), (42, 18), (64, 999), (65, 999), (56, 999), (57, 999), (66, 999), (60, 999), (63, 999), (58, 999), (59, 999), (55, 999), (61, 999), (62, 999), (72, 999), (71, 999), (67, 999), (68, 999), (69, 999)] T H H' ∧ none = r ∧ (((((xpf B n f q d).1).1 = 0) ∧ (H' r0 13 = 0) ∧ (∀ a, a ≠ rp → T.2.2.2 a = some 54 → H' a 3 = H a 3) ∧ DM T H' rp r0 ((xpf B n f q d).2)) ∨ ((((xpf B n f q d).1).1 ≠ 0) ∧ (∀ a, a ≠ rp → T.2.2.2 a = some 54 → H' a 3 = H a 3) ∧ RO T H' r0 (((xpf B n f q d).1).1) (((xpf B n f q d).1).2.1)))
set_option maxHeartbeats 4000000 in
theorem u_176_k {kt : Nat → Option mc_E} {T : wq_T} {H : wq_H} {r0 : Nat} {rp : Nat} {rb : Nat} {B : Nat → Int} {n : Int} {q : Int} {d : xD} {f : Nat} (hW : WT T H) (g0 : T.2.2.2 r0 = some 42) (qrp : H r0 4 = (rp : Int)) (grp : T.2.2.2 rp = some 54) (qrb : H r0 5 = (rb : Int)) (grb : T.2.2.2 rb = some 43) (p0 : n - q < f) (hRC_r0 : RC T H r0 B n q) (hDM_rp : DM T H rp r0 d) : wpc kt 9 176 [.ref r0] T H (uq_176_k r0 rp rb B n q d f T H) := by
  refine wp_enter e176 (Nat.le_of_ble_eq_true rfl) rfl ?_
  have f0 : wfr [(54, 0), (54, 1), (54, 2), (54, 3), (54, 4), (54, 5), (54, 6), (54, 7), (54, 8), (42, 8), (42, 9), (42, 10), (42, 11), (42, 12), (42, 13), (42, 14), (42, 15), (42, 16), (42, 17), (42, 18), (64, 999), (65, 999), (56, 999), (57, 999), (66, 999), (60, 999), (63, 999), (58, 999), (59, 999), (55, 999), (61, 999), (62, 999), (72, 999), (71, 999), (67, 999), (68, 999), (69, 999)] T H H := wfr.rf
  show wp _ _ 176 0 [(0, .ref r0)] [] _ H _
  have u267769 := RC_k hRC_r0
  have u267770 := DM_k hDM_rp
  refine wp_of e176 c176_0 (rw_iconst (pc' := 1) rfl ?_)
  refine wp_of e176 c176_1 (rw_istore_n (pc' := 2) (z := 1) (L' := [(1, vI 1), (0, .ref r0)]) rfl rfl rfl ?_)
  have lp268121 : ∀ (n268122 : Nat) (v268124 : Int) (H268125 : wq_H) (q268126 : Int) (d268127 : xD) (f268128 : Nat), WT T H268125 → wfr [(54, 0), (54, 1), (54, 2), (54, 3), (54, 4), (54, 5), (54, 6), (54, 7), (54, 8), (42, 8), (42, 9), (42, 10), (42, 11), (42, 12), (42, 13), (42, 14), (42, 15), (42, 16), (42, 17), (42, 18), (64, 999), (65, 999), (56, 999), (57, 999), (66, 999), (60, 999), (63, 999), (58, 999), (59, 999), (55, 999), (61, 999), (62, 999), (72, 999), (71, 999), (67, 999), (68, 999), (69, 999)] T H H268125 → (1 ≤ v268124 ∧ v268124 ≤ 1) → (∀ a, a ≠ rp → T.2.2.2 a = some 54 → H268125 a 3 = H a 3) → RC T H268125 r0 B n q268126 → DM T H268125 rp r0 d268127 → (n - q268126 < f268128) → (xpf B n f268128 q268126 d268127 = xpf B n f q d) → (901 - q268126).toNat = n268122 → wp kt 8 176 2 [(1, vI v268124), (0, .ref r0)] [] T H268125 (uq_176_k r0 rp rb B n q d f T H) := by
    intro n268122
    induction n268122 using Nat.strongRecOn with
    | _ n268122 ih268123 =>
      intro v268124 H268125 q268126 d268127 f268128 w268129 f268130 b268131 x268132 h268134 h268135 x268136 x268137 m268133
      have f268138 := f0.tr f268130 rfl
      have u268139 := RC_k h268134
      have u268140 := DM_k h268135
      obtain ⟨gf, hg⟩ : ∃ g : Nat, f268128 = g + 1 := ⟨f268128 - 1, by omega⟩
      have hx : xpf B n (gf + 1) q268126 d268127 = xpf B n f q d := by
        rw [← hg]
        exact ‹xpf B n f268128 q268126 d268127 = xpf B n f q d›
      refine wp_of e176 c176_2 (rw_iload_n (pc' := 3) (z := v268124) rfl rfl ?_)
      refine wp_of e176 c176_3 (rw_if_eq (p1 := 20) (p2 := 6) (by decide) rfl ⟨by omega, by omega⟩ (fun c268141 => ?_) (fun c268141 => ?_))
      · exfalso
        omega
      · refine wp_of e176 c176_6 (rw_aload_n (pc' := 7) (v := .ref r0) rfl rfl rfl ?_)
        have k268142 : H268125 r0 4 = H r0 4 := (f268130 r0 4 _ g0 rfl)
        have q268143 : H268125 r0 4 = (rp : Int) := k268142.trans qrp
        have k268144 : H268125 r0 5 = H r0 5 := (f268130 r0 5 _ g0 rfl)
        have q268145 : H268125 r0 5 = (rb : Int) := k268144.trans qrb
        refine wp_of e176 c176_7 (xc_V (pc' := 10) (r := r0) (as := []) (st := []) (lm_9_179) rfl rfl (Nat.le_of_ble_eq_true rfl) w268129 g0 sh_42 (by decide) rfl (by decide) (u_177_k (B := B) (n := n) (q := q268126) (d := d268127) w268129 g0 q268143 grp q268145 grb h268134 h268135) (fun R268146 T268147 H268148 p268149 => ?_))
        obtain ⟨e268150, w268152, f268153, e268151, p268154⟩ := p268149
        subst e268150
        subst e268151
        rcases p268154 with ⟨a268155, a268156, a268157, a268158, a268159⟩ | ⟨a268160, a268161, a268162⟩
        · have f268163 := f268138.tr f268153 rfl
          have f268164 := f268130.tr f268153 rfl
          show wp _ _ 176 10 [(1, vI v268124), (0, .ref r0)] [] _ H268148 _
          have u268165 := RC_k a268158
          have u268166 := DM_k a268159
          have _e := RC_e a268158
          refine wp_of e176 c176_10 (rw_aload_n (pc' := 11) (v := .ref r0) rfl rfl rfl ?_)
          refine wp_of e176 c176_11 (rw_bipush (pc' := 13) (z := 59) rfl (by decide) ?_)
          have k268167 : H268148 r0 5 = H268125 r0 5 := (f268153 r0 5 _ g0 rfl)
          have q268168 : H268148 r0 5 = (rb : Int) := k268167.trans q268145
          refine wp_of e176 c176_13 (xc_V (pc' := 16) (r := r0) (as := [vI 59]) (st := []) (lm_9_182) rfl rfl (Nat.le_of_ble_eq_true rfl) w268152 g0 sh_42 (by decide) rfl (by decide) (u_204_k (B := B) (n := n) (q := ((xline B n q268126 d268127).2.2)) (kd := 3) w268152 g0 ⟨by omega, by omega⟩ q268168 grb (by omega) a268158) (fun R268169 T268170 H268171 p268172 => ?_))
          obtain ⟨e268173, w268175, f268176, z268177, e268174, b268178, p268179⟩ := p268172
          subst e268173
          subst e268174
          rcases p268179 with ⟨a268180, a268181, a268182, a268183⟩ | ⟨a268184, a268185, a268186, a268187⟩
          · have f268188 := f268163.tr f268176 rfl
            have f268189 := f268164.tr f268176 rfl
            show wp _ _ 176 16 [(1, vI v268124), (0, .ref r0)] [vI z268177] _ H268171 _
            have u268190 := RC_k a268183
            refine wp_of e176 c176_16 (rw_istore_n (pc' := 17) (z := z268177) (L' := [(1, vI z268177), (0, .ref r0)]) rfl rfl rfl ?_)
            refine wp_of e176 c176_17 (rw_goto (p1 := 2) (by decide) ?_)
            have h268191 : DM T H268171 rp r0 (xdline B n q268126 d268127) := (DM_fr w268152 grp f268176 rfl a268159)
            exact wp_lc (ks := [1, 0]) (wl_c rfl (wl_c rfl wl_n)) rfl (by decide) (ih268123 _ (by omega) z268177 H268171 ((xN B n ((xline B n q268126 d268127).2.2))) (xdline B n q268126 d268127) gf w268175 f268189 ⟨by omega, by omega⟩ (fun a ha ga => ((f268176 a 3 _ ga rfl).trans ((a268157 a ha ga).trans (x268132 a ha ga)))) a268183 h268191 (by omega) (by rw [← hx, xpf_u, if_pos (by omega), if_neg (by omega), if_pos (by omega)]) rfl)
          · have f268192 := f268163.tr f268176 rfl
            have f268193 := f268164.tr f268176 rfl
            show wp _ _ 176 16 [(1, vI v268124), (0, .ref r0)] [vI z268177] _ H268171 _
            have u268194 := RC_k a268187
            refine wp_of e176 c176_16 (rw_istore_n (pc' := 17) (z := z268177) (L' := [(1, vI z268177), (0, .ref r0)]) rfl rfl rfl ?_)
            refine wp_of e176 c176_17 (rw_goto (p1 := 2) (by decide) ?_)
            refine wp_of e176 c176_2 (rw_iload_n (pc' := 3) (z := z268177) rfl rfl ?_)
            refine wp_of e176 c176_3 (rw_if_eq (p1 := 20) (p2 := 6) (by decide) rfl ⟨by omega, by omega⟩ (fun c268195 => ?_) (fun c268195 => ?_))
            · have _s := RC_s a268187
              refine wp_of e176 c176_20 (rw_aload_n (pc' := 21) (v := .ref r0) rfl rfl rfl ?_)
              refine wp_of e176 c176_21 (xg_I (pc' := 24) lf_9_75 w268175 g0 sh_42 (by decide) (by decide) ty_42_9 rfl rfl (fun b268196 b268197 => ?_))
              refine wp_of e176 c176_24 (rw_iconst (pc' := 25) rfl ?_)
              refine wp_of e176 c176_25 (rw_icmp_eq (p1 := 33) (p2 := 28) (by decide) rfl ⟨by omega, by omega⟩ ⟨by omega, by omega⟩ (fun c268198 => ?_) (fun c268198 => ?_))
              · refine wp_of e176 c176_33 (rw_aload_n (pc' := 34) (v := .ref r0) rfl rfl rfl ?_)
                have k268199 : H268171 r0 4 = H268125 r0 4 := ((f268176 r0 4 _ g0 rfl).trans (f268153 r0 4 _ g0 rfl))
                have q268200 : H268171 r0 4 = (rp : Int) := k268199.trans q268143
                refine wp_of e176 c176_34 (xg_K (pc' := 37) lf_9_166 w268175 g0 sh_42 (by decide) (by decide) rfl q268200 rfl ?_)
                have k268201 : H268171 rp 0 = H268148 rp 0 := (f268176 rp 0 _ grp rfl)
                refine wp_of e176 c176_37 (xg_I (pc' := 40) lf_9_185 w268175 grp sh_54 (by decide) (by decide) ty_54_0 rfl rfl (fun b268202 b268203 => ?_))
                refine wp_of e176 c176_40 (rw_if_eq (p1 := 53) (p2 := 43) (by decide) rfl ⟨by omega, by omega⟩ (fun c268204 => ?_) (fun c268204 => ?_))
                · refine wp_of e176 c176_53 (rw_aload_n (pc' := 54) (v := .ref r0) rfl rfl rfl ?_)
                  refine wp_of e176 c176_54 (rw_bipush (pc' := 56) (z := 6) rfl (by decide) ?_)
                  refine wp_of e176 c176_56 (xc_V (pc' := 59) (r := r0) (as := [vI 6]) (st := []) (lm_9_121) rfl rfl (Nat.le_of_ble_eq_true rfl) w268175 g0 sh_42 (by decide) rfl (by decide) (u_181_k (B := B) (n := n) (q := ((xline B n q268126 d268127).2.2)) w268175 g0 ⟨by omega, by omega⟩ (by omega) a268187) (fun R268205 T268206 H268207 p268208 => ?_))
                  obtain ⟨e268209, w268211, f268212, e268210, p268213⟩ := p268208
                  subst e268209
                  subst e268210
                  have f268215 := f268192.tr f268212 rfl
                  show wp _ _ 176 59 [(1, vI z268177), (0, .ref r0)] [] _ H268207 _
                  have u268216 := RO_k p268213
                  have o268217 : ((xpf B n f q d).1) = (6, ((xline B n q268126 d268127).2.2), q268126) := by
                    rw [← hx, xpf_u]
                    repeat first | rw [xs_0 (by omega)] | rw [xs_1 (by omega)] | rw [if_pos (by omega)] | rw [if_neg (by omega)]
                    first | done | rfl | assumption | (exfalso; omega) | (refine Prod.ext ?_ (Prod.ext ?_ ?_) <;> (try dsimp only) <;> omega)
                  have o268217a : (((xpf B n f q d).1)).1 = 6 := by rw [o268217]
                  have o268217b : (((xpf B n f q d).1)).2.1 = ((xline B n q268126 d268127).2.2) := by rw [o268217]
                  have o268217c : (((xpf B n f q d).1)).2.2 = q268126 := by rw [o268217]
                  exact wp_return e176 c176_59 rfl ⟨rfl, w268211, f268215, rfl, (Or.inr ⟨by omega, (fun a ha ga => ((f268212 a 3 _ ga rfl).trans ((f268176 a 3 _ ga rfl).trans ((a268157 a ha ga).trans (x268132 a ha ga))))), RO_eq p268213 (by omega) (by omega)⟩)⟩
                · refine wp_of e176 c176_43 (rw_aload_n (pc' := 44) (v := .ref r0) rfl rfl rfl ?_)
                  refine wp_of e176 c176_44 (xg_K (pc' := 47) lf_9_166 w268175 g0 sh_42 (by decide) (by decide) rfl q268200 rfl ?_)
                  have k268218 : H268171 rp 3 = H268148 rp 3 := (f268176 rp 3 _ grp rfl)
                  refine wp_of e176 c176_47 (xg_I (pc' := 50) lf_9_188 w268175 grp sh_54 (by decide) (by decide) ty_54_3 rfl rfl (fun b268219 b268220 => ?_))
                  refine wp_of e176 c176_50 (rw_if_ne (p1 := 59) (p2 := 53) (by decide) rfl ⟨by omega, by omega⟩ (fun c268221 => ?_) (fun c268221 => ?_))
                  · have o268222 : ((xpf B n f q d).1) = (0, q268126, q268126) := by
                      rw [← hx, xpf_u]
                      repeat first | rw [xs_0 (by omega)] | rw [xs_1 (by omega)] | rw [if_pos (by omega)] | rw [if_neg (by omega)]
                      first | done | rfl | assumption | (exfalso; omega) | (refine Prod.ext ?_ (Prod.ext ?_ ?_) <;> (try dsimp only) <;> omega)
                    have o268222a : (((xpf B n f q d).1)).1 = 0 := by rw [o268222]
                    have o268222b : (((xpf B n f q d).1)).2.1 = q268126 := by rw [o268222]
                    have o268222c : (((xpf B n f q d).1)).2.2 = q268126 := by rw [o268222]
                    have h268223 : DM T H268171 rp r0 (xdline B n q268126 d268127) := (DM_fr w268152 grp f268176 rfl a268159)
                    exact wp_return e176 c176_59 rfl ⟨rfl, w268175, f268192, rfl, (Or.inl ⟨by omega, by omega, (fun a ha ga => ((f268176 a 3 _ ga rfl).trans ((a268157 a ha ga).trans (x268132 a ha ga)))), by rw [← hx, xpf_u, if_pos (by omega), if_pos (by omega), if_pos (by omega)]; exact h268223⟩)⟩
                  · refine wp_of e176 c176_53 (rw_aload_n (pc' := 54) (v := .ref r0) rfl rfl rfl ?_)
                    refine wp_of e176 c176_54 (rw_bipush (pc' := 56) (z := 6) rfl (by decide) ?_)
                    refine wp_of e176 c176_56 (xc_V (pc' := 59) (r := r0) (as := [vI 6]) (st := []) (lm_9_121) rfl rfl (Nat.le_of_ble_eq_true rfl) w268175 g0 sh_42 (by decide) rfl (by decide) (u_181_k (B := B) (n := n) (q := ((xline B n q268126 d268127).2.2)) w268175 g0 ⟨by omega, by omega⟩ (by omega) a268187) (fun R268224 T268225 H268226 p268227 => ?_))
                    obtain ⟨e268228, w268230, f268231, e268229, p268232⟩ := p268227
                    subst e268228
                    subst e268229
                    have f268234 := f268192.tr f268231 rfl
                    show wp _ _ 176 59 [(1, vI z268177), (0, .ref r0)] [] _ H268226 _
                    have u268235 := RO_k p268232
                    have o268236 : ((xpf B n f q d).1) = (6, ((xline B n q268126 d268127).2.2), q268126) := by
                      rw [← hx, xpf_u]
                      repeat first | rw [xs_0 (by omega)] | rw [xs_1 (by omega)] | rw [if_pos (by omega)] | rw [if_neg (by omega)]
                      first | done | rfl | assumption | (exfalso; omega) | (refine Prod.ext ?_ (Prod.ext ?_ ?_) <;> (try dsimp only) <;> omega)
                    have o268236a : (((xpf B n f q d).1)).1 = 6 := by rw [o268236]
                    have o268236b : (((xpf B n f q d).1)).2.1 = ((xline B n q268126 d268127).2.2) := by rw [o268236]
                    have o268236c : (((xpf B n f q d).1)).2.2 = q268126 := by rw [o268236]
                    exact wp_return e176 c176_59 rfl ⟨rfl, w268230, f268234, rfl, (Or.inr ⟨by omega, (fun a ha ga => ((f268231 a 3 _ ga rfl).trans ((f268176 a 3 _ ga rfl).trans ((a268157 a ha ga).trans (x268132 a ha ga))))), RO_eq p268232 (by omega) (by omega)⟩)⟩
              · refine wp_of e176 c176_28 (rw_aload_n (pc' := 29) (v := .ref r0) rfl rfl rfl ?_)
                refine wp_of e176 c176_29 (rw_iconst (pc' := 30) rfl ?_)
                refine wp_of e176 c176_30 (xc_V (pc' := 33) (r := r0) (as := [vI 1]) (st := []) (lm_9_121) rfl rfl (Nat.le_of_ble_eq_true rfl) w268175 g0 sh_42 (by decide) rfl (by decide) (u_181_k (B := B) (n := n) (q := ((xline B n q268126 d268127).2.2)) w268175 g0 ⟨by omega, by omega⟩ (by omega) a268187) (fun R268237 T268238 H268239 p268240 => ?_))
                obtain ⟨e268241, w268243, f268244, e268242, p268245⟩ := p268240
                subst e268241
                subst e268242
                have f268247 := f268192.tr f268244 rfl
                show wp _ _ 176 33 [(1, vI z268177), (0, .ref r0)] [] _ H268239 _
                have u268248 := RO_k p268245
                refine wp_of e176 c176_33 (rw_aload_n (pc' := 34) (v := .ref r0) rfl rfl rfl ?_)
                have k268249 : H268239 r0 4 = H268125 r0 4 := ((f268244 r0 4 _ g0 rfl).trans ((f268176 r0 4 _ g0 rfl).trans (f268153 r0 4 _ g0 rfl)))
                have q268250 : H268239 r0 4 = (rp : Int) := k268249.trans q268143
                refine wp_of e176 c176_34 (xg_K (pc' := 37) lf_9_166 w268243 g0 sh_42 (by decide) (by decide) rfl q268250 rfl ?_)
                have k268251 : H268239 rp 0 = H268148 rp 0 := ((f268244 rp 0 _ grp rfl).trans (f268176 rp 0 _ grp rfl))
                refine wp_of e176 c176_37 (xg_I (pc' := 40) lf_9_185 w268243 grp sh_54 (by decide) (by decide) ty_54_0 rfl rfl (fun b268252 b268253 => ?_))
                refine wp_of e176 c176_40 (rw_if_eq (p1 := 53) (p2 := 43) (by decide) rfl ⟨by omega, by omega⟩ (fun c268254 => ?_) (fun c268254 => ?_))
                · refine wp_of e176 c176_53 (rw_aload_n (pc' := 54) (v := .ref r0) rfl rfl rfl ?_)
                  refine wp_of e176 c176_54 (rw_bipush (pc' := 56) (z := 6) rfl (by decide) ?_)
                  refine wp_of e176 c176_56 (xc_V (pc' := 59) (r := r0) (as := [vI 6]) (st := []) (lm_9_121) rfl rfl (Nat.le_of_ble_eq_true rfl) w268243 g0 sh_42 (by decide) rfl (by decide) (u_181_o (fo := 1) (po := (((xline B n q268126 d268127).2.2))) w268243 g0 ⟨by omega, by omega⟩ p268245) (fun R268255 T268256 H268257 p268258 => ?_))
                  obtain ⟨e268259, e268261, e268260, p268262⟩ := p268258
                  subst e268259
                  subst e268260
                  subst e268261
                  show wp _ _ 176 59 [(1, vI z268177), (0, .ref r0)] [] _ H268239 _
                  have u268264 := RO_k p268262
                  have o268265 : ((xpf B n f q d).1) = (1, ((xline B n q268126 d268127).2.2), q268126) := by
                    rw [← hx, xpf_u]
                    repeat first | rw [xs_0 (by omega)] | rw [xs_1 (by omega)] | rw [if_pos (by omega)] | rw [if_neg (by omega)]
                    first | done | rfl | assumption | (exfalso; omega) | (refine Prod.ext ?_ (Prod.ext ?_ ?_) <;> (try dsimp only) <;> omega)
                  have o268265a : (((xpf B n f q d).1)).1 = 1 := by rw [o268265]
                  have o268265b : (((xpf B n f q d).1)).2.1 = ((xline B n q268126 d268127).2.2) := by rw [o268265]
                  have o268265c : (((xpf B n f q d).1)).2.2 = q268126 := by rw [o268265]
                  exact wp_return e176 c176_59 rfl ⟨rfl, w268243, f268247, rfl, (Or.inr ⟨by omega, (fun a ha ga => ((f268244 a 3 _ ga rfl).trans ((f268176 a 3 _ ga rfl).trans ((a268157 a ha ga).trans (x268132 a ha ga))))), RO_eq p268262 (by omega) (by omega)⟩)⟩
                · refine wp_of e176 c176_43 (rw_aload_n (pc' := 44) (v := .ref r0) rfl rfl rfl ?_)
                  refine wp_of e176 c176_44 (xg_K (pc' := 47) lf_9_166 w268243 g0 sh_42 (by decide) (by decide) rfl q268250 rfl ?_)
                  have k268266 : H268239 rp 3 = H268148 rp 3 := ((f268244 rp 3 _ grp rfl).trans (f268176 rp 3 _ grp rfl))
                  refine wp_of e176 c176_47 (xg_I (pc' := 50) lf_9_188 w268243 grp sh_54 (by decide) (by decide) ty_54_3 rfl rfl (fun b268267 b268268 => ?_))
                  refine wp_of e176 c176_50 (rw_if_ne (p1 := 59) (p2 := 53) (by decide) rfl ⟨by omega, by omega⟩ (fun c268269 => ?_) (fun c268269 => ?_))
                  · have o268270 : ((xpf B n f q d).1) = (1, ((xline B n q268126 d268127).2.2), q268126) := by
                      rw [← hx, xpf_u]
                      repeat first | rw [xs_0 (by omega)] | rw [xs_1 (by omega)] | rw [if_pos (by omega)] | rw [if_neg (by omega)]
                      first | done | rfl | assumption | (exfalso; omega) | (refine Prod.ext ?_ (Prod.ext ?_ ?_) <;> (try dsimp only) <;> omega)
                    have o268270a : (((xpf B n f q d).1)).1 = 1 := by rw [o268270]
                    have o268270b : (((xpf B n f q d).1)).2.1 = ((xline B n q268126 d268127).2.2) := by rw [o268270]
                    have o268270c : (((xpf B n f q d).1)).2.2 = q268126 := by rw [o268270]
                    exact wp_return e176 c176_59 rfl ⟨rfl, w268243, f268247, rfl, (Or.inr ⟨by omega, (fun a ha ga => ((f268244 a 3 _ ga rfl).trans ((f268176 a 3 _ ga rfl).trans ((a268157 a ha ga).trans (x268132 a ha ga))))), RO_eq p268245 (by omega) (by omega)⟩)⟩
                  · refine wp_of e176 c176_53 (rw_aload_n (pc' := 54) (v := .ref r0) rfl rfl rfl ?_)
                    refine wp_of e176 c176_54 (rw_bipush (pc' := 56) (z := 6) rfl (by decide) ?_)
                    refine wp_of e176 c176_56 (xc_V (pc' := 59) (r := r0) (as := [vI 6]) (st := []) (lm_9_121) rfl rfl (Nat.le_of_ble_eq_true rfl) w268243 g0 sh_42 (by decide) rfl (by decide) (u_181_o (fo := 1) (po := (((xline B n q268126 d268127).2.2))) w268243 g0 ⟨by omega, by omega⟩ p268245) (fun R268271 T268272 H268273 p268274 => ?_))
                    obtain ⟨e268275, e268277, e268276, p268278⟩ := p268274
                    subst e268275
                    subst e268276
                    subst e268277
                    show wp _ _ 176 59 [(1, vI z268177), (0, .ref r0)] [] _ H268239 _
                    have u268280 := RO_k p268278
                    have o268281 : ((xpf B n f q d).1) = (1, ((xline B n q268126 d268127).2.2), q268126) := by
                      rw [← hx, xpf_u]
                      repeat first | rw [xs_0 (by omega)] | rw [xs_1 (by omega)] | rw [if_pos (by omega)] | rw [if_neg (by omega)]
                      first | done | rfl | assumption | (exfalso; omega) | (refine Prod.ext ?_ (Prod.ext ?_ ?_) <;> (try dsimp only) <;> omega)
                    have o268281a : (((xpf B n f q d).1)).1 = 1 := by rw [o268281]
                    have o268281b : (((xpf B n f q d).1)).2.1 = ((xline B n q268126 d268127).2.2) := by rw [o268281]
                    have o268281c : (((xpf B n f q d).1)).2.2 = q268126 := by rw [o268281]
                    exact wp_return e176 c176_59 rfl ⟨rfl, w268243, f268247, rfl, (Or.inr ⟨by omega, (fun a ha ga => ((f268244 a 3 _ ga rfl).trans ((f268176 a 3 _ ga rfl).trans ((a268157 a ha ga).trans (x268132 a ha ga))))), RO_eq p268278 (by omega) (by omega)⟩)⟩
            · exfalso
              omega
        · have f268282 := f268138.tr f268153 rfl
          have f268283 := f268130.tr f268153 rfl
          show wp _ _ 176 10 [(1, vI v268124), (0, .ref r0)] [] _ H268148 _
          have u268284 := RO_k a268162
          refine wp_of e176 c176_10 (rw_aload_n (pc' := 11) (v := .ref r0) rfl rfl rfl ?_)
          refine wp_of e176 c176_11 (rw_bipush (pc' := 13) (z := 59) rfl (by decide) ?_)
          have k268285 : H268148 r0 5 = H268125 r0 5 := (f268153 r0 5 _ g0 rfl)
          have q268286 : H268148 r0 5 = (rb : Int) := k268285.trans q268145
          refine wp_of e176 c176_13 (xc_V (pc' := 16) (r := r0) (as := [vI 59]) (st := []) (lm_9_182) rfl rfl (Nat.le_of_ble_eq_true rfl) w268152 g0 sh_42 (by decide) rfl (by decide) (u_204_o (fo := ((xline B n q268126 d268127).1)) (po := ((xline B n q268126 d268127).2.1)) w268152 g0 ⟨by omega, by omega⟩ q268286 grb a268162) (fun R268287 T268288 H268289 p268290 => ?_))
          obtain ⟨e268291, e268293, z268294, e268292, b268295, p268296⟩ := p268290
          subst e268291
          subst e268292
          subst e268293
          obtain ⟨a268297, a268298⟩ := p268296
          show wp _ _ 176 16 [(1, vI v268124), (0, .ref r0)] [vI z268294] _ H268148 _
          have u268299 := RO_k a268298
          refine wp_of e176 c176_16 (rw_istore_n (pc' := 17) (z := z268294) (L' := [(1, vI z268294), (0, .ref r0)]) rfl rfl rfl ?_)
          refine wp_of e176 c176_17 (rw_goto (p1 := 2) (by decide) ?_)
          refine wp_of e176 c176_2 (rw_iload_n (pc' := 3) (z := z268294) rfl rfl ?_)
          refine wp_of e176 c176_3 (rw_if_eq (p1 := 20) (p2 := 6) (by decide) rfl ⟨by omega, by omega⟩ (fun c268300 => ?_) (fun c268300 => ?_))
          · refine wp_of e176 c176_20 (rw_aload_n (pc' := 21) (v := .ref r0) rfl rfl rfl ?_)
            refine wp_of e176 c176_21 (xg_I (pc' := 24) lf_9_75 w268152 g0 sh_42 (by decide) (by decide) ty_42_9 rfl rfl (fun b268301 b268302 => ?_))
            refine wp_of e176 c176_24 (rw_iconst (pc' := 25) rfl ?_)
            refine wp_of e176 c176_25 (rw_icmp_eq (p1 := 33) (p2 := 28) (by decide) rfl ⟨by omega, by omega⟩ ⟨by omega, by omega⟩ (fun c268303 => ?_) (fun c268303 => ?_))
            · exfalso
              omega
            · refine wp_of e176 c176_28 (rw_aload_n (pc' := 29) (v := .ref r0) rfl rfl rfl ?_)
              refine wp_of e176 c176_29 (rw_iconst (pc' := 30) rfl ?_)
              refine wp_of e176 c176_30 (xc_V (pc' := 33) (r := r0) (as := [vI 1]) (st := []) (lm_9_121) rfl rfl (Nat.le_of_ble_eq_true rfl) w268152 g0 sh_42 (by decide) rfl (by decide) (u_181_o (fo := ((xline B n q268126 d268127).1)) (po := ((xline B n q268126 d268127).2.1)) w268152 g0 ⟨by omega, by omega⟩ a268298) (fun R268304 T268305 H268306 p268307 => ?_))
              obtain ⟨e268308, e268310, e268309, p268311⟩ := p268307
              subst e268308
              subst e268309
              subst e268310
              show wp _ _ 176 33 [(1, vI z268294), (0, .ref r0)] [] _ H268148 _
              have u268313 := RO_k p268311
              refine wp_of e176 c176_33 (rw_aload_n (pc' := 34) (v := .ref r0) rfl rfl rfl ?_)
              have k268314 : H268148 r0 4 = H268125 r0 4 := (f268153 r0 4 _ g0 rfl)
              have q268315 : H268148 r0 4 = (rp : Int) := k268314.trans q268143
              refine wp_of e176 c176_34 (xg_K (pc' := 37) lf_9_166 w268152 g0 sh_42 (by decide) (by decide) rfl q268315 rfl ?_)
              refine wp_of e176 c176_37 (xg_I (pc' := 40) lf_9_185 w268152 grp sh_54 (by decide) (by decide) ty_54_0 rfl rfl (fun b268316 b268317 => ?_))
              refine wp_of e176 c176_40 (rw_if_eq (p1 := 53) (p2 := 43) (by decide) rfl ⟨by omega, by omega⟩ (fun c268318 => ?_) (fun c268318 => ?_))
              · refine wp_of e176 c176_53 (rw_aload_n (pc' := 54) (v := .ref r0) rfl rfl rfl ?_)
                refine wp_of e176 c176_54 (rw_bipush (pc' := 56) (z := 6) rfl (by decide) ?_)
                refine wp_of e176 c176_56 (xc_V (pc' := 59) (r := r0) (as := [vI 6]) (st := []) (lm_9_121) rfl rfl (Nat.le_of_ble_eq_true rfl) w268152 g0 sh_42 (by decide) rfl (by decide) (u_181_o (fo := ((xline B n q268126 d268127).1)) (po := ((xline B n q268126 d268127).2.1)) w268152 g0 ⟨by omega, by omega⟩ p268311) (fun R268319 T268320 H268321 p268322 => ?_))
                obtain ⟨e268323, e268325, e268324, p268326⟩ := p268322
                subst e268323
                subst e268324
                subst e268325
                show wp _ _ 176 59 [(1, vI z268294), (0, .ref r0)] [] _ H268148 _
                have u268328 := RO_k p268326
                have o268329 : ((xpf B n f q d).1) = ((xline B n q268126 d268127).1, (xline B n q268126 d268127).2.1, (xline B n q268126 d268127).2.2) := by
                  rw [← hx, xpf_u]
                  repeat first | rw [xs_0 (by omega)] | rw [xs_1 (by omega)] | rw [if_pos (by omega)] | rw [if_neg (by omega)]
                  first | done | rfl | assumption | (exfalso; omega) | (refine Prod.ext ?_ (Prod.ext ?_ ?_) <;> (try dsimp only) <;> omega)
                have o268329a : (((xpf B n f q d).1)).1 = (xline B n q268126 d268127).1 := by rw [o268329]
                have o268329b : (((xpf B n f q d).1)).2.1 = (xline B n q268126 d268127).2.1 := by rw [o268329]
                have o268329c : (((xpf B n f q d).1)).2.2 = (xline B n q268126 d268127).2.2 := by rw [o268329]
                exact wp_return e176 c176_59 rfl ⟨rfl, w268152, f268282, rfl, (Or.inr ⟨by omega, (fun a ha ga => ((a268161 a ha ga).trans (x268132 a ha ga))), RO_eq p268326 (by omega) (by omega)⟩)⟩
              · refine wp_of e176 c176_43 (rw_aload_n (pc' := 44) (v := .ref r0) rfl rfl rfl ?_)
                refine wp_of e176 c176_44 (xg_K (pc' := 47) lf_9_166 w268152 g0 sh_42 (by decide) (by decide) rfl q268315 rfl ?_)
                refine wp_of e176 c176_47 (xg_I (pc' := 50) lf_9_188 w268152 grp sh_54 (by decide) (by decide) ty_54_3 rfl rfl (fun b268330 b268331 => ?_))
                refine wp_of e176 c176_50 (rw_if_ne (p1 := 59) (p2 := 53) (by decide) rfl ⟨by omega, by omega⟩ (fun c268332 => ?_) (fun c268332 => ?_))
                · have o268333 : ((xpf B n f q d).1) = ((xline B n q268126 d268127).1, (xline B n q268126 d268127).2.1, (xline B n q268126 d268127).2.2) := by
                    rw [← hx, xpf_u]
                    repeat first | rw [xs_0 (by omega)] | rw [xs_1 (by omega)] | rw [if_pos (by omega)] | rw [if_neg (by omega)]
                    first | done | rfl | assumption | (exfalso; omega) | (refine Prod.ext ?_ (Prod.ext ?_ ?_) <;> (try dsimp only) <;> omega)
                  have o268333a : (((xpf B n f q d).1)).1 = (xline B n q268126 d268127).1 := by rw [o268333]
                  have o268333b : (((xpf B n f q d).1)).2.1 = (xline B n q268126 d268127).2.1 := by rw [o268333]
                  have o268333c : (((xpf B n f q d).1)).2.2 = (xline B n q268126 d268127).2.2 := by rw [o268333]
                  exact wp_return e176 c176_59 rfl ⟨rfl, w268152, f268282, rfl, (Or.inr ⟨by omega, (fun a ha ga => ((a268161 a ha ga).trans (x268132 a ha ga))), RO_eq p268311 (by omega) (by omega)⟩)⟩
                · refine wp_of e176 c176_53 (rw_aload_n (pc' := 54) (v := .ref r0) rfl rfl rfl ?_)
                  refine wp_of e176 c176_54 (rw_bipush (pc' := 56) (z := 6) rfl (by decide) ?_)
                  refine wp_of e176 c176_56 (xc_V (pc' := 59) (r := r0) (as := [vI 6]) (st := []) (lm_9_121) rfl rfl (Nat.le_of_ble_eq_true rfl) w268152 g0 sh_42 (by decide) rfl (by decide) (u_181_o (fo := ((xline B n q268126 d268127).1)) (po := ((xline B n q268126 d268127).2.1)) w268152 g0 ⟨by omega, by omega⟩ p268311) (fun R268334 T268335 H268336 p268337 => ?_))
                  obtain ⟨e268338, e268340, e268339, p268341⟩ := p268337
                  subst e268338
                  subst e268339
                  subst e268340
                  show wp _ _ 176 59 [(1, vI z268294), (0, .ref r0)] [] _ H268148 _
                  have u268343 := RO_k p268341
                  have o268344 : ((xpf B n f q d).1) = ((xline B n q268126 d268127).1, (xline B n q268126 d268127).2.1, (xline B n q268126 d268127).2.2) := by
                    rw [← hx, xpf_u]
                    repeat first | rw [xs_0 (by omega)] | rw [xs_1 (by omega)] | rw [if_pos (by omega)] | rw [if_neg (by omega)]
                    first | done | rfl | assumption | (exfalso; omega) | (refine Prod.ext ?_ (Prod.ext ?_ ?_) <;> (try dsimp only) <;> omega)
                  have o268344a : (((xpf B n f q d).1)).1 = (xline B n q268126 d268127).1 := by rw [o268344]
                  have o268344b : (((xpf B n f q d).1)).2.1 = (xline B n q268126 d268127).2.1 := by rw [o268344]
                  have o268344c : (((xpf B n f q d).1)).2.2 = (xline B n q268126 d268127).2.2 := by rw [o268344]
                  exact wp_return e176 c176_59 rfl ⟨rfl, w268152, f268282, rfl, (Or.inr ⟨by omega, (fun a ha ga => ((a268161 a ha ga).trans (x268132 a ha ga))), RO_eq p268341 (by omega) (by omega)⟩)⟩
          · exfalso
            omega
  exact wp_lc (ks := [1, 0]) (wl_c rfl (wl_c rfl wl_n)) rfl (by decide) (lp268121 _ 1 H q d f hW wfr.rf ⟨by omega, by omega⟩ (fun _ _ _ => rfl) hRC_r0 hDM_rp (by omega) (rfl) rfl)
/-! StrikeAwakeModel.readParish()V o -/
abbrev uq_176_o (r0 : Nat) (rp : Nat) (rb : Nat) (fo : Int) (po : Int) (T : wq_T) (H : wq_H) : Option Value → wq_T → wq_H → Prop := fun r T' H' => T = T' ∧ H = H' ∧ none = r ∧ ((RO T H r0 fo po))
set_option maxHeartbeats 4000000 in
theorem u_176_o {kt : Nat → Option mc_E} {T : wq_T} {H : wq_H} {r0 : Nat} {rp : Nat} {rb : Nat} {fo : Int} {po : Int} (hW : WT T H) (g0 : T.2.2.2 r0 = some 42) (qrp : H r0 4 = (rp : Int)) (grp : T.2.2.2 rp = some 54) (qrb : H r0 5 = (rb : Int)) (grb : T.2.2.2 rb = some 43) (hRO_r0 : RO T H r0 fo po) : wpc kt 9 176 [.ref r0] T H (uq_176_o r0 rp rb fo po T H) := by
  refine wp_enter e176 (Nat.le_of_ble_eq_true rfl) rfl ?_
  show wp _ _ 176 0 [(0, .ref r0)] [] _ H _
  have u268468 := RO_k hRO_r0
  refine wp_of e176 c176_0 (rw_iconst (pc' := 1) rfl ?_)
  refine wp_of e176 c176_1 (rw_istore_n (pc' := 2) (z := 1) (L' := [(1, vI 1), (0, .ref r0)]) rfl rfl rfl ?_)
  have lp268532 : ∀ (n268533 : Nat) (v268535 : Int), (1 ≤ v268535 ∧ v268535 ≤ 1) → 0 = n268533 → wp kt 8 176 2 [(1, vI v268535), (0, .ref r0)] [] T H (uq_176_o r0 rp rb fo po T H) := by
    intro n268533
    induction n268533 using Nat.strongRecOn with
    | _ n268533 ih268534 =>
      intro v268535 b268538 m268539
      refine wp_of e176 c176_2 (rw_iload_n (pc' := 3) (z := v268535) rfl rfl ?_)
      refine wp_of e176 c176_3 (rw_if_eq (p1 := 20) (p2 := 6) (by decide) rfl ⟨by omega, by omega⟩ (fun c268540 => ?_) (fun c268540 => ?_))
      · exfalso
        omega
      · refine wp_of e176 c176_6 (rw_aload_n (pc' := 7) (v := .ref r0) rfl rfl rfl ?_)
        refine wp_of e176 c176_7 (xc_V (pc' := 10) (r := r0) (as := []) (st := []) (lm_9_179) rfl rfl (Nat.le_of_ble_eq_true rfl) hW g0 sh_42 (by decide) rfl (by decide) (u_177_o (fo := fo) (po := po) hW g0 qrp grp qrb grb hRO_r0) (fun R268541 T268542 H268543 p268544 => ?_))
        obtain ⟨e268545, e268547, e268546, p268548⟩ := p268544
        subst e268545
        subst e268546
        subst e268547
        show wp _ _ 176 10 [(1, vI v268535), (0, .ref r0)] [] _ H _
        have u268550 := RO_k p268548
        refine wp_of e176 c176_10 (rw_aload_n (pc' := 11) (v := .ref r0) rfl rfl rfl ?_)
        refine wp_of e176 c176_11 (rw_bipush (pc' := 13) (z := 59) rfl (by decide) ?_)
        refine wp_of e176 c176_13 (xc_V (pc' := 16) (r := r0) (as := [vI 59]) (st := []) (lm_9_182) rfl rfl (Nat.le_of_ble_eq_true rfl) hW g0 sh_42 (by decide) rfl (by decide) (u_204_o (fo := fo) (po := po) hW g0 ⟨by omega, by omega⟩ qrb grb p268548) (fun R268551 T268552 H268553 p268554 => ?_))
        obtain ⟨e268555, e268557, z268558, e268556, b268559, p268560⟩ := p268554
        subst e268555
        subst e268556
        subst e268557
        obtain ⟨a268561, a268562⟩ := p268560
        show wp _ _ 176 16 [(1, vI v268535), (0, .ref r0)] [vI z268558] _ H _
        have u268563 := RO_k a268562
        refine wp_of e176 c176_16 (rw_istore_n (pc' := 17) (z := z268558) (L' := [(1, vI z268558), (0, .ref r0)]) rfl rfl rfl ?_)
        refine wp_of e176 c176_17 (rw_goto (p1 := 2) (by decide) ?_)
        refine wp_of e176 c176_2 (rw_iload_n (pc' := 3) (z := z268558) rfl rfl ?_)
        refine wp_of e176 c176_3 (rw_if_eq (p1 := 20) (p2 := 6) (by decide) rfl ⟨by omega, by omega⟩ (fun c268564 => ?_) (fun c268564 => ?_))
        · refine wp_of e176 c176_20 (rw_aload_n (pc' := 21) (v := .ref r0) rfl rfl rfl ?_)
          refine wp_of e176 c176_21 (xg_I (pc' := 24) lf_9_75 hW g0 sh_42 (by decide) (by decide) ty_42_9 rfl rfl (fun b268565 b268566 => ?_))
          refine wp_of e176 c176_24 (rw_iconst (pc' := 25) rfl ?_)
          refine wp_of e176 c176_25 (rw_icmp_eq (p1 := 33) (p2 := 28) (by decide) rfl ⟨by omega, by omega⟩ ⟨by omega, by omega⟩ (fun c268567 => ?_) (fun c268567 => ?_))
          · exfalso
            omega
          · refine wp_of e176 c176_28 (rw_aload_n (pc' := 29) (v := .ref r0) rfl rfl rfl ?_)
            refine wp_of e176 c176_29 (rw_iconst (pc' := 30) rfl ?_)
            refine wp_of e176 c176_30 (xc_V (pc' := 33) (r := r0) (as := [vI 1]) (st := []) (lm_9_121) rfl rfl (Nat.le_of_ble_eq_true rfl) hW g0 sh_42 (by decide) rfl (by decide) (u_181_o (fo := fo) (po := po) hW g0 ⟨by omega, by omega⟩ a268562) (fun R268568 T268569 H268570 p268571 => ?_))
            obtain ⟨e268572, e268574, e268573, p268575⟩ := p268571
            subst e268572
            subst e268573
            subst e268574
            show wp _ _ 176 33 [(1, vI z268558), (0, .ref r0)] [] _ H _
            have u268577 := RO_k p268575
            refine wp_of e176 c176_33 (rw_aload_n (pc' := 34) (v := .ref r0) rfl rfl rfl ?_)
            refine wp_of e176 c176_34 (xg_K (pc' := 37) lf_9_166 hW g0 sh_42 (by decide) (by decide) rfl qrp rfl ?_)
            refine wp_of e176 c176_37 (xg_I (pc' := 40) lf_9_185 hW grp sh_54 (by decide) (by decide) ty_54_0 rfl rfl (fun b268578 b268579 => ?_))
            refine wp_of e176 c176_40 (rw_if_eq (p1 := 53) (p2 := 43) (by decide) rfl ⟨by omega, by omega⟩ (fun c268580 => ?_) (fun c268580 => ?_))
            · refine wp_of e176 c176_53 (rw_aload_n (pc' := 54) (v := .ref r0) rfl rfl rfl ?_)
              refine wp_of e176 c176_54 (rw_bipush (pc' := 56) (z := 6) rfl (by decide) ?_)
              refine wp_of e176 c176_56 (xc_V (pc' := 59) (r := r0) (as := [vI 6]) (st := []) (lm_9_121) rfl rfl (Nat.le_of_ble_eq_true rfl) hW g0 sh_42 (by decide) rfl (by decide) (u_181_o (fo := fo) (po := po) hW g0 ⟨by omega, by omega⟩ p268575) (fun R268581 T268582 H268583 p268584 => ?_))
              obtain ⟨e268585, e268587, e268586, p268588⟩ := p268584
              subst e268585
              subst e268586
              subst e268587
              show wp _ _ 176 59 [(1, vI z268558), (0, .ref r0)] [] _ H _
              have u268590 := RO_k p268588
              exact wp_return e176 c176_59 rfl ⟨rfl, rfl, rfl, (p268588)⟩
            · refine wp_of e176 c176_43 (rw_aload_n (pc' := 44) (v := .ref r0) rfl rfl rfl ?_)
              refine wp_of e176 c176_44 (xg_K (pc' := 47) lf_9_166 hW g0 sh_42 (by decide) (by decide) rfl qrp rfl ?_)
              refine wp_of e176 c176_47 (xg_I (pc' := 50) lf_9_188 hW grp sh_54 (by decide) (by decide) ty_54_3 rfl rfl (fun b268591 b268592 => ?_))
              refine wp_of e176 c176_50 (rw_if_ne (p1 := 59) (p2 := 53) (by decide) rfl ⟨by omega, by omega⟩ (fun c268593 => ?_) (fun c268593 => ?_))
              · exact wp_return e176 c176_59 rfl ⟨rfl, rfl, rfl, (p268575)⟩
              · refine wp_of e176 c176_53 (rw_aload_n (pc' := 54) (v := .ref r0) rfl rfl rfl ?_)
                refine wp_of e176 c176_54 (rw_bipush (pc' := 56) (z := 6) rfl (by decide) ?_)
                refine wp_of e176 c176_56 (xc_V (pc' := 59) (r := r0) (as := [vI 6]) (st := []) (lm_9_121) rfl rfl (Nat.le_of_ble_eq_true rfl) hW g0 sh_42 (by decide) rfl (by decide) (u_181_o (fo := fo) (po := po) hW g0 ⟨by omega, by omega⟩ p268575) (fun R268594 T268595 H268596 p268597 => ?_))
                obtain ⟨e268598, e268600, e268599, p268601⟩ := p268597
                subst e268598
                subst e268599
                subst e268600
                show wp _ _ 176 59 [(1, vI z268558), (0, .ref r0)] [] _ H _
                have u268603 := RO_k p268601
                exact wp_return e176 c176_59 rfl ⟨rfl, rfl, rfl, (p268601)⟩
        · exfalso
          omega
  exact wp_lc (ks := [1, 0]) (wl_c rfl (wl_c rfl wl_n)) rfl (by decide) (lp268532 _ 1 ⟨by omega, by omega⟩ rfl)
