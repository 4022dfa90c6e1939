/-! what methods do (own work, written by wip/gen3/sx3.py) -/
/-! StrikeAwakeModel.readApart()V k -/
abbrev uq_196_k (r0 : Nat) (rp : Nat) (rb : Nat) (B : Nat → Int) (n : Int) (q : Int) (d : xD) (T : wq_T) (H : wq_H) : Option Value → wq_T → wq_H → Prop := fun r T' H' => T = T' ∧ WT T H' ∧ wfr [(54, 4), (42, 8), (42, 9), (42, 10), (42, 11), (42, 12), (42, 13), (42, 14), (42, 15), (64, 999), (65, 999)] T H H' ∧ none = r ∧ ((((xl3 B n q d).1 = 0) ∧ ((xl3 B n q d).2.2 = (xN B n (xN B n (xN B n (xN B n q))))) ∧ (q ≤ (xN B n (xN B n (xN B n (xN B n q))))) ∧ RC T H' r0 B n (xN B n (xN B n (xN B n (xN B n q)))) ∧ DM T H' rp r0 (xdap B n (xN B n q) d)) ∨ (((xl3 B n q d).1 ≠ 0) ∧ RO T H' r0 ((xl3 B n q d).1) ((xl3 B n q d).2.1)))
set_option maxHeartbeats 4000000 in
theorem u_196_k {kt : Nat → Option mc_E} {T : wq_T} {H : wq_H} {r0 : Nat} {rp : Nat} {rb : Nat} {B : Nat → Int} {n : Int} {q : Int} {d : xD} (hW : WT T H) (g0 : T.2.2.2 r0 = some 42) (qrp : H r0 4 = (rp : Int)) (grp : T.2.2.2 rp = some 54) (qrb : H r0 5 = (rb : Int)) (grb : T.2.2.2 rb = some 43) (p0 : xK B n q = 1) (hRC_r0 : RC T H r0 B n q) (hDM_rp : DM T H rp r0 d) : wpc kt 6 196 [.ref r0] T H (uq_196_k r0 rp rb B n q d T H) := by
  refine wp_enter e196 (Nat.le_of_ble_eq_true rfl) rfl ?_
  have f0 : wfr [(54, 4), (42, 8), (42, 9), (42, 10), (42, 11), (42, 12), (42, 13), (42, 14), (42, 15), (64, 999), (65, 999)] T H H := wfr.rf
  show wp _ _ 196 0 [(0, .ref r0)] [] _ H _
  have u260068 := RC_k hRC_r0
  have u260069 := DM_k hDM_rp
  have h260070 : MA9 T H rp (d 1) := hDM_rp.2.2.2.1
  have h260071 : MA10 T H rp (d 2) := hDM_rp.2.2.2.2.1
  have h260072 : MA11 T H rp (d 3) := hDM_rp.2.2.2.2.2.1
  have h260073 : MA12 T H rp (d 4) := hDM_rp.2.2.2.2.2.2.1
  have h260074 : MA13 T H rp (d 5) := hDM_rp.2.2.2.2.2.2.2.1
  have h260075 : MA14 T H rp (d 6) := hDM_rp.2.2.2.2.2.2.2.2.1
  have h260076 : MA15 T H rp (d 7) := hDM_rp.2.2.2.2.2.2.2.2.2.1
  have h260077 : MA16 T H rp (d 8) := hDM_rp.2.2.2.2.2.2.2.2.2.2.1
  have h260078 : MA17 T H rp (d 9) := hDM_rp.2.2.2.2.2.2.2.2.2.2.2.1
  have h260079 : MA18 T H rp (d 10) := hDM_rp.2.2.2.2.2.2.2.2.2.2.2.2.1
  have h260080 : MA19 T H rp (d 11) := hDM_rp.2.2.2.2.2.2.2.2.2.2.2.2.2.1
  have h260081 : MA20 T H rp (d 12) := hDM_rp.2.2.2.2.2.2.2.2.2.2.2.2.2.2.1
  have h260082 : MA21 T H rp (d 13) := hDM_rp.2.2.2.2.2.2.2.2.2.2.2.2.2.2.2.1
  have h260083 : MA22 T H rp (d 14) := hDM_rp.2.2.2.2.2.2.2.2.2.2.2.2.2.2.2.2.1
  have h260084 : MA23 T H rp (d 15) := hDM_rp.2.2.2.2.2.2.2.2.2.2.2.2.2.2.2.2.2.1
  have h260085 : MA25 T H rp (d 17) := hDM_rp.2.2.2.2.2.2.2.2.2.2.2.2.2.2.2.2.2.2.1
  have h260086 : MA26 T H rp (d 16) := hDM_rp.2.2.2.2.2.2.2.2.2.2.2.2.2.2.2.2.2.2.2
  refine wp_of e196 c196_0 (rw_aload_n (pc' := 1) (v := .ref r0) rfl rfl rfl ?_)
  refine wp_of e196 c196_1 (rw_aload_n (pc' := 2) (v := .ref r0) rfl rfl rfl ?_)
  refine wp_of e196 c196_2 (xg_K (pc' := 5) lf_9_166 hW g0 sh_42 (by decide) (by decide) rfl qrp rfl ?_)
  refine wp_of e196 c196_5 (xg_I (pc' := 8) lf_9_276 hW grp sh_54 (by decide) (by decide) ty_54_4 rfl rfl (fun b260087 b260088 => ?_))
  refine wp_of e196 c196_8 (rw_iconst (pc' := 9) rfl ?_)
  refine wp_of e196 c196_9 (xc_V (pc' := 12) (r := r0) (as := [vI (H rp 4), vI 3]) (st := []) (lm_9_228) rfl rfl (Nat.le_of_ble_eq_true rfl) hW g0 sh_42 (by decide) rfl (by decide) (u_188_k (B := B) (n := n) (q := q) hW g0 ⟨by omega, by omega⟩ ⟨by omega, by omega⟩ qrb grb (by omega) hRC_r0) (fun R260089 T260090 H260091 p260092 => ?_))
  obtain ⟨e260093, w260095, f260096, e260094, p260097⟩ := p260092
  subst e260093
  subst e260094
  rcases p260097 with ⟨a260098, a260099⟩ | ⟨a260100, a260101⟩
  · have f260102 := f0.tr f260096 rfl
    show wp _ _ 196 12 [(0, .ref r0)] [] _ H260091 _
    have u260103 := RC_k a260099
    refine wp_of e196 c196_12 (rw_aload_n (pc' := 13) (v := .ref r0) rfl rfl rfl ?_)
    have k260104 : H260091 r0 4 = H r0 4 := (f260096 r0 4 _ g0 rfl)
    have q260105 : H260091 r0 4 = (rp : Int) := k260104.trans qrp
    have k260106 : H260091 r0 5 = H r0 5 := (f260096 r0 5 _ g0 rfl)
    have q260107 : H260091 r0 5 = (rb : Int) := k260106.trans qrb
    have h260108 : DM T H260091 rp r0 d := (DM_fr hW grp f260096 rfl hDM_rp)
    refine wp_of e196 c196_13 (xc_V (pc' := 16) (r := r0) (as := []) (st := []) (lm_9_273) rfl rfl (Nat.le_of_ble_eq_true rfl) w260095 g0 sh_42 (by decide) rfl (by decide) (u_194_k (B := B) (n := n) (q := ((xN B n q))) (d := d) w260095 g0 q260105 grp q260107 grb a260099 h260108) (fun R260109 T260110 H260111 p260112 => ?_))
    obtain ⟨e260113, w260115, f260116, z260117, e260114, b260118, p260119⟩ := p260112
    subst e260113
    subst e260114
    rcases p260119 with ⟨a260120, a260121, a260122, a260123, a260124⟩ | ⟨a260125, a260126, a260127⟩
    · have f260128 := f260102.tr f260116 rfl
      show wp _ _ 196 16 [(0, .ref r0)] [vI z260117] _ H260111 _
      have u260129 := RC_k a260124
      refine wp_of e196 c196_16 (rw_istore_n (pc' := 17) (z := z260117) (L' := [(1, vI z260117), (0, .ref r0)]) rfl rfl rfl ?_)
      refine wp_of e196 c196_17 (rw_aload_n (pc' := 18) (v := .ref r0) rfl rfl rfl ?_)
      refine wp_of e196 c196_18 (rw_bipush (pc' := 20) (z := 44) rfl (by decide) ?_)
      have k260130 : H260111 r0 5 = H260091 r0 5 := (f260116 r0 5 _ g0 rfl)
      have q260131 : H260111 r0 5 = (rb : Int) := k260130.trans q260107
      refine wp_of e196 c196_20 (xc_V (pc' := 23) (r := r0) (as := [vI 44]) (st := []) (lm_9_279) rfl rfl (Nat.le_of_ble_eq_true rfl) w260115 g0 sh_42 (by decide) rfl (by decide) (u_197_k (B := B) (n := n) (q := ((xN B n ((xN B n q))))) (kd := 4) w260115 g0 ⟨by omega, by omega⟩ q260131 grb (by omega) a260124) (fun R260132 T260133 H260134 p260135 => ?_))
      obtain ⟨e260136, w260138, f260139, e260137, p260140⟩ := p260135
      subst e260136
      subst e260137
      rcases p260140 with ⟨a260141, a260142⟩ | ⟨a260143, a260144⟩
      · have f260145 := f260128.tr f260139 rfl
        show wp _ _ 196 23 [(1, vI z260117), (0, .ref r0)] [] _ H260134 _
        have u260146 := RC_k a260142
        refine wp_of e196 c196_23 (rw_aload_n (pc' := 24) (v := .ref r0) rfl rfl rfl ?_)
        have k260147 : H260134 r0 4 = H260091 r0 4 := ((f260139 r0 4 _ g0 rfl).trans (f260116 r0 4 _ g0 rfl))
        have q260148 : H260134 r0 4 = (rp : Int) := k260147.trans q260105
        have h260149 : DM T H260134 rp r0 d := (DM_fr w260115 grp f260139 rfl (DM_fr w260095 grp f260116 rfl h260108))
        refine wp_of e196 c196_24 (xc_V (pc' := 27) (r := r0) (as := []) (st := []) (lm_9_176) rfl rfl (Nat.le_of_ble_eq_true rfl) w260138 g0 sh_42 (by decide) rfl (by decide) (u_195_k (B := B) (n := n) (q := ((xN B n ((xN B n ((xN B n q))))))) (d := d) w260138 g0 q260148 grp a260142 h260149) (fun R260150 T260151 H260152 p260153 => ?_))
        obtain ⟨e260154, w260156, f260157, z260158, e260155, b260159, p260160⟩ := p260153
        subst e260154
        subst e260155
        rcases p260160 with ⟨a260161, a260162, a260163, a260164, a260165, a260166⟩ | ⟨a260167, a260168, a260169⟩
        · have f260170 := f260145.tr f260157 rfl
          show wp _ _ 196 27 [(1, vI z260117), (0, .ref r0)] [vI z260158] _ H260152 _
          have u260171 := RC_k a260166
          refine wp_of e196 c196_27 (rw_istore_n (pc' := 28) (z := z260158) (L' := [(2, vI z260158), (1, vI z260117), (0, .ref r0)]) rfl rfl rfl ?_)
          refine wp_of e196 c196_28 (rw_iload_n (pc' := 29) (z := z260117) rfl rfl ?_)
          refine wp_of e196 c196_29 (rw_iload_n (pc' := 30) (z := z260158) rfl rfl ?_)
          refine wp_of e196 c196_30 (rw_icmp_ne (p1 := 37) (p2 := 33) (by decide) rfl ⟨by omega, by omega⟩ ⟨by omega, by omega⟩ (fun c260172 => ?_) (fun c260172 => ?_))
          · refine wp_of e196 c196_37 (rw_iconst (pc' := 38) rfl ?_)
            refine wp_of e196 c196_38 (rw_istore_n (pc' := 39) (z := 0) (L' := [(3, vI 0), (2, vI z260158), (1, vI z260117), (0, .ref r0)]) rfl rfl rfl ?_)
            refine wp_of e196 c196_39 (rw_iconst (pc' := 40) rfl ?_)
            refine wp_of e196 c196_40 (rw_istore (pc' := 42) (z := 0) (L' := [(4, vI 0), (3, vI 0), (2, vI z260158), (1, vI z260117), (0, .ref r0)]) rfl rfl rfl ?_)
            have k260314 : H260152 rp 4 = H rp 4 := ((f260157 rp 4 _ grp rfl).trans ((f260139 rp 4 _ grp rfl).trans ((f260116 rp 4 _ grp rfl).trans (f260096 rp 4 _ grp rfl))))
            have lp260309 : ∀ (n260310 : Nat) (v260312 : Int) (v260313 : Int), (0 ≤ v260312 ∧ v260312 ≤ 3) → (0 ≤ v260313 ∧ v260313 ≤ 1) → (v260313 = xgg d z260117 z260158 v260312) → (v260312 ≤ d 0 4) → (3 - v260312).toNat = n260310 → wp kt 5 196 42 [(4, vI v260312), (3, vI v260313), (2, vI z260158), (1, vI z260117), (0, .ref r0)] [] T H260152 (uq_196_k r0 rp rb B n q d T H) := by
              intro n260310
              induction n260310 using Nat.strongRecOn with
              | _ n260310 ih260311 =>
                intro v260312 v260313 b260317 b260318 x260319 x260320 m260321
                refine wp_of e196 c196_42 (rw_iload (pc' := 44) (z := v260312) rfl rfl ?_)
                refine wp_of e196 c196_44 (rw_aload_n (pc' := 45) (v := .ref r0) rfl rfl rfl ?_)
                have k260322 : H260152 r0 4 = H260134 r0 4 := (f260157 r0 4 _ g0 rfl)
                have q260323 : H260152 r0 4 = (rp : Int) := k260322.trans q260148
                refine wp_of e196 c196_45 (xg_K (pc' := 48) lf_9_166 w260156 g0 sh_42 (by decide) (by decide) rfl q260323 rfl ?_)
                refine wp_of e196 c196_48 (xg_I (pc' := 51) lf_9_276 w260156 grp sh_54 (by decide) (by decide) ty_54_4 rfl rfl (fun b260324 b260325 => ?_))
                refine wp_of e196 c196_51 (rw_icmp_ge (p1 := 126) (p2 := 54) (by decide) rfl ⟨by omega, by omega⟩ ⟨by omega, by omega⟩ (fun c260326 => ?_) (fun c260326 => ?_))
                · have _g := @xac_g d z260117 z260158 v260312 (by omega)
                  have _c : xac d (xwho B n (xN B n q) d) (xwho B n (xN B n (xN B n (xN B n q))) d) = xac d z260117 z260158 := by rw [show xwho B n (xN B n q) d = z260117 by omega, show xwho B n (xN B n (xN B n (xN B n q))) d = z260158 by omega]
                  refine wp_of e196 c196_126 (rw_iload_n (pc' := 127) (z := v260313) rfl rfl ?_)
                  refine wp_of e196 c196_127 (rw_if_eq (p1 := 135) (p2 := 130) (by decide) rfl ⟨by omega, by omega⟩ (fun c260327 => ?_) (fun c260327 => ?_))
                  · refine wp_of e196 c196_135 (rw_aload_n (pc' := 136) (v := .ref r0) rfl rfl rfl ?_)
                    have k260328 : H260152 r0 5 = H260111 r0 5 := ((f260157 r0 5 _ g0 rfl).trans (f260139 r0 5 _ g0 rfl))
                    have q260329 : H260152 r0 5 = (rb : Int) := k260328.trans q260131
                    have u260330 := RC_a a260166
                    have h260331 : TM T H260152 rb B := RC_tm a260166 q260329
                    refine wp_of e196 c196_136 (xc_V (pc' := 139) (r := r0) (as := []) (st := []) (lm_9_118) rfl rfl (Nat.le_of_ble_eq_true rfl) w260156 g0 sh_42 (by decide) rfl (by decide) (u_172_k (B := B) (n := n) (a := (xE B n ((xN B n ((xN B n ((xN B n q)))))))) (q := (xN B n ((xN B n ((xN B n ((xN B n q)))))))) w260156 g0 q260329 grb (by omega) (by omega) (by omega) (by omega) (by omega) (rfl) h260331) (fun R260332 T260333 H260334 p260335 => ?_))
                    obtain ⟨e260336, w260338, f260339, e260337, p260340⟩ := p260335
                    subst e260336
                    subst e260337
                    have f260342 := f260170.tr f260339 rfl
                    show wp _ _ 196 139 [(4, vI v260312), (3, vI v260313), (2, vI z260158), (1, vI z260117), (0, .ref r0)] [] _ H260334 _
                    have u260343 := RC_k p260340
                    refine wp_of e196 c196_139 (rw_aload_n (pc' := 140) (v := .ref r0) rfl rfl rfl ?_)
                    refine wp_of e196 c196_140 (xg_I (pc' := 143) lf_9_75 w260338 g0 sh_42 (by decide) (by decide) ty_42_9 rfl rfl (fun b260344 b260345 => ?_))
                    refine wp_of e196 c196_143 (rw_iconst (pc' := 144) rfl ?_)
                    refine wp_of e196 c196_144 (rw_icmp_ne (p1 := 148) (p2 := 147) (by decide) rfl ⟨by omega, by omega⟩ ⟨by omega, by omega⟩ (fun c260346 => ?_) (fun c260346 => ?_))
                    · refine wp_of e196 c196_148 (rw_aload_n (pc' := 149) (v := .ref r0) rfl rfl rfl ?_)
                      have k260347 : H260334 r0 4 = H260152 r0 4 := (f260339 r0 4 _ g0 rfl)
                      have q260348 : H260334 r0 4 = (rp : Int) := k260347.trans q260323
                      refine wp_of e196 c196_149 (xg_K (pc' := 152) lf_9_166 w260338 g0 sh_42 (by decide) (by decide) rfl q260348 rfl ?_)
                      refine wp_of e196 c196_152 (xg_R (pc' := 155) lf_9_282 w260338 grp sh_54 (by decide) (by decide) ty_54_18 rfl rfl (fun r260349 q260350 g260351 => ?_))
                      refine wp_of e196 c196_155 (rw_aload_n (pc' := 156) (v := .ref r0) rfl rfl rfl ?_)
                      refine wp_of e196 c196_156 (xg_K (pc' := 159) lf_9_166 w260338 g0 sh_42 (by decide) (by decide) rfl q260348 rfl ?_)
                      have k260352 : H260334 rp 4 = H260152 rp 4 := (f260339 rp 4 _ grp rfl)
                      refine wp_of e196 c196_159 (xg_I (pc' := 162) lf_9_276 w260338 grp sh_54 (by decide) (by decide) ty_54_4 rfl rfl (fun b260353 b260354 => ?_))
                      refine wp_of e196 c196_162 (rw_iload_n (pc' := 163) (z := z260117) rfl rfl ?_)
                      have h260355 : MA18 T H260334 rp (d 10) := (MA18_fr w260156 grp f260339 rfl (MA18_fr w260138 grp f260157 rfl (MA18_fr w260115 grp f260139 rfl (MA18_fr w260095 grp f260116 rfl (MA18_fr hW grp f260096 rfl h260079)))))
                      refine wp_of e196 c196_163 (xs_I (pc' := 164) w260338 g260351 (by decide) sh_64 (by decide) (ty_64 _) (by omega) (by omega) ⟨by omega, by omega⟩ (by omega) (by omega) rfl (fun H260356 e260357 w260358 => ?_))
                      have f260359 := f260342.put' e260357 g260351 rfl
                      have h260360 : MA18 T H260356 rp (xdap B n (xN B n q) d 10) := MA_put h260355 q260350 grp g260351 (by decide) e260357 ((xdap_c (k := ((H260334 rp 4).toNat)) (by omega)).1.trans (by omega)) (xdap_c (k := ((H260334 rp 4).toNat)) (by omega)).2
                      refine wp_of e196 c196_164 (rw_aload_n (pc' := 165) (v := .ref r0) rfl rfl rfl ?_)
                      have k260361 : H260356 r0 4 = H260334 r0 4 := (wq_u_t e260357 g260351 g0 rfl 4)
                      have q260362 : H260356 r0 4 = (rp : Int) := k260361.trans q260348
                      refine wp_of e196 c196_165 (xg_K (pc' := 168) lf_9_166 w260358 g0 sh_42 (by decide) (by decide) rfl q260362 rfl ?_)
                      refine wp_of e196 c196_168 (xg_R (pc' := 171) lf_9_285 w260358 grp sh_54 (by decide) (by decide) ty_54_19 rfl rfl (fun r260363 q260364 g260365 => ?_))
                      refine wp_of e196 c196_171 (rw_aload_n (pc' := 172) (v := .ref r0) rfl rfl rfl ?_)
                      refine wp_of e196 c196_172 (xg_K (pc' := 175) lf_9_166 w260358 g0 sh_42 (by decide) (by decide) rfl q260362 rfl ?_)
                      have k260366 : H260356 rp 4 = H260334 rp 4 := (wq_u_t e260357 g260351 grp rfl 4)
                      refine wp_of e196 c196_175 (xg_I (pc' := 178) lf_9_276 w260358 grp sh_54 (by decide) (by decide) ty_54_4 rfl rfl (fun b260367 b260368 => ?_))
                      refine wp_of e196 c196_178 (rw_iload_n (pc' := 179) (z := z260158) rfl rfl ?_)
                      have h260369 : MA19 T H260356 rp (d 11) := (MA19_fr w260338 grp ((wfr.rf (l := [(64, 999)])).put' e260357 g260351 rfl) rfl (MA19_fr w260156 grp f260339 rfl (MA19_fr w260138 grp f260157 rfl (MA19_fr w260115 grp f260139 rfl (MA19_fr w260095 grp f260116 rfl (MA19_fr hW grp f260096 rfl h260080))))))
                      refine wp_of e196 c196_179 (xs_I (pc' := 180) w260358 g260365 (by decide) sh_65 (by decide) (ty_65 _) (by omega) (by omega) ⟨by omega, by omega⟩ (by omega) (by omega) rfl (fun H260370 e260371 w260372 => ?_))
                      have f260373 := f260359.put' e260371 g260365 rfl
                      have h260374 : MA19 T H260370 rp (xdap B n (xN B n q) d 11) := MA_put h260369 q260364 grp g260365 (by decide) e260371 ((xdap_e (k := ((H260356 rp 4).toNat)) (by omega)).1.trans (by omega)) (xdap_e (k := ((H260356 rp 4).toNat)) (by omega)).2
                      refine wp_of e196 c196_180 (rw_aload_n (pc' := 181) (v := .ref r0) rfl rfl rfl ?_)
                      have k260375 : H260370 r0 4 = H260356 r0 4 := (wq_u_t e260371 g260365 g0 rfl 4)
                      have q260376 : H260370 r0 4 = (rp : Int) := k260375.trans q260362
                      refine wp_of e196 c196_181 (xg_K (pc' := 184) lf_9_166 w260372 g0 sh_42 (by decide) (by decide) rfl q260376 rfl ?_)
                      refine wp_of e196 c196_184 (rw_dup (pc' := 185) rfl rfl ?_)
                      have k260377 : H260370 rp 4 = H260356 rp 4 := (wq_u_t e260371 g260365 grp rfl 4)
                      refine wp_of e196 c196_185 (xg_I (pc' := 188) lf_9_276 w260372 grp sh_54 (by decide) (by decide) ty_54_4 rfl rfl (fun b260378 b260379 => ?_))
                      refine wp_of e196 c196_188 (rw_iconst (pc' := 189) rfl ?_)
                      refine wp_of e196 c196_189 (rw_iadd (pc' := 190) rfl ?_)
                      refine wp_of e196 c196_190 (xp_I (pc' := 193) lf_9_276 w260372 grp sh_54 (by decide) (by decide) ty_54_4 rfl rfl (by omega) (by omega) ⟨by omega, by omega⟩ rfl (fun H260380 e260381 w260382 => ?_))
                      have f260383 := f260373.put' e260381 grp rfl
                      have k260384 : H260380 rp 4 = (H260370 rp 4) + 1 := wq_u_s e260381
                      have k260385 : H260380 rp 0 = H rp 0 := ((wq_u_j e260381 rfl).trans ((wq_u_t e260371 g260365 grp rfl 0).trans ((wq_u_t e260357 g260351 grp rfl 0).trans ((f260339 rp 0 _ grp rfl).trans ((f260157 rp 0 _ grp rfl).trans ((f260139 rp 0 _ grp rfl).trans ((f260116 rp 0 _ grp rfl).trans (f260096 rp 0 _ grp rfl))))))))
                      have k260386 : H260380 rp 1 = H rp 1 := ((wq_u_j e260381 rfl).trans ((wq_u_t e260371 g260365 grp rfl 1).trans ((wq_u_t e260357 g260351 grp rfl 1).trans ((f260339 rp 1 _ grp rfl).trans ((f260157 rp 1 _ grp rfl).trans ((f260139 rp 1 _ grp rfl).trans ((f260116 rp 1 _ grp rfl).trans (f260096 rp 1 _ grp rfl))))))))
                      have k260387 : H260380 rp 2 = H rp 2 := ((wq_u_j e260381 rfl).trans ((wq_u_t e260371 g260365 grp rfl 2).trans ((wq_u_t e260357 g260351 grp rfl 2).trans ((f260339 rp 2 _ grp rfl).trans ((f260157 rp 2 _ grp rfl).trans ((f260139 rp 2 _ grp rfl).trans ((f260116 rp 2 _ grp rfl).trans (f260096 rp 2 _ grp rfl))))))))
                      have k260388 : H260380 rp 3 = H rp 3 := ((wq_u_j e260381 rfl).trans ((wq_u_t e260371 g260365 grp rfl 3).trans ((wq_u_t e260357 g260351 grp rfl 3).trans ((f260339 rp 3 _ grp rfl).trans ((f260157 rp 3 _ grp rfl).trans ((f260139 rp 3 _ grp rfl).trans ((f260116 rp 3 _ grp rfl).trans (f260096 rp 3 _ grp rfl))))))))
                      have k260389 : H260380 rp 5 = H rp 5 := ((wq_u_j e260381 rfl).trans ((wq_u_t e260371 g260365 grp rfl 5).trans ((wq_u_t e260357 g260351 grp rfl 5).trans ((f260339 rp 5 _ grp rfl).trans ((f260157 rp 5 _ grp rfl).trans ((f260139 rp 5 _ grp rfl).trans ((f260116 rp 5 _ grp rfl).trans (f260096 rp 5 _ grp rfl))))))))
                      have k260390 : H260380 rp 6 = H rp 6 := ((wq_u_j e260381 rfl).trans ((wq_u_t e260371 g260365 grp rfl 6).trans ((wq_u_t e260357 g260351 grp rfl 6).trans ((f260339 rp 6 _ grp rfl).trans ((f260157 rp 6 _ grp rfl).trans ((f260139 rp 6 _ grp rfl).trans ((f260116 rp 6 _ grp rfl).trans (f260096 rp 6 _ grp rfl))))))))
                      have k260391 : H260380 rp 7 = H rp 7 := ((wq_u_j e260381 rfl).trans ((wq_u_t e260371 g260365 grp rfl 7).trans ((wq_u_t e260357 g260351 grp rfl 7).trans ((f260339 rp 7 _ grp rfl).trans ((f260157 rp 7 _ grp rfl).trans ((f260139 rp 7 _ grp rfl).trans ((f260116 rp 7 _ grp rfl).trans (f260096 rp 7 _ grp rfl))))))))
                      have k260392 : H260380 rp 8 = H rp 8 := ((wq_u_j e260381 rfl).trans ((wq_u_t e260371 g260365 grp rfl 8).trans ((wq_u_t e260357 g260351 grp rfl 8).trans ((f260339 rp 8 _ grp rfl).trans ((f260157 rp 8 _ grp rfl).trans ((f260139 rp 8 _ grp rfl).trans ((f260116 rp 8 _ grp rfl).trans (f260096 rp 8 _ grp rfl))))))))
                      have k260393 : H260380 r0 16 = H r0 16 := ((wq_u_t e260381 grp g0 rfl 16).trans ((wq_u_t e260371 g260365 g0 rfl 16).trans ((wq_u_t e260357 g260351 g0 rfl 16).trans ((f260339 r0 16 _ g0 rfl).trans ((f260157 r0 16 _ g0 rfl).trans ((f260139 r0 16 _ g0 rfl).trans ((f260116 r0 16 _ g0 rfl).trans (f260096 r0 16 _ g0 rfl))))))))
                      have o260394 : (xl3 B n q d) = (0, (xN B n q), (xN B n ((xN B n ((xN B n ((xN B n q)))))))) := by
                        unfold xl3 xap
                        repeat first | rw [xs_0 (by omega)] | rw [xs_1 (by omega)] | rw [if_pos (by omega)] | rw [if_neg (by omega)]
                        first | done | rfl | assumption | (exfalso; omega) | (refine Prod.ext ?_ (Prod.ext ?_ ?_) <;> (try dsimp only) <;> omega)
                      have o260394a : ((xl3 B n q d)).1 = 0 := by rw [o260394]
                      have o260394b : ((xl3 B n q d)).2.1 = (xN B n q) := by rw [o260394]
                      have o260394c : ((xl3 B n q d)).2.2 = (xN B n ((xN B n ((xN B n ((xN B n q))))))) := by rw [o260394]
                      have _l := @xdap_v B n (xN B n q) d
                      have h260395 : RC T H260380 r0 B n (xN B n ((xN B n ((xN B n ((xN B n q))))))) := (RC_fr w260372 g0 ((wfr.rf (l := [(54, 4)])).put' e260381 grp rfl) rfl (RC_fr w260358 g0 ((wfr.rf (l := [(65, 999)])).put' e260371 g260365 rfl) rfl (RC_fr w260338 g0 ((wfr.rf (l := [(64, 999)])).put' e260357 g260351 rfl) rfl p260340)))
                      have h260396 : MA9 T H260380 rp (d 1) := (MA9_fr w260372 grp ((wfr.rf (l := [(54, 4)])).put' e260381 grp rfl) rfl (MA9_fr w260358 grp ((wfr.rf (l := [(65, 999)])).put' e260371 g260365 rfl) rfl (MA9_fr w260338 grp ((wfr.rf (l := [(64, 999)])).put' e260357 g260351 rfl) rfl (MA9_fr w260156 grp f260339 rfl (MA9_fr w260138 grp f260157 rfl (MA9_fr w260115 grp f260139 rfl (MA9_fr w260095 grp f260116 rfl (MA9_fr hW grp f260096 rfl h260070))))))))
                      have h260397 : MA10 T H260380 rp (d 2) := (MA10_fr w260372 grp ((wfr.rf (l := [(54, 4)])).put' e260381 grp rfl) rfl (MA10_fr w260358 grp ((wfr.rf (l := [(65, 999)])).put' e260371 g260365 rfl) rfl (MA10_fr w260338 grp ((wfr.rf (l := [(64, 999)])).put' e260357 g260351 rfl) rfl (MA10_fr w260156 grp f260339 rfl (MA10_fr w260138 grp f260157 rfl (MA10_fr w260115 grp f260139 rfl (MA10_fr w260095 grp f260116 rfl (MA10_fr hW grp f260096 rfl h260071))))))))
                      have h260398 : MA11 T H260380 rp (d 3) := (MA11_fr w260372 grp ((wfr.rf (l := [(54, 4)])).put' e260381 grp rfl) rfl (MA11_fr w260358 grp ((wfr.rf (l := [(65, 999)])).put' e260371 g260365 rfl) rfl (MA11_fr w260338 grp ((wfr.rf (l := [(64, 999)])).put' e260357 g260351 rfl) rfl (MA11_fr w260156 grp f260339 rfl (MA11_fr w260138 grp f260157 rfl (MA11_fr w260115 grp f260139 rfl (MA11_fr w260095 grp f260116 rfl (MA11_fr hW grp f260096 rfl h260072))))))))
                      have h260399 : MA12 T H260380 rp (d 4) := (MA12_fr w260372 grp ((wfr.rf (l := [(54, 4)])).put' e260381 grp rfl) rfl (MA12_fr w260358 grp ((wfr.rf (l := [(65, 999)])).put' e260371 g260365 rfl) rfl (MA12_fr w260338 grp ((wfr.rf (l := [(64, 999)])).put' e260357 g260351 rfl) rfl (MA12_fr w260156 grp f260339 rfl (MA12_fr w260138 grp f260157 rfl (MA12_fr w260115 grp f260139 rfl (MA12_fr w260095 grp f260116 rfl (MA12_fr hW grp f260096 rfl h260073))))))))
                      have h260400 : MA13 T H260380 rp (d 5) := (MA13_fr w260372 grp ((wfr.rf (l := [(54, 4)])).put' e260381 grp rfl) rfl (MA13_fr w260358 grp ((wfr.rf (l := [(65, 999)])).put' e260371 g260365 rfl) rfl (MA13_fr w260338 grp ((wfr.rf (l := [(64, 999)])).put' e260357 g260351 rfl) rfl (MA13_fr w260156 grp f260339 rfl (MA13_fr w260138 grp f260157 rfl (MA13_fr w260115 grp f260139 rfl (MA13_fr w260095 grp f260116 rfl (MA13_fr hW grp f260096 rfl h260074))))))))
                      have h260401 : MA14 T H260380 rp (d 6) := (MA14_fr w260372 grp ((wfr.rf (l := [(54, 4)])).put' e260381 grp rfl) rfl (MA14_fr w260358 grp ((wfr.rf (l := [(65, 999)])).put' e260371 g260365 rfl) rfl (MA14_fr w260338 grp ((wfr.rf (l := [(64, 999)])).put' e260357 g260351 rfl) rfl (MA14_fr w260156 grp f260339 rfl (MA14_fr w260138 grp f260157 rfl (MA14_fr w260115 grp f260139 rfl (MA14_fr w260095 grp f260116 rfl (MA14_fr hW grp f260096 rfl h260075))))))))
                      have h260402 : MA15 T H260380 rp (d 7) := (MA15_fr w260372 grp ((wfr.rf (l := [(54, 4)])).put' e260381 grp rfl) rfl (MA15_fr w260358 grp ((wfr.rf (l := [(65, 999)])).put' e260371 g260365 rfl) rfl (MA15_fr w260338 grp ((wfr.rf (l := [(64, 999)])).put' e260357 g260351 rfl) rfl (MA15_fr w260156 grp f260339 rfl (MA15_fr w260138 grp f260157 rfl (MA15_fr w260115 grp f260139 rfl (MA15_fr w260095 grp f260116 rfl (MA15_fr hW grp f260096 rfl h260076))))))))
                      have h260403 : MA16 T H260380 rp (d 8) := (MA16_fr w260372 grp ((wfr.rf (l := [(54, 4)])).put' e260381 grp rfl) rfl (MA16_fr w260358 grp ((wfr.rf (l := [(65, 999)])).put' e260371 g260365 rfl) rfl (MA16_fr w260338 grp ((wfr.rf (l := [(64, 999)])).put' e260357 g260351 rfl) rfl (MA16_fr w260156 grp f260339 rfl (MA16_fr w260138 grp f260157 rfl (MA16_fr w260115 grp f260139 rfl (MA16_fr w260095 grp f260116 rfl (MA16_fr hW grp f260096 rfl h260077))))))))
                      have h260404 : MA17 T H260380 rp (d 9) := (MA17_fr w260372 grp ((wfr.rf (l := [(54, 4)])).put' e260381 grp rfl) rfl (MA17_fr w260358 grp ((wfr.rf (l := [(65, 999)])).put' e260371 g260365 rfl) rfl (MA17_fr w260338 grp ((wfr.rf (l := [(64, 999)])).put' e260357 g260351 rfl) rfl (MA17_fr w260156 grp f260339 rfl (MA17_fr w260138 grp f260157 rfl (MA17_fr w260115 grp f260139 rfl (MA17_fr w260095 grp f260116 rfl (MA17_fr hW grp f260096 rfl h260078))))))))
                      have h260405 : MA18 T H260380 rp (xdap B n (xN B n q) d 10) := (MA18_fr w260372 grp ((wfr.rf (l := [(54, 4)])).put' e260381 grp rfl) rfl (MA18_fr w260358 grp ((wfr.rf (l := [(65, 999)])).put' e260371 g260365 rfl) rfl h260360))
                      have h260406 : MA19 T H260380 rp (xdap B n (xN B n q) d 11) := (MA19_fr w260372 grp ((wfr.rf (l := [(54, 4)])).put' e260381 grp rfl) rfl h260374)
                      have h260407 : MA20 T H260380 rp (d 12) := (MA20_fr w260372 grp ((wfr.rf (l := [(54, 4)])).put' e260381 grp rfl) rfl (MA20_fr w260358 grp ((wfr.rf (l := [(65, 999)])).put' e260371 g260365 rfl) rfl (MA20_fr w260338 grp ((wfr.rf (l := [(64, 999)])).put' e260357 g260351 rfl) rfl (MA20_fr w260156 grp f260339 rfl (MA20_fr w260138 grp f260157 rfl (MA20_fr w260115 grp f260139 rfl (MA20_fr w260095 grp f260116 rfl (MA20_fr hW grp f260096 rfl h260081))))))))
                      have h260408 : MA21 T H260380 rp (d 13) := (MA21_fr w260372 grp ((wfr.rf (l := [(54, 4)])).put' e260381 grp rfl) rfl (MA21_fr w260358 grp ((wfr.rf (l := [(65, 999)])).put' e260371 g260365 rfl) rfl (MA21_fr w260338 grp ((wfr.rf (l := [(64, 999)])).put' e260357 g260351 rfl) rfl (MA21_fr w260156 grp f260339 rfl (MA21_fr w260138 grp f260157 rfl (MA21_fr w260115 grp f260139 rfl (MA21_fr w260095 grp f260116 rfl (MA21_fr hW grp f260096 rfl h260082))))))))
                      have h260409 : MA22 T H260380 rp (d 14) := (MA22_fr w260372 grp ((wfr.rf (l := [(54, 4)])).put' e260381 grp rfl) rfl (MA22_fr w260358 grp ((wfr.rf (l := [(65, 999)])).put' e260371 g260365 rfl) rfl (MA22_fr w260338 grp ((wfr.rf (l := [(64, 999)])).put' e260357 g260351 rfl) rfl (MA22_fr w260156 grp f260339 rfl (MA22_fr w260138 grp f260157 rfl (MA22_fr w260115 grp f260139 rfl (MA22_fr w260095 grp f260116 rfl (MA22_fr hW grp f260096 rfl h260083))))))))
                      have h260410 : MA23 T H260380 rp (d 15) := (MA23_fr w260372 grp ((wfr.rf (l := [(54, 4)])).put' e260381 grp rfl) rfl (MA23_fr w260358 grp ((wfr.rf (l := [(65, 999)])).put' e260371 g260365 rfl) rfl (MA23_fr w260338 grp ((wfr.rf (l := [(64, 999)])).put' e260357 g260351 rfl) rfl (MA23_fr w260156 grp f260339 rfl (MA23_fr w260138 grp f260157 rfl (MA23_fr w260115 grp f260139 rfl (MA23_fr w260095 grp f260116 rfl (MA23_fr hW grp f260096 rfl h260084))))))))
                      have h260411 : MA25 T H260380 rp (d 17) := (MA25_fr w260372 grp ((wfr.rf (l := [(54, 4)])).put' e260381 grp rfl) rfl (MA25_fr w260358 grp ((wfr.rf (l := [(65, 999)])).put' e260371 g260365 rfl) rfl (MA25_fr w260338 grp ((wfr.rf (l := [(64, 999)])).put' e260357 g260351 rfl) rfl (MA25_fr w260156 grp f260339 rfl (MA25_fr w260138 grp f260157 rfl (MA25_fr w260115 grp f260139 rfl (MA25_fr w260095 grp f260116 rfl (MA25_fr hW grp f260096 rfl h260085))))))))
                      have h260412 : MA26 T H260380 rp (d 16) := (MA26_fr w260372 grp ((wfr.rf (l := [(54, 4)])).put' e260381 grp rfl) rfl (MA26_fr w260358 grp ((wfr.rf (l := [(65, 999)])).put' e260371 g260365 rfl) rfl (MA26_fr w260338 grp ((wfr.rf (l := [(64, 999)])).put' e260357 g260351 rfl) rfl (MA26_fr w260156 grp f260339 rfl (MA26_fr w260138 grp f260157 rfl (MA26_fr w260115 grp f260139 rfl (MA26_fr w260095 grp f260116 rfl (MA26_fr hW grp f260096 rfl h260086))))))))
                      exact wp_return e196 c196_193 rfl ⟨rfl, w260382, f260383, rfl, (Or.inl ⟨by omega, by omega, by omega, h260395, DM_mk hDM_rp.1 ⟨by omega, by omega, by omega, by omega, by omega, by omega, by omega, by omega, by omega, by omega, by omega, by omega⟩ (xdP_cg hDM_rp.2.2.1 (fun i h1 h2 => by unfold xdap; rw [wq_u_row (by omega), wq_u_row (by omega), wq_u_row (by omega)])) h260396 h260397 h260398 h260399 h260400 h260401 h260402 h260403 h260404 h260405 h260406 h260407 h260408 h260409 h260410 h260411 h260412 ⟨(by unfold xdap; rw [wq_u_row (by decide), wq_u_row (by decide), wq_u_row (by decide)]), (by unfold xdap; rw [wq_u_row (by decide), wq_u_row (by decide), wq_u_row (by decide)]), (by unfold xdap; rw [wq_u_row (by decide), wq_u_row (by decide), wq_u_row (by decide)]), (by unfold xdap; rw [wq_u_row (by decide), wq_u_row (by decide), wq_u_row (by decide)]), (by unfold xdap; rw [wq_u_row (by decide), wq_u_row (by decide), wq_u_row (by decide)]), (by unfold xdap; rw [wq_u_row (by decide), wq_u_row (by decide), wq_u_row (by decide)]), (by unfold xdap; rw [wq_u_row (by decide), wq_u_row (by decide), wq_u_row (by decide)]), (by unfold xdap; rw [wq_u_row (by decide), wq_u_row (by decide), wq_u_row (by decide)]), (by unfold xdap; rw [wq_u_row (by decide), wq_u_row (by decide), wq_u_row (by decide)]), rfl, rfl, (by unfold xdap; rw [wq_u_row (by decide), wq_u_row (by decide), wq_u_row (by decide)]), (by unfold xdap; rw [wq_u_row (by decide), wq_u_row (by decide), wq_u_row (by decide)]), (by unfold xdap; rw [wq_u_row (by decide), wq_u_row (by decide), wq_u_row (by decide)]), (by unfold xdap; rw [wq_u_row (by decide), wq_u_row (by decide), wq_u_row (by decide)]), (by unfold xdap; rw [wq_u_row (by decide), wq_u_row (by decide), wq_u_row (by decide)]), (by unfold xdap; rw [wq_u_row (by decide), wq_u_row (by decide), wq_u_row (by decide)])⟩⟩)⟩
                    · exfalso
                      omega
                  · refine wp_of e196 c196_130 (rw_aload_n (pc' := 131) (v := .ref r0) rfl rfl rfl ?_)
                    refine wp_of e196 c196_131 (rw_iconst (pc' := 132) rfl ?_)
                    refine wp_of e196 c196_132 (xc_V (pc' := 135) (r := r0) (as := [vI 3]) (st := []) (lm_9_121) rfl rfl (Nat.le_of_ble_eq_true rfl) w260156 g0 sh_42 (by decide) rfl (by decide) (u_181_k (B := B) (n := n) (q := ((xN B n ((xN B n ((xN B n q))))))) w260156 g0 ⟨by omega, by omega⟩ (by omega) a260166) (fun R260413 T260414 H260415 p260416 => ?_))
                    obtain ⟨e260417, w260419, f260420, e260418, p260421⟩ := p260416
                    subst e260417
                    subst e260418
                    have f260423 := f260170.tr f260420 rfl
                    show wp _ _ 196 135 [(4, vI v260312), (3, vI v260313), (2, vI z260158), (1, vI z260117), (0, .ref r0)] [] _ H260415 _
                    have u260424 := RO_k p260421
                    refine wp_of e196 c196_135 (rw_aload_n (pc' := 136) (v := .ref r0) rfl rfl rfl ?_)
                    refine wp_of e196 c196_136 (xc_V (pc' := 139) (r := r0) (as := []) (st := []) (lm_9_118) rfl rfl (Nat.le_of_ble_eq_true rfl) w260419 g0 sh_42 (by decide) rfl (by decide) (u_172_o (fo := 3) (po := (((xN B n ((xN B n ((xN B n q)))))))) w260419 g0 p260421) (fun R260425 T260426 H260427 p260428 => ?_))
                    obtain ⟨e260429, e260431, e260430, p260432⟩ := p260428
                    subst e260429
                    subst e260430
                    subst e260431
                    show wp _ _ 196 139 [(4, vI v260312), (3, vI v260313), (2, vI z260158), (1, vI z260117), (0, .ref r0)] [] _ H260415 _
                    have u260434 := RO_k p260432
                    refine wp_of e196 c196_139 (rw_aload_n (pc' := 140) (v := .ref r0) rfl rfl rfl ?_)
                    refine wp_of e196 c196_140 (xg_I (pc' := 143) lf_9_75 w260419 g0 sh_42 (by decide) (by decide) ty_42_9 rfl rfl (fun b260435 b260436 => ?_))
                    refine wp_of e196 c196_143 (rw_iconst (pc' := 144) rfl ?_)
                    refine wp_of e196 c196_144 (rw_icmp_ne (p1 := 148) (p2 := 147) (by decide) rfl ⟨by omega, by omega⟩ ⟨by omega, by omega⟩ (fun c260437 => ?_) (fun c260437 => ?_))
                    · exfalso
                      omega
                    · have o260438 : (xl3 B n q d) = (xac d (xwho B n (xN B n q) d) (xwho B n (xN B n (xN B n (xN B n q))) d), (xN B n (xN B n (xN B n q))), (xN B n (xN B n (xN B n q)))) := by
                        unfold xl3 xap
                        repeat first | rw [xs_0 (by omega)] | rw [xs_1 (by omega)] | rw [if_pos (by omega)] | rw [if_neg (by omega)]
                        first | done | rfl | assumption | (exfalso; omega) | (refine Prod.ext ?_ (Prod.ext ?_ ?_) <;> (try dsimp only) <;> omega)
                      have o260438a : ((xl3 B n q d)).1 = xac d (xwho B n (xN B n q) d) (xwho B n (xN B n (xN B n (xN B n q))) d) := by rw [o260438]
                      have o260438b : ((xl3 B n q d)).2.1 = (xN B n (xN B n (xN B n q))) := by rw [o260438]
                      have o260438c : ((xl3 B n q d)).2.2 = (xN B n (xN B n (xN B n q))) := by rw [o260438]
                      exact wp_return e196 c196_147 rfl ⟨rfl, w260419, f260423, rfl, (Or.inr ⟨by omega, RO_eq p260432 (by omega) (by omega)⟩)⟩
                · refine wp_of e196 c196_54 (rw_iload_n (pc' := 55) (z := v260313) rfl rfl ?_)
                  refine wp_of e196 c196_55 (rw_if_ne (p1 := 114) (p2 := 58) (by decide) rfl ⟨by omega, by omega⟩ (fun c260439 => ?_) (fun c260439 => ?_))
                  · refine wp_of e196 c196_114 (rw_iconst (pc' := 115) rfl ?_)
                    refine wp_of e196 c196_115 (rw_goto (p1 := 119) (by decide) ?_)
                    refine wp_of e196 c196_119 (rw_istore_n (pc' := 120) (z := 1) (L' := [(3, vI 1), (4, vI v260312), (2, vI z260158), (1, vI z260117), (0, .ref r0)]) rfl rfl rfl ?_)
                    refine wp_of e196 c196_120 (rw_iinc (pc' := 123) (z := v260312) (L' := [(4, vI (v260312 + 1)), (3, vI 1), (2, vI z260158), (1, vI z260117), (0, .ref r0)]) rfl rfl rfl rfl ?_)
                    refine wp_of e196 c196_123 (rw_goto (p1 := 42) (by decide) ?_)
                    have := xgg_s (d := d) (a := z260117) (b := z260158) (i := v260312) (by omega)
                    exact wp_lc (ks := [4, 3, 2, 1, 0]) (wl_c rfl (wl_c rfl (wl_c rfl (wl_c rfl (wl_c rfl wl_n))))) rfl (by decide) (ih260311 _ (by omega) (v260312 + 1) 1 ⟨by omega, by omega⟩ ⟨by omega, by omega⟩ (by omega) (by omega) rfl)
                  · refine wp_of e196 c196_58 (rw_aload_n (pc' := 59) (v := .ref r0) rfl rfl rfl ?_)
                    refine wp_of e196 c196_59 (xg_K (pc' := 62) lf_9_166 w260156 g0 sh_42 (by decide) (by decide) rfl q260323 rfl ?_)
                    refine wp_of e196 c196_62 (xg_R (pc' := 65) lf_9_282 w260156 grp sh_54 (by decide) (by decide) ty_54_18 rfl rfl (fun r260440 q260441 g260442 => ?_))
                    refine wp_of e196 c196_65 (rw_iload (pc' := 67) (z := v260312) rfl rfl ?_)
                    refine wp_of e196 c196_67 (xa_I (so := 0) (pc' := 68) w260156 g260442 sh_64 (by decide) (ty_64 _) (by omega) (by omega) rfl (fun b260443 b260444 => ?_))
                    have h260445 : MA18 T H260152 rp (d 10) := (MA18_fr w260138 grp f260157 rfl (MA18_fr w260115 grp f260139 rfl (MA18_fr w260095 grp f260116 rfl (MA18_fr hW grp f260096 rfl h260079))))
                    have := MA_at h260445 q260441 (k := (v260312.toNat)) (by omega)
                    refine wp_of e196 c196_68 (rw_iload_n (pc' := 69) (z := z260117) rfl rfl ?_)
                    refine wp_of e196 c196_69 (rw_icmp_ne (p1 := 86) (p2 := 72) (by decide) rfl ⟨by omega, by omega⟩ ⟨by omega, by omega⟩ (fun c260446 => ?_) (fun c260446 => ?_))
                    · refine wp_of e196 c196_86 (rw_aload_n (pc' := 87) (v := .ref r0) rfl rfl rfl ?_)
                      refine wp_of e196 c196_87 (xg_K (pc' := 90) lf_9_166 w260156 g0 sh_42 (by decide) (by decide) rfl q260323 rfl ?_)
                      refine wp_of e196 c196_90 (xg_K (pc' := 93) lf_9_282 w260156 grp sh_54 (by decide) (by decide) rfl q260441 rfl ?_)
                      refine wp_of e196 c196_93 (rw_iload (pc' := 95) (z := v260312) rfl rfl ?_)
                      refine wp_of e196 c196_95 (xa_I (so := 0) (pc' := 96) w260156 g260442 sh_64 (by decide) (ty_64 _) (by omega) (by omega) rfl (fun b260447 b260448 => ?_))
                      have := MA_at h260445 q260441 (k := (v260312.toNat)) (by omega)
                      refine wp_of e196 c196_96 (rw_iload_n (pc' := 97) (z := z260158) rfl rfl ?_)
                      refine wp_of e196 c196_97 (rw_icmp_ne (p1 := 118) (p2 := 100) (by decide) rfl ⟨by omega, by omega⟩ ⟨by omega, by omega⟩ (fun c260449 => ?_) (fun c260449 => ?_))
                      · refine wp_of e196 c196_118 (rw_iconst (pc' := 119) rfl ?_)
                        refine wp_of e196 c196_119 (rw_istore_n (pc' := 120) (z := 0) (L' := [(3, vI 0), (4, vI v260312), (2, vI z260158), (1, vI z260117), (0, .ref r0)]) rfl rfl rfl ?_)
                        refine wp_of e196 c196_120 (rw_iinc (pc' := 123) (z := v260312) (L' := [(4, vI (v260312 + 1)), (3, vI 0), (2, vI z260158), (1, vI z260117), (0, .ref r0)]) rfl rfl rfl rfl ?_)
                        refine wp_of e196 c196_123 (rw_goto (p1 := 42) (by decide) ?_)
                        have := xgg_s (d := d) (a := z260117) (b := z260158) (i := v260312) (by omega)
                        exact wp_lc (ks := [4, 3, 2, 1, 0]) (wl_c rfl (wl_c rfl (wl_c rfl (wl_c rfl (wl_c rfl wl_n))))) rfl (by decide) (ih260311 _ (by omega) (v260312 + 1) 0 ⟨by omega, by omega⟩ ⟨by omega, by omega⟩ (by omega) (by omega) rfl)
                      · refine wp_of e196 c196_100 (rw_aload_n (pc' := 101) (v := .ref r0) rfl rfl rfl ?_)
                        refine wp_of e196 c196_101 (xg_K (pc' := 104) lf_9_166 w260156 g0 sh_42 (by decide) (by decide) rfl q260323 rfl ?_)
                        refine wp_of e196 c196_104 (xg_R (pc' := 107) lf_9_285 w260156 grp sh_54 (by decide) (by decide) ty_54_19 rfl rfl (fun r260450 q260451 g260452 => ?_))
                        refine wp_of e196 c196_107 (rw_iload (pc' := 109) (z := v260312) rfl rfl ?_)
                        refine wp_of e196 c196_109 (xa_I (so := 0) (pc' := 110) w260156 g260452 sh_65 (by decide) (ty_65 _) (by omega) (by omega) rfl (fun b260453 b260454 => ?_))
                        have h260455 : MA19 T H260152 rp (d 11) := (MA19_fr w260138 grp f260157 rfl (MA19_fr w260115 grp f260139 rfl (MA19_fr w260095 grp f260116 rfl (MA19_fr hW grp f260096 rfl h260080))))
                        have := MA_at h260455 q260451 (k := (v260312.toNat)) (by omega)
                        refine wp_of e196 c196_110 (rw_iload_n (pc' := 111) (z := z260117) rfl rfl ?_)
                        refine wp_of e196 c196_111 (rw_icmp_ne (p1 := 118) (p2 := 114) (by decide) rfl ⟨by omega, by omega⟩ ⟨by omega, by omega⟩ (fun c260456 => ?_) (fun c260456 => ?_))
                        · refine wp_of e196 c196_118 (rw_iconst (pc' := 119) rfl ?_)
                          refine wp_of e196 c196_119 (rw_istore_n (pc' := 120) (z := 0) (L' := [(3, vI 0), (4, vI v260312), (2, vI z260158), (1, vI z260117), (0, .ref r0)]) rfl rfl rfl ?_)
                          refine wp_of e196 c196_120 (rw_iinc (pc' := 123) (z := v260312) (L' := [(4, vI (v260312 + 1)), (3, vI 0), (2, vI z260158), (1, vI z260117), (0, .ref r0)]) rfl rfl rfl rfl ?_)
                          refine wp_of e196 c196_123 (rw_goto (p1 := 42) (by decide) ?_)
                          have := xgg_s (d := d) (a := z260117) (b := z260158) (i := v260312) (by omega)
                          exact wp_lc (ks := [4, 3, 2, 1, 0]) (wl_c rfl (wl_c rfl (wl_c rfl (wl_c rfl (wl_c rfl wl_n))))) rfl (by decide) (ih260311 _ (by omega) (v260312 + 1) 0 ⟨by omega, by omega⟩ ⟨by omega, by omega⟩ (by omega) (by omega) rfl)
                        · refine wp_of e196 c196_114 (rw_iconst (pc' := 115) rfl ?_)
                          refine wp_of e196 c196_115 (rw_goto (p1 := 119) (by decide) ?_)
                          refine wp_of e196 c196_119 (rw_istore_n (pc' := 120) (z := 1) (L' := [(3, vI 1), (4, vI v260312), (2, vI z260158), (1, vI z260117), (0, .ref r0)]) rfl rfl rfl ?_)
                          refine wp_of e196 c196_120 (rw_iinc (pc' := 123) (z := v260312) (L' := [(4, vI (v260312 + 1)), (3, vI 1), (2, vI z260158), (1, vI z260117), (0, .ref r0)]) rfl rfl rfl rfl ?_)
                          refine wp_of e196 c196_123 (rw_goto (p1 := 42) (by decide) ?_)
                          have := xgg_s (d := d) (a := z260117) (b := z260158) (i := v260312) (by omega)
                          exact wp_lc (ks := [4, 3, 2, 1, 0]) (wl_c rfl (wl_c rfl (wl_c rfl (wl_c rfl (wl_c rfl wl_n))))) rfl (by decide) (ih260311 _ (by omega) (v260312 + 1) 1 ⟨by omega, by omega⟩ ⟨by omega, by omega⟩ (by omega) (by omega) rfl)
                    · refine wp_of e196 c196_72 (rw_aload_n (pc' := 73) (v := .ref r0) rfl rfl rfl ?_)
                      refine wp_of e196 c196_73 (xg_K (pc' := 76) lf_9_166 w260156 g0 sh_42 (by decide) (by decide) rfl q260323 rfl ?_)
                      refine wp_of e196 c196_76 (xg_R (pc' := 79) lf_9_285 w260156 grp sh_54 (by decide) (by decide) ty_54_19 rfl rfl (fun r260457 q260458 g260459 => ?_))
                      refine wp_of e196 c196_79 (rw_iload (pc' := 81) (z := v260312) rfl rfl ?_)
                      refine wp_of e196 c196_81 (xa_I (so := 0) (pc' := 82) w260156 g260459 sh_65 (by decide) (ty_65 _) (by omega) (by omega) rfl (fun b260460 b260461 => ?_))
                      have h260462 : MA19 T H260152 rp (d 11) := (MA19_fr w260138 grp f260157 rfl (MA19_fr w260115 grp f260139 rfl (MA19_fr w260095 grp f260116 rfl (MA19_fr hW grp f260096 rfl h260080))))
                      have := MA_at h260462 q260458 (k := (v260312.toNat)) (by omega)
                      refine wp_of e196 c196_82 (rw_iload_n (pc' := 83) (z := z260158) rfl rfl ?_)
                      refine wp_of e196 c196_83 (rw_icmp_eq (p1 := 114) (p2 := 86) (by decide) rfl ⟨by omega, by omega⟩ ⟨by omega, by omega⟩ (fun c260463 => ?_) (fun c260463 => ?_))
                      · refine wp_of e196 c196_114 (rw_iconst (pc' := 115) rfl ?_)
                        refine wp_of e196 c196_115 (rw_goto (p1 := 119) (by decide) ?_)
                        refine wp_of e196 c196_119 (rw_istore_n (pc' := 120) (z := 1) (L' := [(3, vI 1), (4, vI v260312), (2, vI z260158), (1, vI z260117), (0, .ref r0)]) rfl rfl rfl ?_)
                        refine wp_of e196 c196_120 (rw_iinc (pc' := 123) (z := v260312) (L' := [(4, vI (v260312 + 1)), (3, vI 1), (2, vI z260158), (1, vI z260117), (0, .ref r0)]) rfl rfl rfl rfl ?_)
                        refine wp_of e196 c196_123 (rw_goto (p1 := 42) (by decide) ?_)
                        have := xgg_s (d := d) (a := z260117) (b := z260158) (i := v260312) (by omega)
                        exact wp_lc (ks := [4, 3, 2, 1, 0]) (wl_c rfl (wl_c rfl (wl_c rfl (wl_c rfl (wl_c rfl wl_n))))) rfl (by decide) (ih260311 _ (by omega) (v260312 + 1) 1 ⟨by omega, by omega⟩ ⟨by omega, by omega⟩ (by omega) (by omega) rfl)
                      · refine wp_of e196 c196_86 (rw_aload_n (pc' := 87) (v := .ref r0) rfl rfl rfl ?_)
                        refine wp_of e196 c196_87 (xg_K (pc' := 90) lf_9_166 w260156 g0 sh_42 (by decide) (by decide) rfl q260323 rfl ?_)
                        refine wp_of e196 c196_90 (xg_K (pc' := 93) lf_9_282 w260156 grp sh_54 (by decide) (by decide) rfl q260441 rfl ?_)
                        refine wp_of e196 c196_93 (rw_iload (pc' := 95) (z := v260312) rfl rfl ?_)
                        refine wp_of e196 c196_95 (xa_I (so := 0) (pc' := 96) w260156 g260442 sh_64 (by decide) (ty_64 _) (by omega) (by omega) rfl (fun b260464 b260465 => ?_))
                        have := MA_at h260445 q260441 (k := (v260312.toNat)) (by omega)
                        refine wp_of e196 c196_96 (rw_iload_n (pc' := 97) (z := z260158) rfl rfl ?_)
                        refine wp_of e196 c196_97 (rw_icmp_ne (p1 := 118) (p2 := 100) (by decide) rfl ⟨by omega, by omega⟩ ⟨by omega, by omega⟩ (fun c260466 => ?_) (fun c260466 => ?_))
                        · refine wp_of e196 c196_118 (rw_iconst (pc' := 119) rfl ?_)
                          refine wp_of e196 c196_119 (rw_istore_n (pc' := 120) (z := 0) (L' := [(3, vI 0), (4, vI v260312), (2, vI z260158), (1, vI z260117), (0, .ref r0)]) rfl rfl rfl ?_)
                          refine wp_of e196 c196_120 (rw_iinc (pc' := 123) (z := v260312) (L' := [(4, vI (v260312 + 1)), (3, vI 0), (2, vI z260158), (1, vI z260117), (0, .ref r0)]) rfl rfl rfl rfl ?_)
                          refine wp_of e196 c196_123 (rw_goto (p1 := 42) (by decide) ?_)
                          have := xgg_s (d := d) (a := z260117) (b := z260158) (i := v260312) (by omega)
                          exact wp_lc (ks := [4, 3, 2, 1, 0]) (wl_c rfl (wl_c rfl (wl_c rfl (wl_c rfl (wl_c rfl wl_n))))) rfl (by decide) (ih260311 _ (by omega) (v260312 + 1) 0 ⟨by omega, by omega⟩ ⟨by omega, by omega⟩ (by omega) (by omega) rfl)
                        · refine wp_of e196 c196_100 (rw_aload_n (pc' := 101) (v := .ref r0) rfl rfl rfl ?_)
                          refine wp_of e196 c196_101 (xg_K (pc' := 104) lf_9_166 w260156 g0 sh_42 (by decide) (by decide) rfl q260323 rfl ?_)
                          refine wp_of e196 c196_104 (xg_K (pc' := 107) lf_9_285 w260156 grp sh_54 (by decide) (by decide) rfl q260458 rfl ?_)
                          refine wp_of e196 c196_107 (rw_iload (pc' := 109) (z := v260312) rfl rfl ?_)
                          refine wp_of e196 c196_109 (xa_I (so := 0) (pc' := 110) w260156 g260459 sh_65 (by decide) (ty_65 _) (by omega) (by omega) rfl (fun b260467 b260468 => ?_))
                          have := MA_at h260462 q260458 (k := (v260312.toNat)) (by omega)
                          refine wp_of e196 c196_110 (rw_iload_n (pc' := 111) (z := z260117) rfl rfl ?_)
                          refine wp_of e196 c196_111 (rw_icmp_ne (p1 := 118) (p2 := 114) (by decide) rfl ⟨by omega, by omega⟩ ⟨by omega, by omega⟩ (fun c260469 => ?_) (fun c260469 => ?_))
                          · refine wp_of e196 c196_118 (rw_iconst (pc' := 119) rfl ?_)
                            refine wp_of e196 c196_119 (rw_istore_n (pc' := 120) (z := 0) (L' := [(3, vI 0), (4, vI v260312), (2, vI z260158), (1, vI z260117), (0, .ref r0)]) rfl rfl rfl ?_)
                            refine wp_of e196 c196_120 (rw_iinc (pc' := 123) (z := v260312) (L' := [(4, vI (v260312 + 1)), (3, vI 0), (2, vI z260158), (1, vI z260117), (0, .ref r0)]) rfl rfl rfl rfl ?_)
                            refine wp_of e196 c196_123 (rw_goto (p1 := 42) (by decide) ?_)
                            have := xgg_s (d := d) (a := z260117) (b := z260158) (i := v260312) (by omega)
                            exact wp_lc (ks := [4, 3, 2, 1, 0]) (wl_c rfl (wl_c rfl (wl_c rfl (wl_c rfl (wl_c rfl wl_n))))) rfl (by decide) (ih260311 _ (by omega) (v260312 + 1) 0 ⟨by omega, by omega⟩ ⟨by omega, by omega⟩ (by omega) (by omega) rfl)
                          · refine wp_of e196 c196_114 (rw_iconst (pc' := 115) rfl ?_)
                            refine wp_of e196 c196_115 (rw_goto (p1 := 119) (by decide) ?_)
                            refine wp_of e196 c196_119 (rw_istore_n (pc' := 120) (z := 1) (L' := [(3, vI 1), (4, vI v260312), (2, vI z260158), (1, vI z260117), (0, .ref r0)]) rfl rfl rfl ?_)
                            refine wp_of e196 c196_120 (rw_iinc (pc' := 123) (z := v260312) (L' := [(4, vI (v260312 + 1)), (3, vI 1), (2, vI z260158), (1, vI z260117), (0, .ref r0)]) rfl rfl rfl rfl ?_)
                            refine wp_of e196 c196_123 (rw_goto (p1 := 42) (by decide) ?_)
                            have := xgg_s (d := d) (a := z260117) (b := z260158) (i := v260312) (by omega)
                            exact wp_lc (ks := [4, 3, 2, 1, 0]) (wl_c rfl (wl_c rfl (wl_c rfl (wl_c rfl (wl_c rfl wl_n))))) rfl (by decide) (ih260311 _ (by omega) (v260312 + 1) 1 ⟨by omega, by omega⟩ ⟨by omega, by omega⟩ (by omega) (by omega) rfl)
            have := @xgg_0 d z260117 z260158
            exact wp_lc (ks := [4, 3, 2, 1, 0]) (wl_c rfl (wl_c rfl (wl_c rfl (wl_c rfl (wl_c rfl wl_n))))) rfl (by decide) (lp260309 _ 0 0 ⟨by omega, by omega⟩ ⟨by omega, by omega⟩ (by omega) (by omega) rfl)
          · refine wp_of e196 c196_33 (rw_iconst (pc' := 34) rfl ?_)
            refine wp_of e196 c196_34 (rw_goto (p1 := 38) (by decide) ?_)
            refine wp_of e196 c196_38 (rw_istore_n (pc' := 39) (z := 1) (L' := [(3, vI 1), (2, vI z260158), (1, vI z260117), (0, .ref r0)]) rfl rfl rfl ?_)
            refine wp_of e196 c196_39 (rw_iconst (pc' := 40) rfl ?_)
            refine wp_of e196 c196_40 (rw_istore (pc' := 42) (z := 0) (L' := [(4, vI 0), (3, vI 1), (2, vI z260158), (1, vI z260117), (0, .ref r0)]) rfl rfl rfl ?_)
            have k260503 : H260152 rp 4 = H rp 4 := ((f260157 rp 4 _ grp rfl).trans ((f260139 rp 4 _ grp rfl).trans ((f260116 rp 4 _ grp rfl).trans (f260096 rp 4 _ grp rfl))))
            have lp260498 : ∀ (n260499 : Nat) (v260501 : Int) (v260502 : Int), (0 ≤ v260501 ∧ v260501 ≤ 3) → (1 ≤ v260502 ∧ v260502 ≤ 1) → (v260502 = xgg d z260117 z260158 v260501) → (v260501 ≤ d 0 4) → (3 - v260501).toNat = n260499 → wp kt 5 196 42 [(4, vI v260501), (3, vI v260502), (2, vI z260158), (1, vI z260117), (0, .ref r0)] [] T H260152 (uq_196_k r0 rp rb B n q d T H) := by
              intro n260499
              induction n260499 using Nat.strongRecOn with
              | _ n260499 ih260500 =>
                intro v260501 v260502 b260506 b260507 x260508 x260509 m260510
                refine wp_of e196 c196_42 (rw_iload (pc' := 44) (z := v260501) rfl rfl ?_)
                refine wp_of e196 c196_44 (rw_aload_n (pc' := 45) (v := .ref r0) rfl rfl rfl ?_)
                have k260511 : H260152 r0 4 = H260134 r0 4 := (f260157 r0 4 _ g0 rfl)
                have q260512 : H260152 r0 4 = (rp : Int) := k260511.trans q260148
                refine wp_of e196 c196_45 (xg_K (pc' := 48) lf_9_166 w260156 g0 sh_42 (by decide) (by decide) rfl q260512 rfl ?_)
                refine wp_of e196 c196_48 (xg_I (pc' := 51) lf_9_276 w260156 grp sh_54 (by decide) (by decide) ty_54_4 rfl rfl (fun b260513 b260514 => ?_))
                refine wp_of e196 c196_51 (rw_icmp_ge (p1 := 126) (p2 := 54) (by decide) rfl ⟨by omega, by omega⟩ ⟨by omega, by omega⟩ (fun c260515 => ?_) (fun c260515 => ?_))
                · have _g := @xac_g d z260117 z260158 v260501 (by omega)
                  have _c : xac d (xwho B n (xN B n q) d) (xwho B n (xN B n (xN B n (xN B n q))) d) = xac d z260117 z260158 := by rw [show xwho B n (xN B n q) d = z260117 by omega, show xwho B n (xN B n (xN B n (xN B n q))) d = z260158 by omega]
                  refine wp_of e196 c196_126 (rw_iload_n (pc' := 127) (z := v260502) rfl rfl ?_)
                  refine wp_of e196 c196_127 (rw_if_eq (p1 := 135) (p2 := 130) (by decide) rfl ⟨by omega, by omega⟩ (fun c260516 => ?_) (fun c260516 => ?_))
                  · exfalso
                    omega
                  · refine wp_of e196 c196_130 (rw_aload_n (pc' := 131) (v := .ref r0) rfl rfl rfl ?_)
                    refine wp_of e196 c196_131 (rw_iconst (pc' := 132) rfl ?_)
                    refine wp_of e196 c196_132 (xc_V (pc' := 135) (r := r0) (as := [vI 3]) (st := []) (lm_9_121) rfl rfl (Nat.le_of_ble_eq_true rfl) w260156 g0 sh_42 (by decide) rfl (by decide) (u_181_k (B := B) (n := n) (q := ((xN B n ((xN B n ((xN B n q))))))) w260156 g0 ⟨by omega, by omega⟩ (by omega) a260166) (fun R260517 T260518 H260519 p260520 => ?_))
                    obtain ⟨e260521, w260523, f260524, e260522, p260525⟩ := p260520
                    subst e260521
                    subst e260522
                    have f260527 := f260170.tr f260524 rfl
                    show wp _ _ 196 135 [(4, vI v260501), (3, vI v260502), (2, vI z260158), (1, vI z260117), (0, .ref r0)] [] _ H260519 _
                    have u260528 := RO_k p260525
                    refine wp_of e196 c196_135 (rw_aload_n (pc' := 136) (v := .ref r0) rfl rfl rfl ?_)
                    refine wp_of e196 c196_136 (xc_V (pc' := 139) (r := r0) (as := []) (st := []) (lm_9_118) rfl rfl (Nat.le_of_ble_eq_true rfl) w260523 g0 sh_42 (by decide) rfl (by decide) (u_172_o (fo := 3) (po := (((xN B n ((xN B n ((xN B n q)))))))) w260523 g0 p260525) (fun R260529 T260530 H260531 p260532 => ?_))
                    obtain ⟨e260533, e260535, e260534, p260536⟩ := p260532
                    subst e260533
                    subst e260534
                    subst e260535
                    show wp _ _ 196 139 [(4, vI v260501), (3, vI v260502), (2, vI z260158), (1, vI z260117), (0, .ref r0)] [] _ H260519 _
                    have u260538 := RO_k p260536
                    refine wp_of e196 c196_139 (rw_aload_n (pc' := 140) (v := .ref r0) rfl rfl rfl ?_)
                    refine wp_of e196 c196_140 (xg_I (pc' := 143) lf_9_75 w260523 g0 sh_42 (by decide) (by decide) ty_42_9 rfl rfl (fun b260539 b260540 => ?_))
                    refine wp_of e196 c196_143 (rw_iconst (pc' := 144) rfl ?_)
                    refine wp_of e196 c196_144 (rw_icmp_ne (p1 := 148) (p2 := 147) (by decide) rfl ⟨by omega, by omega⟩ ⟨by omega, by omega⟩ (fun c260541 => ?_) (fun c260541 => ?_))
                    · exfalso
                      omega
                    · have o260542 : (xl3 B n q d) = (xac d (xwho B n (xN B n q) d) (xwho B n (xN B n (xN B n (xN B n q))) d), (xN B n (xN B n (xN B n q))), (xN B n (xN B n (xN B n q)))) := by
                        unfold xl3 xap
                        repeat first | rw [xs_0 (by omega)] | rw [xs_1 (by omega)] | rw [if_pos (by omega)] | rw [if_neg (by omega)]
                        first | done | rfl | assumption | (exfalso; omega) | (refine Prod.ext ?_ (Prod.ext ?_ ?_) <;> (try dsimp only) <;> omega)
                      have o260542a : ((xl3 B n q d)).1 = xac d (xwho B n (xN B n q) d) (xwho B n (xN B n (xN B n (xN B n q))) d) := by rw [o260542]
                      have o260542b : ((xl3 B n q d)).2.1 = (xN B n (xN B n (xN B n q))) := by rw [o260542]
                      have o260542c : ((xl3 B n q d)).2.2 = (xN B n (xN B n (xN B n q))) := by rw [o260542]
                      exact wp_return e196 c196_147 rfl ⟨rfl, w260523, f260527, rfl, (Or.inr ⟨by omega, RO_eq p260536 (by omega) (by omega)⟩)⟩
                · refine wp_of e196 c196_54 (rw_iload_n (pc' := 55) (z := v260502) rfl rfl ?_)
                  refine wp_of e196 c196_55 (rw_if_ne (p1 := 114) (p2 := 58) (by decide) rfl ⟨by omega, by omega⟩ (fun c260543 => ?_) (fun c260543 => ?_))
                  · refine wp_of e196 c196_114 (rw_iconst (pc' := 115) rfl ?_)
                    refine wp_of e196 c196_115 (rw_goto (p1 := 119) (by decide) ?_)
                    refine wp_of e196 c196_119 (rw_istore_n (pc' := 120) (z := 1) (L' := [(3, vI 1), (4, vI v260501), (2, vI z260158), (1, vI z260117), (0, .ref r0)]) rfl rfl rfl ?_)
                    refine wp_of e196 c196_120 (rw_iinc (pc' := 123) (z := v260501) (L' := [(4, vI (v260501 + 1)), (3, vI 1), (2, vI z260158), (1, vI z260117), (0, .ref r0)]) rfl rfl rfl rfl ?_)
                    refine wp_of e196 c196_123 (rw_goto (p1 := 42) (by decide) ?_)
                    have := xgg_s (d := d) (a := z260117) (b := z260158) (i := v260501) (by omega)
                    exact wp_lc (ks := [4, 3, 2, 1, 0]) (wl_c rfl (wl_c rfl (wl_c rfl (wl_c rfl (wl_c rfl wl_n))))) rfl (by decide) (ih260500 _ (by omega) (v260501 + 1) 1 ⟨by omega, by omega⟩ ⟨by omega, by omega⟩ (by omega) (by omega) rfl)
                  · exfalso
                    omega
            have := @xgg_0 d z260117 z260158
            exact wp_lc (ks := [4, 3, 2, 1, 0]) (wl_c rfl (wl_c rfl (wl_c rfl (wl_c rfl (wl_c rfl wl_n))))) rfl (by decide) (lp260498 _ 0 1 ⟨by omega, by omega⟩ ⟨by omega, by omega⟩ (by omega) (by omega) rfl)
        · have f260544 := f260145.tr f260157 rfl
          show wp _ _ 196 27 [(1, vI z260117), (0, .ref r0)] [vI z260158] _ H260152 _
          have u260545 := RO_k a260169
          refine wp_of e196 c196_27 (rw_istore_n (pc' := 28) (z := z260158) (L' := [(2, vI z260158), (1, vI z260117), (0, .ref r0)]) rfl rfl rfl ?_)
          refine wp_of e196 c196_28 (rw_iload_n (pc' := 29) (z := z260117) rfl rfl ?_)
          refine wp_of e196 c196_29 (rw_iload_n (pc' := 30) (z := z260158) rfl rfl ?_)
          refine wp_of e196 c196_30 (rw_icmp_ne (p1 := 37) (p2 := 33) (by decide) rfl ⟨by omega, by omega⟩ ⟨by omega, by omega⟩ (fun c260546 => ?_) (fun c260546 => ?_))
          · refine wp_of e196 c196_37 (rw_iconst (pc' := 38) rfl ?_)
            refine wp_of e196 c196_38 (rw_istore_n (pc' := 39) (z := 0) (L' := [(3, vI 0), (2, vI z260158), (1, vI z260117), (0, .ref r0)]) rfl rfl rfl ?_)
            refine wp_of e196 c196_39 (rw_iconst (pc' := 40) rfl ?_)
            refine wp_of e196 c196_40 (rw_istore (pc' := 42) (z := 0) (L' := [(4, vI 0), (3, vI 0), (2, vI z260158), (1, vI z260117), (0, .ref r0)]) rfl rfl rfl ?_)
            have lp260671 : ∀ (n260672 : Nat) (v260674 : Int) (v260675 : Int), (0 ≤ v260674 ∧ v260674 ≤ 3) → (0 ≤ v260675 ∧ v260675 ≤ 1) → (3 - v260674).toNat = n260672 → wp kt 5 196 42 [(4, vI v260674), (3, vI v260675), (2, vI z260158), (1, vI z260117), (0, .ref r0)] [] T H260152 (uq_196_k r0 rp rb B n q d T H) := by
              intro n260672
              induction n260672 using Nat.strongRecOn with
              | _ n260672 ih260673 =>
                intro v260674 v260675 b260678 b260679 m260680
                refine wp_of e196 c196_42 (rw_iload (pc' := 44) (z := v260674) rfl rfl ?_)
                refine wp_of e196 c196_44 (rw_aload_n (pc' := 45) (v := .ref r0) rfl rfl rfl ?_)
                have k260681 : H260152 r0 4 = H260134 r0 4 := (f260157 r0 4 _ g0 rfl)
                have q260682 : H260152 r0 4 = (rp : Int) := k260681.trans q260148
                refine wp_of e196 c196_45 (xg_K (pc' := 48) lf_9_166 w260156 g0 sh_42 (by decide) (by decide) rfl q260682 rfl ?_)
                have k260683 : H260152 rp 4 = H rp 4 := ((f260157 rp 4 _ grp rfl).trans ((f260139 rp 4 _ grp rfl).trans ((f260116 rp 4 _ grp rfl).trans (f260096 rp 4 _ grp rfl))))
                refine wp_of e196 c196_48 (xg_I (pc' := 51) lf_9_276 w260156 grp sh_54 (by decide) (by decide) ty_54_4 rfl rfl (fun b260684 b260685 => ?_))
                refine wp_of e196 c196_51 (rw_icmp_ge (p1 := 126) (p2 := 54) (by decide) rfl ⟨by omega, by omega⟩ ⟨by omega, by omega⟩ (fun c260686 => ?_) (fun c260686 => ?_))
                · refine wp_of e196 c196_126 (rw_iload_n (pc' := 127) (z := v260675) rfl rfl ?_)
                  refine wp_of e196 c196_127 (rw_if_eq (p1 := 135) (p2 := 130) (by decide) rfl ⟨by omega, by omega⟩ (fun c260687 => ?_) (fun c260687 => ?_))
                  · refine wp_of e196 c196_135 (rw_aload_n (pc' := 136) (v := .ref r0) rfl rfl rfl ?_)
                    refine wp_of e196 c196_136 (xc_V (pc' := 139) (r := r0) (as := []) (st := []) (lm_9_118) rfl rfl (Nat.le_of_ble_eq_true rfl) w260156 g0 sh_42 (by decide) rfl (by decide) (u_172_o (fo := (xkn B n ((xN B n ((xN B n ((xN B n q)))))) d)) (po := (((xN B n ((xN B n ((xN B n q)))))))) w260156 g0 a260169) (fun R260688 T260689 H260690 p260691 => ?_))
                    obtain ⟨e260692, e260694, e260693, p260695⟩ := p260691
                    subst e260692
                    subst e260693
                    subst e260694
                    show wp _ _ 196 139 [(4, vI v260674), (3, vI v260675), (2, vI z260158), (1, vI z260117), (0, .ref r0)] [] _ H260152 _
                    have u260697 := RO_k p260695
                    refine wp_of e196 c196_139 (rw_aload_n (pc' := 140) (v := .ref r0) rfl rfl rfl ?_)
                    refine wp_of e196 c196_140 (xg_I (pc' := 143) lf_9_75 w260156 g0 sh_42 (by decide) (by decide) ty_42_9 rfl rfl (fun b260698 b260699 => ?_))
                    refine wp_of e196 c196_143 (rw_iconst (pc' := 144) rfl ?_)
                    refine wp_of e196 c196_144 (rw_icmp_ne (p1 := 148) (p2 := 147) (by decide) rfl ⟨by omega, by omega⟩ ⟨by omega, by omega⟩ (fun c260700 => ?_) (fun c260700 => ?_))
                    · exfalso
                      omega
                    · have o260701 : (xl3 B n q d) = (xkn B n ((xN B n ((xN B n ((xN B n q)))))) d, ((xN B n ((xN B n ((xN B n q)))))), ((xN B n ((xN B n ((xN B n q))))))) := by
                        unfold xl3 xap
                        repeat first | rw [xs_0 (by omega)] | rw [xs_1 (by omega)] | rw [if_pos (by omega)] | rw [if_neg (by omega)]
                        first | done | rfl | assumption | (exfalso; omega) | (refine Prod.ext ?_ (Prod.ext ?_ ?_) <;> (try dsimp only) <;> omega)
                      have o260701a : ((xl3 B n q d)).1 = xkn B n ((xN B n ((xN B n ((xN B n q)))))) d := by rw [o260701]
                      have o260701b : ((xl3 B n q d)).2.1 = ((xN B n ((xN B n ((xN B n q)))))) := by rw [o260701]
                      have o260701c : ((xl3 B n q d)).2.2 = ((xN B n ((xN B n ((xN B n q)))))) := by rw [o260701]
                      exact wp_return e196 c196_147 rfl ⟨rfl, w260156, f260544, rfl, (Or.inr ⟨by omega, RO_eq p260695 (by omega) (by omega)⟩)⟩
                  · refine wp_of e196 c196_130 (rw_aload_n (pc' := 131) (v := .ref r0) rfl rfl rfl ?_)
                    refine wp_of e196 c196_131 (rw_iconst (pc' := 132) rfl ?_)
                    refine wp_of e196 c196_132 (xc_V (pc' := 135) (r := r0) (as := [vI 3]) (st := []) (lm_9_121) rfl rfl (Nat.le_of_ble_eq_true rfl) w260156 g0 sh_42 (by decide) rfl (by decide) (u_181_o (fo := (xkn B n ((xN B n ((xN B n ((xN B n q)))))) d)) (po := (((xN B n ((xN B n ((xN B n q)))))))) w260156 g0 ⟨by omega, by omega⟩ a260169) (fun R260702 T260703 H260704 p260705 => ?_))
                    obtain ⟨e260706, e260708, e260707, p260709⟩ := p260705
                    subst e260706
                    subst e260707
                    subst e260708
                    show wp _ _ 196 135 [(4, vI v260674), (3, vI v260675), (2, vI z260158), (1, vI z260117), (0, .ref r0)] [] _ H260152 _
                    have u260711 := RO_k p260709
                    refine wp_of e196 c196_135 (rw_aload_n (pc' := 136) (v := .ref r0) rfl rfl rfl ?_)
                    refine wp_of e196 c196_136 (xc_V (pc' := 139) (r := r0) (as := []) (st := []) (lm_9_118) rfl rfl (Nat.le_of_ble_eq_true rfl) w260156 g0 sh_42 (by decide) rfl (by decide) (u_172_o (fo := (xkn B n ((xN B n ((xN B n ((xN B n q)))))) d)) (po := (((xN B n ((xN B n ((xN B n q)))))))) w260156 g0 p260709) (fun R260712 T260713 H260714 p260715 => ?_))
                    obtain ⟨e260716, e260718, e260717, p260719⟩ := p260715
                    subst e260716
                    subst e260717
                    subst e260718
                    show wp _ _ 196 139 [(4, vI v260674), (3, vI v260675), (2, vI z260158), (1, vI z260117), (0, .ref r0)] [] _ H260152 _
                    have u260721 := RO_k p260719
                    refine wp_of e196 c196_139 (rw_aload_n (pc' := 140) (v := .ref r0) rfl rfl rfl ?_)
                    refine wp_of e196 c196_140 (xg_I (pc' := 143) lf_9_75 w260156 g0 sh_42 (by decide) (by decide) ty_42_9 rfl rfl (fun b260722 b260723 => ?_))
                    refine wp_of e196 c196_143 (rw_iconst (pc' := 144) rfl ?_)
                    refine wp_of e196 c196_144 (rw_icmp_ne (p1 := 148) (p2 := 147) (by decide) rfl ⟨by omega, by omega⟩ ⟨by omega, by omega⟩ (fun c260724 => ?_) (fun c260724 => ?_))
                    · exfalso
                      omega
                    · have o260725 : (xl3 B n q d) = (xkn B n ((xN B n ((xN B n ((xN B n q)))))) d, ((xN B n ((xN B n ((xN B n q)))))), ((xN B n ((xN B n ((xN B n q))))))) := by
                        unfold xl3 xap
                        repeat first | rw [xs_0 (by omega)] | rw [xs_1 (by omega)] | rw [if_pos (by omega)] | rw [if_neg (by omega)]
                        first | done | rfl | assumption | (exfalso; omega) | (refine Prod.ext ?_ (Prod.ext ?_ ?_) <;> (try dsimp only) <;> omega)
                      have o260725a : ((xl3 B n q d)).1 = xkn B n ((xN B n ((xN B n ((xN B n q)))))) d := by rw [o260725]
                      have o260725b : ((xl3 B n q d)).2.1 = ((xN B n ((xN B n ((xN B n q)))))) := by rw [o260725]
                      have o260725c : ((xl3 B n q d)).2.2 = ((xN B n ((xN B n ((xN B n q)))))) := by rw [o260725]
                      exact wp_return e196 c196_147 rfl ⟨rfl, w260156, f260544, rfl, (Or.inr ⟨by omega, RO_eq p260719 (by omega) (by omega)⟩)⟩
                · refine wp_of e196 c196_54 (rw_iload_n (pc' := 55) (z := v260675) rfl rfl ?_)
                  refine wp_of e196 c196_55 (rw_if_ne (p1 := 114) (p2 := 58) (by decide) rfl ⟨by omega, by omega⟩ (fun c260726 => ?_) (fun c260726 => ?_))
                  · refine wp_of e196 c196_114 (rw_iconst (pc' := 115) rfl ?_)
                    refine wp_of e196 c196_115 (rw_goto (p1 := 119) (by decide) ?_)
                    refine wp_of e196 c196_119 (rw_istore_n (pc' := 120) (z := 1) (L' := [(3, vI 1), (4, vI v260674), (2, vI z260158), (1, vI z260117), (0, .ref r0)]) rfl rfl rfl ?_)
                    refine wp_of e196 c196_120 (rw_iinc (pc' := 123) (z := v260674) (L' := [(4, vI (v260674 + 1)), (3, vI 1), (2, vI z260158), (1, vI z260117), (0, .ref r0)]) rfl rfl rfl rfl ?_)
                    refine wp_of e196 c196_123 (rw_goto (p1 := 42) (by decide) ?_)
                    exact wp_lc (ks := [4, 3, 2, 1, 0]) (wl_c rfl (wl_c rfl (wl_c rfl (wl_c rfl (wl_c rfl wl_n))))) rfl (by decide) (ih260673 _ (by omega) (v260674 + 1) 1 ⟨by omega, by omega⟩ ⟨by omega, by omega⟩ rfl)
                  · refine wp_of e196 c196_58 (rw_aload_n (pc' := 59) (v := .ref r0) rfl rfl rfl ?_)
                    refine wp_of e196 c196_59 (xg_K (pc' := 62) lf_9_166 w260156 g0 sh_42 (by decide) (by decide) rfl q260682 rfl ?_)
                    refine wp_of e196 c196_62 (xg_R (pc' := 65) lf_9_282 w260156 grp sh_54 (by decide) (by decide) ty_54_18 rfl rfl (fun r260727 q260728 g260729 => ?_))
                    refine wp_of e196 c196_65 (rw_iload (pc' := 67) (z := v260674) rfl rfl ?_)
                    refine wp_of e196 c196_67 (xa_I (so := 0) (pc' := 68) w260156 g260729 sh_64 (by decide) (ty_64 _) (by omega) (by omega) rfl (fun b260730 b260731 => ?_))
                    have h260732 : MA18 T H260152 rp (d 10) := (MA18_fr w260138 grp f260157 rfl (MA18_fr w260115 grp f260139 rfl (MA18_fr w260095 grp f260116 rfl (MA18_fr hW grp f260096 rfl h260079))))
                    have := MA_at h260732 q260728 (k := (v260674.toNat)) (by omega)
                    refine wp_of e196 c196_68 (rw_iload_n (pc' := 69) (z := z260117) rfl rfl ?_)
                    refine wp_of e196 c196_69 (rw_icmp_ne (p1 := 86) (p2 := 72) (by decide) rfl ⟨by omega, by omega⟩ ⟨by omega, by omega⟩ (fun c260733 => ?_) (fun c260733 => ?_))
                    · refine wp_of e196 c196_86 (rw_aload_n (pc' := 87) (v := .ref r0) rfl rfl rfl ?_)
                      refine wp_of e196 c196_87 (xg_K (pc' := 90) lf_9_166 w260156 g0 sh_42 (by decide) (by decide) rfl q260682 rfl ?_)
                      refine wp_of e196 c196_90 (xg_K (pc' := 93) lf_9_282 w260156 grp sh_54 (by decide) (by decide) rfl q260728 rfl ?_)
                      refine wp_of e196 c196_93 (rw_iload (pc' := 95) (z := v260674) rfl rfl ?_)
                      refine wp_of e196 c196_95 (xa_I (so := 0) (pc' := 96) w260156 g260729 sh_64 (by decide) (ty_64 _) (by omega) (by omega) rfl (fun b260734 b260735 => ?_))
                      have := MA_at h260732 q260728 (k := (v260674.toNat)) (by omega)
                      refine wp_of e196 c196_96 (rw_iload_n (pc' := 97) (z := z260158) rfl rfl ?_)
                      refine wp_of e196 c196_97 (rw_icmp_ne (p1 := 118) (p2 := 100) (by decide) rfl ⟨by omega, by omega⟩ ⟨by omega, by omega⟩ (fun c260736 => ?_) (fun c260736 => ?_))
                      · refine wp_of e196 c196_118 (rw_iconst (pc' := 119) rfl ?_)
                        refine wp_of e196 c196_119 (rw_istore_n (pc' := 120) (z := 0) (L' := [(3, vI 0), (4, vI v260674), (2, vI z260158), (1, vI z260117), (0, .ref r0)]) rfl rfl rfl ?_)
                        refine wp_of e196 c196_120 (rw_iinc (pc' := 123) (z := v260674) (L' := [(4, vI (v260674 + 1)), (3, vI 0), (2, vI z260158), (1, vI z260117), (0, .ref r0)]) rfl rfl rfl rfl ?_)
                        refine wp_of e196 c196_123 (rw_goto (p1 := 42) (by decide) ?_)
                        exact wp_lc (ks := [4, 3, 2, 1, 0]) (wl_c rfl (wl_c rfl (wl_c rfl (wl_c rfl (wl_c rfl wl_n))))) rfl (by decide) (ih260673 _ (by omega) (v260674 + 1) 0 ⟨by omega, by omega⟩ ⟨by omega, by omega⟩ rfl)
                      · refine wp_of e196 c196_100 (rw_aload_n (pc' := 101) (v := .ref r0) rfl rfl rfl ?_)
                        refine wp_of e196 c196_101 (xg_K (pc' := 104) lf_9_166 w260156 g0 sh_42 (by decide) (by decide) rfl q260682 rfl ?_)
                        refine wp_of e196 c196_104 (xg_R (pc' := 107) lf_9_285 w260156 grp sh_54 (by decide) (by decide) ty_54_19 rfl rfl (fun r260737 q260738 g260739 => ?_))
                        refine wp_of e196 c196_107 (rw_iload (pc' := 109) (z := v260674) rfl rfl ?_)
                        refine wp_of e196 c196_109 (xa_I (so := 0) (pc' := 110) w260156 g260739 sh_65 (by decide) (ty_65 _) (by omega) (by omega) rfl (fun b260740 b260741 => ?_))
                        have h260742 : MA19 T H260152 rp (d 11) := (MA19_fr w260138 grp f260157 rfl (MA19_fr w260115 grp f260139 rfl (MA19_fr w260095 grp f260116 rfl (MA19_fr hW grp f260096 rfl h260080))))
                        have := MA_at h260742 q260738 (k := (v260674.toNat)) (by omega)
                        refine wp_of e196 c196_110 (rw_iload_n (pc' := 111) (z := z260117) rfl rfl ?_)
                        refine wp_of e196 c196_111 (rw_icmp_ne (p1 := 118) (p2 := 114) (by decide) rfl ⟨by omega, by omega⟩ ⟨by omega, by omega⟩ (fun c260743 => ?_) (fun c260743 => ?_))
                        · refine wp_of e196 c196_118 (rw_iconst (pc' := 119) rfl ?_)
                          refine wp_of e196 c196_119 (rw_istore_n (pc' := 120) (z := 0) (L' := [(3, vI 0), (4, vI v260674), (2, vI z260158), (1, vI z260117), (0, .ref r0)]) rfl rfl rfl ?_)
                          refine wp_of e196 c196_120 (rw_iinc (pc' := 123) (z := v260674) (L' := [(4, vI (v260674 + 1)), (3, vI 0), (2, vI z260158), (1, vI z260117), (0, .ref r0)]) rfl rfl rfl rfl ?_)
                          refine wp_of e196 c196_123 (rw_goto (p1 := 42) (by decide) ?_)
                          exact wp_lc (ks := [4, 3, 2, 1, 0]) (wl_c rfl (wl_c rfl (wl_c rfl (wl_c rfl (wl_c rfl wl_n))))) rfl (by decide) (ih260673 _ (by omega) (v260674 + 1) 0 ⟨by omega, by omega⟩ ⟨by omega, by omega⟩ rfl)
                        · refine wp_of e196 c196_114 (rw_iconst (pc' := 115) rfl ?_)
                          refine wp_of e196 c196_115 (rw_goto (p1 := 119) (by decide) ?_)
                          refine wp_of e196 c196_119 (rw_istore_n (pc' := 120) (z := 1) (L' := [(3, vI 1), (4, vI v260674), (2, vI z260158), (1, vI z260117), (0, .ref r0)]) rfl rfl rfl ?_)
                          refine wp_of e196 c196_120 (rw_iinc (pc' := 123) (z := v260674) (L' := [(4, vI (v260674 + 1)), (3, vI 1), (2, vI z260158), (1, vI z260117), (0, .ref r0)]) rfl rfl rfl rfl ?_)
                          refine wp_of e196 c196_123 (rw_goto (p1 := 42) (by decide) ?_)
                          exact wp_lc (ks := [4, 3, 2, 1, 0]) (wl_c rfl (wl_c rfl (wl_c rfl (wl_c rfl (wl_c rfl wl_n))))) rfl (by decide) (ih260673 _ (by omega) (v260674 + 1) 1 ⟨by omega, by omega⟩ ⟨by omega, by omega⟩ rfl)
                    · refine wp_of e196 c196_72 (rw_aload_n (pc' := 73) (v := .ref r0) rfl rfl rfl ?_)
                      refine wp_of e196 c196_73 (xg_K (pc' := 76) lf_9_166 w260156 g0 sh_42 (by decide) (by decide) rfl q260682 rfl ?_)
                      refine wp_of e196 c196_76 (xg_R (pc' := 79) lf_9_285 w260156 grp sh_54 (by decide) (by decide) ty_54_19 rfl rfl (fun r260744 q260745 g260746 => ?_))
                      refine wp_of e196 c196_79 (rw_iload (pc' := 81) (z := v260674) rfl rfl ?_)
                      refine wp_of e196 c196_81 (xa_I (so := 0) (pc' := 82) w260156 g260746 sh_65 (by decide) (ty_65 _) (by omega) (by omega) rfl (fun b260747 b260748 => ?_))
                      have h260749 : MA19 T H260152 rp (d 11) := (MA19_fr w260138 grp f260157 rfl (MA19_fr w260115 grp f260139 rfl (MA19_fr w260095 grp f260116 rfl (MA19_fr hW grp f260096 rfl h260080))))
                      have := MA_at h260749 q260745 (k := (v260674.toNat)) (by omega)
                      refine wp_of e196 c196_82 (rw_iload_n (pc' := 83) (z := z260158) rfl rfl ?_)
                      refine wp_of e196 c196_83 (rw_icmp_eq (p1 := 114) (p2 := 86) (by decide) rfl ⟨by omega, by omega⟩ ⟨by omega, by omega⟩ (fun c260750 => ?_) (fun c260750 => ?_))
                      · refine wp_of e196 c196_114 (rw_iconst (pc' := 115) rfl ?_)
                        refine wp_of e196 c196_115 (rw_goto (p1 := 119) (by decide) ?_)
                        refine wp_of e196 c196_119 (rw_istore_n (pc' := 120) (z := 1) (L' := [(3, vI 1), (4, vI v260674), (2, vI z260158), (1, vI z260117), (0, .ref r0)]) rfl rfl rfl ?_)
                        refine wp_of e196 c196_120 (rw_iinc (pc' := 123) (z := v260674) (L' := [(4, vI (v260674 + 1)), (3, vI 1), (2, vI z260158), (1, vI z260117), (0, .ref r0)]) rfl rfl rfl rfl ?_)
                        refine wp_of e196 c196_123 (rw_goto (p1 := 42) (by decide) ?_)
                        exact wp_lc (ks := [4, 3, 2, 1, 0]) (wl_c rfl (wl_c rfl (wl_c rfl (wl_c rfl (wl_c rfl wl_n))))) rfl (by decide) (ih260673 _ (by omega) (v260674 + 1) 1 ⟨by omega, by omega⟩ ⟨by omega, by omega⟩ rfl)
                      · refine wp_of e196 c196_86 (rw_aload_n (pc' := 87) (v := .ref r0) rfl rfl rfl ?_)
                        refine wp_of e196 c196_87 (xg_K (pc' := 90) lf_9_166 w260156 g0 sh_42 (by decide) (by decide) rfl q260682 rfl ?_)
                        refine wp_of e196 c196_90 (xg_K (pc' := 93) lf_9_282 w260156 grp sh_54 (by decide) (by decide) rfl q260728 rfl ?_)
                        refine wp_of e196 c196_93 (rw_iload (pc' := 95) (z := v260674) rfl rfl ?_)
                        refine wp_of e196 c196_95 (xa_I (so := 0) (pc' := 96) w260156 g260729 sh_64 (by decide) (ty_64 _) (by omega) (by omega) rfl (fun b260751 b260752 => ?_))
                        have := MA_at h260732 q260728 (k := (v260674.toNat)) (by omega)
                        refine wp_of e196 c196_96 (rw_iload_n (pc' := 97) (z := z260158) rfl rfl ?_)
                        refine wp_of e196 c196_97 (rw_icmp_ne (p1 := 118) (p2 := 100) (by decide) rfl ⟨by omega, by omega⟩ ⟨by omega, by omega⟩ (fun c260753 => ?_) (fun c260753 => ?_))
                        · refine wp_of e196 c196_118 (rw_iconst (pc' := 119) rfl ?_)
                          refine wp_of e196 c196_119 (rw_istore_n (pc' := 120) (z := 0) (L' := [(3, vI 0), (4, vI v260674), (2, vI z260158), (1, vI z260117), (0, .ref r0)]) rfl rfl rfl ?_)
                          refine wp_of e196 c196_120 (rw_iinc (pc' := 123) (z := v260674) (L' := [(4, vI (v260674 + 1)), (3, vI 0), (2, vI z260158), (1, vI z260117), (0, .ref r0)]) rfl rfl rfl rfl ?_)
                          refine wp_of e196 c196_123 (rw_goto (p1 := 42) (by decide) ?_)
                          exact wp_lc (ks := [4, 3, 2, 1, 0]) (wl_c rfl (wl_c rfl (wl_c rfl (wl_c rfl (wl_c rfl wl_n))))) rfl (by decide) (ih260673 _ (by omega) (v260674 + 1) 0 ⟨by omega, by omega⟩ ⟨by omega, by omega⟩ rfl)
                        · exfalso
                          omega
            exact wp_lc (ks := [4, 3, 2, 1, 0]) (wl_c rfl (wl_c rfl (wl_c rfl (wl_c rfl (wl_c rfl wl_n))))) rfl (by decide) (lp260671 _ 0 0 ⟨by omega, by omega⟩ ⟨by omega, by omega⟩ rfl)
          · refine wp_of e196 c196_33 (rw_iconst (pc' := 34) rfl ?_)
            refine wp_of e196 c196_34 (rw_goto (p1 := 38) (by decide) ?_)
            refine wp_of e196 c196_38 (rw_istore_n (pc' := 39) (z := 1) (L' := [(3, vI 1), (2, vI z260158), (1, vI z260117), (0, .ref r0)]) rfl rfl rfl ?_)
            refine wp_of e196 c196_39 (rw_iconst (pc' := 40) rfl ?_)
            refine wp_of e196 c196_40 (rw_istore (pc' := 42) (z := 0) (L' := [(4, vI 0), (3, vI 1), (2, vI z260158), (1, vI z260117), (0, .ref r0)]) rfl rfl rfl ?_)
            have lp260782 : ∀ (n260783 : Nat) (v260785 : Int) (v260786 : Int), (0 ≤ v260785 ∧ v260785 ≤ 3) → (1 ≤ v260786 ∧ v260786 ≤ 1) → (3 - v260785).toNat = n260783 → wp kt 5 196 42 [(4, vI v260785), (3, vI v260786), (2, vI z260158), (1, vI z260117), (0, .ref r0)] [] T H260152 (uq_196_k r0 rp rb B n q d T H) := by
              intro n260783
              induction n260783 using Nat.strongRecOn with
              | _ n260783 ih260784 =>
                intro v260785 v260786 b260789 b260790 m260791
                refine wp_of e196 c196_42 (rw_iload (pc' := 44) (z := v260785) rfl rfl ?_)
                refine wp_of e196 c196_44 (rw_aload_n (pc' := 45) (v := .ref r0) rfl rfl rfl ?_)
                have k260792 : H260152 r0 4 = H260134 r0 4 := (f260157 r0 4 _ g0 rfl)
                have q260793 : H260152 r0 4 = (rp : Int) := k260792.trans q260148
                refine wp_of e196 c196_45 (xg_K (pc' := 48) lf_9_166 w260156 g0 sh_42 (by decide) (by decide) rfl q260793 rfl ?_)
                have k260794 : H260152 rp 4 = H rp 4 := ((f260157 rp 4 _ grp rfl).trans ((f260139 rp 4 _ grp rfl).trans ((f260116 rp 4 _ grp rfl).trans (f260096 rp 4 _ grp rfl))))
                refine wp_of e196 c196_48 (xg_I (pc' := 51) lf_9_276 w260156 grp sh_54 (by decide) (by decide) ty_54_4 rfl rfl (fun b260795 b260796 => ?_))
                refine wp_of e196 c196_51 (rw_icmp_ge (p1 := 126) (p2 := 54) (by decide) rfl ⟨by omega, by omega⟩ ⟨by omega, by omega⟩ (fun c260797 => ?_) (fun c260797 => ?_))
                · refine wp_of e196 c196_126 (rw_iload_n (pc' := 127) (z := v260786) rfl rfl ?_)
                  refine wp_of e196 c196_127 (rw_if_eq (p1 := 135) (p2 := 130) (by decide) rfl ⟨by omega, by omega⟩ (fun c260798 => ?_) (fun c260798 => ?_))
                  · exfalso
                    omega
                  · refine wp_of e196 c196_130 (rw_aload_n (pc' := 131) (v := .ref r0) rfl rfl rfl ?_)
                    refine wp_of e196 c196_131 (rw_iconst (pc' := 132) rfl ?_)
                    refine wp_of e196 c196_132 (xc_V (pc' := 135) (r := r0) (as := [vI 3]) (st := []) (lm_9_121) rfl rfl (Nat.le_of_ble_eq_true rfl) w260156 g0 sh_42 (by decide) rfl (by decide) (u_181_o (fo := (xkn B n ((xN B n ((xN B n ((xN B n q)))))) d)) (po := (((xN B n ((xN B n ((xN B n q)))))))) w260156 g0 ⟨by omega, by omega⟩ a260169) (fun R260799 T260800 H260801 p260802 => ?_))
                    obtain ⟨e260803, e260805, e260804, p260806⟩ := p260802
                    subst e260803
                    subst e260804
                    subst e260805
                    show wp _ _ 196 135 [(4, vI v260785), (3, vI v260786), (2, vI z260158), (1, vI z260117), (0, .ref r0)] [] _ H260152 _
                    have u260808 := RO_k p260806
                    refine wp_of e196 c196_135 (rw_aload_n (pc' := 136) (v := .ref r0) rfl rfl rfl ?_)
                    refine wp_of e196 c196_136 (xc_V (pc' := 139) (r := r0) (as := []) (st := []) (lm_9_118) rfl rfl (Nat.le_of_ble_eq_true rfl) w260156 g0 sh_42 (by decide) rfl (by decide) (u_172_o (fo := (xkn B n ((xN B n ((xN B n ((xN B n q)))))) d)) (po := (((xN B n ((xN B n ((xN B n q)))))))) w260156 g0 p260806) (fun R260809 T260810 H260811 p260812 => ?_))
                    obtain ⟨e260813, e260815, e260814, p260816⟩ := p260812
                    subst e260813
                    subst e260814
                    subst e260815
                    show wp _ _ 196 139 [(4, vI v260785), (3, vI v260786), (2, vI z260158), (1, vI z260117), (0, .ref r0)] [] _ H260152 _
                    have u260818 := RO_k p260816
                    refine wp_of e196 c196_139 (rw_aload_n (pc' := 140) (v := .ref r0) rfl rfl rfl ?_)
                    refine wp_of e196 c196_140 (xg_I (pc' := 143) lf_9_75 w260156 g0 sh_42 (by decide) (by decide) ty_42_9 rfl rfl (fun b260819 b260820 => ?_))
                    refine wp_of e196 c196_143 (rw_iconst (pc' := 144) rfl ?_)
                    refine wp_of e196 c196_144 (rw_icmp_ne (p1 := 148) (p2 := 147) (by decide) rfl ⟨by omega, by omega⟩ ⟨by omega, by omega⟩ (fun c260821 => ?_) (fun c260821 => ?_))
                    · exfalso
                      omega
                    · have o260822 : (xl3 B n q d) = (xkn B n ((xN B n ((xN B n ((xN B n q)))))) d, ((xN B n ((xN B n ((xN B n q)))))), ((xN B n ((xN B n ((xN B n q))))))) := by
                        unfold xl3 xap
                        repeat first | rw [xs_0 (by omega)] | rw [xs_1 (by omega)] | rw [if_pos (by omega)] | rw [if_neg (by omega)]
                        first | done | rfl | assumption | (exfalso; omega) | (refine Prod.ext ?_ (Prod.ext ?_ ?_) <;> (try dsimp only) <;> omega)
                      have o260822a : ((xl3 B n q d)).1 = xkn B n ((xN B n ((xN B n ((xN B n q)))))) d := by rw [o260822]
                      have o260822b : ((xl3 B n q d)).2.1 = ((xN B n ((xN B n ((xN B n q)))))) := by rw [o260822]
                      have o260822c : ((xl3 B n q d)).2.2 = ((xN B n ((xN B n ((xN B n q)))))) := by rw [o260822]
                      exact wp_return e196 c196_147 rfl ⟨rfl, w260156, f260544, rfl, (Or.inr ⟨by omega, RO_eq p260816 (by omega) (by omega)⟩)⟩
                · refine wp_of e196 c196_54 (rw_iload_n (pc' := 55) (z := v260786) rfl rfl ?_)
                  refine wp_of e196 c196_55 (rw_if_ne (p1 := 114) (p2 := 58) (by decide) rfl ⟨by omega, by omega⟩ (fun c260823 => ?_) (fun c260823 => ?_))
                  · refine wp_of e196 c196_114 (rw_iconst (pc' := 115) rfl ?_)
                    refine wp_of e196 c196_115 (rw_goto (p1 := 119) (by decide) ?_)
                    refine wp_of e196 c196_119 (rw_istore_n (pc' := 120) (z := 1) (L' := [(3, vI 1), (4, vI v260785), (2, vI z260158), (1, vI z260117), (0, .ref r0)]) rfl rfl rfl ?_)
                    refine wp_of e196 c196_120 (rw_iinc (pc' := 123) (z := v260785) (L' := [(4, vI (v260785 + 1)), (3, vI 1), (2, vI z260158), (1, vI z260117), (0, .ref r0)]) rfl rfl rfl rfl ?_)
                    refine wp_of e196 c196_123 (rw_goto (p1 := 42) (by decide) ?_)
                    exact wp_lc (ks := [4, 3, 2, 1, 0]) (wl_c rfl (wl_c rfl (wl_c rfl (wl_c rfl (wl_c rfl wl_n))))) rfl (by decide) (ih260784 _ (by omega) (v260785 + 1) 1 ⟨by omega, by omega⟩ ⟨by omega, by omega⟩ rfl)
                  · exfalso
                    omega
            exact wp_lc (ks := [4, 3, 2, 1, 0]) (wl_c rfl (wl_c rfl (wl_c rfl (wl_c rfl (wl_c rfl wl_n))))) rfl (by decide) (lp260782 _ 0 1 ⟨by omega, by omega⟩ ⟨by omega, by omega⟩ rfl)
      · have f260824 := f260128.tr f260139 rfl
        show wp _ _ 196 23 [(1, vI z260117), (0, .ref r0)] [] _ H260134 _
        have u260825 := RO_k a260144
        refine wp_of e196 c196_23 (rw_aload_n (pc' := 24) (v := .ref r0) rfl rfl rfl ?_)
        have k260826 : H260134 r0 4 = H260091 r0 4 := ((f260139 r0 4 _ g0 rfl).trans (f260116 r0 4 _ g0 rfl))
        have q260827 : H260134 r0 4 = (rp : Int) := k260826.trans q260105
        refine wp_of e196 c196_24 (xc_V (pc' := 27) (r := r0) (as := []) (st := []) (lm_9_176) rfl rfl (Nat.le_of_ble_eq_true rfl) w260138 g0 sh_42 (by decide) rfl (by decide) (u_195_o (fo := (xk B n ((xN B n ((xN B n q)))) 4)) (po := (((xN B n ((xN B n q)))))) w260138 g0 q260827 grp a260144) (fun R260828 T260829 H260830 p260831 => ?_))
        obtain ⟨e260832, e260834, z260835, e260833, b260836, p260837⟩ := p260831
        subst e260832
        subst e260833
        subst e260834
        obtain ⟨a260838, a260839⟩ := p260837
        show wp _ _ 196 27 [(1, vI z260117), (0, .ref r0)] [vI z260835] _ H260134 _
        have u260840 := RO_k a260839
        refine wp_of e196 c196_27 (rw_istore_n (pc' := 28) (z := z260835) (L' := [(2, vI z260835), (1, vI z260117), (0, .ref r0)]) rfl rfl rfl ?_)
        refine wp_of e196 c196_28 (rw_iload_n (pc' := 29) (z := z260117) rfl rfl ?_)
        refine wp_of e196 c196_29 (rw_iload_n (pc' := 30) (z := z260835) rfl rfl ?_)
        refine wp_of e196 c196_30 (rw_icmp_ne (p1 := 37) (p2 := 33) (by decide) rfl ⟨by omega, by omega⟩ ⟨by omega, by omega⟩ (fun c260841 => ?_) (fun c260841 => ?_))
        · refine wp_of e196 c196_37 (rw_iconst (pc' := 38) rfl ?_)
          refine wp_of e196 c196_38 (rw_istore_n (pc' := 39) (z := 0) (L' := [(3, vI 0), (2, vI z260835), (1, vI z260117), (0, .ref r0)]) rfl rfl rfl ?_)
          refine wp_of e196 c196_39 (rw_iconst (pc' := 40) rfl ?_)
          refine wp_of e196 c196_40 (rw_istore (pc' := 42) (z := 0) (L' := [(4, vI 0), (3, vI 0), (2, vI z260835), (1, vI z260117), (0, .ref r0)]) rfl rfl rfl ?_)
          have lp260966 : ∀ (n260967 : Nat) (v260969 : Int) (v260970 : Int), (0 ≤ v260969 ∧ v260969 ≤ 3) → (0 ≤ v260970 ∧ v260970 ≤ 1) → (3 - v260969).toNat = n260967 → wp kt 5 196 42 [(4, vI v260969), (3, vI v260970), (2, vI z260835), (1, vI z260117), (0, .ref r0)] [] T H260134 (uq_196_k r0 rp rb B n q d T H) := by
            intro n260967
            induction n260967 using Nat.strongRecOn with
            | _ n260967 ih260968 =>
              intro v260969 v260970 b260973 b260974 m260975
              refine wp_of e196 c196_42 (rw_iload (pc' := 44) (z := v260969) rfl rfl ?_)
              refine wp_of e196 c196_44 (rw_aload_n (pc' := 45) (v := .ref r0) rfl rfl rfl ?_)
              refine wp_of e196 c196_45 (xg_K (pc' := 48) lf_9_166 w260138 g0 sh_42 (by decide) (by decide) rfl q260827 rfl ?_)
              have k260976 : H260134 rp 4 = H rp 4 := ((f260139 rp 4 _ grp rfl).trans ((f260116 rp 4 _ grp rfl).trans (f260096 rp 4 _ grp rfl)))
              refine wp_of e196 c196_48 (xg_I (pc' := 51) lf_9_276 w260138 grp sh_54 (by decide) (by decide) ty_54_4 rfl rfl (fun b260977 b260978 => ?_))
              refine wp_of e196 c196_51 (rw_icmp_ge (p1 := 126) (p2 := 54) (by decide) rfl ⟨by omega, by omega⟩ ⟨by omega, by omega⟩ (fun c260979 => ?_) (fun c260979 => ?_))
              · refine wp_of e196 c196_126 (rw_iload_n (pc' := 127) (z := v260970) rfl rfl ?_)
                refine wp_of e196 c196_127 (rw_if_eq (p1 := 135) (p2 := 130) (by decide) rfl ⟨by omega, by omega⟩ (fun c260980 => ?_) (fun c260980 => ?_))
                · refine wp_of e196 c196_135 (rw_aload_n (pc' := 136) (v := .ref r0) rfl rfl rfl ?_)
                  refine wp_of e196 c196_136 (xc_V (pc' := 139) (r := r0) (as := []) (st := []) (lm_9_118) rfl rfl (Nat.le_of_ble_eq_true rfl) w260138 g0 sh_42 (by decide) rfl (by decide) (u_172_o (fo := (xk B n ((xN B n ((xN B n q)))) 4)) (po := (((xN B n ((xN B n q)))))) w260138 g0 a260839) (fun R260981 T260982 H260983 p260984 => ?_))
                  obtain ⟨e260985, e260987, e260986, p260988⟩ := p260984
                  subst e260985
                  subst e260986
                  subst e260987
                  show wp _ _ 196 139 [(4, vI v260969), (3, vI v260970), (2, vI z260835), (1, vI z260117), (0, .ref r0)] [] _ H260134 _
                  have u260990 := RO_k p260988
                  refine wp_of e196 c196_139 (rw_aload_n (pc' := 140) (v := .ref r0) rfl rfl rfl ?_)
                  refine wp_of e196 c196_140 (xg_I (pc' := 143) lf_9_75 w260138 g0 sh_42 (by decide) (by decide) ty_42_9 rfl rfl (fun b260991 b260992 => ?_))
                  refine wp_of e196 c196_143 (rw_iconst (pc' := 144) rfl ?_)
                  refine wp_of e196 c196_144 (rw_icmp_ne (p1 := 148) (p2 := 147) (by decide) rfl ⟨by omega, by omega⟩ ⟨by omega, by omega⟩ (fun c260993 => ?_) (fun c260993 => ?_))
                  · exfalso
                    omega
                  · have o260994 : (xl3 B n q d) = (xk B n ((xN B n ((xN B n q)))) 4, ((xN B n ((xN B n q)))), ((xN B n ((xN B n q))))) := by
                      unfold xl3 xap
                      repeat first | rw [xs_0 (by omega)] | rw [xs_1 (by omega)] | rw [if_pos (by omega)] | rw [if_neg (by omega)]
                      first | done | rfl | assumption | (exfalso; omega) | (refine Prod.ext ?_ (Prod.ext ?_ ?_) <;> (try dsimp only) <;> omega)
                    have o260994a : ((xl3 B n q d)).1 = xk B n ((xN B n ((xN B n q)))) 4 := by rw [o260994]
                    have o260994b : ((xl3 B n q d)).2.1 = ((xN B n ((xN B n q)))) := by rw [o260994]
                    have o260994c : ((xl3 B n q d)).2.2 = ((xN B n ((xN B n q)))) := by rw [o260994]
                    exact wp_return e196 c196_147 rfl ⟨rfl, w260138, f260824, rfl, (Or.inr ⟨by omega, RO_eq p260988 (by omega) (by omega)⟩)⟩
                · refine wp_of e196 c196_130 (rw_aload_n (pc' := 131) (v := .ref r0) rfl rfl rfl ?_)
                  refine wp_of e196 c196_131 (rw_iconst (pc' := 132) rfl ?_)
                  refine wp_of e196 c196_132 (xc_V (pc' := 135) (r := r0) (as := [vI 3]) (st := []) (lm_9_121) rfl rfl (Nat.le_of_ble_eq_true rfl) w260138 g0 sh_42 (by decide) rfl (by decide) (u_181_o (fo := (xk B n ((xN B n ((xN B n q)))) 4)) (po := (((xN B n ((xN B n q)))))) w260138 g0 ⟨by omega, by omega⟩ a260839) (fun R260995 T260996 H260997 p260998 => ?_))
                  obtain ⟨e260999, e261001, e261000, p261002⟩ := p260998
                  subst e260999
                  subst e261000
                  subst e261001
                  show wp _ _ 196 135 [(4, vI v260969), (3, vI v260970), (2, vI z260835), (1, vI z260117), (0, .ref r0)] [] _ H260134 _
                  have u261004 := RO_k p261002
                  refine wp_of e196 c196_135 (rw_aload_n (pc' := 136) (v := .ref r0) rfl rfl rfl ?_)
                  refine wp_of e196 c196_136 (xc_V (pc' := 139) (r := r0) (as := []) (st := []) (lm_9_118) rfl rfl (Nat.le_of_ble_eq_true rfl) w260138 g0 sh_42 (by decide) rfl (by decide) (u_172_o (fo := (xk B n ((xN B n ((xN B n q)))) 4)) (po := (((xN B n ((xN B n q)))))) w260138 g0 p261002) (fun R261005 T261006 H261007 p261008 => ?_))
                  obtain ⟨e261009, e261011, e261010, p261012⟩ := p261008
                  subst e261009
                  subst e261010
                  subst e261011
                  show wp _ _ 196 139 [(4, vI v260969), (3, vI v260970), (2, vI z260835), (1, vI z260117), (0, .ref r0)] [] _ H260134 _
                  have u261014 := RO_k p261012
                  refine wp_of e196 c196_139 (rw_aload_n (pc' := 140) (v := .ref r0) rfl rfl rfl ?_)
                  refine wp_of e196 c196_140 (xg_I (pc' := 143) lf_9_75 w260138 g0 sh_42 (by decide) (by decide) ty_42_9 rfl rfl (fun b261015 b261016 => ?_))
                  refine wp_of e196 c196_143 (rw_iconst (pc' := 144) rfl ?_)
                  refine wp_of e196 c196_144 (rw_icmp_ne (p1 := 148) (p2 := 147) (by decide) rfl ⟨by omega, by omega⟩ ⟨by omega, by omega⟩ (fun c261017 => ?_) (fun c261017 => ?_))
                  · exfalso
                    omega
                  · have o261018 : (xl3 B n q d) = (xk B n ((xN B n ((xN B n q)))) 4, ((xN B n ((xN B n q)))), ((xN B n ((xN B n q))))) := by
                      unfold xl3 xap
                      repeat first | rw [xs_0 (by omega)] | rw [xs_1 (by omega)] | rw [if_pos (by omega)] | rw [if_neg (by omega)]
                      first | done | rfl | assumption | (exfalso; omega) | (refine Prod.ext ?_ (Prod.ext ?_ ?_) <;> (try dsimp only) <;> omega)
                    have o261018a : ((xl3 B n q d)).1 = xk B n ((xN B n ((xN B n q)))) 4 := by rw [o261018]
                    have o261018b : ((xl3 B n q d)).2.1 = ((xN B n ((xN B n q)))) := by rw [o261018]
                    have o261018c : ((xl3 B n q d)).2.2 = ((xN B n ((xN B n q)))) := by rw [o261018]
                    exact wp_return e196 c196_147 rfl ⟨rfl, w260138, f260824, rfl, (Or.inr ⟨by omega, RO_eq p261012 (by omega) (by omega)⟩)⟩
              · refine wp_of e196 c196_54 (rw_iload_n (pc' := 55) (z := v260970) rfl rfl ?_)
                refine wp_of e196 c196_55 (rw_if_ne (p1 := 114) (p2 := 58) (by decide) rfl ⟨by omega, by omega⟩ (fun c261019 => ?_) (fun c261019 => ?_))
                · refine wp_of e196 c196_114 (rw_iconst (pc' := 115) rfl ?_)
                  refine wp_of e196 c196_115 (rw_goto (p1 := 119) (by decide) ?_)
                  refine wp_of e196 c196_119 (rw_istore_n (pc' := 120) (z := 1) (L' := [(3, vI 1), (4, vI v260969), (2, vI z260835), (1, vI z260117), (0, .ref r0)]) rfl rfl rfl ?_)
                  refine wp_of e196 c196_120 (rw_iinc (pc' := 123) (z := v260969) (L' := [(4, vI (v260969 + 1)), (3, vI 1), (2, vI z260835), (1, vI z260117), (0, .ref r0)]) rfl rfl rfl rfl ?_)
                  refine wp_of e196 c196_123 (rw_goto (p1 := 42) (by decide) ?_)
                  exact wp_lc (ks := [4, 3, 2, 1, 0]) (wl_c rfl (wl_c rfl (wl_c rfl (wl_c rfl (wl_c rfl wl_n))))) rfl (by decide) (ih260968 _ (by omega) (v260969 + 1) 1 ⟨by omega, by omega⟩ ⟨by omega, by omega⟩ rfl)
                · refine wp_of e196 c196_58 (rw_aload_n (pc' := 59) (v := .ref r0) rfl rfl rfl ?_)
                  refine wp_of e196 c196_59 (xg_K (pc' := 62) lf_9_166 w260138 g0 sh_42 (by decide) (by decide) rfl q260827 rfl ?_)
                  refine wp_of e196 c196_62 (xg_R (pc' := 65) lf_9_282 w260138 grp sh_54 (by decide) (by decide) ty_54_18 rfl rfl (fun r261020 q261021 g261022 => ?_))
                  refine wp_of e196 c196_65 (rw_iload (pc' := 67) (z := v260969) rfl rfl ?_)
                  refine wp_of e196 c196_67 (xa_I (so := 0) (pc' := 68) w260138 g261022 sh_64 (by decide) (ty_64 _) (by omega) (by omega) rfl (fun b261023 b261024 => ?_))
                  have h261025 : MA18 T H260134 rp (d 10) := (MA18_fr w260115 grp f260139 rfl (MA18_fr w260095 grp f260116 rfl (MA18_fr hW grp f260096 rfl h260079)))
                  have := MA_at h261025 q261021 (k := (v260969.toNat)) (by omega)
                  refine wp_of e196 c196_68 (rw_iload_n (pc' := 69) (z := z260117) rfl rfl ?_)
                  refine wp_of e196 c196_69 (rw_icmp_ne (p1 := 86) (p2 := 72) (by decide) rfl ⟨by omega, by omega⟩ ⟨by omega, by omega⟩ (fun c261026 => ?_) (fun c261026 => ?_))
                  · refine wp_of e196 c196_86 (rw_aload_n (pc' := 87) (v := .ref r0) rfl rfl rfl ?_)
                    refine wp_of e196 c196_87 (xg_K (pc' := 90) lf_9_166 w260138 g0 sh_42 (by decide) (by decide) rfl q260827 rfl ?_)
                    refine wp_of e196 c196_90 (xg_K (pc' := 93) lf_9_282 w260138 grp sh_54 (by decide) (by decide) rfl q261021 rfl ?_)
                    refine wp_of e196 c196_93 (rw_iload (pc' := 95) (z := v260969) rfl rfl ?_)
                    refine wp_of e196 c196_95 (xa_I (so := 0) (pc' := 96) w260138 g261022 sh_64 (by decide) (ty_64 _) (by omega) (by omega) rfl (fun b261027 b261028 => ?_))
                    have := MA_at h261025 q261021 (k := (v260969.toNat)) (by omega)
                    refine wp_of e196 c196_96 (rw_iload_n (pc' := 97) (z := z260835) rfl rfl ?_)
                    refine wp_of e196 c196_97 (rw_icmp_ne (p1 := 118) (p2 := 100) (by decide) rfl ⟨by omega, by omega⟩ ⟨by omega, by omega⟩ (fun c261029 => ?_) (fun c261029 => ?_))
                    · refine wp_of e196 c196_118 (rw_iconst (pc' := 119) rfl ?_)
                      refine wp_of e196 c196_119 (rw_istore_n (pc' := 120) (z := 0) (L' := [(3, vI 0), (4, vI v260969), (2, vI z260835), (1, vI z260117), (0, .ref r0)]) rfl rfl rfl ?_)
                      refine wp_of e196 c196_120 (rw_iinc (pc' := 123) (z := v260969) (L' := [(4, vI (v260969 + 1)), (3, vI 0), (2, vI z260835), (1, vI z260117), (0, .ref r0)]) rfl rfl rfl rfl ?_)
                      refine wp_of e196 c196_123 (rw_goto (p1 := 42) (by decide) ?_)
                      exact wp_lc (ks := [4, 3, 2, 1, 0]) (wl_c rfl (wl_c rfl (wl_c rfl (wl_c rfl (wl_c rfl wl_n))))) rfl (by decide) (ih260968 _ (by omega) (v260969 + 1) 0 ⟨by omega, by omega⟩ ⟨by omega, by omega⟩ rfl)
                    · refine wp_of e196 c196_100 (rw_aload_n (pc' := 101) (v := .ref r0) rfl rfl rfl ?_)
                      refine wp_of e196 c196_101 (xg_K (pc' := 104) lf_9_166 w260138 g0 sh_42 (by decide) (by decide) rfl q260827 rfl ?_)
                      refine wp_of e196 c196_104 (xg_R (pc' := 107) lf_9_285 w260138 grp sh_54 (by decide) (by decide) ty_54_19 rfl rfl (fun r261030 q261031 g261032 => ?_))
                      refine wp_of e196 c196_107 (rw_iload (pc' := 109) (z := v260969) rfl rfl ?_)
                      refine wp_of e196 c196_109 (xa_I (so := 0) (pc' := 110) w260138 g261032 sh_65 (by decide) (ty_65 _) (by omega) (by omega) rfl (fun b261033 b261034 => ?_))
                      have h261035 : MA19 T H260134 rp (d 11) := (MA19_fr w260115 grp f260139 rfl (MA19_fr w260095 grp f260116 rfl (MA19_fr hW grp f260096 rfl h260080)))
                      have := MA_at h261035 q261031 (k := (v260969.toNat)) (by omega)
                      refine wp_of e196 c196_110 (rw_iload_n (pc' := 111) (z := z260117) rfl rfl ?_)
                      refine wp_of e196 c196_111 (rw_icmp_ne (p1 := 118) (p2 := 114) (by decide) rfl ⟨by omega, by omega⟩ ⟨by omega, by omega⟩ (fun c261036 => ?_) (fun c261036 => ?_))
                      · refine wp_of e196 c196_118 (rw_iconst (pc' := 119) rfl ?_)
                        refine wp_of e196 c196_119 (rw_istore_n (pc' := 120) (z := 0) (L' := [(3, vI 0), (4, vI v260969), (2, vI z260835), (1, vI z260117), (0, .ref r0)]) rfl rfl rfl ?_)
                        refine wp_of e196 c196_120 (rw_iinc (pc' := 123) (z := v260969) (L' := [(4, vI (v260969 + 1)), (3, vI 0), (2, vI z260835), (1, vI z260117), (0, .ref r0)]) rfl rfl rfl rfl ?_)
                        refine wp_of e196 c196_123 (rw_goto (p1 := 42) (by decide) ?_)
                        exact wp_lc (ks := [4, 3, 2, 1, 0]) (wl_c rfl (wl_c rfl (wl_c rfl (wl_c rfl (wl_c rfl wl_n))))) rfl (by decide) (ih260968 _ (by omega) (v260969 + 1) 0 ⟨by omega, by omega⟩ ⟨by omega, by omega⟩ rfl)
                      · refine wp_of e196 c196_114 (rw_iconst (pc' := 115) rfl ?_)
                        refine wp_of e196 c196_115 (rw_goto (p1 := 119) (by decide) ?_)
                        refine wp_of e196 c196_119 (rw_istore_n (pc' := 120) (z := 1) (L' := [(3, vI 1), (4, vI v260969), (2, vI z260835), (1, vI z260117), (0, .ref r0)]) rfl rfl rfl ?_)
                        refine wp_of e196 c196_120 (rw_iinc (pc' := 123) (z := v260969) (L' := [(4, vI (v260969 + 1)), (3, vI 1), (2, vI z260835), (1, vI z260117), (0, .ref r0)]) rfl rfl rfl rfl ?_)
                        refine wp_of e196 c196_123 (rw_goto (p1 := 42) (by decide) ?_)
                        exact wp_lc (ks := [4, 3, 2, 1, 0]) (wl_c rfl (wl_c rfl (wl_c rfl (wl_c rfl (wl_c rfl wl_n))))) rfl (by decide) (ih260968 _ (by omega) (v260969 + 1) 1 ⟨by omega, by omega⟩ ⟨by omega, by omega⟩ rfl)
                  · refine wp_of e196 c196_72 (rw_aload_n (pc' := 73) (v := .ref r0) rfl rfl rfl ?_)
                    refine wp_of e196 c196_73 (xg_K (pc' := 76) lf_9_166 w260138 g0 sh_42 (by decide) (by decide) rfl q260827 rfl ?_)
                    refine wp_of e196 c196_76 (xg_R (pc' := 79) lf_9_285 w260138 grp sh_54 (by decide) (by decide) ty_54_19 rfl rfl (fun r261037 q261038 g261039 => ?_))
                    refine wp_of e196 c196_79 (rw_iload (pc' := 81) (z := v260969) rfl rfl ?_)
                    refine wp_of e196 c196_81 (xa_I (so := 0) (pc' := 82) w260138 g261039 sh_65 (by decide) (ty_65 _) (by omega) (by omega) rfl (fun b261040 b261041 => ?_))
                    have h261042 : MA19 T H260134 rp (d 11) := (MA19_fr w260115 grp f260139 rfl (MA19_fr w260095 grp f260116 rfl (MA19_fr hW grp f260096 rfl h260080)))
                    have := MA_at h261042 q261038 (k := (v260969.toNat)) (by omega)
                    refine wp_of e196 c196_82 (rw_iload_n (pc' := 83) (z := z260835) rfl rfl ?_)
                    refine wp_of e196 c196_83 (rw_icmp_eq (p1 := 114) (p2 := 86) (by decide) rfl ⟨by omega, by omega⟩ ⟨by omega, by omega⟩ (fun c261043 => ?_) (fun c261043 => ?_))
                    · refine wp_of e196 c196_114 (rw_iconst (pc' := 115) rfl ?_)
                      refine wp_of e196 c196_115 (rw_goto (p1 := 119) (by decide) ?_)
                      refine wp_of e196 c196_119 (rw_istore_n (pc' := 120) (z := 1) (L' := [(3, vI 1), (4, vI v260969), (2, vI z260835), (1, vI z260117), (0, .ref r0)]) rfl rfl rfl ?_)
                      refine wp_of e196 c196_120 (rw_iinc (pc' := 123) (z := v260969) (L' := [(4, vI (v260969 + 1)), (3, vI 1), (2, vI z260835), (1, vI z260117), (0, .ref r0)]) rfl rfl rfl rfl ?_)
                      refine wp_of e196 c196_123 (rw_goto (p1 := 42) (by decide) ?_)
                      exact wp_lc (ks := [4, 3, 2, 1, 0]) (wl_c rfl (wl_c rfl (wl_c rfl (wl_c rfl (wl_c rfl wl_n))))) rfl (by decide) (ih260968 _ (by omega) (v260969 + 1) 1 ⟨by omega, by omega⟩ ⟨by omega, by omega⟩ rfl)
                    · refine wp_of e196 c196_86 (rw_aload_n (pc' := 87) (v := .ref r0) rfl rfl rfl ?_)
                      refine wp_of e196 c196_87 (xg_K (pc' := 90) lf_9_166 w260138 g0 sh_42 (by decide) (by decide) rfl q260827 rfl ?_)
                      refine wp_of e196 c196_90 (xg_K (pc' := 93) lf_9_282 w260138 grp sh_54 (by decide) (by decide) rfl q261021 rfl ?_)
                      refine wp_of e196 c196_93 (rw_iload (pc' := 95) (z := v260969) rfl rfl ?_)
                      refine wp_of e196 c196_95 (xa_I (so := 0) (pc' := 96) w260138 g261022 sh_64 (by decide) (ty_64 _) (by omega) (by omega) rfl (fun b261044 b261045 => ?_))
                      have := MA_at h261025 q261021 (k := (v260969.toNat)) (by omega)
                      refine wp_of e196 c196_96 (rw_iload_n (pc' := 97) (z := z260835) rfl rfl ?_)
                      refine wp_of e196 c196_97 (rw_icmp_ne (p1 := 118) (p2 := 100) (by decide) rfl ⟨by omega, by omega⟩ ⟨by omega, by omega⟩ (fun c261046 => ?_) (fun c261046 => ?_))
                      · refine wp_of e196 c196_118 (rw_iconst (pc' := 119) rfl ?_)
                        refine wp_of e196 c196_119 (rw_istore_n (pc' := 120) (z := 0) (L' := [(3, vI 0), (4, vI v260969), (2, vI z260835), (1, vI z260117), (0, .ref r0)]) rfl rfl rfl ?_)
                        refine wp_of e196 c196_120 (rw_iinc (pc' := 123) (z := v260969) (L' := [(4, vI (v260969 + 1)), (3, vI 0), (2, vI z260835), (1, vI z260117), (0, .ref r0)]) rfl rfl rfl rfl ?_)
                        refine wp_of e196 c196_123 (rw_goto (p1 := 42) (by decide) ?_)
                        exact wp_lc (ks := [4, 3, 2, 1, 0]) (wl_c rfl (wl_c rfl (wl_c rfl (wl_c rfl (wl_c rfl wl_n))))) rfl (by decide) (ih260968 _ (by omega) (v260969 + 1) 0 ⟨by omega, by omega⟩ ⟨by omega, by omega⟩ rfl)
                      · exfalso
                        omega
          exact wp_lc (ks := [4, 3, 2, 1, 0]) (wl_c rfl (wl_c rfl (wl_c rfl (wl_c rfl (wl_c rfl wl_n))))) rfl (by decide) (lp260966 _ 0 0 ⟨by omega, by omega⟩ ⟨by omega, by omega⟩ rfl)
        · refine wp_of e196 c196_33 (rw_iconst (pc' := 34) rfl ?_)
          refine wp_of e196 c196_34 (rw_goto (p1 := 38) (by decide) ?_)
          refine wp_of e196 c196_38 (rw_istore_n (pc' := 39) (z := 1) (L' := [(3, vI 1), (2, vI z260835), (1, vI z260117), (0, .ref r0)]) rfl rfl rfl ?_)
          refine wp_of e196 c196_39 (rw_iconst (pc' := 40) rfl ?_)
          refine wp_of e196 c196_40 (rw_istore (pc' := 42) (z := 0) (L' := [(4, vI 0), (3, vI 1), (2, vI z260835), (1, vI z260117), (0, .ref r0)]) rfl rfl rfl ?_)
          have lp261075 : ∀ (n261076 : Nat) (v261078 : Int) (v261079 : Int), (0 ≤ v261078 ∧ v261078 ≤ 3) → (1 ≤ v261079 ∧ v261079 ≤ 1) → (3 - v261078).toNat = n261076 → wp kt 5 196 42 [(4, vI v261078), (3, vI v261079), (2, vI z260835), (1, vI z260117), (0, .ref r0)] [] T H260134 (uq_196_k r0 rp rb B n q d T H) := by
            intro n261076
            induction n261076 using Nat.strongRecOn with
            | _ n261076 ih261077 =>
              intro v261078 v261079 b261082 b261083 m261084
              refine wp_of e196 c196_42 (rw_iload (pc' := 44) (z := v261078) rfl rfl ?_)
              refine wp_of e196 c196_44 (rw_aload_n (pc' := 45) (v := .ref r0) rfl rfl rfl ?_)
              refine wp_of e196 c196_45 (xg_K (pc' := 48) lf_9_166 w260138 g0 sh_42 (by decide) (by decide) rfl q260827 rfl ?_)
              have k261085 : H260134 rp 4 = H rp 4 := ((f260139 rp 4 _ grp rfl).trans ((f260116 rp 4 _ grp rfl).trans (f260096 rp 4 _ grp rfl)))
              refine wp_of e196 c196_48 (xg_I (pc' := 51) lf_9_276 w260138 grp sh_54 (by decide) (by decide) ty_54_4 rfl rfl (fun b261086 b261087 => ?_))
              refine wp_of e196 c196_51 (rw_icmp_ge (p1 := 126) (p2 := 54) (by decide) rfl ⟨by omega, by omega⟩ ⟨by omega, by omega⟩ (fun c261088 => ?_) (fun c261088 => ?_))
              · refine wp_of e196 c196_126 (rw_iload_n (pc' := 127) (z := v261079) rfl rfl ?_)
                refine wp_of e196 c196_127 (rw_if_eq (p1 := 135) (p2 := 130) (by decide) rfl ⟨by omega, by omega⟩ (fun c261089 => ?_) (fun c261089 => ?_))
                · exfalso
                  omega
                · refine wp_of e196 c196_130 (rw_aload_n (pc' := 131) (v := .ref r0) rfl rfl rfl ?_)
                  refine wp_of e196 c196_131 (rw_iconst (pc' := 132) rfl ?_)
                  refine wp_of e196 c196_132 (xc_V (pc' := 135) (r := r0) (as := [vI 3]) (st := []) (lm_9_121) rfl rfl (Nat.le_of_ble_eq_true rfl) w260138 g0 sh_42 (by decide) rfl (by decide) (u_181_o (fo := (xk B n ((xN B n ((xN B n q)))) 4)) (po := (((xN B n ((xN B n q)))))) w260138 g0 ⟨by omega, by omega⟩ a260839) (fun R261090 T261091 H261092 p261093 => ?_))
                  obtain ⟨e261094, e261096, e261095, p261097⟩ := p261093
                  subst e261094
                  subst e261095
                  subst e261096
                  show wp _ _ 196 135 [(4, vI v261078), (3, vI v261079), (2, vI z260835), (1, vI z260117), (0, .ref r0)] [] _ H260134 _
                  have u261099 := RO_k p261097
                  refine wp_of e196 c196_135 (rw_aload_n (pc' := 136) (v := .ref r0) rfl rfl rfl ?_)
                  refine wp_of e196 c196_136 (xc_V (pc' := 139) (r := r0) (as := []) (st := []) (lm_9_118) rfl rfl (Nat.le_of_ble_eq_true rfl) w260138 g0 sh_42 (by decide) rfl (by decide) (u_172_o (fo := (xk B n ((xN B n ((xN B n q)))) 4)) (po := (((xN B n ((xN B n q)))))) w260138 g0 p261097) (fun R261100 T261101 H261102 p261103 => ?_))
                  obtain ⟨e261104, e261106, e261105, p261107⟩ := p261103
                  subst e261104
                  subst e261105
                  subst e261106
                  show wp _ _ 196 139 [(4, vI v261078), (3, vI v261079), (2, vI z260835), (1, vI z260117), (0, .ref r0)] [] _ H260134 _
                  have u261109 := RO_k p261107
                  refine wp_of e196 c196_139 (rw_aload_n (pc' := 140) (v := .ref r0) rfl rfl rfl ?_)
                  refine wp_of e196 c196_140 (xg_I (pc' := 143) lf_9_75 w260138 g0 sh_42 (by decide) (by decide) ty_42_9 rfl rfl (fun b261110 b261111 => ?_))
                  refine wp_of e196 c196_143 (rw_iconst (pc' := 144) rfl ?_)
                  refine wp_of e196 c196_144 (rw_icmp_ne (p1 := 148) (p2 := 147) (by decide) rfl ⟨by omega, by omega⟩ ⟨by omega, by omega⟩ (fun c261112 => ?_) (fun c261112 => ?_))
                  · exfalso
                    omega
                  · have o261113 : (xl3 B n q d) = (xk B n ((xN B n ((xN B n q)))) 4, ((xN B n ((xN B n q)))), ((xN B n ((xN B n q))))) := by
                      unfold xl3 xap
                      repeat first | rw [xs_0 (by omega)] | rw [xs_1 (by omega)] | rw [if_pos (by omega)] | rw [if_neg (by omega)]
                      first | done | rfl | assumption | (exfalso; omega) | (refine Prod.ext ?_ (Prod.ext ?_ ?_) <;> (try dsimp only) <;> omega)
                    have o261113a : ((xl3 B n q d)).1 = xk B n ((xN B n ((xN B n q)))) 4 := by rw [o261113]
                    have o261113b : ((xl3 B n q d)).2.1 = ((xN B n ((xN B n q)))) := by rw [o261113]
                    have o261113c : ((xl3 B n q d)).2.2 = ((xN B n ((xN B n q)))) := by rw [o261113]
                    exact wp_return e196 c196_147 rfl ⟨rfl, w260138, f260824, rfl, (Or.inr ⟨by omega, RO_eq p261107 (by omega) (by omega)⟩)⟩
              · refine wp_of e196 c196_54 (rw_iload_n (pc' := 55) (z := v261079) rfl rfl ?_)
                refine wp_of e196 c196_55 (rw_if_ne (p1 := 114) (p2 := 58) (by decide) rfl ⟨by omega, by omega⟩ (fun c261114 => ?_) (fun c261114 => ?_))
                · refine wp_of e196 c196_114 (rw_iconst (pc' := 115) rfl ?_)
                  refine wp_of e196 c196_115 (rw_goto (p1 := 119) (by decide) ?_)
                  refine wp_of e196 c196_119 (rw_istore_n (pc' := 120) (z := 1) (L' := [(3, vI 1), (4, vI v261078), (2, vI z260835), (1, vI z260117), (0, .ref r0)]) rfl rfl rfl ?_)
                  refine wp_of e196 c196_120 (rw_iinc (pc' := 123) (z := v261078) (L' := [(4, vI (v261078 + 1)), (3, vI 1), (2, vI z260835), (1, vI z260117), (0, .ref r0)]) rfl rfl rfl rfl ?_)
                  refine wp_of e196 c196_123 (rw_goto (p1 := 42) (by decide) ?_)
                  exact wp_lc (ks := [4, 3, 2, 1, 0]) (wl_c rfl (wl_c rfl (wl_c rfl (wl_c rfl (wl_c rfl wl_n))))) rfl (by decide) (ih261077 _ (by omega) (v261078 + 1) 1 ⟨by omega, by omega⟩ ⟨by omega, by omega⟩ rfl)
                · exfalso
                  omega
          exact wp_lc (ks := [4, 3, 2, 1, 0]) (wl_c rfl (wl_c rfl (wl_c rfl (wl_c rfl (wl_c rfl wl_n))))) rfl (by decide) (lp261075 _ 0 1 ⟨by omega, by omega⟩ ⟨by omega, by omega⟩ rfl)
    · have f261115 := f260102.tr f260116 rfl
      show wp _ _ 196 16 [(0, .ref r0)] [vI z260117] _ H260111 _
      have u261116 := RO_k a260127
      refine wp_of e196 c196_16 (rw_istore_n (pc' := 17) (z := z260117) (L' := [(1, vI z260117), (0, .ref r0)]) rfl rfl rfl ?_)
      refine wp_of e196 c196_17 (rw_aload_n (pc' := 18) (v := .ref r0) rfl rfl rfl ?_)
      refine wp_of e196 c196_18 (rw_bipush (pc' := 20) (z := 44) rfl (by decide) ?_)
      have k261117 : H260111 r0 5 = H260091 r0 5 := (f260116 r0 5 _ g0 rfl)
      have q261118 : H260111 r0 5 = (rb : Int) := k261117.trans q260107
      refine wp_of e196 c196_20 (xc_V (pc' := 23) (r := r0) (as := [vI 44]) (st := []) (lm_9_279) rfl rfl (Nat.le_of_ble_eq_true rfl) w260115 g0 sh_42 (by decide) rfl (by decide) (u_197_o (fo := (xkn B n ((xN B n q)) d)) (po := (((xN B n q)))) w260115 g0 ⟨by omega, by omega⟩ q261118 grb a260127) (fun R261119 T261120 H261121 p261122 => ?_))
      obtain ⟨e261123, e261125, e261124, p261126⟩ := p261122
      subst e261123
      subst e261124
      subst e261125
      show wp _ _ 196 23 [(1, vI z260117), (0, .ref r0)] [] _ H260111 _
      have u261128 := RO_k p261126
      refine wp_of e196 c196_23 (rw_aload_n (pc' := 24) (v := .ref r0) rfl rfl rfl ?_)
      have k261129 : H260111 r0 4 = H260091 r0 4 := (f260116 r0 4 _ g0 rfl)
      have q261130 : H260111 r0 4 = (rp : Int) := k261129.trans q260105
      refine wp_of e196 c196_24 (xc_V (pc' := 27) (r := r0) (as := []) (st := []) (lm_9_176) rfl rfl (Nat.le_of_ble_eq_true rfl) w260115 g0 sh_42 (by decide) rfl (by decide) (u_195_o (fo := (xkn B n ((xN B n q)) d)) (po := (((xN B n q)))) w260115 g0 q261130 grp p261126) (fun R261131 T261132 H261133 p261134 => ?_))
      obtain ⟨e261135, e261137, z261138, e261136, b261139, p261140⟩ := p261134
      subst e261135
      subst e261136
      subst e261137
      obtain ⟨a261141, a261142⟩ := p261140
      show wp _ _ 196 27 [(1, vI z260117), (0, .ref r0)] [vI z261138] _ H260111 _
      have u261143 := RO_k a261142
      refine wp_of e196 c196_27 (rw_istore_n (pc' := 28) (z := z261138) (L' := [(2, vI z261138), (1, vI z260117), (0, .ref r0)]) rfl rfl rfl ?_)
      refine wp_of e196 c196_28 (rw_iload_n (pc' := 29) (z := z260117) rfl rfl ?_)
      refine wp_of e196 c196_29 (rw_iload_n (pc' := 30) (z := z261138) rfl rfl ?_)
      refine wp_of e196 c196_30 (rw_icmp_ne (p1 := 37) (p2 := 33) (by decide) rfl ⟨by omega, by omega⟩ ⟨by omega, by omega⟩ (fun c261144 => ?_) (fun c261144 => ?_))
      · exfalso
        omega
      · refine wp_of e196 c196_33 (rw_iconst (pc' := 34) rfl ?_)
        refine wp_of e196 c196_34 (rw_goto (p1 := 38) (by decide) ?_)
        refine wp_of e196 c196_38 (rw_istore_n (pc' := 39) (z := 1) (L' := [(3, vI 1), (2, vI z261138), (1, vI z260117), (0, .ref r0)]) rfl rfl rfl ?_)
        refine wp_of e196 c196_39 (rw_iconst (pc' := 40) rfl ?_)
        refine wp_of e196 c196_40 (rw_istore (pc' := 42) (z := 0) (L' := [(4, vI 0), (3, vI 1), (2, vI z261138), (1, vI z260117), (0, .ref r0)]) rfl rfl rfl ?_)
        have lp261173 : ∀ (n261174 : Nat) (v261176 : Int) (v261177 : Int), (0 ≤ v261176 ∧ v261176 ≤ 3) → (1 ≤ v261177 ∧ v261177 ≤ 1) → (3 - v261176).toNat = n261174 → wp kt 5 196 42 [(4, vI v261176), (3, vI v261177), (2, vI z261138), (1, vI z260117), (0, .ref r0)] [] T H260111 (uq_196_k r0 rp rb B n q d T H) := by
          intro n261174
          induction n261174 using Nat.strongRecOn with
          | _ n261174 ih261175 =>
            intro v261176 v261177 b261180 b261181 m261182
            refine wp_of e196 c196_42 (rw_iload (pc' := 44) (z := v261176) rfl rfl ?_)
            refine wp_of e196 c196_44 (rw_aload_n (pc' := 45) (v := .ref r0) rfl rfl rfl ?_)
            refine wp_of e196 c196_45 (xg_K (pc' := 48) lf_9_166 w260115 g0 sh_42 (by decide) (by decide) rfl q261130 rfl ?_)
            have k261183 : H260111 rp 4 = H rp 4 := ((f260116 rp 4 _ grp rfl).trans (f260096 rp 4 _ grp rfl))
            refine wp_of e196 c196_48 (xg_I (pc' := 51) lf_9_276 w260115 grp sh_54 (by decide) (by decide) ty_54_4 rfl rfl (fun b261184 b261185 => ?_))
            refine wp_of e196 c196_51 (rw_icmp_ge (p1 := 126) (p2 := 54) (by decide) rfl ⟨by omega, by omega⟩ ⟨by omega, by omega⟩ (fun c261186 => ?_) (fun c261186 => ?_))
            · refine wp_of e196 c196_126 (rw_iload_n (pc' := 127) (z := v261177) rfl rfl ?_)
              refine wp_of e196 c196_127 (rw_if_eq (p1 := 135) (p2 := 130) (by decide) rfl ⟨by omega, by omega⟩ (fun c261187 => ?_) (fun c261187 => ?_))
              · exfalso
                omega
              · refine wp_of e196 c196_130 (rw_aload_n (pc' := 131) (v := .ref r0) rfl rfl rfl ?_)
                refine wp_of e196 c196_131 (rw_iconst (pc' := 132) rfl ?_)
                refine wp_of e196 c196_132 (xc_V (pc' := 135) (r := r0) (as := [vI 3]) (st := []) (lm_9_121) rfl rfl (Nat.le_of_ble_eq_true rfl) w260115 g0 sh_42 (by decide) rfl (by decide) (u_181_o (fo := (xkn B n ((xN B n q)) d)) (po := (((xN B n q)))) w260115 g0 ⟨by omega, by omega⟩ a261142) (fun R261188 T261189 H261190 p261191 => ?_))
                obtain ⟨e261192, e261194, e261193, p261195⟩ := p261191
                subst e261192
                subst e261193
                subst e261194
                show wp _ _ 196 135 [(4, vI v261176), (3, vI v261177), (2, vI z261138), (1, vI z260117), (0, .ref r0)] [] _ H260111 _
                have u261197 := RO_k p261195
                refine wp_of e196 c196_135 (rw_aload_n (pc' := 136) (v := .ref r0) rfl rfl rfl ?_)
                refine wp_of e196 c196_136 (xc_V (pc' := 139) (r := r0) (as := []) (st := []) (lm_9_118) rfl rfl (Nat.le_of_ble_eq_true rfl) w260115 g0 sh_42 (by decide) rfl (by decide) (u_172_o (fo := (xkn B n ((xN B n q)) d)) (po := (((xN B n q)))) w260115 g0 p261195) (fun R261198 T261199 H261200 p261201 => ?_))
                obtain ⟨e261202, e261204, e261203, p261205⟩ := p261201
                subst e261202
                subst e261203
                subst e261204
                show wp _ _ 196 139 [(4, vI v261176), (3, vI v261177), (2, vI z261138), (1, vI z260117), (0, .ref r0)] [] _ H260111 _
                have u261207 := RO_k p261205
                refine wp_of e196 c196_139 (rw_aload_n (pc' := 140) (v := .ref r0) rfl rfl rfl ?_)
                refine wp_of e196 c196_140 (xg_I (pc' := 143) lf_9_75 w260115 g0 sh_42 (by decide) (by decide) ty_42_9 rfl rfl (fun b261208 b261209 => ?_))
                refine wp_of e196 c196_143 (rw_iconst (pc' := 144) rfl ?_)
                refine wp_of e196 c196_144 (rw_icmp_ne (p1 := 148) (p2 := 147) (by decide) rfl ⟨by omega, by omega⟩ ⟨by omega, by omega⟩ (fun c261210 => ?_) (fun c261210 => ?_))
                · exfalso
                  omega
                · have o261211 : (xl3 B n q d) = (xkn B n ((xN B n q)) d, ((xN B n q)), ((xN B n q))) := by
                    unfold xl3 xap
                    repeat first | rw [xs_0 (by omega)] | rw [xs_1 (by omega)] | rw [if_pos (by omega)] | rw [if_neg (by omega)]
                    first | done | rfl | assumption | (exfalso; omega) | (refine Prod.ext ?_ (Prod.ext ?_ ?_) <;> (try dsimp only) <;> omega)
                  have o261211a : ((xl3 B n q d)).1 = xkn B n ((xN B n q)) d := by rw [o261211]
                  have o261211b : ((xl3 B n q d)).2.1 = ((xN B n q)) := by rw [o261211]
                  have o261211c : ((xl3 B n q d)).2.2 = ((xN B n q)) := by rw [o261211]
                  exact wp_return e196 c196_147 rfl ⟨rfl, w260115, f261115, rfl, (Or.inr ⟨by omega, RO_eq p261205 (by omega) (by omega)⟩)⟩
            · refine wp_of e196 c196_54 (rw_iload_n (pc' := 55) (z := v261177) rfl rfl ?_)
              refine wp_of e196 c196_55 (rw_if_ne (p1 := 114) (p2 := 58) (by decide) rfl ⟨by omega, by omega⟩ (fun c261212 => ?_) (fun c261212 => ?_))
              · refine wp_of e196 c196_114 (rw_iconst (pc' := 115) rfl ?_)
                refine wp_of e196 c196_115 (rw_goto (p1 := 119) (by decide) ?_)
                refine wp_of e196 c196_119 (rw_istore_n (pc' := 120) (z := 1) (L' := [(3, vI 1), (4, vI v261176), (2, vI z261138), (1, vI z260117), (0, .ref r0)]) rfl rfl rfl ?_)
                refine wp_of e196 c196_120 (rw_iinc (pc' := 123) (z := v261176) (L' := [(4, vI (v261176 + 1)), (3, vI 1), (2, vI z261138), (1, vI z260117), (0, .ref r0)]) rfl rfl rfl rfl ?_)
                refine wp_of e196 c196_123 (rw_goto (p1 := 42) (by decide) ?_)
                exact wp_lc (ks := [4, 3, 2, 1, 0]) (wl_c rfl (wl_c rfl (wl_c rfl (wl_c rfl (wl_c rfl wl_n))))) rfl (by decide) (ih261175 _ (by omega) (v261176 + 1) 1 ⟨by omega, by omega⟩ ⟨by omega, by omega⟩ rfl)
              · exfalso
                omega
        exact wp_lc (ks := [4, 3, 2, 1, 0]) (wl_c rfl (wl_c rfl (wl_c rfl (wl_c rfl (wl_c rfl wl_n))))) rfl (by decide) (lp261173 _ 0 1 ⟨by omega, by omega⟩ ⟨by omega, by omega⟩ rfl)
  · have f261213 := f0.tr f260096 rfl
    show wp _ _ 196 12 [(0, .ref r0)] [] _ H260091 _
    have u261214 := RO_k a260101
    refine wp_of e196 c196_12 (rw_aload_n (pc' := 13) (v := .ref r0) rfl rfl rfl ?_)
    have k261215 : H260091 r0 4 = H r0 4 := (f260096 r0 4 _ g0 rfl)
    have q261216 : H260091 r0 4 = (rp : Int) := k261215.trans qrp
    have k261217 : H260091 r0 5 = H r0 5 := (f260096 r0 5 _ g0 rfl)
    have q261218 : H260091 r0 5 = (rb : Int) := k261217.trans qrb
    refine wp_of e196 c196_13 (xc_V (pc' := 16) (r := r0) (as := []) (st := []) (lm_9_273) rfl rfl (Nat.le_of_ble_eq_true rfl) w260095 g0 sh_42 (by decide) rfl (by decide) (u_194_o (fo := 5) (po := q) w260095 g0 q261216 grp q261218 grb a260101) (fun R261219 T261220 H261221 p261222 => ?_))
    obtain ⟨e261223, e261225, z261226, e261224, b261227, p261228⟩ := p261222
    subst e261223
    subst e261224
    subst e261225
    obtain ⟨a261229, a261230⟩ := p261228
    show wp _ _ 196 16 [(0, .ref r0)] [vI z261226] _ H260091 _
    have u261231 := RO_k a261230
    refine wp_of e196 c196_16 (rw_istore_n (pc' := 17) (z := z261226) (L' := [(1, vI z261226), (0, .ref r0)]) rfl rfl rfl ?_)
    refine wp_of e196 c196_17 (rw_aload_n (pc' := 18) (v := .ref r0) rfl rfl rfl ?_)
    refine wp_of e196 c196_18 (rw_bipush (pc' := 20) (z := 44) rfl (by decide) ?_)
    refine wp_of e196 c196_20 (xc_V (pc' := 23) (r := r0) (as := [vI 44]) (st := []) (lm_9_279) rfl rfl (Nat.le_of_ble_eq_true rfl) w260095 g0 sh_42 (by decide) rfl (by decide) (u_197_o (fo := 5) (po := q) w260095 g0 ⟨by omega, by omega⟩ q261218 grb a261230) (fun R261232 T261233 H261234 p261235 => ?_))
    obtain ⟨e261236, e261238, e261237, p261239⟩ := p261235
    subst e261236
    subst e261237
    subst e261238
    show wp _ _ 196 23 [(1, vI z261226), (0, .ref r0)] [] _ H260091 _
    have u261241 := RO_k p261239
    refine wp_of e196 c196_23 (rw_aload_n (pc' := 24) (v := .ref r0) rfl rfl rfl ?_)
    refine wp_of e196 c196_24 (xc_V (pc' := 27) (r := r0) (as := []) (st := []) (lm_9_176) rfl rfl (Nat.le_of_ble_eq_true rfl) w260095 g0 sh_42 (by decide) rfl (by decide) (u_195_o (fo := 5) (po := q) w260095 g0 q261216 grp p261239) (fun R261242 T261243 H261244 p261245 => ?_))
    obtain ⟨e261246, e261248, z261249, e261247, b261250, p261251⟩ := p261245
    subst e261246
    subst e261247
    subst e261248
    obtain ⟨a261252, a261253⟩ := p261251
    show wp _ _ 196 27 [(1, vI z261226), (0, .ref r0)] [vI z261249] _ H260091 _
    have u261254 := RO_k a261253
    refine wp_of e196 c196_27 (rw_istore_n (pc' := 28) (z := z261249) (L' := [(2, vI z261249), (1, vI z261226), (0, .ref r0)]) rfl rfl rfl ?_)
    refine wp_of e196 c196_28 (rw_iload_n (pc' := 29) (z := z261226) rfl rfl ?_)
    refine wp_of e196 c196_29 (rw_iload_n (pc' := 30) (z := z261249) rfl rfl ?_)
    refine wp_of e196 c196_30 (rw_icmp_ne (p1 := 37) (p2 := 33) (by decide) rfl ⟨by omega, by omega⟩ ⟨by omega, by omega⟩ (fun c261255 => ?_) (fun c261255 => ?_))
    · exfalso
      omega
    · refine wp_of e196 c196_33 (rw_iconst (pc' := 34) rfl ?_)
      refine wp_of e196 c196_34 (rw_goto (p1 := 38) (by decide) ?_)
      refine wp_of e196 c196_38 (rw_istore_n (pc' := 39) (z := 1) (L' := [(3, vI 1), (2, vI z261249), (1, vI z261226), (0, .ref r0)]) rfl rfl rfl ?_)
      refine wp_of e196 c196_39 (rw_iconst (pc' := 40) rfl ?_)
      refine wp_of e196 c196_40 (rw_istore (pc' := 42) (z := 0) (L' := [(4, vI 0), (3, vI 1), (2, vI z261249), (1, vI z261226), (0, .ref r0)]) rfl rfl rfl ?_)
      have lp261284 : ∀ (n261285 : Nat) (v261287 : Int) (v261288 : Int), (0 ≤ v261287 ∧ v261287 ≤ 3) → (1 ≤ v261288 ∧ v261288 ≤ 1) → (3 - v261287).toNat = n261285 → wp kt 5 196 42 [(4, vI v261287), (3, vI v261288), (2, vI z261249), (1, vI z261226), (0, .ref r0)] [] T H260091 (uq_196_k r0 rp rb B n q d T H) := by
        intro n261285
        induction n261285 using Nat.strongRecOn with
        | _ n261285 ih261286 =>
          intro v261287 v261288 b261291 b261292 m261293
          refine wp_of e196 c196_42 (rw_iload (pc' := 44) (z := v261287) rfl rfl ?_)
          refine wp_of e196 c196_44 (rw_aload_n (pc' := 45) (v := .ref r0) rfl rfl rfl ?_)
          refine wp_of e196 c196_45 (xg_K (pc' := 48) lf_9_166 w260095 g0 sh_42 (by decide) (by decide) rfl q261216 rfl ?_)
          have k261294 : H260091 rp 4 = H rp 4 := (f260096 rp 4 _ grp rfl)
          refine wp_of e196 c196_48 (xg_I (pc' := 51) lf_9_276 w260095 grp sh_54 (by decide) (by decide) ty_54_4 rfl rfl (fun b261295 b261296 => ?_))
          refine wp_of e196 c196_51 (rw_icmp_ge (p1 := 126) (p2 := 54) (by decide) rfl ⟨by omega, by omega⟩ ⟨by omega, by omega⟩ (fun c261297 => ?_) (fun c261297 => ?_))
          · refine wp_of e196 c196_126 (rw_iload_n (pc' := 127) (z := v261288) rfl rfl ?_)
            refine wp_of e196 c196_127 (rw_if_eq (p1 := 135) (p2 := 130) (by decide) rfl ⟨by omega, by omega⟩ (fun c261298 => ?_) (fun c261298 => ?_))
            · exfalso
              omega
            · refine wp_of e196 c196_130 (rw_aload_n (pc' := 131) (v := .ref r0) rfl rfl rfl ?_)
              refine wp_of e196 c196_131 (rw_iconst (pc' := 132) rfl ?_)
              refine wp_of e196 c196_132 (xc_V (pc' := 135) (r := r0) (as := [vI 3]) (st := []) (lm_9_121) rfl rfl (Nat.le_of_ble_eq_true rfl) w260095 g0 sh_42 (by decide) rfl (by decide) (u_181_o (fo := 5) (po := q) w260095 g0 ⟨by omega, by omega⟩ a261253) (fun R261299 T261300 H261301 p261302 => ?_))
              obtain ⟨e261303, e261305, e261304, p261306⟩ := p261302
              subst e261303
              subst e261304
              subst e261305
              show wp _ _ 196 135 [(4, vI v261287), (3, vI v261288), (2, vI z261249), (1, vI z261226), (0, .ref r0)] [] _ H260091 _
              have u261308 := RO_k p261306
              refine wp_of e196 c196_135 (rw_aload_n (pc' := 136) (v := .ref r0) rfl rfl rfl ?_)
              refine wp_of e196 c196_136 (xc_V (pc' := 139) (r := r0) (as := []) (st := []) (lm_9_118) rfl rfl (Nat.le_of_ble_eq_true rfl) w260095 g0 sh_42 (by decide) rfl (by decide) (u_172_o (fo := 5) (po := q) w260095 g0 p261306) (fun R261309 T261310 H261311 p261312 => ?_))
              obtain ⟨e261313, e261315, e261314, p261316⟩ := p261312
              subst e261313
              subst e261314
              subst e261315
              show wp _ _ 196 139 [(4, vI v261287), (3, vI v261288), (2, vI z261249), (1, vI z261226), (0, .ref r0)] [] _ H260091 _
              have u261318 := RO_k p261316
              refine wp_of e196 c196_139 (rw_aload_n (pc' := 140) (v := .ref r0) rfl rfl rfl ?_)
              refine wp_of e196 c196_140 (xg_I (pc' := 143) lf_9_75 w260095 g0 sh_42 (by decide) (by decide) ty_42_9 rfl rfl (fun b261319 b261320 => ?_))
              refine wp_of e196 c196_143 (rw_iconst (pc' := 144) rfl ?_)
              refine wp_of e196 c196_144 (rw_icmp_ne (p1 := 148) (p2 := 147) (by decide) rfl ⟨by omega, by omega⟩ ⟨by omega, by omega⟩ (fun c261321 => ?_) (fun c261321 => ?_))
              · exfalso
                omega
              · have o261322 : (xl3 B n q d) = (5, q, q) := by
                  unfold xl3 xap
                  repeat first | rw [xs_0 (by omega)] | rw [xs_1 (by omega)] | rw [if_pos (by omega)] | rw [if_neg (by omega)]
                  first | done | rfl | assumption | (exfalso; omega) | (refine Prod.ext ?_ (Prod.ext ?_ ?_) <;> (try dsimp only) <;> omega)
                have o261322a : ((xl3 B n q d)).1 = 5 := by rw [o261322]
                have o261322b : ((xl3 B n q d)).2.1 = q := by rw [o261322]
                have o261322c : ((xl3 B n q d)).2.2 = q := by rw [o261322]
                exact wp_return e196 c196_147 rfl ⟨rfl, w260095, f261213, rfl, (Or.inr ⟨by omega, RO_eq p261316 (by omega) (by omega)⟩)⟩
          · refine wp_of e196 c196_54 (rw_iload_n (pc' := 55) (z := v261288) rfl rfl ?_)
            refine wp_of e196 c196_55 (rw_if_ne (p1 := 114) (p2 := 58) (by decide) rfl ⟨by omega, by omega⟩ (fun c261323 => ?_) (fun c261323 => ?_))
            · refine wp_of e196 c196_114 (rw_iconst (pc' := 115) rfl ?_)
              refine wp_of e196 c196_115 (rw_goto (p1 := 119) (by decide) ?_)
              refine wp_of e196 c196_119 (rw_istore_n (pc' := 120) (z := 1) (L' := [(3, vI 1), (4, vI v261287), (2, vI z261249), (1, vI z261226), (0, .ref r0)]) rfl rfl rfl ?_)
              refine wp_of e196 c196_120 (rw_iinc (pc' := 123) (z := v261287) (L' := [(4, vI (v261287 + 1)), (3, vI 1), (2, vI z261249), (1, vI z261226), (0, .ref r0)]) rfl rfl rfl rfl ?_)
              refine wp_of e196 c196_123 (rw_goto (p1 := 42) (by decide) ?_)
              exact wp_lc (ks := [4, 3, 2, 1, 0]) (wl_c rfl (wl_c rfl (wl_c rfl (wl_c rfl (wl_c rfl wl_n))))) rfl (by decide) (ih261286 _ (by omega) (v261287 + 1) 1 ⟨by omega, by omega⟩ ⟨by omega, by omega⟩ rfl)
            · exfalso
              omega
      exact wp_lc (ks := [4, 3, 2, 1, 0]) (wl_c rfl (wl_c rfl (wl_c rfl (wl_c rfl (wl_c rfl wl_n))))) rfl (by decide) (lp261284 _ 0 1 ⟨by omega, by omega⟩ ⟨by omega, by omega⟩ rfl)
/-! StrikeAwakeModel.readApart()V o -/
abbrev uq_196_o (r0 : Nat) (rp : Nat) (rb : Nat) (fo : Int) (po : Int) (T : wq_T) (H : wq_H) : Option Value → wq_T → wq_H → Prop := fun r T' H' => T = T' ∧ H = H' ∧ none = r ∧ ((RO T H r0 fo po))
set_option maxHeartbeats 4000000 in
theorem u_196_o {kt : Nat → Option mc_E} {T : wq_T} {H : wq_H} {r0 : Nat} {rp : Nat} {rb : Nat} {fo : Int} {po : Int} (hW : WT T H) (g0 : T.2.2.2 r0 = some 42) (qrp : H r0 4 = (rp : Int)) (grp : T.2.2.2 rp = some 54) (qrb : H r0 5 = (rb : Int)) (grb : T.2.2.2 rb = some 43) (hRO_r0 : RO T H r0 fo po) : wpc kt 6 196 [.ref r0] T H (uq_196_o r0 rp rb fo po T H) := by
  refine wp_enter e196 (Nat.le_of_ble_eq_true rfl) rfl ?_
  show wp _ _ 196 0 [(0, .ref r0)] [] _ H _
  have u261424 := RO_k hRO_r0
  refine wp_of e196 c196_0 (rw_aload_n (pc' := 1) (v := .ref r0) rfl rfl rfl ?_)
  refine wp_of e196 c196_1 (rw_aload_n (pc' := 2) (v := .ref r0) rfl rfl rfl ?_)
  refine wp_of e196 c196_2 (xg_K (pc' := 5) lf_9_166 hW g0 sh_42 (by decide) (by decide) rfl qrp rfl ?_)
  refine wp_of e196 c196_5 (xg_I (pc' := 8) lf_9_276 hW grp sh_54 (by decide) (by decide) ty_54_4 rfl rfl (fun b261425 b261426 => ?_))
  refine wp_of e196 c196_8 (rw_iconst (pc' := 9) rfl ?_)
  refine wp_of e196 c196_9 (xc_V (pc' := 12) (r := r0) (as := [vI (H rp 4), vI 3]) (st := []) (lm_9_228) rfl rfl (Nat.le_of_ble_eq_true rfl) hW g0 sh_42 (by decide) rfl (by decide) (u_188_o (fo := fo) (po := po) hW g0 ⟨by omega, by omega⟩ ⟨by omega, by omega⟩ qrb grb hRO_r0) (fun R261427 T261428 H261429 p261430 => ?_))
  obtain ⟨e261431, e261433, e261432, p261434⟩ := p261430
  subst e261431
  subst e261432
  subst e261433
  show wp _ _ 196 12 [(0, .ref r0)] [] _ H _
  have u261436 := RO_k p261434
  refine wp_of e196 c196_12 (rw_aload_n (pc' := 13) (v := .ref r0) rfl rfl rfl ?_)
  refine wp_of e196 c196_13 (xc_V (pc' := 16) (r := r0) (as := []) (st := []) (lm_9_273) rfl rfl (Nat.le_of_ble_eq_true rfl) hW g0 sh_42 (by decide) rfl (by decide) (u_194_o (fo := fo) (po := po) hW g0 qrp grp qrb grb p261434) (fun R261437 T261438 H261439 p261440 => ?_))
  obtain ⟨e261441, e261443, z261444, e261442, b261445, p261446⟩ := p261440
  subst e261441
  subst e261442
  subst e261443
  obtain ⟨a261447, a261448⟩ := p261446
  show wp _ _ 196 16 [(0, .ref r0)] [vI z261444] _ H _
  have u261449 := RO_k a261448
  refine wp_of e196 c196_16 (rw_istore_n (pc' := 17) (z := z261444) (L' := [(1, vI z261444), (0, .ref r0)]) rfl rfl rfl ?_)
  refine wp_of e196 c196_17 (rw_aload_n (pc' := 18) (v := .ref r0) rfl rfl rfl ?_)
  refine wp_of e196 c196_18 (rw_bipush (pc' := 20) (z := 44) rfl (by decide) ?_)
  refine wp_of e196 c196_20 (xc_V (pc' := 23) (r := r0) (as := [vI 44]) (st := []) (lm_9_279) rfl rfl (Nat.le_of_ble_eq_true rfl) hW g0 sh_42 (by decide) rfl (by decide) (u_197_o (fo := fo) (po := po) hW g0 ⟨by omega, by omega⟩ qrb grb a261448) (fun R261450 T261451 H261452 p261453 => ?_))
  obtain ⟨e261454, e261456, e261455, p261457⟩ := p261453
  subst e261454
  subst e261455
  subst e261456
  show wp _ _ 196 23 [(1, vI z261444), (0, .ref r0)] [] _ H _
  have u261459 := RO_k p261457
  refine wp_of e196 c196_23 (rw_aload_n (pc' := 24) (v := .ref r0) rfl rfl rfl ?_)
  refine wp_of e196 c196_24 (xc_V (pc' := 27) (r := r0) (as := []) (st := []) (lm_9_176) rfl rfl (Nat.le_of_ble_eq_true rfl) hW g0 sh_42 (by decide) rfl (by decide) (u_195_o (fo := fo) (po := po) hW g0 qrp grp p261457) (fun R261460 T261461 H261462 p261463 => ?_))
  obtain ⟨e261464, e261466, z261467, e261465, b261468, p261469⟩ := p261463
  subst e261464
  subst e261465
  subst e261466
  obtain ⟨a261470, a261471⟩ := p261469
  show wp _ _ 196 27 [(1, vI z261444), (0, .ref r0)] [vI z261467] _ H _
  have u261472 := RO_k a261471
  refine wp_of e196 c196_27 (rw_istore_n (pc' := 28) (z := z261467) (L' := [(2, vI z261467), (1, vI z261444), (0, .ref r0)]) rfl rfl rfl ?_)
  refine wp_of e196 c196_28 (rw_iload_n (pc' := 29) (z := z261444) rfl rfl ?_)
  refine wp_of e196 c196_29 (rw_iload_n (pc' := 30) (z := z261467) rfl rfl ?_)
  refine wp_of e196 c196_30 (rw_icmp_ne (p1 := 37) (p2 := 33) (by decide) rfl ⟨by omega, by omega⟩ ⟨by omega, by omega⟩ (fun c261473 => ?_) (fun c261473 => ?_))
  · exfalso
    omega
  · refine wp_of e196 c196_33 (rw_iconst (pc' := 34) rfl ?_)
    refine wp_of e196 c196_34 (rw_goto (p1 := 38) (by decide) ?_)
    refine wp_of e196 c196_38 (rw_istore_n (pc' := 39) (z := 1) (L' := [(3, vI 1), (2, vI z261467), (1, vI z261444), (0, .ref r0)]) rfl rfl rfl ?_)
    refine wp_of e196 c196_39 (rw_iconst (pc' := 40) rfl ?_)
    refine wp_of e196 c196_40 (rw_istore (pc' := 42) (z := 0) (L' := [(4, vI 0), (3, vI 1), (2, vI z261467), (1, vI z261444), (0, .ref r0)]) rfl rfl rfl ?_)
    have lp261502 : ∀ (n261503 : Nat) (v261505 : Int) (v261506 : Int), (0 ≤ v261505 ∧ v261505 ≤ 3) → (1 ≤ v261506 ∧ v261506 ≤ 1) → (3 - v261505).toNat = n261503 → wp kt 5 196 42 [(4, vI v261505), (3, vI v261506), (2, vI z261467), (1, vI z261444), (0, .ref r0)] [] T H (uq_196_o r0 rp rb fo po T H) := by
      intro n261503
      induction n261503 using Nat.strongRecOn with
      | _ n261503 ih261504 =>
        intro v261505 v261506 b261509 b261510 m261511
        refine wp_of e196 c196_42 (rw_iload (pc' := 44) (z := v261505) rfl rfl ?_)
        refine wp_of e196 c196_44 (rw_aload_n (pc' := 45) (v := .ref r0) rfl rfl rfl ?_)
        refine wp_of e196 c196_45 (xg_K (pc' := 48) lf_9_166 hW g0 sh_42 (by decide) (by decide) rfl qrp rfl ?_)
        refine wp_of e196 c196_48 (xg_I (pc' := 51) lf_9_276 hW grp sh_54 (by decide) (by decide) ty_54_4 rfl rfl (fun b261512 b261513 => ?_))
        refine wp_of e196 c196_51 (rw_icmp_ge (p1 := 126) (p2 := 54) (by decide) rfl ⟨by omega, by omega⟩ ⟨by omega, by omega⟩ (fun c261514 => ?_) (fun c261514 => ?_))
        · refine wp_of e196 c196_126 (rw_iload_n (pc' := 127) (z := v261506) rfl rfl ?_)
          refine wp_of e196 c196_127 (rw_if_eq (p1 := 135) (p2 := 130) (by decide) rfl ⟨by omega, by omega⟩ (fun c261515 => ?_) (fun c261515 => ?_))
          · exfalso
            omega
          · refine wp_of e196 c196_130 (rw_aload_n (pc' := 131) (v := .ref r0) rfl rfl rfl ?_)
            refine wp_of e196 c196_131 (rw_iconst (pc' := 132) rfl ?_)
            refine wp_of e196 c196_132 (xc_V (pc' := 135) (r := r0) (as := [vI 3]) (st := []) (lm_9_121) rfl rfl (Nat.le_of_ble_eq_true rfl) hW g0 sh_42 (by decide) rfl (by decide) (u_181_o (fo := fo) (po := po) hW g0 ⟨by omega, by omega⟩ a261471) (fun R261516 T261517 H261518 p261519 => ?_))
            obtain ⟨e261520, e261522, e261521, p261523⟩ := p261519
            subst e261520
            subst e261521
            subst e261522
            show wp _ _ 196 135 [(4, vI v261505), (3, vI v261506), (2, vI z261467), (1, vI z261444), (0, .ref r0)] [] _ H _
            have u261525 := RO_k p261523
            refine wp_of e196 c196_135 (rw_aload_n (pc' := 136) (v := .ref r0) rfl rfl rfl ?_)
            refine wp_of e196 c196_136 (xc_V (pc' := 139) (r := r0) (as := []) (st := []) (lm_9_118) rfl rfl (Nat.le_of_ble_eq_true rfl) hW g0 sh_42 (by decide) rfl (by decide) (u_172_o (fo := fo) (po := po) hW g0 p261523) (fun R261526 T261527 H261528 p261529 => ?_))
            obtain ⟨e261530, e261532, e261531, p261533⟩ := p261529
            subst e261530
            subst e261531
            subst e261532
            show wp _ _ 196 139 [(4, vI v261505), (3, vI v261506), (2, vI z261467), (1, vI z261444), (0, .ref r0)] [] _ H _
            have u261535 := RO_k p261533
            refine wp_of e196 c196_139 (rw_aload_n (pc' := 140) (v := .ref r0) rfl rfl rfl ?_)
            refine wp_of e196 c196_140 (xg_I (pc' := 143) lf_9_75 hW g0 sh_42 (by decide) (by decide) ty_42_9 rfl rfl (fun b261536 b261537 => ?_))
            refine wp_of e196 c196_143 (rw_iconst (pc' := 144) rfl ?_)
            refine wp_of e196 c196_144 (rw_icmp_ne (p1 := 148) (p2 := 147) (by decide) rfl ⟨by omega, by omega⟩ ⟨by omega, by omega⟩ (fun c261538 => ?_) (fun c261538 => ?_))
            · exfalso
              omega
            · exact wp_return e196 c196_147 rfl ⟨rfl, rfl, rfl, (p261533)⟩
        · refine wp_of e196 c196_54 (rw_iload_n (pc' := 55) (z := v261506) rfl rfl ?_)
          refine wp_of e196 c196_55 (rw_if_ne (p1 := 114) (p2 := 58) (by decide) rfl ⟨by omega, by omega⟩ (fun c261539 => ?_) (fun c261539 => ?_))
          · refine wp_of e196 c196_114 (rw_iconst (pc' := 115) rfl ?_)
            refine wp_of e196 c196_115 (rw_goto (p1 := 119) (by decide) ?_)
            refine wp_of e196 c196_119 (rw_istore_n (pc' := 120) (z := 1) (L' := [(3, vI 1), (4, vI v261505), (2, vI z261467), (1, vI z261444), (0, .ref r0)]) rfl rfl rfl ?_)
            refine wp_of e196 c196_120 (rw_iinc (pc' := 123) (z := v261505) (L' := [(4, vI (v261505 + 1)), (3, vI 1), (2, vI z261467), (1, vI z261444), (0, .ref r0)]) rfl rfl rfl rfl ?_)
            refine wp_of e196 c196_123 (rw_goto (p1 := 42) (by decide) ?_)
            exact wp_lc (ks := [4, 3, 2, 1, 0]) (wl_c rfl (wl_c rfl (wl_c rfl (wl_c rfl (wl_c rfl wl_n))))) rfl (by decide) (ih261504 _ (by omega) (v261505 + 1) 1 ⟨by omega, by omega⟩ ⟨by omega, by omega⟩ rfl)
          · exfalso
            omega
    exact wp_lc (ks := [4, 3, 2, 1, 0]) (wl_c rfl (wl_c rfl (wl_c rfl (wl_c rfl (wl_c rfl wl_n))))) rfl (by decide) (lp261502 _ 0 1 ⟨by omega, by omega⟩ ⟨by omega, by omega⟩ rfl)
