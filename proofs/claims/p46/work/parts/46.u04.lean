/-! what methods do (own work, written by wip/gen3/sx3.py) -/
/-! StrikeAwakeModel.readApart()V k -/
abbrev uq_196_k (r0 : Nat) (rp : Nat) (rb : Nat) (B : Nat → Int) (n : Int) (q : Int) (d : xD) (T : wq_T) (H : wq_H) : Option Value → wq_T → wq_H → Prop := fun r T' H' => T = T' ∧ WT T H' ∧ wfr [(54, 4), (42, 8), (42, 9), (42, 10), (42, 11), (42, 12), (42, 13), (42, 14), (42, 15), (64, 999), (65, 999)] T H H' ∧ none = r ∧ ((((xl3 B n q d).1 = 0) ∧ ((xl3 B n q d).2.2 = (xN B n (xN B n (xN B n (xN B n q))))) ∧ (q ≤ (xN B n (xN B n (xN B n (xN B n q))))) ∧ RC T H' r0 B n (xN B n (xN B n (xN B n (xN B n q)))) ∧ DM T H' rp r0 (xdap B n (xN B n q) d)) ∨ (((xl3 B n q d).1 ≠ 0) ∧ RO T H' r0 ((xl3 B n q d).1) ((xl3 B n q d).2.1)))
set_option maxHeartbeats 4000000 in
theorem u_196_k {kt : Nat → Option mc_E} {T : wq_T} {H : wq_H} {r0 : Nat} {rp : Nat} {rb : Nat} {B : Nat → Int} {n : Int} {q : Int} {d : xD} (hW : WT T H) (g0 : T.2.2.2 r0 = some 42) (qrp : H r0 4 = (rp : Int)) (grp : T.2.2.2 rp = some 54) (qrb : H r0 5 = (rb : Int)) (grb : T.2.2.2 rb = some 43) (p0 : xK B n q = 1) (hRC_r0 : RC T H r0 B n q) (hDM_rp : DM T H rp r0 d) : wpc kt 6 196 [.ref r0] T H (uq_196_k r0 rp rb B n q d T H) := by
  refine wp_enter e196 (Nat.le_of_ble_eq_true rfl) rfl ?_
  have f0 : wfr [(54, 4), (42, 8), (42, 9), (42, 10), (42, 11), (42, 12), (42, 13), (42, 14), (42, 15), (64, 999), (65, 999)] T H H := wfr.rf
  show wp _ _ 196 0 [(0, .ref r0)] [] _ H _
  have u2091 := RC_k hRC_r0
  have u2092 := DM_k hDM_rp
  have h2093 : MA9 T H rp (d 1) := hDM_rp.2.2.2.1
  have h2094 : MA10 T H rp (d 2) := hDM_rp.2.2.2.2.1
  have h2095 : MA11 T H rp (d 3) := hDM_rp.2.2.2.2.2.1
  have h2096 : MA12 T H rp (d 4) := hDM_rp.2.2.2.2.2.2.1
  have h2097 : MA13 T H rp (d 5) := hDM_rp.2.2.2.2.2.2.2.1
  have h2098 : MA14 T H rp (d 6) := hDM_rp.2.2.2.2.2.2.2.2.1
  have h2099 : MA15 T H rp (d 7) := hDM_rp.2.2.2.2.2.2.2.2.2.1
  have h2100 : MA16 T H rp (d 8) := hDM_rp.2.2.2.2.2.2.2.2.2.2.1
  have h2101 : MA17 T H rp (d 9) := hDM_rp.2.2.2.2.2.2.2.2.2.2.2.1
  have h2102 : MA18 T H rp (d 10) := hDM_rp.2.2.2.2.2.2.2.2.2.2.2.2.1
  have h2103 : MA19 T H rp (d 11) := hDM_rp.2.2.2.2.2.2.2.2.2.2.2.2.2.1
  have h2104 : MA20 T H rp (d 12) := hDM_rp.2.2.2.2.2.2.2.2.2.2.2.2.2.2.1
  have h2105 : MA21 T H rp (d 13) := hDM_rp.2.2.2.2.2.2.2.2.2.2.2.2.2.2.2.1
  have h2106 : MA22 T H rp (d 14) := hDM_rp.2.2.2.2.2.2.2.2.2.2.2.2.2.2.2.2.1
  have h2107 : MA23 T H rp (d 15) := hDM_rp.2.2.2.2.2.2.2.2.2.2.2.2.2.2.2.2.2.1
  have h2108 : MA25 T H rp (d 17) := hDM_rp.2.2.2.2.2.2.2.2.2.2.2.2.2.2.2.2.2.2.1
  have h2109 : MA26 T H rp (d 16) := hDM_rp.2.2.2.2.2.2.2.2.2.2.2.2.2.2.2.2.2.2.2
  refine wp_of e196 c196_0 (rw_aload_n (pc' := 1) (v := .ref r0) rfl rfl rfl ?_)
  refine wp_of e196 c196_1 (rw_aload_n (pc' := 2) (v := .ref r0) rfl rfl rfl ?_)
  refine wp_of e196 c196_2 (xg_K (pc' := 5) lf_9_166 hW g0 sh_42 (by decide) (by decide) rfl qrp rfl ?_)
  refine wp_of e196 c196_5 (xg_I (pc' := 8) lf_9_276 hW grp sh_54 (by decide) (by decide) ty_54_4 rfl rfl (fun b2110 b2111 => ?_))
  refine wp_of e196 c196_8 (rw_iconst (pc' := 9) rfl ?_)
  refine wp_of e196 c196_9 (xc_V (pc' := 12) (r := r0) (as := [vI (H rp 4), vI 3]) (st := []) (lm_9_228) rfl rfl (Nat.le_of_ble_eq_true rfl) hW g0 sh_42 (by decide) rfl (by decide) (u_188_k (B := B) (n := n) (q := q) hW g0 ⟨by omega, by omega⟩ ⟨by omega, by omega⟩ qrb grb (by omega) hRC_r0) (fun R2112 T2113 H2114 p2115 => ?_))
  obtain ⟨e2116, w2118, f2119, e2117, p2120⟩ := p2115
  subst e2116
  subst e2117
  rcases p2120 with ⟨a2121, a2122⟩ | ⟨a2123, a2124⟩
  · have f2125 := f0.tr f2119 rfl
    show wp _ _ 196 12 [(0, .ref r0)] [] _ H2114 _
    have u2126 := RC_k a2122
    refine wp_of e196 c196_12 (rw_aload_n (pc' := 13) (v := .ref r0) rfl rfl rfl ?_)
    have k2127 : H2114 r0 4 = H r0 4 := (f2119 r0 4 _ g0 rfl)
    have q2128 : H2114 r0 4 = (rp : Int) := k2127.trans qrp
    have k2129 : H2114 r0 5 = H r0 5 := (f2119 r0 5 _ g0 rfl)
    have q2130 : H2114 r0 5 = (rb : Int) := k2129.trans qrb
    have h2131 : DM T H2114 rp r0 d := (DM_fr hW grp f2119 rfl hDM_rp)
    refine wp_of e196 c196_13 (xc_V (pc' := 16) (r := r0) (as := []) (st := []) (lm_9_273) rfl rfl (Nat.le_of_ble_eq_true rfl) w2118 g0 sh_42 (by decide) rfl (by decide) (u_194_k (B := B) (n := n) (q := ((xN B n q))) (d := d) w2118 g0 q2128 grp q2130 grb a2122 h2131) (fun R2132 T2133 H2134 p2135 => ?_))
    obtain ⟨e2136, w2138, f2139, z2140, e2137, b2141, p2142⟩ := p2135
    subst e2136
    subst e2137
    rcases p2142 with ⟨a2143, a2144, a2145, a2146, a2147⟩ | ⟨a2148, a2149, a2150⟩
    · have f2151 := f2125.tr f2139 rfl
      show wp _ _ 196 16 [(0, .ref r0)] [vI z2140] _ H2134 _
      have u2152 := RC_k a2147
      refine wp_of e196 c196_16 (rw_istore_n (pc' := 17) (z := z2140) (L' := [(1, vI z2140), (0, .ref r0)]) rfl rfl rfl ?_)
      refine wp_of e196 c196_17 (rw_aload_n (pc' := 18) (v := .ref r0) rfl rfl rfl ?_)
      refine wp_of e196 c196_18 (rw_bipush (pc' := 20) (z := 44) rfl (by decide) ?_)
      have k2153 : H2134 r0 5 = H2114 r0 5 := (f2139 r0 5 _ g0 rfl)
      have q2154 : H2134 r0 5 = (rb : Int) := k2153.trans q2130
      refine wp_of e196 c196_20 (xc_V (pc' := 23) (r := r0) (as := [vI 44]) (st := []) (lm_9_279) rfl rfl (Nat.le_of_ble_eq_true rfl) w2138 g0 sh_42 (by decide) rfl (by decide) (u_197_k (B := B) (n := n) (q := ((xN B n ((xN B n q))))) (kd := 4) w2138 g0 ⟨by omega, by omega⟩ q2154 grb (by omega) a2147) (fun R2155 T2156 H2157 p2158 => ?_))
      obtain ⟨e2159, w2161, f2162, e2160, p2163⟩ := p2158
      subst e2159
      subst e2160
      rcases p2163 with ⟨a2164, a2165⟩ | ⟨a2166, a2167⟩
      · have f2168 := f2151.tr f2162 rfl
        show wp _ _ 196 23 [(1, vI z2140), (0, .ref r0)] [] _ H2157 _
        have u2169 := RC_k a2165
        refine wp_of e196 c196_23 (rw_aload_n (pc' := 24) (v := .ref r0) rfl rfl rfl ?_)
        have k2170 : H2157 r0 4 = H2114 r0 4 := ((f2162 r0 4 _ g0 rfl).trans (f2139 r0 4 _ g0 rfl))
        have q2171 : H2157 r0 4 = (rp : Int) := k2170.trans q2128
        have h2172 : DM T H2157 rp r0 d := (DM_fr w2138 grp f2162 rfl (DM_fr w2118 grp f2139 rfl h2131))
        refine wp_of e196 c196_24 (xc_V (pc' := 27) (r := r0) (as := []) (st := []) (lm_9_176) rfl rfl (Nat.le_of_ble_eq_true rfl) w2161 g0 sh_42 (by decide) rfl (by decide) (u_195_k (B := B) (n := n) (q := ((xN B n ((xN B n ((xN B n q))))))) (d := d) w2161 g0 q2171 grp a2165 h2172) (fun R2173 T2174 H2175 p2176 => ?_))
        obtain ⟨e2177, w2179, f2180, z2181, e2178, b2182, p2183⟩ := p2176
        subst e2177
        subst e2178
        rcases p2183 with ⟨a2184, a2185, a2186, a2187, a2188, a2189⟩ | ⟨a2190, a2191, a2192⟩
        · have f2193 := f2168.tr f2180 rfl
          show wp _ _ 196 27 [(1, vI z2140), (0, .ref r0)] [vI z2181] _ H2175 _
          have u2194 := RC_k a2189
          refine wp_of e196 c196_27 (rw_istore_n (pc' := 28) (z := z2181) (L' := [(2, vI z2181), (1, vI z2140), (0, .ref r0)]) rfl rfl rfl ?_)
          refine wp_of e196 c196_28 (rw_iload_n (pc' := 29) (z := z2140) rfl rfl ?_)
          refine wp_of e196 c196_29 (rw_iload_n (pc' := 30) (z := z2181) rfl rfl ?_)
          refine wp_of e196 c196_30 (rw_icmp_ne (p1 := 37) (p2 := 33) (by decide) rfl ⟨by omega, by omega⟩ ⟨by omega, by omega⟩ (fun c2195 => ?_) (fun c2195 => ?_))
          · refine wp_of e196 c196_37 (rw_iconst (pc' := 38) rfl ?_)
            refine wp_of e196 c196_38 (rw_istore_n (pc' := 39) (z := 0) (L' := [(3, vI 0), (2, vI z2181), (1, vI z2140), (0, .ref r0)]) rfl rfl rfl ?_)
            refine wp_of e196 c196_39 (rw_iconst (pc' := 40) rfl ?_)
            refine wp_of e196 c196_40 (rw_istore (pc' := 42) (z := 0) (L' := [(4, vI 0), (3, vI 0), (2, vI z2181), (1, vI z2140), (0, .ref r0)]) rfl rfl rfl ?_)
            have k2337 : H2175 rp 4 = H rp 4 := ((f2180 rp 4 _ grp rfl).trans ((f2162 rp 4 _ grp rfl).trans ((f2139 rp 4 _ grp rfl).trans (f2119 rp 4 _ grp rfl))))
            have lp2332 : ∀ (n2333 : Nat) (v2335 : Int) (v2336 : Int), (0 ≤ v2335 ∧ v2335 ≤ 3) → (0 ≤ v2336 ∧ v2336 ≤ 1) → (v2336 = xgg d z2140 z2181 v2335) → (v2335 ≤ d 0 4) → (3 - v2335).toNat = n2333 → wp kt 5 196 42 [(4, vI v2335), (3, vI v2336), (2, vI z2181), (1, vI z2140), (0, .ref r0)] [] T H2175 (uq_196_k r0 rp rb B n q d T H) := by
              intro n2333
              induction n2333 using Nat.strongRecOn with
              | _ n2333 ih2334 =>
                intro v2335 v2336 b2340 b2341 x2342 x2343 m2344
                refine wp_of e196 c196_42 (rw_iload (pc' := 44) (z := v2335) rfl rfl ?_)
                refine wp_of e196 c196_44 (rw_aload_n (pc' := 45) (v := .ref r0) rfl rfl rfl ?_)
                have k2345 : H2175 r0 4 = H2157 r0 4 := (f2180 r0 4 _ g0 rfl)
                have q2346 : H2175 r0 4 = (rp : Int) := k2345.trans q2171
                refine wp_of e196 c196_45 (xg_K (pc' := 48) lf_9_166 w2179 g0 sh_42 (by decide) (by decide) rfl q2346 rfl ?_)
                refine wp_of e196 c196_48 (xg_I (pc' := 51) lf_9_276 w2179 grp sh_54 (by decide) (by decide) ty_54_4 rfl rfl (fun b2347 b2348 => ?_))
                refine wp_of e196 c196_51 (rw_icmp_ge (p1 := 126) (p2 := 54) (by decide) rfl ⟨by omega, by omega⟩ ⟨by omega, by omega⟩ (fun c2349 => ?_) (fun c2349 => ?_))
                · have _g := @xac_g d z2140 z2181 v2335 (by omega)
                  have _c : xac d (xwho B n (xN B n q) d) (xwho B n (xN B n (xN B n (xN B n q))) d) = xac d z2140 z2181 := by rw [show xwho B n (xN B n q) d = z2140 by omega, show xwho B n (xN B n (xN B n (xN B n q))) d = z2181 by omega]
                  refine wp_of e196 c196_126 (rw_iload_n (pc' := 127) (z := v2336) rfl rfl ?_)
                  refine wp_of e196 c196_127 (rw_if_eq (p1 := 135) (p2 := 130) (by decide) rfl ⟨by omega, by omega⟩ (fun c2350 => ?_) (fun c2350 => ?_))
                  · refine wp_of e196 c196_135 (rw_aload_n (pc' := 136) (v := .ref r0) rfl rfl rfl ?_)
                    have k2351 : H2175 r0 5 = H2134 r0 5 := ((f2180 r0 5 _ g0 rfl).trans (f2162 r0 5 _ g0 rfl))
                    have q2352 : H2175 r0 5 = (rb : Int) := k2351.trans q2154
                    have u2353 := RC_a a2189
                    have h2354 : TM T H2175 rb B := RC_tm a2189 q2352
                    refine wp_of e196 c196_136 (xc_V (pc' := 139) (r := r0) (as := []) (st := []) (lm_9_118) rfl rfl (Nat.le_of_ble_eq_true rfl) w2179 g0 sh_42 (by decide) rfl (by decide) (u_172_k (B := B) (n := n) (a := (xE B n ((xN B n ((xN B n ((xN B n q)))))))) (q := (xN B n ((xN B n ((xN B n ((xN B n q)))))))) w2179 g0 q2352 grb (by omega) (by omega) (by omega) (by omega) (by omega) (rfl) h2354) (fun R2355 T2356 H2357 p2358 => ?_))
                    obtain ⟨e2359, w2361, f2362, e2360, p2363⟩ := p2358
                    subst e2359
                    subst e2360
                    have f2365 := f2193.tr f2362 rfl
                    show wp _ _ 196 139 [(4, vI v2335), (3, vI v2336), (2, vI z2181), (1, vI z2140), (0, .ref r0)] [] _ H2357 _
                    have u2366 := RC_k p2363
                    refine wp_of e196 c196_139 (rw_aload_n (pc' := 140) (v := .ref r0) rfl rfl rfl ?_)
                    refine wp_of e196 c196_140 (xg_I (pc' := 143) lf_9_75 w2361 g0 sh_42 (by decide) (by decide) ty_42_9 rfl rfl (fun b2367 b2368 => ?_))
                    refine wp_of e196 c196_143 (rw_iconst (pc' := 144) rfl ?_)
                    refine wp_of e196 c196_144 (rw_icmp_ne (p1 := 148) (p2 := 147) (by decide) rfl ⟨by omega, by omega⟩ ⟨by omega, by omega⟩ (fun c2369 => ?_) (fun c2369 => ?_))
                    · refine wp_of e196 c196_148 (rw_aload_n (pc' := 149) (v := .ref r0) rfl rfl rfl ?_)
                      have k2370 : H2357 r0 4 = H2175 r0 4 := (f2362 r0 4 _ g0 rfl)
                      have q2371 : H2357 r0 4 = (rp : Int) := k2370.trans q2346
                      refine wp_of e196 c196_149 (xg_K (pc' := 152) lf_9_166 w2361 g0 sh_42 (by decide) (by decide) rfl q2371 rfl ?_)
                      refine wp_of e196 c196_152 (xg_R (pc' := 155) lf_9_282 w2361 grp sh_54 (by decide) (by decide) ty_54_18 rfl rfl (fun r2372 q2373 g2374 => ?_))
                      refine wp_of e196 c196_155 (rw_aload_n (pc' := 156) (v := .ref r0) rfl rfl rfl ?_)
                      refine wp_of e196 c196_156 (xg_K (pc' := 159) lf_9_166 w2361 g0 sh_42 (by decide) (by decide) rfl q2371 rfl ?_)
                      have k2375 : H2357 rp 4 = H2175 rp 4 := (f2362 rp 4 _ grp rfl)
                      refine wp_of e196 c196_159 (xg_I (pc' := 162) lf_9_276 w2361 grp sh_54 (by decide) (by decide) ty_54_4 rfl rfl (fun b2376 b2377 => ?_))
                      refine wp_of e196 c196_162 (rw_iload_n (pc' := 163) (z := z2140) rfl rfl ?_)
                      have h2378 : MA18 T H2357 rp (d 10) := (MA18_fr w2179 grp f2362 rfl (MA18_fr w2161 grp f2180 rfl (MA18_fr w2138 grp f2162 rfl (MA18_fr w2118 grp f2139 rfl (MA18_fr hW grp f2119 rfl h2102)))))
                      refine wp_of e196 c196_163 (xs_I (pc' := 164) w2361 g2374 (by decide) sh_64 (by decide) (ty_64 _) (by omega) (by omega) ⟨by omega, by omega⟩ (by omega) (by omega) rfl (fun H2379 e2380 w2381 => ?_))
                      have f2382 := f2365.put' e2380 g2374 rfl
                      have h2383 : MA18 T H2379 rp (xdap B n (xN B n q) d 10) := MA_put h2378 q2373 grp g2374 (by decide) e2380 ((xdap_c (k := ((H2357 rp 4).toNat)) (by omega)).1.trans (by omega)) (xdap_c (k := ((H2357 rp 4).toNat)) (by omega)).2
                      refine wp_of e196 c196_164 (rw_aload_n (pc' := 165) (v := .ref r0) rfl rfl rfl ?_)
                      have k2384 : H2379 r0 4 = H2357 r0 4 := (wq_u_t e2380 g2374 g0 rfl 4)
                      have q2385 : H2379 r0 4 = (rp : Int) := k2384.trans q2371
                      refine wp_of e196 c196_165 (xg_K (pc' := 168) lf_9_166 w2381 g0 sh_42 (by decide) (by decide) rfl q2385 rfl ?_)
                      refine wp_of e196 c196_168 (xg_R (pc' := 171) lf_9_285 w2381 grp sh_54 (by decide) (by decide) ty_54_19 rfl rfl (fun r2386 q2387 g2388 => ?_))
                      refine wp_of e196 c196_171 (rw_aload_n (pc' := 172) (v := .ref r0) rfl rfl rfl ?_)
                      refine wp_of e196 c196_172 (xg_K (pc' := 175) lf_9_166 w2381 g0 sh_42 (by decide) (by decide) rfl q2385 rfl ?_)
                      have k2389 : H2379 rp 4 = H2357 rp 4 := (wq_u_t e2380 g2374 grp rfl 4)
                      refine wp_of e196 c196_175 (xg_I (pc' := 178) lf_9_276 w2381 grp sh_54 (by decide) (by decide) ty_54_4 rfl rfl (fun b2390 b2391 => ?_))
                      refine wp_of e196 c196_178 (rw_iload_n (pc' := 179) (z := z2181) rfl rfl ?_)
                      have h2392 : MA19 T H2379 rp (d 11) := (MA19_fr w2361 grp ((wfr.rf (l := [(64, 999)])).put' e2380 g2374 rfl) rfl (MA19_fr w2179 grp f2362 rfl (MA19_fr w2161 grp f2180 rfl (MA19_fr w2138 grp f2162 rfl (MA19_fr w2118 grp f2139 rfl (MA19_fr hW grp f2119 rfl h2103))))))
                      refine wp_of e196 c196_179 (xs_I (pc' := 180) w2381 g2388 (by decide) sh_65 (by decide) (ty_65 _) (by omega) (by omega) ⟨by omega, by omega⟩ (by omega) (by omega) rfl (fun H2393 e2394 w2395 => ?_))
                      have f2396 := f2382.put' e2394 g2388 rfl
                      have h2397 : MA19 T H2393 rp (xdap B n (xN B n q) d 11) := MA_put h2392 q2387 grp g2388 (by decide) e2394 ((xdap_e (k := ((H2379 rp 4).toNat)) (by omega)).1.trans (by omega)) (xdap_e (k := ((H2379 rp 4).toNat)) (by omega)).2
                      refine wp_of e196 c196_180 (rw_aload_n (pc' := 181) (v := .ref r0) rfl rfl rfl ?_)
                      have k2398 : H2393 r0 4 = H2379 r0 4 := (wq_u_t e2394 g2388 g0 rfl 4)
                      have q2399 : H2393 r0 4 = (rp : Int) := k2398.trans q2385
                      refine wp_of e196 c196_181 (xg_K (pc' := 184) lf_9_166 w2395 g0 sh_42 (by decide) (by decide) rfl q2399 rfl ?_)
                      refine wp_of e196 c196_184 (rw_dup (pc' := 185) rfl rfl ?_)
                      have k2400 : H2393 rp 4 = H2379 rp 4 := (wq_u_t e2394 g2388 grp rfl 4)
                      refine wp_of e196 c196_185 (xg_I (pc' := 188) lf_9_276 w2395 grp sh_54 (by decide) (by decide) ty_54_4 rfl rfl (fun b2401 b2402 => ?_))
                      refine wp_of e196 c196_188 (rw_iconst (pc' := 189) rfl ?_)
                      refine wp_of e196 c196_189 (rw_iadd (pc' := 190) rfl ?_)
                      refine wp_of e196 c196_190 (xp_I (pc' := 193) lf_9_276 w2395 grp sh_54 (by decide) (by decide) ty_54_4 rfl rfl (by omega) (by omega) ⟨by omega, by omega⟩ rfl (fun H2403 e2404 w2405 => ?_))
                      have f2406 := f2396.put' e2404 grp rfl
                      have k2407 : H2403 rp 4 = (H2393 rp 4) + 1 := wq_u_s e2404
                      have k2408 : H2403 rp 0 = H rp 0 := ((wq_u_j e2404 rfl).trans ((wq_u_t e2394 g2388 grp rfl 0).trans ((wq_u_t e2380 g2374 grp rfl 0).trans ((f2362 rp 0 _ grp rfl).trans ((f2180 rp 0 _ grp rfl).trans ((f2162 rp 0 _ grp rfl).trans ((f2139 rp 0 _ grp rfl).trans (f2119 rp 0 _ grp rfl))))))))
                      have k2409 : H2403 rp 1 = H rp 1 := ((wq_u_j e2404 rfl).trans ((wq_u_t e2394 g2388 grp rfl 1).trans ((wq_u_t e2380 g2374 grp rfl 1).trans ((f2362 rp 1 _ grp rfl).trans ((f2180 rp 1 _ grp rfl).trans ((f2162 rp 1 _ grp rfl).trans ((f2139 rp 1 _ grp rfl).trans (f2119 rp 1 _ grp rfl))))))))
                      have k2410 : H2403 rp 2 = H rp 2 := ((wq_u_j e2404 rfl).trans ((wq_u_t e2394 g2388 grp rfl 2).trans ((wq_u_t e2380 g2374 grp rfl 2).trans ((f2362 rp 2 _ grp rfl).trans ((f2180 rp 2 _ grp rfl).trans ((f2162 rp 2 _ grp rfl).trans ((f2139 rp 2 _ grp rfl).trans (f2119 rp 2 _ grp rfl))))))))
                      have k2411 : H2403 rp 3 = H rp 3 := ((wq_u_j e2404 rfl).trans ((wq_u_t e2394 g2388 grp rfl 3).trans ((wq_u_t e2380 g2374 grp rfl 3).trans ((f2362 rp 3 _ grp rfl).trans ((f2180 rp 3 _ grp rfl).trans ((f2162 rp 3 _ grp rfl).trans ((f2139 rp 3 _ grp rfl).trans (f2119 rp 3 _ grp rfl))))))))
                      have k2412 : H2403 rp 5 = H rp 5 := ((wq_u_j e2404 rfl).trans ((wq_u_t e2394 g2388 grp rfl 5).trans ((wq_u_t e2380 g2374 grp rfl 5).trans ((f2362 rp 5 _ grp rfl).trans ((f2180 rp 5 _ grp rfl).trans ((f2162 rp 5 _ grp rfl).trans ((f2139 rp 5 _ grp rfl).trans (f2119 rp 5 _ grp rfl))))))))
                      have k2413 : H2403 rp 6 = H rp 6 := ((wq_u_j e2404 rfl).trans ((wq_u_t e2394 g2388 grp rfl 6).trans ((wq_u_t e2380 g2374 grp rfl 6).trans ((f2362 rp 6 _ grp rfl).trans ((f2180 rp 6 _ grp rfl).trans ((f2162 rp 6 _ grp rfl).trans ((f2139 rp 6 _ grp rfl).trans (f2119 rp 6 _ grp rfl))))))))
                      have k2414 : H2403 rp 7 = H rp 7 := ((wq_u_j e2404 rfl).trans ((wq_u_t e2394 g2388 grp rfl 7).trans ((wq_u_t e2380 g2374 grp rfl 7).trans ((f2362 rp 7 _ grp rfl).trans ((f2180 rp 7 _ grp rfl).trans ((f2162 rp 7 _ grp rfl).trans ((f2139 rp 7 _ grp rfl).trans (f2119 rp 7 _ grp rfl))))))))
                      have k2415 : H2403 rp 8 = H rp 8 := ((wq_u_j e2404 rfl).trans ((wq_u_t e2394 g2388 grp rfl 8).trans ((wq_u_t e2380 g2374 grp rfl 8).trans ((f2362 rp 8 _ grp rfl).trans ((f2180 rp 8 _ grp rfl).trans ((f2162 rp 8 _ grp rfl).trans ((f2139 rp 8 _ grp rfl).trans (f2119 rp 8 _ grp rfl))))))))
                      have k2416 : H2403 r0 16 = H r0 16 := ((wq_u_t e2404 grp g0 rfl 16).trans ((wq_u_t e2394 g2388 g0 rfl 16).trans ((wq_u_t e2380 g2374 g0 rfl 16).trans ((f2362 r0 16 _ g0 rfl).trans ((f2180 r0 16 _ g0 rfl).trans ((f2162 r0 16 _ g0 rfl).trans ((f2139 r0 16 _ g0 rfl).trans (f2119 r0 16 _ g0 rfl))))))))
                      have o2417 : (xl3 B n q d) = (0, (xN B n q), (xN B n ((xN B n ((xN B n ((xN B n q)))))))) := by
                        unfold xl3 xap
                        repeat first | rw [xs_0 (by omega)] | rw [xs_1 (by omega)] | rw [if_pos (by omega)] | rw [if_neg (by omega)]
                        first | done | rfl | assumption | (exfalso; omega) | (refine Prod.ext ?_ (Prod.ext ?_ ?_) <;> (try dsimp only) <;> omega)
                      have o2417a : ((xl3 B n q d)).1 = 0 := by rw [o2417]
                      have o2417b : ((xl3 B n q d)).2.1 = (xN B n q) := by rw [o2417]
                      have o2417c : ((xl3 B n q d)).2.2 = (xN B n ((xN B n ((xN B n ((xN B n q))))))) := by rw [o2417]
                      have _l := @xdap_v B n (xN B n q) d
                      have h2418 : RC T H2403 r0 B n (xN B n ((xN B n ((xN B n ((xN B n q))))))) := (RC_fr w2395 g0 ((wfr.rf (l := [(54, 4)])).put' e2404 grp rfl) rfl (RC_fr w2381 g0 ((wfr.rf (l := [(65, 999)])).put' e2394 g2388 rfl) rfl (RC_fr w2361 g0 ((wfr.rf (l := [(64, 999)])).put' e2380 g2374 rfl) rfl p2363)))
                      have h2419 : MA9 T H2403 rp (d 1) := (MA9_fr w2395 grp ((wfr.rf (l := [(54, 4)])).put' e2404 grp rfl) rfl (MA9_fr w2381 grp ((wfr.rf (l := [(65, 999)])).put' e2394 g2388 rfl) rfl (MA9_fr w2361 grp ((wfr.rf (l := [(64, 999)])).put' e2380 g2374 rfl) rfl (MA9_fr w2179 grp f2362 rfl (MA9_fr w2161 grp f2180 rfl (MA9_fr w2138 grp f2162 rfl (MA9_fr w2118 grp f2139 rfl (MA9_fr hW grp f2119 rfl h2093))))))))
                      have h2420 : MA10 T H2403 rp (d 2) := (MA10_fr w2395 grp ((wfr.rf (l := [(54, 4)])).put' e2404 grp rfl) rfl (MA10_fr w2381 grp ((wfr.rf (l := [(65, 999)])).put' e2394 g2388 rfl) rfl (MA10_fr w2361 grp ((wfr.rf (l := [(64, 999)])).put' e2380 g2374 rfl) rfl (MA10_fr w2179 grp f2362 rfl (MA10_fr w2161 grp f2180 rfl (MA10_fr w2138 grp f2162 rfl (MA10_fr w2118 grp f2139 rfl (MA10_fr hW grp f2119 rfl h2094))))))))
                      have h2421 : MA11 T H2403 rp (d 3) := (MA11_fr w2395 grp ((wfr.rf (l := [(54, 4)])).put' e2404 grp rfl) rfl (MA11_fr w2381 grp ((wfr.rf (l := [(65, 999)])).put' e2394 g2388 rfl) rfl (MA11_fr w2361 grp ((wfr.rf (l := [(64, 999)])).put' e2380 g2374 rfl) rfl (MA11_fr w2179 grp f2362 rfl (MA11_fr w2161 grp f2180 rfl (MA11_fr w2138 grp f2162 rfl (MA11_fr w2118 grp f2139 rfl (MA11_fr hW grp f2119 rfl h2095))))))))
                      have h2422 : MA12 T H2403 rp (d 4) := (MA12_fr w2395 grp ((wfr.rf (l := [(54, 4)])).put' e2404 grp rfl) rfl (MA12_fr w2381 grp ((wfr.rf (l := [(65, 999)])).put' e2394 g2388 rfl) rfl (MA12_fr w2361 grp ((wfr.rf (l := [(64, 999)])).put' e2380 g2374 rfl) rfl (MA12_fr w2179 grp f2362 rfl (MA12_fr w2161 grp f2180 rfl (MA12_fr w2138 grp f2162 rfl (MA12_fr w2118 grp f2139 rfl (MA12_fr hW grp f2119 rfl h2096))))))))
                      have h2423 : MA13 T H2403 rp (d 5) := (MA13_fr w2395 grp ((wfr.rf (l := [(54, 4)])).put' e2404 grp rfl) rfl (MA13_fr w2381 grp ((wfr.rf (l := [(65, 999)])).put' e2394 g2388 rfl) rfl (MA13_fr w2361 grp ((wfr.rf (l := [(64, 999)])).put' e2380 g2374 rfl) rfl (MA13_fr w2179 grp f2362 rfl (MA13_fr w2161 grp f2180 rfl (MA13_fr w2138 grp f2162 rfl (MA13_fr w2118 grp f2139 rfl (MA13_fr hW grp f2119 rfl h2097))))))))
                      have h2424 : MA14 T H2403 rp (d 6) := (MA14_fr w2395 grp ((wfr.rf (l := [(54, 4)])).put' e2404 grp rfl) rfl (MA14_fr w2381 grp ((wfr.rf (l := [(65, 999)])).put' e2394 g2388 rfl) rfl (MA14_fr w2361 grp ((wfr.rf (l := [(64, 999)])).put' e2380 g2374 rfl) rfl (MA14_fr w2179 grp f2362 rfl (MA14_fr w2161 grp f2180 rfl (MA14_fr w2138 grp f2162 rfl (MA14_fr w2118 grp f2139 rfl (MA14_fr hW grp f2119 rfl h2098))))))))
                      have h2425 : MA15 T H2403 rp (d 7) := (MA15_fr w2395 grp ((wfr.rf (l := [(54, 4)])).put' e2404 grp rfl) rfl (MA15_fr w2381 grp ((wfr.rf (l := [(65, 999)])).put' e2394 g2388 rfl) rfl (MA15_fr w2361 grp ((wfr.rf (l := [(64, 999)])).put' e2380 g2374 rfl) rfl (MA15_fr w2179 grp f2362 rfl (MA15_fr w2161 grp f2180 rfl (MA15_fr w2138 grp f2162 rfl (MA15_fr w2118 grp f2139 rfl (MA15_fr hW grp f2119 rfl h2099))))))))
                      have h2426 : MA16 T H2403 rp (d 8) := (MA16_fr w2395 grp ((wfr.rf (l := [(54, 4)])).put' e2404 grp rfl) rfl (MA16_fr w2381 grp ((wfr.rf (l := [(65, 999)])).put' e2394 g2388 rfl) rfl (MA16_fr w2361 grp ((wfr.rf (l := [(64, 999)])).put' e2380 g2374 rfl) rfl (MA16_fr w2179 grp f2362 rfl (MA16_fr w2161 grp f2180 rfl (MA16_fr w2138 grp f2162 rfl (MA16_fr w2118 grp f2139 rfl (MA16_fr hW grp f2119 rfl h2100))))))))
                      have h2427 : MA17 T H2403 rp (d 9) := (MA17_fr w2395 grp ((wfr.rf (l := [(54, 4)])).put' e2404 grp rfl) rfl (MA17_fr w2381 grp ((wfr.rf (l := [(65, 999)])).put' e2394 g2388 rfl) rfl (MA17_fr w2361 grp ((wfr.rf (l := [(64, 999)])).put' e2380 g2374 rfl) rfl (MA17_fr w2179 grp f2362 rfl (MA17_fr w2161 grp f2180 rfl (MA17_fr w2138 grp f2162 rfl (MA17_fr w2118 grp f2139 rfl (MA17_fr hW grp f2119 rfl h2101))))))))
                      have h2428 : MA18 T H2403 rp (xdap B n (xN B n q) d 10) := (MA18_fr w2395 grp ((wfr.rf (l := [(54, 4)])).put' e2404 grp rfl) rfl (MA18_fr w2381 grp ((wfr.rf (l := [(65, 999)])).put' e2394 g2388 rfl) rfl h2383))
                      have h2429 : MA19 T H2403 rp (xdap B n (xN B n q) d 11) := (MA19_fr w2395 grp ((wfr.rf (l := [(54, 4)])).put' e2404 grp rfl) rfl h2397)
                      have h2430 : MA20 T H2403 rp (d 12) := (MA20_fr w2395 grp ((wfr.rf (l := [(54, 4)])).put' e2404 grp rfl) rfl (MA20_fr w2381 grp ((wfr.rf (l := [(65, 999)])).put' e2394 g2388 rfl) rfl (MA20_fr w2361 grp ((wfr.rf (l := [(64, 999)])).put' e2380 g2374 rfl) rfl (MA20_fr w2179 grp f2362 rfl (MA20_fr w2161 grp f2180 rfl (MA20_fr w2138 grp f2162 rfl (MA20_fr w2118 grp f2139 rfl (MA20_fr hW grp f2119 rfl h2104))))))))
                      have h2431 : MA21 T H2403 rp (d 13) := (MA21_fr w2395 grp ((wfr.rf (l := [(54, 4)])).put' e2404 grp rfl) rfl (MA21_fr w2381 grp ((wfr.rf (l := [(65, 999)])).put' e2394 g2388 rfl) rfl (MA21_fr w2361 grp ((wfr.rf (l := [(64, 999)])).put' e2380 g2374 rfl) rfl (MA21_fr w2179 grp f2362 rfl (MA21_fr w2161 grp f2180 rfl (MA21_fr w2138 grp f2162 rfl (MA21_fr w2118 grp f2139 rfl (MA21_fr hW grp f2119 rfl h2105))))))))
                      have h2432 : MA22 T H2403 rp (d 14) := (MA22_fr w2395 grp ((wfr.rf (l := [(54, 4)])).put' e2404 grp rfl) rfl (MA22_fr w2381 grp ((wfr.rf (l := [(65, 999)])).put' e2394 g2388 rfl) rfl (MA22_fr w2361 grp ((wfr.rf (l := [(64, 999)])).put' e2380 g2374 rfl) rfl (MA22_fr w2179 grp f2362 rfl (MA22_fr w2161 grp f2180 rfl (MA22_fr w2138 grp f2162 rfl (MA22_fr w2118 grp f2139 rfl (MA22_fr hW grp f2119 rfl h2106))))))))
                      have h2433 : MA23 T H2403 rp (d 15) := (MA23_fr w2395 grp ((wfr.rf (l := [(54, 4)])).put' e2404 grp rfl) rfl (MA23_fr w2381 grp ((wfr.rf (l := [(65, 999)])).put' e2394 g2388 rfl) rfl (MA23_fr w2361 grp ((wfr.rf (l := [(64, 999)])).put' e2380 g2374 rfl) rfl (MA23_fr w2179 grp f2362 rfl (MA23_fr w2161 grp f2180 rfl (MA23_fr w2138 grp f2162 rfl (MA23_fr w2118 grp f2139 rfl (MA23_fr hW grp f2119 rfl h2107))))))))
                      have h2434 : MA25 T H2403 rp (d 17) := (MA25_fr w2395 grp ((wfr.rf (l := [(54, 4)])).put' e2404 grp rfl) rfl (MA25_fr w2381 grp ((wfr.rf (l := [(65, 999)])).put' e2394 g2388 rfl) rfl (MA25_fr w2361 grp ((wfr.rf (l := [(64, 999)])).put' e2380 g2374 rfl) rfl (MA25_fr w2179 grp f2362 rfl (MA25_fr w2161 grp f2180 rfl (MA25_fr w2138 grp f2162 rfl (MA25_fr w2118 grp f2139 rfl (MA25_fr hW grp f2119 rfl h2108))))))))
                      have h2435 : MA26 T H2403 rp (d 16) := (MA26_fr w2395 grp ((wfr.rf (l := [(54, 4)])).put' e2404 grp rfl) rfl (MA26_fr w2381 grp ((wfr.rf (l := [(65, 999)])).put' e2394 g2388 rfl) rfl (MA26_fr w2361 grp ((wfr.rf (l := [(64, 999)])).put' e2380 g2374 rfl) rfl (MA26_fr w2179 grp f2362 rfl (MA26_fr w2161 grp f2180 rfl (MA26_fr w2138 grp f2162 rfl (MA26_fr w2118 grp f2139 rfl (MA26_fr hW grp f2119 rfl h2109))))))))
                      exact wp_return e196 c196_193 rfl ⟨rfl, w2405, f2406, rfl, (Or.inl ⟨by omega, by omega, by omega, h2418, DM_mk hDM_rp.1 ⟨by omega, by omega, by omega, by omega, by omega, by omega, by omega, by omega, by omega, by omega, by omega, by omega⟩ (xdP_cg hDM_rp.2.2.1 (fun i h1 h2 => by unfold xdap; rw [wq_u_row (by omega), wq_u_row (by omega), wq_u_row (by omega)])) h2419 h2420 h2421 h2422 h2423 h2424 h2425 h2426 h2427 h2428 h2429 h2430 h2431 h2432 h2433 h2434 h2435 ⟨(by unfold xdap; rw [wq_u_row (by decide), wq_u_row (by decide), wq_u_row (by decide)]), (by unfold xdap; rw [wq_u_row (by decide), wq_u_row (by decide), wq_u_row (by decide)]), (by unfold xdap; rw [wq_u_row (by decide), wq_u_row (by decide), wq_u_row (by decide)]), (by unfold xdap; rw [wq_u_row (by decide), wq_u_row (by decide), wq_u_row (by decide)]), (by unfold xdap; rw [wq_u_row (by decide), wq_u_row (by decide), wq_u_row (by decide)]), (by unfold xdap; rw [wq_u_row (by decide), wq_u_row (by decide), wq_u_row (by decide)]), (by unfold xdap; rw [wq_u_row (by decide), wq_u_row (by decide), wq_u_row (by decide)]), (by unfold xdap; rw [wq_u_row (by decide), wq_u_row (by decide), wq_u_row (by decide)]), (by unfold xdap; rw [wq_u_row (by decide), wq_u_row (by decide), wq_u_row (by decide)]), rfl, rfl, (by unfold xdap; rw [wq_u_row (by decide), wq_u_row (by decide), wq_u_row (by decide)]), (by unfold xdap; rw [wq_u_row (by decide), wq_u_row (by decide), wq_u_row (by decide)]), (by unfold xdap; rw [wq_u_row (by decide), wq_u_row (by decide), wq_u_row (by decide)]), (by unfold xdap; rw [wq_u_row (by decide), wq_u_row (by decide), wq_u_row (by decide)]), (by unfold xdap; rw [wq_u_row (by decide), wq_u_row (by decide), wq_u_row (by decide)]), (by unfold xdap; rw [wq_u_row (by decide), wq_u_row (by decide), wq_u_row (by decide)])⟩⟩)⟩
                    · exfalso
                      omega
                  · refine wp_of e196 c196_130 (rw_aload_n (pc' := 131) (v := .ref r0) rfl rfl rfl ?_)
                    refine wp_of e196 c196_131 (rw_iconst (pc' := 132) rfl ?_)
                    refine wp_of e196 c196_132 (xc_V (pc' := 135) (r := r0) (as := [vI 3]) (st := []) (lm_9_121) rfl rfl (Nat.le_of_ble_eq_true rfl) w2179 g0 sh_42 (by decide) rfl (by decide) (u_181_k (B := B) (n := n) (q := ((xN B n ((xN B n ((xN B n q))))))) w2179 g0 ⟨by omega, by omega⟩ (by omega) a2189) (fun R2436 T2437 H2438 p2439 => ?_))
                    obtain ⟨e2440, w2442, f2443, e2441, p2444⟩ := p2439
                    subst e2440
                    subst e2441
                    have f2446 := f2193.tr f2443 rfl
                    show wp _ _ 196 135 [(4, vI v2335), (3, vI v2336), (2, vI z2181), (1, vI z2140), (0, .ref r0)] [] _ H2438 _
                    have u2447 := RO_k p2444
                    refine wp_of e196 c196_135 (rw_aload_n (pc' := 136) (v := .ref r0) rfl rfl rfl ?_)
                    refine wp_of e196 c196_136 (xc_V (pc' := 139) (r := r0) (as := []) (st := []) (lm_9_118) rfl rfl (Nat.le_of_ble_eq_true rfl) w2442 g0 sh_42 (by decide) rfl (by decide) (u_172_o (fo := 3) (po := (((xN B n ((xN B n ((xN B n q)))))))) w2442 g0 p2444) (fun R2448 T2449 H2450 p2451 => ?_))
                    obtain ⟨e2452, e2454, e2453, p2455⟩ := p2451
                    subst e2452
                    subst e2453
                    subst e2454
                    show wp _ _ 196 139 [(4, vI v2335), (3, vI v2336), (2, vI z2181), (1, vI z2140), (0, .ref r0)] [] _ H2438 _
                    have u2457 := RO_k p2455
                    refine wp_of e196 c196_139 (rw_aload_n (pc' := 140) (v := .ref r0) rfl rfl rfl ?_)
                    refine wp_of e196 c196_140 (xg_I (pc' := 143) lf_9_75 w2442 g0 sh_42 (by decide) (by decide) ty_42_9 rfl rfl (fun b2458 b2459 => ?_))
                    refine wp_of e196 c196_143 (rw_iconst (pc' := 144) rfl ?_)
                    refine wp_of e196 c196_144 (rw_icmp_ne (p1 := 148) (p2 := 147) (by decide) rfl ⟨by omega, by omega⟩ ⟨by omega, by omega⟩ (fun c2460 => ?_) (fun c2460 => ?_))
                    · exfalso
                      omega
                    · have o2461 : (xl3 B n q d) = (xac d (xwho B n (xN B n q) d) (xwho B n (xN B n (xN B n (xN B n q))) d), (xN B n (xN B n (xN B n q))), (xN B n (xN B n (xN B n q)))) := by
                        unfold xl3 xap
                        repeat first | rw [xs_0 (by omega)] | rw [xs_1 (by omega)] | rw [if_pos (by omega)] | rw [if_neg (by omega)]
                        first | done | rfl | assumption | (exfalso; omega) | (refine Prod.ext ?_ (Prod.ext ?_ ?_) <;> (try dsimp only) <;> omega)
                      have o2461a : ((xl3 B n q d)).1 = xac d (xwho B n (xN B n q) d) (xwho B n (xN B n (xN B n (xN B n q))) d) := by rw [o2461]
                      have o2461b : ((xl3 B n q d)).2.1 = (xN B n (xN B n (xN B n q))) := by rw [o2461]
                      have o2461c : ((xl3 B n q d)).2.2 = (xN B n (xN B n (xN B n q))) := by rw [o2461]
                      exact wp_return e196 c196_147 rfl ⟨rfl, w2442, f2446, rfl, (Or.inr ⟨by omega, RO_eq p2455 (by omega) (by omega)⟩)⟩
                · refine wp_of e196 c196_54 (rw_iload_n (pc' := 55) (z := v2336) rfl rfl ?_)
                  refine wp_of e196 c196_55 (rw_if_ne (p1 := 114) (p2 := 58) (by decide) rfl ⟨by omega, by omega⟩ (fun c2462 => ?_) (fun c2462 => ?_))
                  · refine wp_of e196 c196_114 (rw_iconst (pc' := 115) rfl ?_)
                    refine wp_of e196 c196_115 (rw_goto (p1 := 119) (by decide) ?_)
                    refine wp_of e196 c196_119 (rw_istore_n (pc' := 120) (z := 1) (L' := [(3, vI 1), (4, vI v2335), (2, vI z2181), (1, vI z2140), (0, .ref r0)]) rfl rfl rfl ?_)
                    refine wp_of e196 c196_120 (rw_iinc (pc' := 123) (z := v2335) (L' := [(4, vI (v2335 + 1)), (3, vI 1), (2, vI z2181), (1, vI z2140), (0, .ref r0)]) rfl rfl rfl rfl ?_)
                    refine wp_of e196 c196_123 (rw_goto (p1 := 42) (by decide) ?_)
                    have := xgg_s (d := d) (a := z2140) (b := z2181) (i := v2335) (by omega)
                    exact wp_lc (ks := [4, 3, 2, 1, 0]) (wl_c rfl (wl_c rfl (wl_c rfl (wl_c rfl (wl_c rfl wl_n))))) rfl (by decide) (ih2334 _ (by omega) (v2335 + 1) 1 ⟨by omega, by omega⟩ ⟨by omega, by omega⟩ (by omega) (by omega) rfl)
                  · refine wp_of e196 c196_58 (rw_aload_n (pc' := 59) (v := .ref r0) rfl rfl rfl ?_)
                    refine wp_of e196 c196_59 (xg_K (pc' := 62) lf_9_166 w2179 g0 sh_42 (by decide) (by decide) rfl q2346 rfl ?_)
                    refine wp_of e196 c196_62 (xg_R (pc' := 65) lf_9_282 w2179 grp sh_54 (by decide) (by decide) ty_54_18 rfl rfl (fun r2463 q2464 g2465 => ?_))
                    refine wp_of e196 c196_65 (rw_iload (pc' := 67) (z := v2335) rfl rfl ?_)
                    refine wp_of e196 c196_67 (xa_I (so := 0) (pc' := 68) w2179 g2465 sh_64 (by decide) (ty_64 _) (by omega) (by omega) rfl (fun b2466 b2467 => ?_))
                    have h2468 : MA18 T H2175 rp (d 10) := (MA18_fr w2161 grp f2180 rfl (MA18_fr w2138 grp f2162 rfl (MA18_fr w2118 grp f2139 rfl (MA18_fr hW grp f2119 rfl h2102))))
                    have := MA_at h2468 q2464 (k := (v2335.toNat)) (by omega)
                    refine wp_of e196 c196_68 (rw_iload_n (pc' := 69) (z := z2140) rfl rfl ?_)
                    refine wp_of e196 c196_69 (rw_icmp_ne (p1 := 86) (p2 := 72) (by decide) rfl ⟨by omega, by omega⟩ ⟨by omega, by omega⟩ (fun c2469 => ?_) (fun c2469 => ?_))
                    · refine wp_of e196 c196_86 (rw_aload_n (pc' := 87) (v := .ref r0) rfl rfl rfl ?_)
                      refine wp_of e196 c196_87 (xg_K (pc' := 90) lf_9_166 w2179 g0 sh_42 (by decide) (by decide) rfl q2346 rfl ?_)
                      refine wp_of e196 c196_90 (xg_K (pc' := 93) lf_9_282 w2179 grp sh_54 (by decide) (by decide) rfl q2464 rfl ?_)
                      refine wp_of e196 c196_93 (rw_iload (pc' := 95) (z := v2335) rfl rfl ?_)
                      refine wp_of e196 c196_95 (xa_I (so := 0) (pc' := 96) w2179 g2465 sh_64 (by decide) (ty_64 _) (by omega) (by omega) rfl (fun b2470 b2471 => ?_))
                      have := MA_at h2468 q2464 (k := (v2335.toNat)) (by omega)
                      refine wp_of e196 c196_96 (rw_iload_n (pc' := 97) (z := z2181) rfl rfl ?_)
                      refine wp_of e196 c196_97 (rw_icmp_ne (p1 := 118) (p2 := 100) (by decide) rfl ⟨by omega, by omega⟩ ⟨by omega, by omega⟩ (fun c2472 => ?_) (fun c2472 => ?_))
                      · refine wp_of e196 c196_118 (rw_iconst (pc' := 119) rfl ?_)
                        refine wp_of e196 c196_119 (rw_istore_n (pc' := 120) (z := 0) (L' := [(3, vI 0), (4, vI v2335), (2, vI z2181), (1, vI z2140), (0, .ref r0)]) rfl rfl rfl ?_)
                        refine wp_of e196 c196_120 (rw_iinc (pc' := 123) (z := v2335) (L' := [(4, vI (v2335 + 1)), (3, vI 0), (2, vI z2181), (1, vI z2140), (0, .ref r0)]) rfl rfl rfl rfl ?_)
                        refine wp_of e196 c196_123 (rw_goto (p1 := 42) (by decide) ?_)
                        have := xgg_s (d := d) (a := z2140) (b := z2181) (i := v2335) (by omega)
                        exact wp_lc (ks := [4, 3, 2, 1, 0]) (wl_c rfl (wl_c rfl (wl_c rfl (wl_c rfl (wl_c rfl wl_n))))) rfl (by decide) (ih2334 _ (by omega) (v2335 + 1) 0 ⟨by omega, by omega⟩ ⟨by omega, by omega⟩ (by omega) (by omega) rfl)
                      · refine wp_of e196 c196_100 (rw_aload_n (pc' := 101) (v := .ref r0) rfl rfl rfl ?_)
                        refine wp_of e196 c196_101 (xg_K (pc' := 104) lf_9_166 w2179 g0 sh_42 (by decide) (by decide) rfl q2346 rfl ?_)
                        refine wp_of e196 c196_104 (xg_R (pc' := 107) lf_9_285 w2179 grp sh_54 (by decide) (by decide) ty_54_19 rfl rfl (fun r2473 q2474 g2475 => ?_))
                        refine wp_of e196 c196_107 (rw_iload (pc' := 109) (z := v2335) rfl rfl ?_)
                        refine wp_of e196 c196_109 (xa_I (so := 0) (pc' := 110) w2179 g2475 sh_65 (by decide) (ty_65 _) (by omega) (by omega) rfl (fun b2476 b2477 => ?_))
                        have h2478 : MA19 T H2175 rp (d 11) := (MA19_fr w2161 grp f2180 rfl (MA19_fr w2138 grp f2162 rfl (MA19_fr w2118 grp f2139 rfl (MA19_fr hW grp f2119 rfl h2103))))
                        have := MA_at h2478 q2474 (k := (v2335.toNat)) (by omega)
                        refine wp_of e196 c196_110 (rw_iload_n (pc' := 111) (z := z2140) rfl rfl ?_)
                        refine wp_of e196 c196_111 (rw_icmp_ne (p1 := 118) (p2 := 114) (by decide) rfl ⟨by omega, by omega⟩ ⟨by omega, by omega⟩ (fun c2479 => ?_) (fun c2479 => ?_))
                        · refine wp_of e196 c196_118 (rw_iconst (pc' := 119) rfl ?_)
                          refine wp_of e196 c196_119 (rw_istore_n (pc' := 120) (z := 0) (L' := [(3, vI 0), (4, vI v2335), (2, vI z2181), (1, vI z2140), (0, .ref r0)]) rfl rfl rfl ?_)
                          refine wp_of e196 c196_120 (rw_iinc (pc' := 123) (z := v2335) (L' := [(4, vI (v2335 + 1)), (3, vI 0), (2, vI z2181), (1, vI z2140), (0, .ref r0)]) rfl rfl rfl rfl ?_)
                          refine wp_of e196 c196_123 (rw_goto (p1 := 42) (by decide) ?_)
                          have := xgg_s (d := d) (a := z2140) (b := z2181) (i := v2335) (by omega)
                          exact wp_lc (ks := [4, 3, 2, 1, 0]) (wl_c rfl (wl_c rfl (wl_c rfl (wl_c rfl (wl_c rfl wl_n))))) rfl (by decide) (ih2334 _ (by omega) (v2335 + 1) 0 ⟨by omega, by omega⟩ ⟨by omega, by omega⟩ (by omega) (by omega) rfl)
                        · refine wp_of e196 c196_114 (rw_iconst (pc' := 115) rfl ?_)
                          refine wp_of e196 c196_115 (rw_goto (p1 := 119) (by decide) ?_)
                          refine wp_of e196 c196_119 (rw_istore_n (pc' := 120) (z := 1) (L' := [(3, vI 1), (4, vI v2335), (2, vI z2181), (1, vI z2140), (0, .ref r0)]) rfl rfl rfl ?_)
                          refine wp_of e196 c196_120 (rw_iinc (pc' := 123) (z := v2335) (L' := [(4, vI (v2335 + 1)), (3, vI 1), (2, vI z2181), (1, vI z2140), (0, .ref r0)]) rfl rfl rfl rfl ?_)
                          refine wp_of e196 c196_123 (rw_goto (p1 := 42) (by decide) ?_)
                          have := xgg_s (d := d) (a := z2140) (b := z2181) (i := v2335) (by omega)
                          exact wp_lc (ks := [4, 3, 2, 1, 0]) (wl_c rfl (wl_c rfl (wl_c rfl (wl_c rfl (wl_c rfl wl_n))))) rfl (by decide) (ih2334 _ (by omega) (v2335 + 1) 1 ⟨by omega, by omega⟩ ⟨by omega, by omega⟩ (by omega) (by omega) rfl)
                    · refine wp_of e196 c196_72 (rw_aload_n (pc' := 73) (v := .ref r0) rfl rfl rfl ?_)
                      refine wp_of e196 c196_73 (xg_K (pc' := 76) lf_9_166 w2179 g0 sh_42 (by decide) (by decide) rfl q2346 rfl ?_)
                      refine wp_of e196 c196_76 (xg_R (pc' := 79) lf_9_285 w2179 grp sh_54 (by decide) (by decide) ty_54_19 rfl rfl (fun r2480 q2481 g2482 => ?_))
                      refine wp_of e196 c196_79 (rw_iload (pc' := 81) (z := v2335) rfl rfl ?_)
                      refine wp_of e196 c196_81 (xa_I (so := 0) (pc' := 82) w2179 g2482 sh_65 (by decide) (ty_65 _) (by omega) (by omega) rfl (fun b2483 b2484 => ?_))
                      have h2485 : MA19 T H2175 rp (d 11) := (MA19_fr w2161 grp f2180 rfl (MA19_fr w2138 grp f2162 rfl (MA19_fr w2118 grp f2139 rfl (MA19_fr hW grp f2119 rfl h2103))))
                      have := MA_at h2485 q2481 (k := (v2335.toNat)) (by omega)
                      refine wp_of e196 c196_82 (rw_iload_n (pc' := 83) (z := z2181) rfl rfl ?_)
                      refine wp_of e196 c196_83 (rw_icmp_eq (p1 := 114) (p2 := 86) (by decide) rfl ⟨by omega, by omega⟩ ⟨by omega, by omega⟩ (fun c2486 => ?_) (fun c2486 => ?_))
                      · refine wp_of e196 c196_114 (rw_iconst (pc' := 115) rfl ?_)
                        refine wp_of e196 c196_115 (rw_goto (p1 := 119) (by decide) ?_)
                        refine wp_of e196 c196_119 (rw_istore_n (pc' := 120) (z := 1) (L' := [(3, vI 1), (4, vI v2335), (2, vI z2181), (1, vI z2140), (0, .ref r0)]) rfl rfl rfl ?_)
                        refine wp_of e196 c196_120 (rw_iinc (pc' := 123) (z := v2335) (L' := [(4, vI (v2335 + 1)), (3, vI 1), (2, vI z2181), (1, vI z2140), (0, .ref r0)]) rfl rfl rfl rfl ?_)
                        refine wp_of e196 c196_123 (rw_goto (p1 := 42) (by decide) ?_)
                        have := xgg_s (d := d) (a := z2140) (b := z2181) (i := v2335) (by omega)
                        exact wp_lc (ks := [4, 3, 2, 1, 0]) (wl_c rfl (wl_c rfl (wl_c rfl (wl_c rfl (wl_c rfl wl_n))))) rfl (by decide) (ih2334 _ (by omega) (v2335 + 1) 1 ⟨by omega, by omega⟩ ⟨by omega, by omega⟩ (by omega) (by omega) rfl)
                      · refine wp_of e196 c196_86 (rw_aload_n (pc' := 87) (v := .ref r0) rfl rfl rfl ?_)
                        refine wp_of e196 c196_87 (xg_K (pc' := 90) lf_9_166 w2179 g0 sh_42 (by decide) (by decide) rfl q2346 rfl ?_)
                        refine wp_of e196 c196_90 (xg_K (pc' := 93) lf_9_282 w2179 grp sh_54 (by decide) (by decide) rfl q2464 rfl ?_)
                        refine wp_of e196 c196_93 (rw_iload (pc' := 95) (z := v2335) rfl rfl ?_)
                        refine wp_of e196 c196_95 (xa_I (so := 0) (pc' := 96) w2179 g2465 sh_64 (by decide) (ty_64 _) (by omega) (by omega) rfl (fun b2487 b2488 => ?_))
                        have := MA_at h2468 q2464 (k := (v2335.toNat)) (by omega)
                        refine wp_of e196 c196_96 (rw_iload_n (pc' := 97) (z := z2181) rfl rfl ?_)
                        refine wp_of e196 c196_97 (rw_icmp_ne (p1 := 118) (p2 := 100) (by decide) rfl ⟨by omega, by omega⟩ ⟨by omega, by omega⟩ (fun c2489 => ?_) (fun c2489 => ?_))
                        · refine wp_of e196 c196_118 (rw_iconst (pc' := 119) rfl ?_)
                          refine wp_of e196 c196_119 (rw_istore_n (pc' := 120) (z := 0) (L' := [(3, vI 0), (4, vI v2335), (2, vI z2181), (1, vI z2140), (0, .ref r0)]) rfl rfl rfl ?_)
                          refine wp_of e196 c196_120 (rw_iinc (pc' := 123) (z := v2335) (L' := [(4, vI (v2335 + 1)), (3, vI 0), (2, vI z2181), (1, vI z2140), (0, .ref r0)]) rfl rfl rfl rfl ?_)
                          refine wp_of e196 c196_123 (rw_goto (p1 := 42) (by decide) ?_)
                          have := xgg_s (d := d) (a := z2140) (b := z2181) (i := v2335) (by omega)
                          exact wp_lc (ks := [4, 3, 2, 1, 0]) (wl_c rfl (wl_c rfl (wl_c rfl (wl_c rfl (wl_c rfl wl_n))))) rfl (by decide) (ih2334 _ (by omega) (v2335 + 1) 0 ⟨by omega, by omega⟩ ⟨by omega, by omega⟩ (by omega) (by omega) rfl)
                        · refine wp_of e196 c196_100 (rw_aload_n (pc' := 101) (v := .ref r0) rfl rfl rfl ?_)
                          refine wp_of e196 c196_101 (xg_K (pc' := 104) lf_9_166 w2179 g0 sh_42 (by decide) (by decide) rfl q2346 rfl ?_)
                          refine wp_of e196 c196_104 (xg_K (pc' := 107) lf_9_285 w2179 grp sh_54 (by decide) (by decide) rfl q2481 rfl ?_)
                          refine wp_of e196 c196_107 (rw_iload (pc' := 109) (z := v2335) rfl rfl ?_)
                          refine wp_of e196 c196_109 (xa_I (so := 0) (pc' := 110) w2179 g2482 sh_65 (by decide) (ty_65 _) (by omega) (by omega) rfl (fun b2490 b2491 => ?_))
                          have := MA_at h2485 q2481 (k := (v2335.toNat)) (by omega)
                          refine wp_of e196 c196_110 (rw_iload_n (pc' := 111) (z := z2140) rfl rfl ?_)
                          refine wp_of e196 c196_111 (rw_icmp_ne (p1 := 118) (p2 := 114) (by decide) rfl ⟨by omega, by omega⟩ ⟨by omega, by omega⟩ (fun c2492 => ?_) (fun c2492 => ?_))
                          · refine wp_of e196 c196_118 (rw_iconst (pc' := 119) rfl ?_)
                            refine wp_of e196 c196_119 (rw_istore_n (pc' := 120) (z := 0) (L' := [(3, vI 0), (4, vI v2335), (2, vI z2181), (1, vI z2140), (0, .ref r0)]) rfl rfl rfl ?_)
                            refine wp_of e196 c196_120 (rw_iinc (pc' := 123) (z := v2335) (L' := [(4, vI (v2335 + 1)), (3, vI 0), (2, vI z2181), (1, vI z2140), (0, .ref r0)]) rfl rfl rfl rfl ?_)
                            refine wp_of e196 c196_123 (rw_goto (p1 := 42) (by decide) ?_)
                            have := xgg_s (d := d) (a := z2140) (b := z2181) (i := v2335) (by omega)
                            exact wp_lc (ks := [4, 3, 2, 1, 0]) (wl_c rfl (wl_c rfl (wl_c rfl (wl_c rfl (wl_c rfl wl_n))))) rfl (by decide) (ih2334 _ (by omega) (v2335 + 1) 0 ⟨by omega, by omega⟩ ⟨by omega, by omega⟩ (by omega) (by omega) rfl)
                          · refine wp_of e196 c196_114 (rw_iconst (pc' := 115) rfl ?_)
                            refine wp_of e196 c196_115 (rw_goto (p1 := 119) (by decide) ?_)
                            refine wp_of e196 c196_119 (rw_istore_n (pc' := 120) (z := 1) (L' := [(3, vI 1), (4, vI v2335), (2, vI z2181), (1, vI z2140), (0, .ref r0)]) rfl rfl rfl ?_)
                            refine wp_of e196 c196_120 (rw_iinc (pc' := 123) (z := v2335) (L' := [(4, vI (v2335 + 1)), (3, vI 1), (2, vI z2181), (1, vI z2140), (0, .ref r0)]) rfl rfl rfl rfl ?_)
                            refine wp_of e196 c196_123 (rw_goto (p1 := 42) (by decide) ?_)
                            have := xgg_s (d := d) (a := z2140) (b := z2181) (i := v2335) (by omega)
                            exact wp_lc (ks := [4, 3, 2, 1, 0]) (wl_c rfl (wl_c rfl (wl_c rfl (wl_c rfl (wl_c rfl wl_n))))) rfl (by decide) (ih2334 _ (by omega) (v2335 + 1) 1 ⟨by omega, by omega⟩ ⟨by omega, by omega⟩ (by omega) (by omega) rfl)
            have := @xgg_0 d z2140 z2181
            exact wp_lc (ks := [4, 3, 2, 1, 0]) (wl_c rfl (wl_c rfl (wl_c rfl (wl_c rfl (wl_c rfl wl_n))))) rfl (by decide) (lp2332 _ 0 0 ⟨by omega, by omega⟩ ⟨by omega, by omega⟩ (by omega) (by omega) rfl)
          · refine wp_of e196 c196_33 (rw_iconst (pc' := 34) rfl ?_)
            refine wp_of e196 c196_34 (rw_goto (p1 := 38) (by decide) ?_)
            refine wp_of e196 c196_38 (rw_istore_n (pc' := 39) (z := 1) (L' := [(3, vI 1), (2, vI z2181), (1, vI z2140), (0, .ref r0)]) rfl rfl rfl ?_)
            refine wp_of e196 c196_39 (rw_iconst (pc' := 40) rfl ?_)
            refine wp_of e196 c196_40 (rw_istore (pc' := 42) (z := 0) (L' := [(4, vI 0), (3, vI 1), (2, vI z2181), (1, vI z2140), (0, .ref r0)]) rfl rfl rfl ?_)
            have k2526 : H2175 rp 4 = H rp 4 := ((f2180 rp 4 _ grp rfl).trans ((f2162 rp 4 _ grp rfl).trans ((f2139 rp 4 _ grp rfl).trans (f2119 rp 4 _ grp rfl))))
            have lp2521 : ∀ (n2522 : Nat) (v2524 : Int) (v2525 : Int), (0 ≤ v2524 ∧ v2524 ≤ 3) → (1 ≤ v2525 ∧ v2525 ≤ 1) → (v2525 = xgg d z2140 z2181 v2524) → (v2524 ≤ d 0 4) → (3 - v2524).toNat = n2522 → wp kt 5 196 42 [(4, vI v2524), (3, vI v2525), (2, vI z2181), (1, vI z2140), (0, .ref r0)] [] T H2175 (uq_196_k r0 rp rb B n q d T H) := by
              intro n2522
              induction n2522 using Nat.strongRecOn with
              | _ n2522 ih2523 =>
                intro v2524 v2525 b2529 b2530 x2531 x2532 m2533
                refine wp_of e196 c196_42 (rw_iload (pc' := 44) (z := v2524) rfl rfl ?_)
                refine wp_of e196 c196_44 (rw_aload_n (pc' := 45) (v := .ref r0) rfl rfl rfl ?_)
                have k2534 : H2175 r0 4 = H2157 r0 4 := (f2180 r0 4 _ g0 rfl)
                have q2535 : H2175 r0 4 = (rp : Int) := k2534.trans q2171
                refine wp_of e196 c196_45 (xg_K (pc' := 48) lf_9_166 w2179 g0 sh_42 (by decide) (by decide) rfl q2535 rfl ?_)
                refine wp_of e196 c196_48 (xg_I (pc' := 51) lf_9_276 w2179 grp sh_54 (by decide) (by decide) ty_54_4 rfl rfl (fun b2536 b2537 => ?_))
                refine wp_of e196 c196_51 (rw_icmp_ge (p1 := 126) (p2 := 54) (by decide) rfl ⟨by omega, by omega⟩ ⟨by omega, by omega⟩ (fun c2538 => ?_) (fun c2538 => ?_))
                · have _g := @xac_g d z2140 z2181 v2524 (by omega)
                  have _c : xac d (xwho B n (xN B n q) d) (xwho B n (xN B n (xN B n (xN B n q))) d) = xac d z2140 z2181 := by rw [show xwho B n (xN B n q) d = z2140 by omega, show xwho B n (xN B n (xN B n (xN B n q))) d = z2181 by omega]
                  refine wp_of e196 c196_126 (rw_iload_n (pc' := 127) (z := v2525) rfl rfl ?_)
                  refine wp_of e196 c196_127 (rw_if_eq (p1 := 135) (p2 := 130) (by decide) rfl ⟨by omega, by omega⟩ (fun c2539 => ?_) (fun c2539 => ?_))
                  · exfalso
                    omega
                  · refine wp_of e196 c196_130 (rw_aload_n (pc' := 131) (v := .ref r0) rfl rfl rfl ?_)
                    refine wp_of e196 c196_131 (rw_iconst (pc' := 132) rfl ?_)
                    refine wp_of e196 c196_132 (xc_V (pc' := 135) (r := r0) (as := [vI 3]) (st := []) (lm_9_121) rfl rfl (Nat.le_of_ble_eq_true rfl) w2179 g0 sh_42 (by decide) rfl (by decide) (u_181_k (B := B) (n := n) (q := ((xN B n ((xN B n ((xN B n q))))))) w2179 g0 ⟨by omega, by omega⟩ (by omega) a2189) (fun R2540 T2541 H2542 p2543 => ?_))
                    obtain ⟨e2544, w2546, f2547, e2545, p2548⟩ := p2543
                    subst e2544
                    subst e2545
                    have f2550 := f2193.tr f2547 rfl
                    show wp _ _ 196 135 [(4, vI v2524), (3, vI v2525), (2, vI z2181), (1, vI z2140), (0, .ref r0)] [] _ H2542 _
                    have u2551 := RO_k p2548
                    refine wp_of e196 c196_135 (rw_aload_n (pc' := 136) (v := .ref r0) rfl rfl rfl ?_)
                    refine wp_of e196 c196_136 (xc_V (pc' := 139) (r := r0) (as := []) (st := []) (lm_9_118) rfl rfl (Nat.le_of_ble_eq_true rfl) w2546 g0 sh_42 (by decide) rfl (by decide) (u_172_o (fo := 3) (po := (((xN B n ((xN B n ((xN B n q)))))))) w2546 g0 p2548) (fun R2552 T2553 H2554 p2555 => ?_))
                    obtain ⟨e2556, e2558, e2557, p2559⟩ := p2555
                    subst e2556
                    subst e2557
                    subst e2558
                    show wp _ _ 196 139 [(4, vI v2524), (3, vI v2525), (2, vI z2181), (1, vI z2140), (0, .ref r0)] [] _ H2542 _
                    have u2561 := RO_k p2559
                    refine wp_of e196 c196_139 (rw_aload_n (pc' := 140) (v := .ref r0) rfl rfl rfl ?_)
                    refine wp_of e196 c196_140 (xg_I (pc' := 143) lf_9_75 w2546 g0 sh_42 (by decide) (by decide) ty_42_9 rfl rfl (fun b2562 b2563 => ?_))
                    refine wp_of e196 c196_143 (rw_iconst (pc' := 144) rfl ?_)
                    refine wp_of e196 c196_144 (rw_icmp_ne (p1 := 148) (p2 := 147) (by decide) rfl ⟨by omega, by omega⟩ ⟨by omega, by omega⟩ (fun c2564 => ?_) (fun c2564 => ?_))
                    · exfalso
                      omega
                    · have o2565 : (xl3 B n q d) = (xac d (xwho B n (xN B n q) d) (xwho B n (xN B n (xN B n (xN B n q))) d), (xN B n (xN B n (xN B n q))), (xN B n (xN B n (xN B n q)))) := by
                        unfold xl3 xap
                        repeat first | rw [xs_0 (by omega)] | rw [xs_1 (by omega)] | rw [if_pos (by omega)] | rw [if_neg (by omega)]
                        first | done | rfl | assumption | (exfalso; omega) | (refine Prod.ext ?_ (Prod.ext ?_ ?_) <;> (try dsimp only) <;> omega)
                      have o2565a : ((xl3 B n q d)).1 = xac d (xwho B n (xN B n q) d) (xwho B n (xN B n (xN B n (xN B n q))) d) := by rw [o2565]
                      have o2565b : ((xl3 B n q d)).2.1 = (xN B n (xN B n (xN B n q))) := by rw [o2565]
                      have o2565c : ((xl3 B n q d)).2.2 = (xN B n (xN B n (xN B n q))) := by rw [o2565]
                      exact wp_return e196 c196_147 rfl ⟨rfl, w2546, f2550, rfl, (Or.inr ⟨by omega, RO_eq p2559 (by omega) (by omega)⟩)⟩
                · refine wp_of e196 c196_54 (rw_iload_n (pc' := 55) (z := v2525) rfl rfl ?_)
                  refine wp_of e196 c196_55 (rw_if_ne (p1 := 114) (p2 := 58) (by decide) rfl ⟨by omega, by omega⟩ (fun c2566 => ?_) (fun c2566 => ?_))
                  · refine wp_of e196 c196_114 (rw_iconst (pc' := 115) rfl ?_)
                    refine wp_of e196 c196_115 (rw_goto (p1 := 119) (by decide) ?_)
                    refine wp_of e196 c196_119 (rw_istore_n (pc' := 120) (z := 1) (L' := [(3, vI 1), (4, vI v2524), (2, vI z2181), (1, vI z2140), (0, .ref r0)]) rfl rfl rfl ?_)
                    refine wp_of e196 c196_120 (rw_iinc (pc' := 123) (z := v2524) (L' := [(4, vI (v2524 + 1)), (3, vI 1), (2, vI z2181), (1, vI z2140), (0, .ref r0)]) rfl rfl rfl rfl ?_)
                    refine wp_of e196 c196_123 (rw_goto (p1 := 42) (by decide) ?_)
                    have := xgg_s (d := d) (a := z2140) (b := z2181) (i := v2524) (by omega)
                    exact wp_lc (ks := [4, 3, 2, 1, 0]) (wl_c rfl (wl_c rfl (wl_c rfl (wl_c rfl (wl_c rfl wl_n))))) rfl (by decide) (ih2523 _ (by omega) (v2524 + 1) 1 ⟨by omega, by omega⟩ ⟨by omega, by omega⟩ (by omega) (by omega) rfl)
                  · exfalso
                    omega
            have := @xgg_0 d z2140 z2181
            exact wp_lc (ks := [4, 3, 2, 1, 0]) (wl_c rfl (wl_c rfl (wl_c rfl (wl_c rfl (wl_c rfl wl_n))))) rfl (by decide) (lp2521 _ 0 1 ⟨by omega, by omega⟩ ⟨by omega, by omega⟩ (by omega) (by omega) rfl)
        · have f2567 := f2168.tr f2180 rfl
          show wp _ _ 196 27 [(1, vI z2140), (0, .ref r0)] [vI z2181] _ H2175 _
          have u2568 := RO_k a2192
          refine wp_of e196 c196_27 (rw_istore_n (pc' := 28) (z := z2181) (L' := [(2, vI z2181), (1, vI z2140), (0, .ref r0)]) rfl rfl rfl ?_)
          refine wp_of e196 c196_28 (rw_iload_n (pc' := 29) (z := z2140) rfl rfl ?_)
          refine wp_of e196 c196_29 (rw_iload_n (pc' := 30) (z := z2181) rfl rfl ?_)
          refine wp_of e196 c196_30 (rw_icmp_ne (p1 := 37) (p2 := 33) (by decide) rfl ⟨by omega, by omega⟩ ⟨by omega, by omega⟩ (fun c2569 => ?_) (fun c2569 => ?_))
          · refine wp_of e196 c196_37 (rw_iconst (pc' := 38) rfl ?_)
            refine wp_of e196 c196_38 (rw_istore_n (pc' := 39) (z := 0) (L' := [(3, vI 0), (2, vI z2181), (1, vI z2140), (0, .ref r0)]) rfl rfl rfl ?_)
            refine wp_of e196 c196_39 (rw_iconst (pc' := 40) rfl ?_)
            refine wp_of e196 c196_40 (rw_istore (pc' := 42) (z := 0) (L' := [(4, vI 0), (3, vI 0), (2, vI z2181), (1, vI z2140), (0, .ref r0)]) rfl rfl rfl ?_)
            have lp2694 : ∀ (n2695 : Nat) (v2697 : Int) (v2698 : Int), (0 ≤ v2697 ∧ v2697 ≤ 3) → (0 ≤ v2698 ∧ v2698 ≤ 1) → (3 - v2697).toNat = n2695 → wp kt 5 196 42 [(4, vI v2697), (3, vI v2698), (2, vI z2181), (1, vI z2140), (0, .ref r0)] [] T H2175 (uq_196_k r0 rp rb B n q d T H) := by
              intro n2695
              induction n2695 using Nat.strongRecOn with
              | _ n2695 ih2696 =>
                intro v2697 v2698 b2701 b2702 m2703
                refine wp_of e196 c196_42 (rw_iload (pc' := 44) (z := v2697) rfl rfl ?_)
                refine wp_of e196 c196_44 (rw_aload_n (pc' := 45) (v := .ref r0) rfl rfl rfl ?_)
                have k2704 : H2175 r0 4 = H2157 r0 4 := (f2180 r0 4 _ g0 rfl)
                have q2705 : H2175 r0 4 = (rp : Int) := k2704.trans q2171
                refine wp_of e196 c196_45 (xg_K (pc' := 48) lf_9_166 w2179 g0 sh_42 (by decide) (by decide) rfl q2705 rfl ?_)
                have k2706 : H2175 rp 4 = H rp 4 := ((f2180 rp 4 _ grp rfl).trans ((f2162 rp 4 _ grp rfl).trans ((f2139 rp 4 _ grp rfl).trans (f2119 rp 4 _ grp rfl))))
                refine wp_of e196 c196_48 (xg_I (pc' := 51) lf_9_276 w2179 grp sh_54 (by decide) (by decide) ty_54_4 rfl rfl (fun b2707 b2708 => ?_))
                refine wp_of e196 c196_51 (rw_icmp_ge (p1 := 126) (p2 := 54) (by decide) rfl ⟨by omega, by omega⟩ ⟨by omega, by omega⟩ (fun c2709 => ?_) (fun c2709 => ?_))
                · refine wp_of e196 c196_126 (rw_iload_n (pc' := 127) (z := v2698) rfl rfl ?_)
                  refine wp_of e196 c196_127 (rw_if_eq (p1 := 135) (p2 := 130) (by decide) rfl ⟨by omega, by omega⟩ (fun c2710 => ?_) (fun c2710 => ?_))
                  · refine wp_of e196 c196_135 (rw_aload_n (pc' := 136) (v := .ref r0) rfl rfl rfl ?_)
                    refine wp_of e196 c196_136 (xc_V (pc' := 139) (r := r0) (as := []) (st := []) (lm_9_118) rfl rfl (Nat.le_of_ble_eq_true rfl) w2179 g0 sh_42 (by decide) rfl (by decide) (u_172_o (fo := (xkn B n ((xN B n ((xN B n ((xN B n q)))))) d)) (po := (((xN B n ((xN B n ((xN B n q)))))))) w2179 g0 a2192) (fun R2711 T2712 H2713 p2714 => ?_))
                    obtain ⟨e2715, e2717, e2716, p2718⟩ := p2714
                    subst e2715
                    subst e2716
                    subst e2717
                    show wp _ _ 196 139 [(4, vI v2697), (3, vI v2698), (2, vI z2181), (1, vI z2140), (0, .ref r0)] [] _ H2175 _
                    have u2720 := RO_k p2718
                    refine wp_of e196 c196_139 (rw_aload_n (pc' := 140) (v := .ref r0) rfl rfl rfl ?_)
                    refine wp_of e196 c196_140 (xg_I (pc' := 143) lf_9_75 w2179 g0 sh_42 (by decide) (by decide) ty_42_9 rfl rfl (fun b2721 b2722 => ?_))
                    refine wp_of e196 c196_143 (rw_iconst (pc' := 144) rfl ?_)
                    refine wp_of e196 c196_144 (rw_icmp_ne (p1 := 148) (p2 := 147) (by decide) rfl ⟨by omega, by omega⟩ ⟨by omega, by omega⟩ (fun c2723 => ?_) (fun c2723 => ?_))
                    · exfalso
                      omega
                    · have o2724 : (xl3 B n q d) = (xkn B n ((xN B n ((xN B n ((xN B n q)))))) d, ((xN B n ((xN B n ((xN B n q)))))), ((xN B n ((xN B n ((xN B n q))))))) := by
                        unfold xl3 xap
                        repeat first | rw [xs_0 (by omega)] | rw [xs_1 (by omega)] | rw [if_pos (by omega)] | rw [if_neg (by omega)]
                        first | done | rfl | assumption | (exfalso; omega) | (refine Prod.ext ?_ (Prod.ext ?_ ?_) <;> (try dsimp only) <;> omega)
                      have o2724a : ((xl3 B n q d)).1 = xkn B n ((xN B n ((xN B n ((xN B n q)))))) d := by rw [o2724]
                      have o2724b : ((xl3 B n q d)).2.1 = ((xN B n ((xN B n ((xN B n q)))))) := by rw [o2724]
                      have o2724c : ((xl3 B n q d)).2.2 = ((xN B n ((xN B n ((xN B n q)))))) := by rw [o2724]
                      exact wp_return e196 c196_147 rfl ⟨rfl, w2179, f2567, rfl, (Or.inr ⟨by omega, RO_eq p2718 (by omega) (by omega)⟩)⟩
                  · refine wp_of e196 c196_130 (rw_aload_n (pc' := 131) (v := .ref r0) rfl rfl rfl ?_)
                    refine wp_of e196 c196_131 (rw_iconst (pc' := 132) rfl ?_)
                    refine wp_of e196 c196_132 (xc_V (pc' := 135) (r := r0) (as := [vI 3]) (st := []) (lm_9_121) rfl rfl (Nat.le_of_ble_eq_true rfl) w2179 g0 sh_42 (by decide) rfl (by decide) (u_181_o (fo := (xkn B n ((xN B n ((xN B n ((xN B n q)))))) d)) (po := (((xN B n ((xN B n ((xN B n q)))))))) w2179 g0 ⟨by omega, by omega⟩ a2192) (fun R2725 T2726 H2727 p2728 => ?_))
                    obtain ⟨e2729, e2731, e2730, p2732⟩ := p2728
                    subst e2729
                    subst e2730
                    subst e2731
                    show wp _ _ 196 135 [(4, vI v2697), (3, vI v2698), (2, vI z2181), (1, vI z2140), (0, .ref r0)] [] _ H2175 _
                    have u2734 := RO_k p2732
                    refine wp_of e196 c196_135 (rw_aload_n (pc' := 136) (v := .ref r0) rfl rfl rfl ?_)
                    refine wp_of e196 c196_136 (xc_V (pc' := 139) (r := r0) (as := []) (st := []) (lm_9_118) rfl rfl (Nat.le_of_ble_eq_true rfl) w2179 g0 sh_42 (by decide) rfl (by decide) (u_172_o (fo := (xkn B n ((xN B n ((xN B n ((xN B n q)))))) d)) (po := (((xN B n ((xN B n ((xN B n q)))))))) w2179 g0 p2732) (fun R2735 T2736 H2737 p2738 => ?_))
                    obtain ⟨e2739, e2741, e2740, p2742⟩ := p2738
                    subst e2739
                    subst e2740
                    subst e2741
                    show wp _ _ 196 139 [(4, vI v2697), (3, vI v2698), (2, vI z2181), (1, vI z2140), (0, .ref r0)] [] _ H2175 _
                    have u2744 := RO_k p2742
                    refine wp_of e196 c196_139 (rw_aload_n (pc' := 140) (v := .ref r0) rfl rfl rfl ?_)
                    refine wp_of e196 c196_140 (xg_I (pc' := 143) lf_9_75 w2179 g0 sh_42 (by decide) (by decide) ty_42_9 rfl rfl (fun b2745 b2746 => ?_))
                    refine wp_of e196 c196_143 (rw_iconst (pc' := 144) rfl ?_)
                    refine wp_of e196 c196_144 (rw_icmp_ne (p1 := 148) (p2 := 147) (by decide) rfl ⟨by omega, by omega⟩ ⟨by omega, by omega⟩ (fun c2747 => ?_) (fun c2747 => ?_))
                    · exfalso
                      omega
                    · have o2748 : (xl3 B n q d) = (xkn B n ((xN B n ((xN B n ((xN B n q)))))) d, ((xN B n ((xN B n ((xN B n q)))))), ((xN B n ((xN B n ((xN B n q))))))) := by
                        unfold xl3 xap
                        repeat first | rw [xs_0 (by omega)] | rw [xs_1 (by omega)] | rw [if_pos (by omega)] | rw [if_neg (by omega)]
                        first | done | rfl | assumption | (exfalso; omega) | (refine Prod.ext ?_ (Prod.ext ?_ ?_) <;> (try dsimp only) <;> omega)
                      have o2748a : ((xl3 B n q d)).1 = xkn B n ((xN B n ((xN B n ((xN B n q)))))) d := by rw [o2748]
                      have o2748b : ((xl3 B n q d)).2.1 = ((xN B n ((xN B n ((xN B n q)))))) := by rw [o2748]
                      have o2748c : ((xl3 B n q d)).2.2 = ((xN B n ((xN B n ((xN B n q)))))) := by rw [o2748]
                      exact wp_return e196 c196_147 rfl ⟨rfl, w2179, f2567, rfl, (Or.inr ⟨by omega, RO_eq p2742 (by omega) (by omega)⟩)⟩
                · refine wp_of e196 c196_54 (rw_iload_n (pc' := 55) (z := v2698) rfl rfl ?_)
                  refine wp_of e196 c196_55 (rw_if_ne (p1 := 114) (p2 := 58) (by decide) rfl ⟨by omega, by omega⟩ (fun c2749 => ?_) (fun c2749 => ?_))
                  · refine wp_of e196 c196_114 (rw_iconst (pc' := 115) rfl ?_)
                    refine wp_of e196 c196_115 (rw_goto (p1 := 119) (by decide) ?_)
                    refine wp_of e196 c196_119 (rw_istore_n (pc' := 120) (z := 1) (L' := [(3, vI 1), (4, vI v2697), (2, vI z2181), (1, vI z2140), (0, .ref r0)]) rfl rfl rfl ?_)
                    refine wp_of e196 c196_120 (rw_iinc (pc' := 123) (z := v2697) (L' := [(4, vI (v2697 + 1)), (3, vI 1), (2, vI z2181), (1, vI z2140), (0, .ref r0)]) rfl rfl rfl rfl ?_)
                    refine wp_of e196 c196_123 (rw_goto (p1 := 42) (by decide) ?_)
                    exact wp_lc (ks := [4, 3, 2, 1, 0]) (wl_c rfl (wl_c rfl (wl_c rfl (wl_c rfl (wl_c rfl wl_n))))) rfl (by decide) (ih2696 _ (by omega) (v2697 + 1) 1 ⟨by omega, by omega⟩ ⟨by omega, by omega⟩ rfl)
                  · refine wp_of e196 c196_58 (rw_aload_n (pc' := 59) (v := .ref r0) rfl rfl rfl ?_)
                    refine wp_of e196 c196_59 (xg_K (pc' := 62) lf_9_166 w2179 g0 sh_42 (by decide) (by decide) rfl q2705 rfl ?_)
                    refine wp_of e196 c196_62 (xg_R (pc' := 65) lf_9_282 w2179 grp sh_54 (by decide) (by decide) ty_54_18 rfl rfl (fun r2750 q2751 g2752 => ?_))
                    refine wp_of e196 c196_65 (rw_iload (pc' := 67) (z := v2697) rfl rfl ?_)
                    refine wp_of e196 c196_67 (xa_I (so := 0) (pc' := 68) w2179 g2752 sh_64 (by decide) (ty_64 _) (by omega) (by omega) rfl (fun b2753 b2754 => ?_))
                    have h2755 : MA18 T H2175 rp (d 10) := (MA18_fr w2161 grp f2180 rfl (MA18_fr w2138 grp f2162 rfl (MA18_fr w2118 grp f2139 rfl (MA18_fr hW grp f2119 rfl h2102))))
                    have := MA_at h2755 q2751 (k := (v2697.toNat)) (by omega)
                    refine wp_of e196 c196_68 (rw_iload_n (pc' := 69) (z := z2140) rfl rfl ?_)
                    refine wp_of e196 c196_69 (rw_icmp_ne (p1 := 86) (p2 := 72) (by decide) rfl ⟨by omega, by omega⟩ ⟨by omega, by omega⟩ (fun c2756 => ?_) (fun c2756 => ?_))
                    · refine wp_of e196 c196_86 (rw_aload_n (pc' := 87) (v := .ref r0) rfl rfl rfl ?_)
                      refine wp_of e196 c196_87 (xg_K (pc' := 90) lf_9_166 w2179 g0 sh_42 (by decide) (by decide) rfl q2705 rfl ?_)
                      refine wp_of e196 c196_90 (xg_K (pc' := 93) lf_9_282 w2179 grp sh_54 (by decide) (by decide) rfl q2751 rfl ?_)
                      refine wp_of e196 c196_93 (rw_iload (pc' := 95) (z := v2697) rfl rfl ?_)
                      refine wp_of e196 c196_95 (xa_I (so := 0) (pc' := 96) w2179 g2752 sh_64 (by decide) (ty_64 _) (by omega) (by omega) rfl (fun b2757 b2758 => ?_))
                      have := MA_at h2755 q2751 (k := (v2697.toNat)) (by omega)
                      refine wp_of e196 c196_96 (rw_iload_n (pc' := 97) (z := z2181) rfl rfl ?_)
                      refine wp_of e196 c196_97 (rw_icmp_ne (p1 := 118) (p2 := 100) (by decide) rfl ⟨by omega, by omega⟩ ⟨by omega, by omega⟩ (fun c2759 => ?_) (fun c2759 => ?_))
                      · refine wp_of e196 c196_118 (rw_iconst (pc' := 119) rfl ?_)
                        refine wp_of e196 c196_119 (rw_istore_n (pc' := 120) (z := 0) (L' := [(3, vI 0), (4, vI v2697), (2, vI z2181), (1, vI z2140), (0, .ref r0)]) rfl rfl rfl ?_)
                        refine wp_of e196 c196_120 (rw_iinc (pc' := 123) (z := v2697) (L' := [(4, vI (v2697 + 1)), (3, vI 0), (2, vI z2181), (1, vI z2140), (0, .ref r0)]) rfl rfl rfl rfl ?_)
                        refine wp_of e196 c196_123 (rw_goto (p1 := 42) (by decide) ?_)
                        exact wp_lc (ks := [4, 3, 2, 1, 0]) (wl_c rfl (wl_c rfl (wl_c rfl (wl_c rfl (wl_c rfl wl_n))))) rfl (by decide) (ih2696 _ (by omega) (v2697 + 1) 0 ⟨by omega, by omega⟩ ⟨by omega, by omega⟩ rfl)
                      · refine wp_of e196 c196_100 (rw_aload_n (pc' := 101) (v := .ref r0) rfl rfl rfl ?_)
                        refine wp_of e196 c196_101 (xg_K (pc' := 104) lf_9_166 w2179 g0 sh_42 (by decide) (by decide) rfl q2705 rfl ?_)
                        refine wp_of e196 c196_104 (xg_R (pc' := 107) lf_9_285 w2179 grp sh_54 (by decide) (by decide) ty_54_19 rfl rfl (fun r2760 q2761 g2762 => ?_))
                        refine wp_of e196 c196_107 (rw_iload (pc' := 109) (z := v2697) rfl rfl ?_)
                        refine wp_of e196 c196_109 (xa_I (so := 0) (pc' := 110) w2179 g2762 sh_65 (by decide) (ty_65 _) (by omega) (by omega) rfl (fun b2763 b2764 => ?_))
                        have h2765 : MA19 T H2175 rp (d 11) := (MA19_fr w2161 grp f2180 rfl (MA19_fr w2138 grp f2162 rfl (MA19_fr w2118 grp f2139 rfl (MA19_fr hW grp f2119 rfl h2103))))
                        have := MA_at h2765 q2761 (k := (v2697.toNat)) (by omega)
                        refine wp_of e196 c196_110 (rw_iload_n (pc' := 111) (z := z2140) rfl rfl ?_)
                        refine wp_of e196 c196_111 (rw_icmp_ne (p1 := 118) (p2 := 114) (by decide) rfl ⟨by omega, by omega⟩ ⟨by omega, by omega⟩ (fun c2766 => ?_) (fun c2766 => ?_))
                        · refine wp_of e196 c196_118 (rw_iconst (pc' := 119) rfl ?_)
                          refine wp_of e196 c196_119 (rw_istore_n (pc' := 120) (z := 0) (L' := [(3, vI 0), (4, vI v2697), (2, vI z2181), (1, vI z2140), (0, .ref r0)]) rfl rfl rfl ?_)
                          refine wp_of e196 c196_120 (rw_iinc (pc' := 123) (z := v2697) (L' := [(4, vI (v2697 + 1)), (3, vI 0), (2, vI z2181), (1, vI z2140), (0, .ref r0)]) rfl rfl rfl rfl ?_)
                          refine wp_of e196 c196_123 (rw_goto (p1 := 42) (by decide) ?_)
                          exact wp_lc (ks := [4, 3, 2, 1, 0]) (wl_c rfl (wl_c rfl (wl_c rfl (wl_c rfl (wl_c rfl wl_n))))) rfl (by decide) (ih2696 _ (by omega) (v2697 + 1) 0 ⟨by omega, by omega⟩ ⟨by omega, by omega⟩ rfl)
                        · refine wp_of e196 c196_114 (rw_iconst (pc' := 115) rfl ?_)
                          refine wp_of e196 c196_115 (rw_goto (p1 := 119) (by decide) ?_)
                          refine wp_of e196 c196_119 (rw_istore_n (pc' := 120) (z := 1) (L' := [(3, vI 1), (4, vI v2697), (2, vI z2181), (1, vI z2140), (0, .ref r0)]) rfl rfl rfl ?_)
                          refine wp_of e196 c196_120 (rw_iinc (pc' := 123) (z := v2697) (L' := [(4, vI (v2697 + 1)), (3, vI 1), (2, vI z2181), (1, vI z2140), (0, .ref r0)]) rfl rfl rfl rfl ?_)
                          refine wp_of e196 c196_123 (rw_goto (p1 := 42) (by decide) ?_)
                          exact wp_lc (ks := [4, 3, 2, 1, 0]) (wl_c rfl (wl_c rfl (wl_c rfl (wl_c rfl (wl_c rfl wl_n))))) rfl (by decide) (ih2696 _ (by omega) (v2697 + 1) 1 ⟨by omega, by omega⟩ ⟨by omega, by omega⟩ rfl)
                    · refine wp_of e196 c196_72 (rw_aload_n (pc' := 73) (v := .ref r0) rfl rfl rfl ?_)
                      refine wp_of e196 c196_73 (xg_K (pc' := 76) lf_9_166 w2179 g0 sh_42 (by decide) (by decide) rfl q2705 rfl ?_)
                      refine wp_of e196 c196_76 (xg_R (pc' := 79) lf_9_285 w2179 grp sh_54 (by decide) (by decide) ty_54_19 rfl rfl (fun r2767 q2768 g2769 => ?_))
                      refine wp_of e196 c196_79 (rw_iload (pc' := 81) (z := v2697) rfl rfl ?_)
                      refine wp_of e196 c196_81 (xa_I (so := 0) (pc' := 82) w2179 g2769 sh_65 (by decide) (ty_65 _) (by omega) (by omega) rfl (fun b2770 b2771 => ?_))
                      have h2772 : MA19 T H2175 rp (d 11) := (MA19_fr w2161 grp f2180 rfl (MA19_fr w2138 grp f2162 rfl (MA19_fr w2118 grp f2139 rfl (MA19_fr hW grp f2119 rfl h2103))))
                      have := MA_at h2772 q2768 (k := (v2697.toNat)) (by omega)
                      refine wp_of e196 c196_82 (rw_iload_n (pc' := 83) (z := z2181) rfl rfl ?_)
                      refine wp_of e196 c196_83 (rw_icmp_eq (p1 := 114) (p2 := 86) (by decide) rfl ⟨by omega, by omega⟩ ⟨by omega, by omega⟩ (fun c2773 => ?_) (fun c2773 => ?_))
                      · refine wp_of e196 c196_114 (rw_iconst (pc' := 115) rfl ?_)
                        refine wp_of e196 c196_115 (rw_goto (p1 := 119) (by decide) ?_)
                        refine wp_of e196 c196_119 (rw_istore_n (pc' := 120) (z := 1) (L' := [(3, vI 1), (4, vI v2697), (2, vI z2181), (1, vI z2140), (0, .ref r0)]) rfl rfl rfl ?_)
                        refine wp_of e196 c196_120 (rw_iinc (pc' := 123) (z := v2697) (L' := [(4, vI (v2697 + 1)), (3, vI 1), (2, vI z2181), (1, vI z2140), (0, .ref r0)]) rfl rfl rfl rfl ?_)
                        refine wp_of e196 c196_123 (rw_goto (p1 := 42) (by decide) ?_)
                        exact wp_lc (ks := [4, 3, 2, 1, 0]) (wl_c rfl (wl_c rfl (wl_c rfl (wl_c rfl (wl_c rfl wl_n))))) rfl (by decide) (ih2696 _ (by omega) (v2697 + 1) 1 ⟨by omega, by omega⟩ ⟨by omega, by omega⟩ rfl)
                      · refine wp_of e196 c196_86 (rw_aload_n (pc' := 87) (v := .ref r0) rfl rfl rfl ?_)
                        refine wp_of e196 c196_87 (xg_K (pc' := 90) lf_9_166 w2179 g0 sh_42 (by decide) (by decide) rfl q2705 rfl ?_)
                        refine wp_of e196 c196_90 (xg_K (pc' := 93) lf_9_282 w2179 grp sh_54 (by decide) (by decide) rfl q2751 rfl ?_)
                        refine wp_of e196 c196_93 (rw_iload (pc' := 95) (z := v2697) rfl rfl ?_)
                        refine wp_of e196 c196_95 (xa_I (so := 0) (pc' := 96) w2179 g2752 sh_64 (by decide) (ty_64 _) (by omega) (by omega) rfl (fun b2774 b2775 => ?_))
                        have := MA_at h2755 q2751 (k := (v2697.toNat)) (by omega)
                        refine wp_of e196 c196_96 (rw_iload_n (pc' := 97) (z := z2181) rfl rfl ?_)
                        refine wp_of e196 c196_97 (rw_icmp_ne (p1 := 118) (p2 := 100) (by decide) rfl ⟨by omega, by omega⟩ ⟨by omega, by omega⟩ (fun c2776 => ?_) (fun c2776 => ?_))
                        · refine wp_of e196 c196_118 (rw_iconst (pc' := 119) rfl ?_)
                          refine wp_of e196 c196_119 (rw_istore_n (pc' := 120) (z := 0) (L' := [(3, vI 0), (4, vI v2697), (2, vI z2181), (1, vI z2140), (0, .ref r0)]) rfl rfl rfl ?_)
                          refine wp_of e196 c196_120 (rw_iinc (pc' := 123) (z := v2697) (L' := [(4, vI (v2697 + 1)), (3, vI 0), (2, vI z2181), (1, vI z2140), (0, .ref r0)]) rfl rfl rfl rfl ?_)
                          refine wp_of e196 c196_123 (rw_goto (p1 := 42) (by decide) ?_)
                          exact wp_lc (ks := [4, 3, 2, 1, 0]) (wl_c rfl (wl_c rfl (wl_c rfl (wl_c rfl (wl_c rfl wl_n))))) rfl (by decide) (ih2696 _ (by omega) (v2697 + 1) 0 ⟨by omega, by omega⟩ ⟨by omega, by omega⟩ rfl)
                        · exfalso
                          omega
            exact wp_lc (ks := [4, 3, 2, 1, 0]) (wl_c rfl (wl_c rfl (wl_c rfl (wl_c rfl (wl_c rfl wl_n))))) rfl (by decide) (lp2694 _ 0 0 ⟨by omega, by omega⟩ ⟨by omega, by omega⟩ rfl)
          · refine wp_of e196 c196_33 (rw_iconst (pc' := 34) rfl ?_)
            refine wp_of e196 c196_34 (rw_goto (p1 := 38) (by decide) ?_)
            refine wp_of e196 c196_38 (rw_istore_n (pc' := 39) (z := 1) (L' := [(3, vI 1), (2, vI z2181), (1, vI z2140), (0, .ref r0)]) rfl rfl rfl ?_)
            refine wp_of e196 c196_39 (rw_iconst (pc' := 40) rfl ?_)
            refine wp_of e196 c196_40 (rw_istore (pc' := 42) (z := 0) (L' := [(4, vI 0), (3, vI 1), (2, vI z2181), (1, vI z2140), (0, .ref r0)]) rfl rfl rfl ?_)
            have lp2805 : ∀ (n2806 : Nat) (v2808 : Int) (v2809 : Int), (0 ≤ v2808 ∧ v2808 ≤ 3) → (1 ≤ v2809 ∧ v2809 ≤ 1) → (3 - v2808).toNat = n2806 → wp kt 5 196 42 [(4, vI v2808), (3, vI v2809), (2, vI z2181), (1, vI z2140), (0, .ref r0)] [] T H2175 (uq_196_k r0 rp rb B n q d T H) := by
              intro n2806
              induction n2806 using Nat.strongRecOn with
              | _ n2806 ih2807 =>
                intro v2808 v2809 b2812 b2813 m2814
                refine wp_of e196 c196_42 (rw_iload (pc' := 44) (z := v2808) rfl rfl ?_)
                refine wp_of e196 c196_44 (rw_aload_n (pc' := 45) (v := .ref r0) rfl rfl rfl ?_)
                have k2815 : H2175 r0 4 = H2157 r0 4 := (f2180 r0 4 _ g0 rfl)
                have q2816 : H2175 r0 4 = (rp : Int) := k2815.trans q2171
                refine wp_of e196 c196_45 (xg_K (pc' := 48) lf_9_166 w2179 g0 sh_42 (by decide) (by decide) rfl q2816 rfl ?_)
                have k2817 : H2175 rp 4 = H rp 4 := ((f2180 rp 4 _ grp rfl).trans ((f2162 rp 4 _ grp rfl).trans ((f2139 rp 4 _ grp rfl).trans (f2119 rp 4 _ grp rfl))))
                refine wp_of e196 c196_48 (xg_I (pc' := 51) lf_9_276 w2179 grp sh_54 (by decide) (by decide) ty_54_4 rfl rfl (fun b2818 b2819 => ?_))
                refine wp_of e196 c196_51 (rw_icmp_ge (p1 := 126) (p2 := 54) (by decide) rfl ⟨by omega, by omega⟩ ⟨by omega, by omega⟩ (fun c2820 => ?_) (fun c2820 => ?_))
                · refine wp_of e196 c196_126 (rw_iload_n (pc' := 127) (z := v2809) rfl rfl ?_)
                  refine wp_of e196 c196_127 (rw_if_eq (p1 := 135) (p2 := 130) (by decide) rfl ⟨by omega, by omega⟩ (fun c2821 => ?_) (fun c2821 => ?_))
                  · exfalso
                    omega
                  · refine wp_of e196 c196_130 (rw_aload_n (pc' := 131) (v := .ref r0) rfl rfl rfl ?_)
                    refine wp_of e196 c196_131 (rw_iconst (pc' := 132) rfl ?_)
                    refine wp_of e196 c196_132 (xc_V (pc' := 135) (r := r0) (as := [vI 3]) (st := []) (lm_9_121) rfl rfl (Nat.le_of_ble_eq_true rfl) w2179 g0 sh_42 (by decide) rfl (by decide) (u_181_o (fo := (xkn B n ((xN B n ((xN B n ((xN B n q)))))) d)) (po := (((xN B n ((xN B n ((xN B n q)))))))) w2179 g0 ⟨by omega, by omega⟩ a2192) (fun R2822 T2823 H2824 p2825 => ?_))
                    obtain ⟨e2826, e2828, e2827, p2829⟩ := p2825
                    subst e2826
                    subst e2827
                    subst e2828
                    show wp _ _ 196 135 [(4, vI v2808), (3, vI v2809), (2, vI z2181), (1, vI z2140), (0, .ref r0)] [] _ H2175 _
                    have u2831 := RO_k p2829
                    refine wp_of e196 c196_135 (rw_aload_n (pc' := 136) (v := .ref r0) rfl rfl rfl ?_)
                    refine wp_of e196 c196_136 (xc_V (pc' := 139) (r := r0) (as := []) (st := []) (lm_9_118) rfl rfl (Nat.le_of_ble_eq_true rfl) w2179 g0 sh_42 (by decide) rfl (by decide) (u_172_o (fo := (xkn B n ((xN B n ((xN B n ((xN B n q)))))) d)) (po := (((xN B n ((xN B n ((xN B n q)))))))) w2179 g0 p2829) (fun R2832 T2833 H2834 p2835 => ?_))
                    obtain ⟨e2836, e2838, e2837, p2839⟩ := p2835
                    subst e2836
                    subst e2837
                    subst e2838
                    show wp _ _ 196 139 [(4, vI v2808), (3, vI v2809), (2, vI z2181), (1, vI z2140), (0, .ref r0)] [] _ H2175 _
                    have u2841 := RO_k p2839
                    refine wp_of e196 c196_139 (rw_aload_n (pc' := 140) (v := .ref r0) rfl rfl rfl ?_)
                    refine wp_of e196 c196_140 (xg_I (pc' := 143) lf_9_75 w2179 g0 sh_42 (by decide) (by decide) ty_42_9 rfl rfl (fun b2842 b2843 => ?_))
                    refine wp_of e196 c196_143 (rw_iconst (pc' := 144) rfl ?_)
                    refine wp_of e196 c196_144 (rw_icmp_ne (p1 := 148) (p2 := 147) (by decide) rfl ⟨by omega, by omega⟩ ⟨by omega, by omega⟩ (fun c2844 => ?_) (fun c2844 => ?_))
                    · exfalso
                      omega
                    · have o2845 : (xl3 B n q d) = (xkn B n ((xN B n ((xN B n ((xN B n q)))))) d, ((xN B n ((xN B n ((xN B n q)))))), ((xN B n ((xN B n ((xN B n q))))))) := by
                        unfold xl3 xap
                        repeat first | rw [xs_0 (by omega)] | rw [xs_1 (by omega)] | rw [if_pos (by omega)] | rw [if_neg (by omega)]
                        first | done | rfl | assumption | (exfalso; omega) | (refine Prod.ext ?_ (Prod.ext ?_ ?_) <;> (try dsimp only) <;> omega)
                      have o2845a : ((xl3 B n q d)).1 = xkn B n ((xN B n ((xN B n ((xN B n q)))))) d := by rw [o2845]
                      have o2845b : ((xl3 B n q d)).2.1 = ((xN B n ((xN B n ((xN B n q)))))) := by rw [o2845]
                      have o2845c : ((xl3 B n q d)).2.2 = ((xN B n ((xN B n ((xN B n q)))))) := by rw [o2845]
                      exact wp_return e196 c196_147 rfl ⟨rfl, w2179, f2567, rfl, (Or.inr ⟨by omega, RO_eq p2839 (by omega) (by omega)⟩)⟩
                · refine wp_of e196 c196_54 (rw_iload_n (pc' := 55) (z := v2809) rfl rfl ?_)
                  refine wp_of e196 c196_55 (rw_if_ne (p1 := 114) (p2 := 58) (by decide) rfl ⟨by omega, by omega⟩ (fun c2846 => ?_) (fun c2846 => ?_))
                  · refine wp_of e196 c196_114 (rw_iconst (pc' := 115) rfl ?_)
                    refine wp_of e196 c196_115 (rw_goto (p1 := 119) (by decide) ?_)
                    refine wp_of e196 c196_119 (rw_istore_n (pc' := 120) (z := 1) (L' := [(3, vI 1), (4, vI v2808), (2, vI z2181), (1, vI z2140), (0, .ref r0)]) rfl rfl rfl ?_)
                    refine wp_of e196 c196_120 (rw_iinc (pc' := 123) (z := v2808) (L' := [(4, vI (v2808 + 1)), (3, vI 1), (2, vI z2181), (1, vI z2140), (0, .ref r0)]) rfl rfl rfl rfl ?_)
                    refine wp_of e196 c196_123 (rw_goto (p1 := 42) (by decide) ?_)
                    exact wp_lc (ks := [4, 3, 2, 1, 0]) (wl_c rfl (wl_c rfl (wl_c rfl (wl_c rfl (wl_c rfl wl_n))))) rfl (by decide) (ih2807 _ (by omega) (v2808 + 1) 1 ⟨by omega, by omega⟩ ⟨by omega, by omega⟩ rfl)
                  · exfalso
                    omega
            exact wp_lc (ks := [4, 3, 2, 1, 0]) (wl_c rfl (wl_c rfl (wl_c rfl (wl_c rfl (wl_c rfl wl_n))))) rfl (by decide) (lp2805 _ 0 1 ⟨by omega, by omega⟩ ⟨by omega, by omega⟩ rfl)
      · have f2847 := f2151.tr f2162 rfl
        show wp _ _ 196 23 [(1, vI z2140), (0, .ref r0)] [] _ H2157 _
        have u2848 := RO_k a2167
        refine wp_of e196 c196_23 (rw_aload_n (pc' := 24) (v := .ref r0) rfl rfl rfl ?_)
        have k2849 : H2157 r0 4 = H2114 r0 4 := ((f2162 r0 4 _ g0 rfl).trans (f2139 r0 4 _ g0 rfl))
        have q2850 : H2157 r0 4 = (rp : Int) := k2849.trans q2128
        refine wp_of e196 c196_24 (xc_V (pc' := 27) (r := r0) (as := []) (st := []) (lm_9_176) rfl rfl (Nat.le_of_ble_eq_true rfl) w2161 g0 sh_42 (by decide) rfl (by decide) (u_195_o (fo := (xk B n ((xN B n ((xN B n q)))) 4)) (po := (((xN B n ((xN B n q)))))) w2161 g0 q2850 grp a2167) (fun R2851 T2852 H2853 p2854 => ?_))
        obtain ⟨e2855, e2857, z2858, e2856, b2859, p2860⟩ := p2854
        subst e2855
        subst e2856
        subst e2857
        obtain ⟨a2861, a2862⟩ := p2860
        show wp _ _ 196 27 [(1, vI z2140), (0, .ref r0)] [vI z2858] _ H2157 _
        have u2863 := RO_k a2862
        refine wp_of e196 c196_27 (rw_istore_n (pc' := 28) (z := z2858) (L' := [(2, vI z2858), (1, vI z2140), (0, .ref r0)]) rfl rfl rfl ?_)
        refine wp_of e196 c196_28 (rw_iload_n (pc' := 29) (z := z2140) rfl rfl ?_)
        refine wp_of e196 c196_29 (rw_iload_n (pc' := 30) (z := z2858) rfl rfl ?_)
        refine wp_of e196 c196_30 (rw_icmp_ne (p1 := 37) (p2 := 33) (by decide) rfl ⟨by omega, by omega⟩ ⟨by omega, by omega⟩ (fun c2864 => ?_) (fun c2864 => ?_))
        · refine wp_of e196 c196_37 (rw_iconst (pc' := 38) rfl ?_)
          refine wp_of e196 c196_38 (rw_istore_n (pc' := 39) (z := 0) (L' := [(3, vI 0), (2, vI z2858), (1, vI z2140), (0, .ref r0)]) rfl rfl rfl ?_)
          refine wp_of e196 c196_39 (rw_iconst (pc' := 40) rfl ?_)
          refine wp_of e196 c196_40 (rw_istore (pc' := 42) (z := 0) (L' := [(4, vI 0), (3, vI 0), (2, vI z2858), (1, vI z2140), (0, .ref r0)]) rfl rfl rfl ?_)
          have lp2989 : ∀ (n2990 : Nat) (v2992 : Int) (v2993 : Int), (0 ≤ v2992 ∧ v2992 ≤ 3) → (0 ≤ v2993 ∧ v2993 ≤ 1) → (3 - v2992).toNat = n2990 → wp kt 5 196 42 [(4, vI v2992), (3, vI v2993), (2, vI z2858), (1, vI z2140), (0, .ref r0)] [] T H2157 (uq_196_k r0 rp rb B n q d T H) := by
            intro n2990
            induction n2990 using Nat.strongRecOn with
            | _ n2990 ih2991 =>
              intro v2992 v2993 b2996 b2997 m2998
              refine wp_of e196 c196_42 (rw_iload (pc' := 44) (z := v2992) rfl rfl ?_)
              refine wp_of e196 c196_44 (rw_aload_n (pc' := 45) (v := .ref r0) rfl rfl rfl ?_)
              refine wp_of e196 c196_45 (xg_K (pc' := 48) lf_9_166 w2161 g0 sh_42 (by decide) (by decide) rfl q2850 rfl ?_)
              have k2999 : H2157 rp 4 = H rp 4 := ((f2162 rp 4 _ grp rfl).trans ((f2139 rp 4 _ grp rfl).trans (f2119 rp 4 _ grp rfl)))
              refine wp_of e196 c196_48 (xg_I (pc' := 51) lf_9_276 w2161 grp sh_54 (by decide) (by decide) ty_54_4 rfl rfl (fun b3000 b3001 => ?_))
              refine wp_of e196 c196_51 (rw_icmp_ge (p1 := 126) (p2 := 54) (by decide) rfl ⟨by omega, by omega⟩ ⟨by omega, by omega⟩ (fun c3002 => ?_) (fun c3002 => ?_))
              · refine wp_of e196 c196_126 (rw_iload_n (pc' := 127) (z := v2993) rfl rfl ?_)
                refine wp_of e196 c196_127 (rw_if_eq (p1 := 135) (p2 := 130) (by decide) rfl ⟨by omega, by omega⟩ (fun c3003 => ?_) (fun c3003 => ?_))
                · refine wp_of e196 c196_135 (rw_aload_n (pc' := 136) (v := .ref r0) rfl rfl rfl ?_)
                  refine wp_of e196 c196_136 (xc_V (pc' := 139) (r := r0) (as := []) (st := []) (lm_9_118) rfl rfl (Nat.le_of_ble_eq_true rfl) w2161 g0 sh_42 (by decide) rfl (by decide) (u_172_o (fo := (xk B n ((xN B n ((xN B n q)))) 4)) (po := (((xN B n ((xN B n q)))))) w2161 g0 a2862) (fun R3004 T3005 H3006 p3007 => ?_))
                  obtain ⟨e3008, e3010, e3009, p3011⟩ := p3007
                  subst e3008
                  subst e3009
                  subst e3010
                  show wp _ _ 196 139 [(4, vI v2992), (3, vI v2993), (2, vI z2858), (1, vI z2140), (0, .ref r0)] [] _ H2157 _
                  have u3013 := RO_k p3011
                  refine wp_of e196 c196_139 (rw_aload_n (pc' := 140) (v := .ref r0) rfl rfl rfl ?_)
                  refine wp_of e196 c196_140 (xg_I (pc' := 143) lf_9_75 w2161 g0 sh_42 (by decide) (by decide) ty_42_9 rfl rfl (fun b3014 b3015 => ?_))
                  refine wp_of e196 c196_143 (rw_iconst (pc' := 144) rfl ?_)
                  refine wp_of e196 c196_144 (rw_icmp_ne (p1 := 148) (p2 := 147) (by decide) rfl ⟨by omega, by omega⟩ ⟨by omega, by omega⟩ (fun c3016 => ?_) (fun c3016 => ?_))
                  · exfalso
                    omega
                  · have o3017 : (xl3 B n q d) = (xk B n ((xN B n ((xN B n q)))) 4, ((xN B n ((xN B n q)))), ((xN B n ((xN B n q))))) := by
                      unfold xl3 xap
                      repeat first | rw [xs_0 (by omega)] | rw [xs_1 (by omega)] | rw [if_pos (by omega)] | rw [if_neg (by omega)]
                      first | done | rfl | assumption | (exfalso; omega) | (refine Prod.ext ?_ (Prod.ext ?_ ?_) <;> (try dsimp only) <;> omega)
                    have o3017a : ((xl3 B n q d)).1 = xk B n ((xN B n ((xN B n q)))) 4 := by rw [o3017]
                    have o3017b : ((xl3 B n q d)).2.1 = ((xN B n ((xN B n q)))) := by rw [o3017]
                    have o3017c : ((xl3 B n q d)).2.2 = ((xN B n ((xN B n q)))) := by rw [o3017]
                    exact wp_return e196 c196_147 rfl ⟨rfl, w2161, f2847, rfl, (Or.inr ⟨by omega, RO_eq p3011 (by omega) (by omega)⟩)⟩
                · refine wp_of e196 c196_130 (rw_aload_n (pc' := 131) (v := .ref r0) rfl rfl rfl ?_)
                  refine wp_of e196 c196_131 (rw_iconst (pc' := 132) rfl ?_)
                  refine wp_of e196 c196_132 (xc_V (pc' := 135) (r := r0) (as := [vI 3]) (st := []) (lm_9_121) rfl rfl (Nat.le_of_ble_eq_true rfl) w2161 g0 sh_42 (by decide) rfl (by decide) (u_181_o (fo := (xk B n ((xN B n ((xN B n q)))) 4)) (po := (((xN B n ((xN B n q)))))) w2161 g0 ⟨by omega, by omega⟩ a2862) (fun R3018 T3019 H3020 p3021 => ?_))
                  obtain ⟨e3022, e3024, e3023, p3025⟩ := p3021
                  subst e3022
                  subst e3023
                  subst e3024
                  show wp _ _ 196 135 [(4, vI v2992), (3, vI v2993), (2, vI z2858), (1, vI z2140), (0, .ref r0)] [] _ H2157 _
                  have u3027 := RO_k p3025
                  refine wp_of e196 c196_135 (rw_aload_n (pc' := 136) (v := .ref r0) rfl rfl rfl ?_)
                  refine wp_of e196 c196_136 (xc_V (pc' := 139) (r := r0) (as := []) (st := []) (lm_9_118) rfl rfl (Nat.le_of_ble_eq_true rfl) w2161 g0 sh_42 (by decide) rfl (by decide) (u_172_o (fo := (xk B n ((xN B n ((xN B n q)))) 4)) (po := (((xN B n ((xN B n q)))))) w2161 g0 p3025) (fun R3028 T3029 H3030 p3031 => ?_))
                  obtain ⟨e3032, e3034, e3033, p3035⟩ := p3031
                  subst e3032
                  subst e3033
                  subst e3034
                  show wp _ _ 196 139 [(4, vI v2992), (3, vI v2993), (2, vI z2858), (1, vI z2140), (0, .ref r0)] [] _ H2157 _
                  have u3037 := RO_k p3035
                  refine wp_of e196 c196_139 (rw_aload_n (pc' := 140) (v := .ref r0) rfl rfl rfl ?_)
                  refine wp_of e196 c196_140 (xg_I (pc' := 143) lf_9_75 w2161 g0 sh_42 (by decide) (by decide) ty_42_9 rfl rfl (fun b3038 b3039 => ?_))
                  refine wp_of e196 c196_143 (rw_iconst (pc' := 144) rfl ?_)
                  refine wp_of e196 c196_144 (rw_icmp_ne (p1 := 148) (p2 := 147) (by decide) rfl ⟨by omega, by omega⟩ ⟨by omega, by omega⟩ (fun c3040 => ?_) (fun c3040 => ?_))
                  · exfalso
                    omega
                  · have o3041 : (xl3 B n q d) = (xk B n ((xN B n ((xN B n q)))) 4, ((xN B n ((xN B n q)))), ((xN B n ((xN B n q))))) := by
                      unfold xl3 xap
                      repeat first | rw [xs_0 (by omega)] | rw [xs_1 (by omega)] | rw [if_pos (by omega)] | rw [if_neg (by omega)]
                      first | done | rfl | assumption | (exfalso; omega) | (refine Prod.ext ?_ (Prod.ext ?_ ?_) <;> (try dsimp only) <;> omega)
                    have o3041a : ((xl3 B n q d)).1 = xk B n ((xN B n ((xN B n q)))) 4 := by rw [o3041]
                    have o3041b : ((xl3 B n q d)).2.1 = ((xN B n ((xN B n q)))) := by rw [o3041]
                    have o3041c : ((xl3 B n q d)).2.2 = ((xN B n ((xN B n q)))) := by rw [o3041]
                    exact wp_return e196 c196_147 rfl ⟨rfl, w2161, f2847, rfl, (Or.inr ⟨by omega, RO_eq p3035 (by omega) (by omega)⟩)⟩
              · refine wp_of e196 c196_54 (rw_iload_n (pc' := 55) (z := v2993) rfl rfl ?_)
                refine wp_of e196 c196_55 (rw_if_ne (p1 := 114) (p2 := 58) (by decide) rfl ⟨by omega, by omega⟩ (fun c3042 => ?_) (fun c3042 => ?_))
                · refine wp_of e196 c196_114 (rw_iconst (pc' := 115) rfl ?_)
                  refine wp_of e196 c196_115 (rw_goto (p1 := 119) (by decide) ?_)
                  refine wp_of e196 c196_119 (rw_istore_n (pc' := 120) (z := 1) (L' := [(3, vI 1), (4, vI v2992), (2, vI z2858), (1, vI z2140), (0, .ref r0)]) rfl rfl rfl ?_)
                  refine wp_of e196 c196_120 (rw_iinc (pc' := 123) (z := v2992) (L' := [(4, vI (v2992 + 1)), (3, vI 1), (2, vI z2858), (1, vI z2140), (0, .ref r0)]) rfl rfl rfl rfl ?_)
                  refine wp_of e196 c196_123 (rw_goto (p1 := 42) (by decide) ?_)
                  exact wp_lc (ks := [4, 3, 2, 1, 0]) (wl_c rfl (wl_c rfl (wl_c rfl (wl_c rfl (wl_c rfl wl_n))))) rfl (by decide) (ih2991 _ (by omega) (v2992 + 1) 1 ⟨by omega, by omega⟩ ⟨by omega, by omega⟩ rfl)
                · refine wp_of e196 c196_58 (rw_aload_n (pc' := 59) (v := .ref r0) rfl rfl rfl ?_)
                  refine wp_of e196 c196_59 (xg_K (pc' := 62) lf_9_166 w2161 g0 sh_42 (by decide) (by decide) rfl q2850 rfl ?_)
                  refine wp_of e196 c196_62 (xg_R (pc' := 65) lf_9_282 w2161 grp sh_54 (by decide) (by decide) ty_54_18 rfl rfl (fun r3043 q3044 g3045 => ?_))
                  refine wp_of e196 c196_65 (rw_iload (pc' := 67) (z := v2992) rfl rfl ?_)
                  refine wp_of e196 c196_67 (xa_I (so := 0) (pc' := 68) w2161 g3045 sh_64 (by decide) (ty_64 _) (by omega) (by omega) rfl (fun b3046 b3047 => ?_))
                  have h3048 : MA18 T H2157 rp (d 10) := (MA18_fr w2138 grp f2162 rfl (MA18_fr w2118 grp f2139 rfl (MA18_fr hW grp f2119 rfl h2102)))
                  have := MA_at h3048 q3044 (k := (v2992.toNat)) (by omega)
                  refine wp_of e196 c196_68 (rw_iload_n (pc' := 69) (z := z2140) rfl rfl ?_)
                  refine wp_of e196 c196_69 (rw_icmp_ne (p1 := 86) (p2 := 72) (by decide) rfl ⟨by omega, by omega⟩ ⟨by omega, by omega⟩ (fun c3049 => ?_) (fun c3049 => ?_))
                  · refine wp_of e196 c196_86 (rw_aload_n (pc' := 87) (v := .ref r0) rfl rfl rfl ?_)
                    refine wp_of e196 c196_87 (xg_K (pc' := 90) lf_9_166 w2161 g0 sh_42 (by decide) (by decide) rfl q2850 rfl ?_)
                    refine wp_of e196 c196_90 (xg_K (pc' := 93) lf_9_282 w2161 grp sh_54 (by decide) (by decide) rfl q3044 rfl ?_)
                    refine wp_of e196 c196_93 (rw_iload (pc' := 95) (z := v2992) rfl rfl ?_)
                    refine wp_of e196 c196_95 (xa_I (so := 0) (pc' := 96) w2161 g3045 sh_64 (by decide) (ty_64 _) (by omega) (by omega) rfl (fun b3050 b3051 => ?_))
                    have := MA_at h3048 q3044 (k := (v2992.toNat)) (by omega)
                    refine wp_of e196 c196_96 (rw_iload_n (pc' := 97) (z := z2858) rfl rfl ?_)
                    refine wp_of e196 c196_97 (rw_icmp_ne (p1 := 118) (p2 := 100) (by decide) rfl ⟨by omega, by omega⟩ ⟨by omega, by omega⟩ (fun c3052 => ?_) (fun c3052 => ?_))
                    · refine wp_of e196 c196_118 (rw_iconst (pc' := 119) rfl ?_)
                      refine wp_of e196 c196_119 (rw_istore_n (pc' := 120) (z := 0) (L' := [(3, vI 0), (4, vI v2992), (2, vI z2858), (1, vI z2140), (0, .ref r0)]) rfl rfl rfl ?_)
                      refine wp_of e196 c196_120 (rw_iinc (pc' := 123) (z := v2992) (L' := [(4, vI (v2992 + 1)), (3, vI 0), (2, vI z2858), (1, vI z2140), (0, .ref r0)]) rfl rfl rfl rfl ?_)
                      refine wp_of e196 c196_123 (rw_goto (p1 := 42) (by decide) ?_)
                      exact wp_lc (ks := [4, 3, 2, 1, 0]) (wl_c rfl (wl_c rfl (wl_c rfl (wl_c rfl (wl_c rfl wl_n))))) rfl (by decide) (ih2991 _ (by omega) (v2992 + 1) 0 ⟨by omega, by omega⟩ ⟨by omega, by omega⟩ rfl)
                    · refine wp_of e196 c196_100 (rw_aload_n (pc' := 101) (v := .ref r0) rfl rfl rfl ?_)
                      refine wp_of e196 c196_101 (xg_K (pc' := 104) lf_9_166 w2161 g0 sh_42 (by decide) (by decide) rfl q2850 rfl ?_)
                      refine wp_of e196 c196_104 (xg_R (pc' := 107) lf_9_285 w2161 grp sh_54 (by decide) (by decide) ty_54_19 rfl rfl (fun r3053 q3054 g3055 => ?_))
                      refine wp_of e196 c196_107 (rw_iload (pc' := 109) (z := v2992) rfl rfl ?_)
                      refine wp_of e196 c196_109 (xa_I (so := 0) (pc' := 110) w2161 g3055 sh_65 (by decide) (ty_65 _) (by omega) (by omega) rfl (fun b3056 b3057 => ?_))
                      have h3058 : MA19 T H2157 rp (d 11) := (MA19_fr w2138 grp f2162 rfl (MA19_fr w2118 grp f2139 rfl (MA19_fr hW grp f2119 rfl h2103)))
                      have := MA_at h3058 q3054 (k := (v2992.toNat)) (by omega)
                      refine wp_of e196 c196_110 (rw_iload_n (pc' := 111) (z := z2140) rfl rfl ?_)
                      refine wp_of e196 c196_111 (rw_icmp_ne (p1 := 118) (p2 := 114) (by decide) rfl ⟨by omega, by omega⟩ ⟨by omega, by omega⟩ (fun c3059 => ?_) (fun c3059 => ?_))
                      · refine wp_of e196 c196_118 (rw_iconst (pc' := 119) rfl ?_)
                        refine wp_of e196 c196_119 (rw_istore_n (pc' := 120) (z := 0) (L' := [(3, vI 0), (4, vI v2992), (2, vI z2858), (1, vI z2140), (0, .ref r0)]) rfl rfl rfl ?_)
                        refine wp_of e196 c196_120 (rw_iinc (pc' := 123) (z := v2992) (L' := [(4, vI (v2992 + 1)), (3, vI 0), (2, vI z2858), (1, vI z2140), (0, .ref r0)]) rfl rfl rfl rfl ?_)
                        refine wp_of e196 c196_123 (rw_goto (p1 := 42) (by decide) ?_)
                        exact wp_lc (ks := [4, 3, 2, 1, 0]) (wl_c rfl (wl_c rfl (wl_c rfl (wl_c rfl (wl_c rfl wl_n))))) rfl (by decide) (ih2991 _ (by omega) (v2992 + 1) 0 ⟨by omega, by omega⟩ ⟨by omega, by omega⟩ rfl)
                      · refine wp_of e196 c196_114 (rw_iconst (pc' := 115) rfl ?_)
                        refine wp_of e196 c196_115 (rw_goto (p1 := 119) (by decide) ?_)
                        refine wp_of e196 c196_119 (rw_istore_n (pc' := 120) (z := 1) (L' := [(3, vI 1), (4, vI v2992), (2, vI z2858), (1, vI z2140), (0, .ref r0)]) rfl rfl rfl ?_)
                        refine wp_of e196 c196_120 (rw_iinc (pc' := 123) (z := v2992) (L' := [(4, vI (v2992 + 1)), (3, vI 1), (2, vI z2858), (1, vI z2140), (0, .ref r0)]) rfl rfl rfl rfl ?_)
                        refine wp_of e196 c196_123 (rw_goto (p1 := 42) (by decide) ?_)
                        exact wp_lc (ks := [4, 3, 2, 1, 0]) (wl_c rfl (wl_c rfl (wl_c rfl (wl_c rfl (wl_c rfl wl_n))))) rfl (by decide) (ih2991 _ (by omega) (v2992 + 1) 1 ⟨by omega, by omega⟩ ⟨by omega, by omega⟩ rfl)
                  · refine wp_of e196 c196_72 (rw_aload_n (pc' := 73) (v := .ref r0) rfl rfl rfl ?_)
                    refine wp_of e196 c196_73 (xg_K (pc' := 76) lf_9_166 w2161 g0 sh_42 (by decide) (by decide) rfl q2850 rfl ?_)
                    refine wp_of e196 c196_76 (xg_R (pc' := 79) lf_9_285 w2161 grp sh_54 (by decide) (by decide) ty_54_19 rfl rfl (fun r3060 q3061 g3062 => ?_))
                    refine wp_of e196 c196_79 (rw_iload (pc' := 81) (z := v2992) rfl rfl ?_)
                    refine wp_of e196 c196_81 (xa_I (so := 0) (pc' := 82) w2161 g3062 sh_65 (by decide) (ty_65 _) (by omega) (by omega) rfl (fun b3063 b3064 => ?_))
                    have h3065 : MA19 T H2157 rp (d 11) := (MA19_fr w2138 grp f2162 rfl (MA19_fr w2118 grp f2139 rfl (MA19_fr hW grp f2119 rfl h2103)))
                    have := MA_at h3065 q3061 (k := (v2992.toNat)) (by omega)
                    refine wp_of e196 c196_82 (rw_iload_n (pc' := 83) (z := z2858) rfl rfl ?_)
                    refine wp_of e196 c196_83 (rw_icmp_eq (p1 := 114) (p2 := 86) (by decide) rfl ⟨by omega, by omega⟩ ⟨by omega, by omega⟩ (fun c3066 => ?_) (fun c3066 => ?_))
                    · refine wp_of e196 c196_114 (rw_iconst (pc' := 115) rfl ?_)
                      refine wp_of e196 c196_115 (rw_goto (p1 := 119) (by decide) ?_)
                      refine wp_of e196 c196_119 (rw_istore_n (pc' := 120) (z := 1) (L' := [(3, vI 1), (4, vI v2992), (2, vI z2858), (1, vI z2140), (0, .ref r0)]) rfl rfl rfl ?_)
                      refine wp_of e196 c196_120 (rw_iinc (pc' := 123) (z := v2992) (L' := [(4, vI (v2992 + 1)), (3, vI 1), (2, vI z2858), (1, vI z2140), (0, .ref r0)]) rfl rfl rfl rfl ?_)
                      refine wp_of e196 c196_123 (rw_goto (p1 := 42) (by decide) ?_)
                      exact wp_lc (ks := [4, 3, 2, 1, 0]) (wl_c rfl (wl_c rfl (wl_c rfl (wl_c rfl (wl_c rfl wl_n))))) rfl (by decide) (ih2991 _ (by omega) (v2992 + 1) 1 ⟨by omega, by omega⟩ ⟨by omega, by omega⟩ rfl)
                    · refine wp_of e196 c196_86 (rw_aload_n (pc' := 87) (v := .ref r0) rfl rfl rfl ?_)
                      refine wp_of e196 c196_87 (xg_K (pc' := 90) lf_9_166 w2161 g0 sh_42 (by decide) (by decide) rfl q2850 rfl ?_)
                      refine wp_of e196 c196_90 (xg_K (pc' := 93) lf_9_282 w2161 grp sh_54 (by decide) (by decide) rfl q3044 rfl ?_)
                      refine wp_of e196 c196_93 (rw_iload (pc' := 95) (z := v2992) rfl rfl ?_)
                      refine wp_of e196 c196_95 (xa_I (so := 0) (pc' := 96) w2161 g3045 sh_64 (by decide) (ty_64 _) (by omega) (by omega) rfl (fun b3067 b3068 => ?_))
                      have := MA_at h3048 q3044 (k := (v2992.toNat)) (by omega)
                      refine wp_of e196 c196_96 (rw_iload_n (pc' := 97) (z := z2858) rfl rfl ?_)
                      refine wp_of e196 c196_97 (rw_icmp_ne (p1 := 118) (p2 := 100) (by decide) rfl ⟨by omega, by omega⟩ ⟨by omega, by omega⟩ (fun c3069 => ?_) (fun c3069 => ?_))
                      · refine wp_of e196 c196_118 (rw_iconst (pc' := 119) rfl ?_)
                        refine wp_of e196 c196_119 (rw_istore_n (pc' := 120) (z := 0) (L' := [(3, vI 0), (4, vI v2992), (2, vI z2858), (1, vI z2140), (0, .ref r0)]) rfl rfl rfl ?_)
                        refine wp_of e196 c196_120 (rw_iinc (pc' := 123) (z := v2992) (L' := [(4, vI (v2992 + 1)), (3, vI 0), (2, vI z2858), (1, vI z2140), (0, .ref r0)]) rfl rfl rfl rfl ?_)
                        refine wp_of e196 c196_123 (rw_goto (p1 := 42) (by decide) ?_)
                        exact wp_lc (ks := [4, 3, 2, 1, 0]) (wl_c rfl (wl_c rfl (wl_c rfl (wl_c rfl (wl_c rfl wl_n))))) rfl (by decide) (ih2991 _ (by omega) (v2992 + 1) 0 ⟨by omega, by omega⟩ ⟨by omega, by omega⟩ rfl)
                      · exfalso
                        omega
          exact wp_lc (ks := [4, 3, 2, 1, 0]) (wl_c rfl (wl_c rfl (wl_c rfl (wl_c rfl (wl_c rfl wl_n))))) rfl (by decide) (lp2989 _ 0 0 ⟨by omega, by omega⟩ ⟨by omega, by omega⟩ rfl)
        · refine wp_of e196 c196_33 (rw_iconst (pc' := 34) rfl ?_)
          refine wp_of e196 c196_34 (rw_goto (p1 := 38) (by decide) ?_)
          refine wp_of e196 c196_38 (rw_istore_n (pc' := 39) (z := 1) (L' := [(3, vI 1), (2, vI z2858), (1, vI z2140), (0, .ref r0)]) rfl rfl rfl ?_)
          refine wp_of e196 c196_39 (rw_iconst (pc' := 40) rfl ?_)
          refine wp_of e196 c196_40 (rw_istore (pc' := 42) (z := 0) (L' := [(4, vI 0), (3, vI 1), (2, vI z2858), (1, vI z2140), (0, .ref r0)]) rfl rfl rfl ?_)
          have lp3098 : ∀ (n3099 : Nat) (v3101 : Int) (v3102 : Int), (0 ≤ v3101 ∧ v3101 ≤ 3) → (1 ≤ v3102 ∧ v3102 ≤ 1) → (3 - v3101).toNat = n3099 → wp kt 5 196 42 [(4, vI v3101), (3, vI v3102), (2, vI z2858), (1, vI z2140), (0, .ref r0)] [] T H2157 (uq_196_k r0 rp rb B n q d T H) := by
            intro n3099
            induction n3099 using Nat.strongRecOn with
            | _ n3099 ih3100 =>
              intro v3101 v3102 b3105 b3106 m3107
              refine wp_of e196 c196_42 (rw_iload (pc' := 44) (z := v3101) rfl rfl ?_)
              refine wp_of e196 c196_44 (rw_aload_n (pc' := 45) (v := .ref r0) rfl rfl rfl ?_)
              refine wp_of e196 c196_45 (xg_K (pc' := 48) lf_9_166 w2161 g0 sh_42 (by decide) (by decide) rfl q2850 rfl ?_)
              have k3108 : H2157 rp 4 = H rp 4 := ((f2162 rp 4 _ grp rfl).trans ((f2139 rp 4 _ grp rfl).trans (f2119 rp 4 _ grp rfl)))
              refine wp_of e196 c196_48 (xg_I (pc' := 51) lf_9_276 w2161 grp sh_54 (by decide) (by decide) ty_54_4 rfl rfl (fun b3109 b3110 => ?_))
              refine wp_of e196 c196_51 (rw_icmp_ge (p1 := 126) (p2 := 54) (by decide) rfl ⟨by omega, by omega⟩ ⟨by omega, by omega⟩ (fun c3111 => ?_) (fun c3111 => ?_))
              · refine wp_of e196 c196_126 (rw_iload_n (pc' := 127) (z := v3102) rfl rfl ?_)
                refine wp_of e196 c196_127 (rw_if_eq (p1 := 135) (p2 := 130) (by decide) rfl ⟨by omega, by omega⟩ (fun c3112 => ?_) (fun c3112 => ?_))
                · exfalso
                  omega
                · refine wp_of e196 c196_130 (rw_aload_n (pc' := 131) (v := .ref r0) rfl rfl rfl ?_)
                  refine wp_of e196 c196_131 (rw_iconst (pc' := 132) rfl ?_)
                  refine wp_of e196 c196_132 (xc_V (pc' := 135) (r := r0) (as := [vI 3]) (st := []) (lm_9_121) rfl rfl (Nat.le_of_ble_eq_true rfl) w2161 g0 sh_42 (by decide) rfl (by decide) (u_181_o (fo := (xk B n ((xN B n ((xN B n q)))) 4)) (po := (((xN B n ((xN B n q)))))) w2161 g0 ⟨by omega, by omega⟩ a2862) (fun R3113 T3114 H3115 p3116 => ?_))
                  obtain ⟨e3117, e3119, e3118, p3120⟩ := p3116
                  subst e3117
                  subst e3118
                  subst e3119
                  show wp _ _ 196 135 [(4, vI v3101), (3, vI v3102), (2, vI z2858), (1, vI z2140), (0, .ref r0)] [] _ H2157 _
                  have u3122 := RO_k p3120
                  refine wp_of e196 c196_135 (rw_aload_n (pc' := 136) (v := .ref r0) rfl rfl rfl ?_)
                  refine wp_of e196 c196_136 (xc_V (pc' := 139) (r := r0) (as := []) (st := []) (lm_9_118) rfl rfl (Nat.le_of_ble_eq_true rfl) w2161 g0 sh_42 (by decide) rfl (by decide) (u_172_o (fo := (xk B n ((xN B n ((xN B n q)))) 4)) (po := (((xN B n ((xN B n q)))))) w2161 g0 p3120) (fun R3123 T3124 H3125 p3126 => ?_))
                  obtain ⟨e3127, e3129, e3128, p3130⟩ := p3126
                  subst e3127
                  subst e3128
                  subst e3129
                  show wp _ _ 196 139 [(4, vI v3101), (3, vI v3102), (2, vI z2858), (1, vI z2140), (0, .ref r0)] [] _ H2157 _
                  have u3132 := RO_k p3130
                  refine wp_of e196 c196_139 (rw_aload_n (pc' := 140) (v := .ref r0) rfl rfl rfl ?_)
                  refine wp_of e196 c196_140 (xg_I (pc' := 143) lf_9_75 w2161 g0 sh_42 (by decide) (by decide) ty_42_9 rfl rfl (fun b3133 b3134 => ?_))
                  refine wp_of e196 c196_143 (rw_iconst (pc' := 144) rfl ?_)
                  refine wp_of e196 c196_144 (rw_icmp_ne (p1 := 148) (p2 := 147) (by decide) rfl ⟨by omega, by omega⟩ ⟨by omega, by omega⟩ (fun c3135 => ?_) (fun c3135 => ?_))
                  · exfalso
                    omega
                  · have o3136 : (xl3 B n q d) = (xk B n ((xN B n ((xN B n q)))) 4, ((xN B n ((xN B n q)))), ((xN B n ((xN B n q))))) := by
                      unfold xl3 xap
                      repeat first | rw [xs_0 (by omega)] | rw [xs_1 (by omega)] | rw [if_pos (by omega)] | rw [if_neg (by omega)]
                      first | done | rfl | assumption | (exfalso; omega) | (refine Prod.ext ?_ (Prod.ext ?_ ?_) <;> (try dsimp only) <;> omega)
                    have o3136a : ((xl3 B n q d)).1 = xk B n ((xN B n ((xN B n q)))) 4 := by rw [o3136]
                    have o3136b : ((xl3 B n q d)).2.1 = ((xN B n ((xN B n q)))) := by rw [o3136]
                    have o3136c : ((xl3 B n q d)).2.2 = ((xN B n ((xN B n q)))) := by rw [o3136]
                    exact wp_return e196 c196_147 rfl ⟨rfl, w2161, f2847, rfl, (Or.inr ⟨by omega, RO_eq p3130 (by omega) (by omega)⟩)⟩
              · refine wp_of e196 c196_54 (rw_iload_n (pc' := 55) (z := v3102) rfl rfl ?_)
                refine wp_of e196 c196_55 (rw_if_ne (p1 := 114) (p2 := 58) (by decide) rfl ⟨by omega, by omega⟩ (fun c3137 => ?_) (fun c3137 => ?_))
                · refine wp_of e196 c196_114 (rw_iconst (pc' := 115) rfl ?_)
                  refine wp_of e196 c196_115 (rw_goto (p1 := 119) (by decide) ?_)
                  refine wp_of e196 c196_119 (rw_istore_n (pc' := 120) (z := 1) (L' := [(3, vI 1), (4, vI v3101), (2, vI z2858), (1, vI z2140), (0, .ref r0)]) rfl rfl rfl ?_)
                  refine wp_of e196 c196_120 (rw_iinc (pc' := 123) (z := v3101) (L' := [(4, vI (v3101 + 1)), (3, vI 1), (2, vI z2858), (1, vI z2140), (0, .ref r0)]) rfl rfl rfl rfl ?_)
                  refine wp_of e196 c196_123 (rw_goto (p1 := 42) (by decide) ?_)
                  exact wp_lc (ks := [4, 3, 2, 1, 0]) (wl_c rfl (wl_c rfl (wl_c rfl (wl_c rfl (wl_c rfl wl_n))))) rfl (by decide) (ih3100 _ (by omega) (v3101 + 1) 1 ⟨by omega, by omega⟩ ⟨by omega, by omega⟩ rfl)
                · exfalso
                  omega
          exact wp_lc (ks := [4, 3, 2, 1, 0]) (wl_c rfl (wl_c rfl (wl_c rfl (wl_c rfl (wl_c rfl wl_n))))) rfl (by decide) (lp3098 _ 0 1 ⟨by omega, by omega⟩ ⟨by omega, by omega⟩ rfl)
    · have f3138 := f2125.tr f2139 rfl
      show wp _ _ 196 16 [(0, .ref r0)] [vI z2140] _ H2134 _
      have u3139 := RO_k a2150
      refine wp_of e196 c196_16 (rw_istore_n (pc' := 17) (z := z2140) (L' := [(1, vI z2140), (0, .ref r0)]) rfl rfl rfl ?_)
      refine wp_of e196 c196_17 (rw_aload_n (pc' := 18) (v := .ref r0) rfl rfl rfl ?_)
      refine wp_of e196 c196_18 (rw_bipush (pc' := 20) (z := 44) rfl (by decide) ?_)
      have k3140 : H2134 r0 5 = H2114 r0 5 := (f2139 r0 5 _ g0 rfl)
      have q3141 : H2134 r0 5 = (rb : Int) := k3140.trans q2130
      refine wp_of e196 c196_20 (xc_V (pc' := 23) (r := r0) (as := [vI 44]) (st := []) (lm_9_279) rfl rfl (Nat.le_of_ble_eq_true rfl) w2138 g0 sh_42 (by decide) rfl (by decide) (u_197_o (fo := (xkn B n ((xN B n q)) d)) (po := (((xN B n q)))) w2138 g0 ⟨by omega, by omega⟩ q3141 grb a2150) (fun R3142 T3143 H3144 p3145 => ?_))
      obtain ⟨e3146, e3148, e3147, p3149⟩ := p3145
      subst e3146
      subst e3147
      subst e3148
      show wp _ _ 196 23 [(1, vI z2140), (0, .ref r0)] [] _ H2134 _
      have u3151 := RO_k p3149
      refine wp_of e196 c196_23 (rw_aload_n (pc' := 24) (v := .ref r0) rfl rfl rfl ?_)
      have k3152 : H2134 r0 4 = H2114 r0 4 := (f2139 r0 4 _ g0 rfl)
      have q3153 : H2134 r0 4 = (rp : Int) := k3152.trans q2128
      refine wp_of e196 c196_24 (xc_V (pc' := 27) (r := r0) (as := []) (st := []) (lm_9_176) rfl rfl (Nat.le_of_ble_eq_true rfl) w2138 g0 sh_42 (by decide) rfl (by decide) (u_195_o (fo := (xkn B n ((xN B n q)) d)) (po := (((xN B n q)))) w2138 g0 q3153 grp p3149) (fun R3154 T3155 H3156 p3157 => ?_))
      obtain ⟨e3158, e3160, z3161, e3159, b3162, p3163⟩ := p3157
      subst e3158
      subst e3159
      subst e3160
      obtain ⟨a3164, a3165⟩ := p3163
      show wp _ _ 196 27 [(1, vI z2140), (0, .ref r0)] [vI z3161] _ H2134 _
      have u3166 := RO_k a3165
      refine wp_of e196 c196_27 (rw_istore_n (pc' := 28) (z := z3161) (L' := [(2, vI z3161), (1, vI z2140), (0, .ref r0)]) rfl rfl rfl ?_)
      refine wp_of e196 c196_28 (rw_iload_n (pc' := 29) (z := z2140) rfl rfl ?_)
      refine wp_of e196 c196_29 (rw_iload_n (pc' := 30) (z := z3161) rfl rfl ?_)
      refine wp_of e196 c196_30 (rw_icmp_ne (p1 := 37) (p2 := 33) (by decide) rfl ⟨by omega, by omega⟩ ⟨by omega, by omega⟩ (fun c3167 => ?_) (fun c3167 => ?_))
      · exfalso
        omega
      · refine wp_of e196 c196_33 (rw_iconst (pc' := 34) rfl ?_)
        refine wp_of e196 c196_34 (rw_goto (p1 := 38) (by decide) ?_)
        refine wp_of e196 c196_38 (rw_istore_n (pc' := 39) (z := 1) (L' := [(3, vI 1), (2, vI z3161), (1, vI z2140), (0, .ref r0)]) rfl rfl rfl ?_)
        refine wp_of e196 c196_39 (rw_iconst (pc' := 40) rfl ?_)
        refine wp_of e196 c196_40 (rw_istore (pc' := 42) (z := 0) (L' := [(4, vI 0), (3, vI 1), (2, vI z3161), (1, vI z2140), (0, .ref r0)]) rfl rfl rfl ?_)
        have lp3196 : ∀ (n3197 : Nat) (v3199 : Int) (v3200 : Int), (0 ≤ v3199 ∧ v3199 ≤ 3) → (1 ≤ v3200 ∧ v3200 ≤ 1) → (3 - v3199).toNat = n3197 → wp kt 5 196 42 [(4, vI v3199), (3, vI v3200), (2, vI z3161), (1, vI z2140), (0, .ref r0)] [] T H2134 (uq_196_k r0 rp rb B n q d T H) := by
          intro n3197
          induction n3197 using Nat.strongRecOn with
          | _ n3197 ih3198 =>
            intro v3199 v3200 b3203 b3204 m3205
            refine wp_of e196 c196_42 (rw_iload (pc' := 44) (z := v3199) rfl rfl ?_)
            refine wp_of e196 c196_44 (rw_aload_n (pc' := 45) (v := .ref r0) rfl rfl rfl ?_)
            refine wp_of e196 c196_45 (xg_K (pc' := 48) lf_9_166 w2138 g0 sh_42 (by decide) (by decide) rfl q3153 rfl ?_)
            have k3206 : H2134 rp 4 = H rp 4 := ((f2139 rp 4 _ grp rfl).trans (f2119 rp 4 _ grp rfl))
            refine wp_of e196 c196_48 (xg_I (pc' := 51) lf_9_276 w2138 grp sh_54 (by decide) (by decide) ty_54_4 rfl rfl (fun b3207 b3208 => ?_))
            refine wp_of e196 c196_51 (rw_icmp_ge (p1 := 126) (p2 := 54) (by decide) rfl ⟨by omega, by omega⟩ ⟨by omega, by omega⟩ (fun c3209 => ?_) (fun c3209 => ?_))
            · refine wp_of e196 c196_126 (rw_iload_n (pc' := 127) (z := v3200) rfl rfl ?_)
              refine wp_of e196 c196_127 (rw_if_eq (p1 := 135) (p2 := 130) (by decide) rfl ⟨by omega, by omega⟩ (fun c3210 => ?_) (fun c3210 => ?_))
              · exfalso
                omega
              · refine wp_of e196 c196_130 (rw_aload_n (pc' := 131) (v := .ref r0) rfl rfl rfl ?_)
                refine wp_of e196 c196_131 (rw_iconst (pc' := 132) rfl ?_)
                refine wp_of e196 c196_132 (xc_V (pc' := 135) (r := r0) (as := [vI 3]) (st := []) (lm_9_121) rfl rfl (Nat.le_of_ble_eq_true rfl) w2138 g0 sh_42 (by decide) rfl (by decide) (u_181_o (fo := (xkn B n ((xN B n q)) d)) (po := (((xN B n q)))) w2138 g0 ⟨by omega, by omega⟩ a3165) (fun R3211 T3212 H3213 p3214 => ?_))
                obtain ⟨e3215, e3217, e3216, p3218⟩ := p3214
                subst e3215
                subst e3216
                subst e3217
                show wp _ _ 196 135 [(4, vI v3199), (3, vI v3200), (2, vI z3161), (1, vI z2140), (0, .ref r0)] [] _ H2134 _
                have u3220 := RO_k p3218
                refine wp_of e196 c196_135 (rw_aload_n (pc' := 136) (v := .ref r0) rfl rfl rfl ?_)
                refine wp_of e196 c196_136 (xc_V (pc' := 139) (r := r0) (as := []) (st := []) (lm_9_118) rfl rfl (Nat.le_of_ble_eq_true rfl) w2138 g0 sh_42 (by decide) rfl (by decide) (u_172_o (fo := (xkn B n ((xN B n q)) d)) (po := (((xN B n q)))) w2138 g0 p3218) (fun R3221 T3222 H3223 p3224 => ?_))
                obtain ⟨e3225, e3227, e3226, p3228⟩ := p3224
                subst e3225
                subst e3226
                subst e3227
                show wp _ _ 196 139 [(4, vI v3199), (3, vI v3200), (2, vI z3161), (1, vI z2140), (0, .ref r0)] [] _ H2134 _
                have u3230 := RO_k p3228
                refine wp_of e196 c196_139 (rw_aload_n (pc' := 140) (v := .ref r0) rfl rfl rfl ?_)
                refine wp_of e196 c196_140 (xg_I (pc' := 143) lf_9_75 w2138 g0 sh_42 (by decide) (by decide) ty_42_9 rfl rfl (fun b3231 b3232 => ?_))
                refine wp_of e196 c196_143 (rw_iconst (pc' := 144) rfl ?_)
                refine wp_of e196 c196_144 (rw_icmp_ne (p1 := 148) (p2 := 147) (by decide) rfl ⟨by omega, by omega⟩ ⟨by omega, by omega⟩ (fun c3233 => ?_) (fun c3233 => ?_))
                · exfalso
                  omega
                · have o3234 : (xl3 B n q d) = (xkn B n ((xN B n q)) d, ((xN B n q)), ((xN B n q))) := by
                    unfold xl3 xap
                    repeat first | rw [xs_0 (by omega)] | rw [xs_1 (by omega)] | rw [if_pos (by omega)] | rw [if_neg (by omega)]
                    first | done | rfl | assumption | (exfalso; omega) | (refine Prod.ext ?_ (Prod.ext ?_ ?_) <;> (try dsimp only) <;> omega)
                  have o3234a : ((xl3 B n q d)).1 = xkn B n ((xN B n q)) d := by rw [o3234]
                  have o3234b : ((xl3 B n q d)).2.1 = ((xN B n q)) := by rw [o3234]
                  have o3234c : ((xl3 B n q d)).2.2 = ((xN B n q)) := by rw [o3234]
                  exact wp_return e196 c196_147 rfl ⟨rfl, w2138, f3138, rfl, (Or.inr ⟨by omega, RO_eq p3228 (by omega) (by omega)⟩)⟩
            · refine wp_of e196 c196_54 (rw_iload_n (pc' := 55) (z := v3200) rfl rfl ?_)
              refine wp_of e196 c196_55 (rw_if_ne (p1 := 114) (p2 := 58) (by decide) rfl ⟨by omega, by omega⟩ (fun c3235 => ?_) (fun c3235 => ?_))
              · refine wp_of e196 c196_114 (rw_iconst (pc' := 115) rfl ?_)
                refine wp_of e196 c196_115 (rw_goto (p1 := 119) (by decide) ?_)
                refine wp_of e196 c196_119 (rw_istore_n (pc' := 120) (z := 1) (L' := [(3, vI 1), (4, vI v3199), (2, vI z3161), (1, vI z2140), (0, .ref r0)]) rfl rfl rfl ?_)
                refine wp_of e196 c196_120 (rw_iinc (pc' := 123) (z := v3199) (L' := [(4, vI (v3199 + 1)), (3, vI 1), (2, vI z3161), (1, vI z2140), (0, .ref r0)]) rfl rfl rfl rfl ?_)
                refine wp_of e196 c196_123 (rw_goto (p1 := 42) (by decide) ?_)
                exact wp_lc (ks := [4, 3, 2, 1, 0]) (wl_c rfl (wl_c rfl (wl_c rfl (wl_c rfl (wl_c rfl wl_n))))) rfl (by decide) (ih3198 _ (by omega) (v3199 + 1) 1 ⟨by omega, by omega⟩ ⟨by omega, by omega⟩ rfl)
              · exfalso
                omega
        exact wp_lc (ks := [4, 3, 2, 1, 0]) (wl_c rfl (wl_c rfl (wl_c rfl (wl_c rfl (wl_c rfl wl_n))))) rfl (by decide) (lp3196 _ 0 1 ⟨by omega, by omega⟩ ⟨by omega, by omega⟩ rfl)
  · have f3236 := f0.tr f2119 rfl
    show wp _ _ 196 12 [(0, .ref r0)] [] _ H2114 _
    have u3237 := RO_k a2124
    refine wp_of e196 c196_12 (rw_aload_n (pc' := 13) (v := .ref r0) rfl rfl rfl ?_)
    have k3238 : H2114 r0 4 = H r0 4 := (f2119 r0 4 _ g0 rfl)
    have q3239 : H2114 r0 4 = (rp : Int) := k3238.trans qrp
    have k3240 : H2114 r0 5 = H r0 5 := (f2119 r0 5 _ g0 rfl)
    have q3241 : H2114 r0 5 = (rb : Int) := k3240.trans qrb
    refine wp_of e196 c196_13 (xc_V (pc' := 16) (r := r0) (as := []) (st := []) (lm_9_273) rfl rfl (Nat.le_of_ble_eq_true rfl) w2118 g0 sh_42 (by decide) rfl (by decide) (u_194_o (fo := 5) (po := q) w2118 g0 q3239 grp q3241 grb a2124) (fun R3242 T3243 H3244 p3245 => ?_))
    obtain ⟨e3246, e3248, z3249, e3247, b3250, p3251⟩ := p3245
    subst e3246
    subst e3247
    subst e3248
    obtain ⟨a3252, a3253⟩ := p3251
    show wp _ _ 196 16 [(0, .ref r0)] [vI z3249] _ H2114 _
    have u3254 := RO_k a3253
    refine wp_of e196 c196_16 (rw_istore_n (pc' := 17) (z := z3249) (L' := [(1, vI z3249), (0, .ref r0)]) rfl rfl rfl ?_)
    refine wp_of e196 c196_17 (rw_aload_n (pc' := 18) (v := .ref r0) rfl rfl rfl ?_)
    refine wp_of e196 c196_18 (rw_bipush (pc' := 20) (z := 44) rfl (by decide) ?_)
    refine wp_of e196 c196_20 (xc_V (pc' := 23) (r := r0) (as := [vI 44]) (st := []) (lm_9_279) rfl rfl (Nat.le_of_ble_eq_true rfl) w2118 g0 sh_42 (by decide) rfl (by decide) (u_197_o (fo := 5) (po := q) w2118 g0 ⟨by omega, by omega⟩ q3241 grb a3253) (fun R3255 T3256 H3257 p3258 => ?_))
    obtain ⟨e3259, e3261, e3260, p3262⟩ := p3258
    subst e3259
    subst e3260
    subst e3261
    show wp _ _ 196 23 [(1, vI z3249), (0, .ref r0)] [] _ H2114 _
    have u3264 := RO_k p3262
    refine wp_of e196 c196_23 (rw_aload_n (pc' := 24) (v := .ref r0) rfl rfl rfl ?_)
    refine wp_of e196 c196_24 (xc_V (pc' := 27) (r := r0) (as := []) (st := []) (lm_9_176) rfl rfl (Nat.le_of_ble_eq_true rfl) w2118 g0 sh_42 (by decide) rfl (by decide) (u_195_o (fo := 5) (po := q) w2118 g0 q3239 grp p3262) (fun R3265 T3266 H3267 p3268 => ?_))
    obtain ⟨e3269, e3271, z3272, e3270, b3273, p3274⟩ := p3268
    subst e3269
    subst e3270
    subst e3271
    obtain ⟨a3275, a3276⟩ := p3274
    show wp _ _ 196 27 [(1, vI z3249), (0, .ref r0)] [vI z3272] _ H2114 _
    have u3277 := RO_k a3276
    refine wp_of e196 c196_27 (rw_istore_n (pc' := 28) (z := z3272) (L' := [(2, vI z3272), (1, vI z3249), (0, .ref r0)]) rfl rfl rfl ?_)
    refine wp_of e196 c196_28 (rw_iload_n (pc' := 29) (z := z3249) rfl rfl ?_)
    refine wp_of e196 c196_29 (rw_iload_n (pc' := 30) (z := z3272) rfl rfl ?_)
    refine wp_of e196 c196_30 (rw_icmp_ne (p1 := 37) (p2 := 33) (by decide) rfl ⟨by omega, by omega⟩ ⟨by omega, by omega⟩ (fun c3278 => ?_) (fun c3278 => ?_))
    · exfalso
      omega
    · refine wp_of e196 c196_33 (rw_iconst (pc' := 34) rfl ?_)
      refine wp_of e196 c196_34 (rw_goto (p1 := 38) (by decide) ?_)
      refine wp_of e196 c196_38 (rw_istore_n (pc' := 39) (z := 1) (L' := [(3, vI 1), (2, vI z3272), (1, vI z3249), (0, .ref r0)]) rfl rfl rfl ?_)
      refine wp_of e196 c196_39 (rw_iconst (pc' := 40) rfl ?_)
      refine wp_of e196 c196_40 (rw_istore (pc' := 42) (z := 0) (L' := [(4, vI 0), (3, vI 1), (2, vI z3272), (1, vI z3249), (0, .ref r0)]) rfl rfl rfl ?_)
      have lp3307 : ∀ (n3308 : Nat) (v3310 : Int) (v3311 : Int), (0 ≤ v3310 ∧ v3310 ≤ 3) → (1 ≤ v3311 ∧ v3311 ≤ 1) → (3 - v3310).toNat = n3308 → wp kt 5 196 42 [(4, vI v3310), (3, vI v3311), (2, vI z3272), (1, vI z3249), (0, .ref r0)] [] T H2114 (uq_196_k r0 rp rb B n q d T H) := by
        intro n3308
        induction n3308 using Nat.strongRecOn with
        | _ n3308 ih3309 =>
          intro v3310 v3311 b3314 b3315 m3316
          refine wp_of e196 c196_42 (rw_iload (pc' := 44) (z := v3310) rfl rfl ?_)
          refine wp_of e196 c196_44 (rw_aload_n (pc' := 45) (v := .ref r0) rfl rfl rfl ?_)
          refine wp_of e196 c196_45 (xg_K (pc' := 48) lf_9_166 w2118 g0 sh_42 (by decide) (by decide) rfl q3239 rfl ?_)
          have k3317 : H2114 rp 4 = H rp 4 := (f2119 rp 4 _ grp rfl)
          refine wp_of e196 c196_48 (xg_I (pc' := 51) lf_9_276 w2118 grp sh_54 (by decide) (by decide) ty_54_4 rfl rfl (fun b3318 b3319 => ?_))
          refine wp_of e196 c196_51 (rw_icmp_ge (p1 := 126) (p2 := 54) (by decide) rfl ⟨by omega, by omega⟩ ⟨by omega, by omega⟩ (fun c3320 => ?_) (fun c3320 => ?_))
          · refine wp_of e196 c196_126 (rw_iload_n (pc' := 127) (z := v3311) rfl rfl ?_)
            refine wp_of e196 c196_127 (rw_if_eq (p1 := 135) (p2 := 130) (by decide) rfl ⟨by omega, by omega⟩ (fun c3321 => ?_) (fun c3321 => ?_))
            · exfalso
              omega
            · refine wp_of e196 c196_130 (rw_aload_n (pc' := 131) (v := .ref r0) rfl rfl rfl ?_)
              refine wp_of e196 c196_131 (rw_iconst (pc' := 132) rfl ?_)
              refine wp_of e196 c196_132 (xc_V (pc' := 135) (r := r0) (as := [vI 3]) (st := []) (lm_9_121) rfl rfl (Nat.le_of_ble_eq_true rfl) w2118 g0 sh_42 (by decide) rfl (by decide) (u_181_o (fo := 5) (po := q) w2118 g0 ⟨by omega, by omega⟩ a3276) (fun R3322 T3323 H3324 p3325 => ?_))
              obtain ⟨e3326, e3328, e3327, p3329⟩ := p3325
              subst e3326
              subst e3327
              subst e3328
              show wp _ _ 196 135 [(4, vI v3310), (3, vI v3311), (2, vI z3272), (1, vI z3249), (0, .ref r0)] [] _ H2114 _
              have u3331 := RO_k p3329
              refine wp_of e196 c196_135 (rw_aload_n (pc' := 136) (v := .ref r0) rfl rfl rfl ?_)
              refine wp_of e196 c196_136 (xc_V (pc' := 139) (r := r0) (as := []) (st := []) (lm_9_118) rfl rfl (Nat.le_of_ble_eq_true rfl) w2118 g0 sh_42 (by decide) rfl (by decide) (u_172_o (fo := 5) (po := q) w2118 g0 p3329) (fun R3332 T3333 H3334 p3335 => ?_))
              obtain ⟨e3336, e3338, e3337, p3339⟩ := p3335
              subst e3336
              subst e3337
              subst e3338
              show wp _ _ 196 139 [(4, vI v3310), (3, vI v3311), (2, vI z3272), (1, vI z3249), (0, .ref r0)] [] _ H2114 _
              have u3341 := RO_k p3339
              refine wp_of e196 c196_139 (rw_aload_n (pc' := 140) (v := .ref r0) rfl rfl rfl ?_)
              refine wp_of e196 c196_140 (xg_I (pc' := 143) lf_9_75 w2118 g0 sh_42 (by decide) (by decide) ty_42_9 rfl rfl (fun b3342 b3343 => ?_))
              refine wp_of e196 c196_143 (rw_iconst (pc' := 144) rfl ?_)
              refine wp_of e196 c196_144 (rw_icmp_ne (p1 := 148) (p2 := 147) (by decide) rfl ⟨by omega, by omega⟩ ⟨by omega, by omega⟩ (fun c3344 => ?_) (fun c3344 => ?_))
              · exfalso
                omega
              · have o3345 : (xl3 B n q d) = (5, q, q) := by
                  unfold xl3 xap
                  repeat first | rw [xs_0 (by omega)] | rw [xs_1 (by omega)] | rw [if_pos (by omega)] | rw [if_neg (by omega)]
                  first | done | rfl | assumption | (exfalso; omega) | (refine Prod.ext ?_ (Prod.ext ?_ ?_) <;> (try dsimp only) <;> omega)
                have o3345a : ((xl3 B n q d)).1 = 5 := by rw [o3345]
                have o3345b : ((xl3 B n q d)).2.1 = q := by rw [o3345]
                have o3345c : ((xl3 B n q d)).2.2 = q := by rw [o3345]
                exact wp_return e196 c196_147 rfl ⟨rfl, w2118, f3236, rfl, (Or.inr ⟨by omega, RO_eq p3339 (by omega) (by omega)⟩)⟩
          · refine wp_of e196 c196_54 (rw_iload_n (pc' := 55) (z := v3311) rfl rfl ?_)
            refine wp_of e196 c196_55 (rw_if_ne (p1 := 114) (p2 := 58) (by decide) rfl ⟨by omega, by omega⟩ (fun c3346 => ?_) (fun c3346 => ?_))
            · refine wp_of e196 c196_114 (rw_iconst (pc' := 115) rfl ?_)
              refine wp_of e196 c196_115 (rw_goto (p1 := 119) (by decide) ?_)
              refine wp_of e196 c196_119 (rw_istore_n (pc' := 120) (z := 1) (L' := [(3, vI 1), (4, vI v3310), (2, vI z3272), (1, vI z3249), (0, .ref r0)]) rfl rfl rfl ?_)
              refine wp_of e196 c196_120 (rw_iinc (pc' := 123) (z := v3310) (L' := [(4, vI (v3310 + 1)), (3, vI 1), (2, vI z3272), (1, vI z3249), (0, .ref r0)]) rfl rfl rfl rfl ?_)
              refine wp_of e196 c196_123 (rw_goto (p1 := 42) (by decide) ?_)
              exact wp_lc (ks := [4, 3, 2, 1, 0]) (wl_c rfl (wl_c rfl (wl_c rfl (wl_c rfl (wl_c rfl wl_n))))) rfl (by decide) (ih3309 _ (by omega) (v3310 + 1) 1 ⟨by omega, by omega⟩ ⟨by omega, by omega⟩ rfl)
            · exfalso
              omega
      exact wp_lc (ks := [4, 3, 2, 1, 0]) (wl_c rfl (wl_c rfl (wl_c rfl (wl_c rfl (wl_c rfl wl_n))))) rfl (by decide) (lp3307 _ 0 1 ⟨by omega, by omega⟩ ⟨by omega, by omega⟩ rfl)
